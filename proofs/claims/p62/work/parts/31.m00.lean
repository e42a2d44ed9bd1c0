/-- DoorSchoolModel.add(II)V -/
abbrev P_188 (σ0 : SG) (a : Int32) (b : Int32) (m : Int32) : PO := fun v σ => WT σ ∧ Fr [(35, 21), (45, 0), (46, 0)] σ0 σ ∧ ∃ m1 : Int32, (σ 159)[21]? = some (.int m1) ∧ v = none ∧ -m1.toInt + 1 ≤ 0 ∧ m1.toInt - 17 ≤ 0 ∧ -m1.toInt + m.toInt + 1 ≤ 0 ∧ m1.toInt - m.toInt - 1 ≤ 0 ∧ m1.toInt - m.toInt - 1 ≤ 0 ∧ -m1.toInt + m.toInt + 1 ≤ 0
set_option maxRecDepth 10000 in
set_option maxHeartbeats 4000000 in
theorem c_188 (σ0 : SG) (hσ0 : WT σ0) (a : Int32) (b : Int32) (hl_a : 0 ≤ a.toInt) (hu_a : a.toInt ≤ 15) (hl_b : 0 ≤ b.toInt) (hu_b : b.toInt ≤ 1) (m : Int32) (h_m : (σ0 159)[21]? = some (.int m)) (hp0 : m.toInt - 16 ≤ 0) : En 0 0 none mr_188 (P_188 σ0 a b m) 0 [(0, .ref 159), (1, .int a), (2, .int b)] [] σ0 := by
  obtain ⟨hl_m, hu_m⟩ := WT_int hσ0 (g := 35) (by decide +kernel) (by decide +kernel) (l := 0) (u := 17) (by decide +kernel) h_m
  have hF0 : Fr [(35, 21), (45, 0), (46, 0)] σ0 σ0 := Fr_rfl
  refine En_Ps 1 (pc' := 1) (lv' := [(0, .ref 159), (1, .int a), (2, .int b)]) (st' := [.ref 159]) rfl ?_
  refine En_getU (j := 19) (u := 169) (g' := 45) (q := 0) rfl rfl rfl (by decide +kernel : TG 159 = 35) (by decide +kernel) hσ0 (by decide +kernel) (by decide +kernel) (fun h1 => ?_)
  refine En_Ps 1 (pc' := 5) (lv' := [(0, .ref 159), (1, .int a), (2, .int b)]) (st' := [.ref 159, .ref 169]) rfl ?_
  refine En_getK (j := 21) h_m rfl rfl rfl (by decide +kernel : TG 159 = 35) (by decide +kernel) ?_
  refine En_Ps 1 (pc' := 9) (lv' := [(0, .ref 159), (1, .int a), (2, .int b)]) (st' := [.int a, .int m, .ref 169]) rfl ?_
  refine En_iast (l := 0) (u := 15) rfl rfl (by decide +kernel : TG 169 = 45) (by decide +kernel) (by omega) (lnI (by decide +kernel : LN _ = 17) (by omega)) (FTsgl (by decide +kernel)) (rngI rfl (by omega) (by omega)) hσ0 hF0 (by decide +kernel) (fun σ3 h4 h5 h6 h7 => ?_)
  refine En_Ps 1 (pc' := 11) (lv' := [(0, .ref 159), (1, .int a), (2, .int b)]) (st' := [.ref 159]) rfl ?_
  refine En_getU (j := 20) (u := 170) (g' := 46) (q := 0) rfl rfl rfl (by decide +kernel : TG 159 = 35) (by decide +kernel) h4 (by decide +kernel) (by decide +kernel) (fun h8 => ?_)
  refine En_Ps 1 (pc' := 15) (lv' := [(0, .ref 159), (1, .int a), (2, .int b)]) (st' := [.ref 159, .ref 170]) rfl ?_
  refine En_getK (j := 21) ((h7 _ _ (Or.inl (neTG (by decide +kernel : TG 159 = 35) (by decide +kernel : TG 169 = 45) (by decide)))).trans h_m) rfl rfl rfl (by decide +kernel : TG 159 = 35) (by decide +kernel) ?_
  refine En_Ps 1 (pc' := 19) (lv' := [(0, .ref 159), (1, .int a), (2, .int b)]) (st' := [.int b, .int m, .ref 170]) rfl ?_
  refine En_iast (l := 0) (u := 1) rfl rfl (by decide +kernel : TG 170 = 46) (by decide +kernel) (by omega) (lnI (by decide +kernel : LN _ = 17) (by omega)) (FTsgl (by decide +kernel)) (rngI rfl (by omega) (by omega)) h4 h5 (by decide +kernel) (fun σ10 h11 h12 h13 h14 => ?_)
  refine En_Ps 2 (pc' := 22) (lv' := [(0, .ref 159), (1, .int a), (2, .int b)]) (st' := [.ref 159, .ref 159]) rfl ?_
  refine En_getK (j := 21) ((h14 _ _ (Or.inl (neTG (by decide +kernel : TG 159 = 35) (by decide +kernel : TG 170 = 46) (by decide)))).trans ((h7 _ _ (Or.inl (neTG (by decide +kernel : TG 159 = 35) (by decide +kernel : TG 169 = 45) (by decide)))).trans h_m)) rfl rfl rfl (by decide +kernel : TG 159 = 35) (by decide +kernel) ?_
  refine En_Ps 2 (pc' := 27) (lv' := [(0, .ref 159), (1, .int a), (2, .int b)]) (st' := [.int ((m + ((Int32.ofInt 1)))), .ref 159]) rfl ?_
  refine En_top (addI rfl (by decide : (Int32.ofInt 1).toInt = 1) (by omega) (by omega)) (fun z15 h16 => ?_)
  refine En_put (j := 21) rfl rfl rfl (by decide +kernel : TG 159 = 35) (by decide +kernel) rfl (vI (l := 0) (u := 17) (by decide +kernel) rfl (by omega) (by omega)) h11 h12 (by decide +kernel) (fun σ17 h18 h19 h20 h21 => ?_)
  exact En_ret (v := none) rfl rfl rfl ⟨h18, h19, z15, h20, rfl, (by omega)⟩
/-- DoorSchoolModel.see(I)I -/
abbrev P_313a (σ0 : SG) (a : Int32) (n : Int32) (c : Int32) : PO := fun v σ => WT σ ∧ Fr [] σ0 σ ∧ ∃ ret : Int32, v = some (.int ret) ∧ -ret.toInt - 1 ≤ 0 ∧ ret.toInt - 255 ≤ 0 ∧ (-ret.toInt ≤ 0 → a.toInt - n.toInt + 1 ≤ 0) ∧ (a.toInt - n.toInt + 1 ≤ 0 → -ret.toInt ≤ 0) ∧ ret.toInt = seeF c.toInt n.toInt a.toInt
set_option maxRecDepth 10000 in
set_option maxHeartbeats 4000000 in
theorem c_313a (σ0 : SG) (hσ0 : WT σ0) (a : Int32) (hl_a : 0 ≤ a.toInt) (hu_a : a.toInt ≤ 1599) (n : Int32) (h_n : (σ0 159)[7]? = some (.int n)) (c : Int32) (h_c : (σ0 163)[(a.toInt).toNat]? = some (.int c)) : En 0 0 none mr_313 (P_313a σ0 a n c) 0 [(0, .ref 159), (1, .int a)] [] σ0 := by
  obtain ⟨hl_n, hu_n⟩ := WT_int hσ0 (g := 35) (by decide +kernel) (by decide +kernel) (l := 0) (u := 1600) (by decide +kernel) h_n
  have hF0 : Fr [] σ0 σ0 := Fr_rfl
  obtain ⟨hl_c, hu_c⟩ := WT_int hσ0 (g := 39) (by decide +kernel : TG 163 = 39) (by decide +kernel) (l := (-128)) (u := 127) (FTsgl (by decide +kernel)) h_c
  refine En_Ps 2 (pc' := 2) (lv' := [(0, .ref 159), (1, .int a)]) (st' := [.ref 159, .int a]) rfl ?_
  refine En_getK (j := 7) h_n rfl rfl rfl (by decide +kernel : TG 159 = 35) (by decide +kernel) ?_
  refine En_icGe _ rfl rfl rfl (fun h1 => ?_) (fun h1 => ?_)
  · refine En_Ps 1 (pc' := 22) (lv' := [(0, .ref 159), (1, .int a)]) (st' := [.int ((Int32.ofInt (-1)))]) rfl ?_
    refine En_top (by decide : (Int32.ofInt (-1)).toInt = -1) (fun z2 h3 => ?_)
    exact En_ret (v := some (.int z2)) rfl rfl rfl ⟨hσ0, hF0, z2, rfl, (by first | exact ⟨by omega, by omega, by omega, by omega, seeF_none (by omega) (by omega)⟩ | exact ⟨by omega, by omega, by omega, by omega, seeF_some (by omega) (by assumption)⟩)⟩
  · refine En_Ps 1 (pc' := 9) (lv' := [(0, .ref 159), (1, .int a)]) (st' := [.ref 159]) rfl ?_
    refine En_getU (j := 4) (u := 163) (g' := 39) (q := 0) rfl rfl rfl (by decide +kernel : TG 159 = 35) (by decide +kernel) hσ0 (by decide +kernel) (by decide +kernel) (fun h4 => ?_)
    refine En_Ps 1 (pc' := 13) (lv' := [(0, .ref 159), (1, .int a)]) (st' := [.int a, .ref 163]) rfl ?_
    refine En_baldK h_c rfl rfl (by decide +kernel : TG 163 = 39) (by decide +kernel) hσ0 (by omega) (lnI (by decide +kernel : LN _ = 1600) (by omega)) ?_
    refine En_Ps 2 (pc' := 18) (lv' := [(0, .ref 159), (1, .int a)]) (st' := [.int ((c &&& (((Int16.ofInt 255).toInt32))))]) rfl ?_
    refine En_nam (fun z7 h8 => ?_)
    have h9 := andR_rng (x := c) (by decide : ((Int16.ofInt 255).toInt32).toInt = 255) (by decide)
    rw [← h8] at h9
    refine En_Ps 1 (pc' := 22) (lv' := [(0, .ref 159), (1, .int a)]) (st' := [.int z7]) rfl ?_
    exact En_ret (v := some (.int z7)) rfl rfl rfl ⟨hσ0, hF0, z7, rfl, (by first | exact ⟨by omega, by omega, by omega, by omega, seeF_none (by omega) (by omega)⟩ | exact ⟨by omega, by omega, by omega, by omega, seeF_some (by omega) (by assumption)⟩)⟩
/-- DoorSchoolModel.see(I)I -/
abbrev P_313b (σ0 : SG) (a : Int32) (n : Int32) : PO := fun v σ => WT σ ∧ Fr [] σ0 σ ∧ ∃ ret : Int32, v = some (.int ret) ∧ -ret.toInt - 1 ≤ 0 ∧ ret.toInt - 255 ≤ 0 ∧ (-ret.toInt ≤ 0 → a.toInt - n.toInt + 1 ≤ 0) ∧ (a.toInt - n.toInt + 1 ≤ 0 → -ret.toInt ≤ 0)
set_option maxRecDepth 10000 in
set_option maxHeartbeats 4000000 in
theorem c_313b (σ0 : SG) (hσ0 : WT σ0) (a : Int32) (hl_a : 0 ≤ a.toInt) (hu_a : a.toInt ≤ 1600) (n : Int32) (h_n : (σ0 159)[7]? = some (.int n)) : En 0 0 none mr_313 (P_313b σ0 a n) 0 [(0, .ref 159), (1, .int a)] [] σ0 := by
  obtain ⟨hl_n, hu_n⟩ := WT_int hσ0 (g := 35) (by decide +kernel) (by decide +kernel) (l := 0) (u := 1600) (by decide +kernel) h_n
  have hF0 : Fr [] σ0 σ0 := Fr_rfl
  refine En_Ps 2 (pc' := 2) (lv' := [(0, .ref 159), (1, .int a)]) (st' := [.ref 159, .int a]) rfl ?_
  refine En_getK (j := 7) h_n rfl rfl rfl (by decide +kernel : TG 159 = 35) (by decide +kernel) ?_
  refine En_icGe _ rfl rfl rfl (fun h1 => ?_) (fun h1 => ?_)
  · refine En_Ps 1 (pc' := 22) (lv' := [(0, .ref 159), (1, .int a)]) (st' := [.int ((Int32.ofInt (-1)))]) rfl ?_
    refine En_top (by decide : (Int32.ofInt (-1)).toInt = -1) (fun z2 h3 => ?_)
    exact En_ret (v := some (.int z2)) rfl rfl rfl ⟨hσ0, hF0, z2, rfl, (by omega)⟩
  · refine En_Ps 1 (pc' := 9) (lv' := [(0, .ref 159), (1, .int a)]) (st' := [.ref 159]) rfl ?_
    refine En_getU (j := 4) (u := 163) (g' := 39) (q := 0) rfl rfl rfl (by decide +kernel : TG 159 = 35) (by decide +kernel) hσ0 (by decide +kernel) (by decide +kernel) (fun h4 => ?_)
    refine En_Ps 1 (pc' := 13) (lv' := [(0, .ref 159), (1, .int a)]) (st' := [.int a, .ref 163]) rfl ?_
    refine En_bald (l := (-128)) (u := 127) rfl rfl (by decide +kernel : TG 163 = 39) (by decide +kernel) hσ0 (by omega) (lnI (by decide +kernel : LN _ = 1600) (by omega)) (FTsgl (by decide +kernel)) (fun z7 h6 h8 h9 => ?_)
    refine En_Ps 2 (pc' := 18) (lv' := [(0, .ref 159), (1, .int a)]) (st' := [.int ((z7 &&& (((Int16.ofInt 255).toInt32))))]) rfl ?_
    refine En_nam (fun z10 h11 => ?_)
    have h12 := andR_rng (x := z7) (by decide : ((Int16.ofInt 255).toInt32).toInt = 255) (by decide)
    rw [← h11] at h12
    refine En_Ps 1 (pc' := 22) (lv' := [(0, .ref 159), (1, .int a)]) (st' := [.int z10]) rfl ?_
    exact En_ret (v := some (.int z10)) rfl rfl rfl ⟨hσ0, hF0, z10, rfl, (by omega)⟩
/-- DoorSchoolModel.in(JJJ)Z -/
abbrev P_249 (σ0 : SG) (a : Int64) (b : Int64) (c : Int64) : PO := fun v σ => WT σ ∧ Fr [] σ0 σ ∧ ∃ ret : Int32, v = some (.int ret) ∧ -ret.toInt ≤ 0 ∧ ret.toInt - 1 ≤ 0 ∧ (-ret.toInt + 1 ≤ 0 → b.toInt - a.toInt ≤ 0 ∧ a.toInt - c.toInt ≤ 0) ∧ (b.toInt - a.toInt ≤ 0 ∧ a.toInt - c.toInt ≤ 0 → -ret.toInt + 1 ≤ 0)
set_option maxRecDepth 10000 in
set_option maxHeartbeats 4000000 in
theorem c_249 (σ0 : SG) (hσ0 : WT σ0) (a : Int64) (b : Int64) (c : Int64) : En 0 0 none mr_249 (P_249 σ0 a b c) 0 [(0, .long a), (2, .long b), (4, .long c)] [] σ0 := by
  have hF0 : Fr [] σ0 σ0 := Fr_rfl
  refine En_Ps 3 (pc' := 3) (lv' := [(0, .long a), (2, .long b), (4, .long c)]) (st' := [.int (lg_cmp a b)]) rfl ?_
  refine En_lgLt _ rfl rfl rfl (fun h1 => ?_) (fun h1 => ?_)
  · refine En_Ps 1 (pc' := 18) (lv' := [(0, .long a), (2, .long b), (4, .long c)]) (st' := [.int ((Int32.ofInt 0))]) rfl ?_
    refine En_top (by decide : (Int32.ofInt 0).toInt = 0) (fun z2 h3 => ?_)
    exact En_ret (v := some (.int z2)) rfl rfl (retZ rfl rfl (by omega) (by omega)) ⟨hσ0, hF0, z2, rfl, (by omega)⟩
  · refine En_Ps 3 (pc' := 10) (lv' := [(0, .long a), (2, .long b), (4, .long c)]) (st' := [.int (lg_cmp a c)]) rfl ?_
    refine En_lgGt _ rfl rfl rfl (fun h4 => ?_) (fun h4 => ?_)
    · refine En_Ps 1 (pc' := 18) (lv' := [(0, .long a), (2, .long b), (4, .long c)]) (st' := [.int ((Int32.ofInt 0))]) rfl ?_
      refine En_top (by decide : (Int32.ofInt 0).toInt = 0) (fun z5 h6 => ?_)
      exact En_ret (v := some (.int z5)) rfl rfl (retZ rfl rfl (by omega) (by omega)) ⟨hσ0, hF0, z5, rfl, (by omega)⟩
    · refine En_Ps 2 (pc' := 18) (lv' := [(0, .long a), (2, .long b), (4, .long c)]) (st' := [.int ((Int32.ofInt 1))]) rfl ?_
      refine En_top (by decide : (Int32.ofInt 1).toInt = 1) (fun z7 h8 => ?_)
      exact En_ret (v := some (.int z7)) rfl rfl (retZ rfl rfl (by omega) (by omega)) ⟨hσ0, hF0, z7, rfl, (by omega)⟩
/-- DoorSchoolModel.advance()V -/
abbrev P_189 (σ0 : SG) (f : Int32) : PO := fun v σ => WT σ ∧ Fr [(35, 8), (35, 9), (35, 10), (35, 11)] σ0 σ ∧ ∃ f1 : Int32, (σ 159)[8]? = some (.int f1) ∧ ∃ t1 : Int32, (σ 159)[10]? = some (.int t1) ∧ v = none ∧ -f1.toInt ≤ 0 ∧ f1.toInt - 1600 ≤ 0 ∧ -f1.toInt + f.toInt ≤ 0 ∧ f1.toInt - f.toInt - 1600 ≤ 0 ∧ -t1.toInt ≤ 0 ∧ t1.toInt - 4 ≤ 0 ∧ -t1.toInt + f.toInt - 1600 ≤ 0 ∧ t1.toInt - f.toInt - 4 ≤ 0 ∧ f.toInt - f1.toInt ≤ 0 ∧ (-t1.toInt + 1 ≤ 0 → f.toInt - f1.toInt + 1 ≤ 0)
set_option maxRecDepth 10000 in
set_option maxHeartbeats 4000000 in
theorem c_189 (σ0 : SG) (hσ0 : WT σ0) (f : Int32) (h_f : (σ0 159)[8]? = some (.int f)) : En 1 25 none mr_189 (P_189 σ0 f) 0 [(0, .ref 159)] [] σ0 := by
  obtain ⟨hl_f, hu_f⟩ := WT_int hσ0 (g := 35) (by decide +kernel) (by decide +kernel) (l := 0) (u := 1600) (by decide +kernel) h_f
  have hF0 : Fr [(35, 8), (35, 9), (35, 10), (35, 11)] σ0 σ0 := Fr_rfl
  have key0 : ∀ (n0 : Nat) (σ2 : SG) (y1 : Int32), WT σ2 → Fr [(35, 8), (35, 9), (35, 10), (35, 11)] σ0 σ2 → (σ2 159)[8]? = some (.int y1) → 0 ≤ y1.toInt → y1.toInt ≤ 1600 → f.toInt - y1.toInt ≤ 0 → -y1.toInt + 1600 < (n0 : Int) → En 1 25 none mr_189 (P_189 σ0 f) 0 [(0, .ref 159)] [] σ2 := by
    intro n0
    induction n0 with
    | zero =>
      intro σ2 y1 h3 h4 h5 h6 h7 h8 h9
      exfalso; omega
    | succ n0 ih0 =>
      intro σ2 y1 h3 h4 h5 h6 h7 h8 h9
      refine En_Ps 2 (pc' := 2) (lv' := [(0, .ref 159)]) (st' := [.ref 159, .ref 159]) rfl ?_
      refine En_getK (j := 8) h5 rfl rfl rfl (by decide +kernel : TG 159 = 35) (by decide +kernel) ?_
      obtain ⟨z11, h10, h12, h13⟩ := WT_peekI h3 (by decide +kernel : TG 159 = 35) (by decide +kernel : FT 35 7 = (0, 0, 1600)) (by decide +kernel)
      refine En_callV rfl rfl rfl rfl rfl rfl rfl rfl (by decide +kernel : TG 159 = 35) (by decide +kernel) rfl (c_313b σ2 h3 y1 (geI rfl (by omega)) (leI rfl (by omega)) z11 h10) (by decide) (by decide) (fun v15 σ16 h14 => ?_)
      obtain ⟨h17, h18, z20, rfl, h19⟩ := h14
      have h21 := Fr_trans h4 h18 (by decide +kernel)
      refine En_Ps 1 (pc' := 10) (lv' := [(0, .ref 159)]) (st' := [.int (((Int8.ofInt 32).toInt32)), .int z20]) rfl ?_
      refine En_icEq _ rfl (by decide : ((Int8.ofInt 32).toInt32).toInt = 32) rfl (fun h22 => ?_) (fun h22 => ?_)
      · refine En_Ps 2 (pc' := 28) (lv' := [(0, .ref 159)]) (st' := [.ref 159, .ref 159]) rfl ?_
        refine En_getK (j := 8) ((h18 _ _ (inW (by decide +kernel : TG 159 = 35) (by decide +kernel))).trans h5) rfl rfl rfl (by decide +kernel : TG 159 = 35) (by decide +kernel) ?_
        refine En_Ps 2 (pc' := 33) (lv' := [(0, .ref 159)]) (st' := [.int ((y1 + ((Int32.ofInt 1)))), .ref 159]) rfl ?_
        refine En_top (addI rfl (by decide : (Int32.ofInt 1).toInt = 1) (by omega) (by omega)) (fun z23 h24 => ?_)
        refine En_put (j := 8) rfl rfl rfl (by decide +kernel : TG 159 = 35) (by decide +kernel) rfl (vI (l := 0) (u := 1600) (by decide +kernel) rfl (by omega) (by omega)) h17 h21 (by decide +kernel) (fun σ25 h26 h27 h28 h29 => ?_)
        refine En_Ps 1 (pc' := 0) (lv' := [(0, .ref 159)]) (st' := []) rfl ?_
        exact ih0 σ25 z23 h26 h27 h28 (by omega) (by omega) (by omega) (by omega)
      · refine En_Ps 2 (pc' := 15) (lv' := [(0, .ref 159)]) (st' := [.ref 159, .ref 159]) rfl ?_
        refine En_getK (j := 8) ((h18 _ _ (inW (by decide +kernel : TG 159 = 35) (by decide +kernel))).trans h5) rfl rfl rfl (by decide +kernel : TG 159 = 35) (by decide +kernel) ?_
        refine En_callV rfl rfl rfl rfl rfl rfl rfl rfl (by decide +kernel : TG 159 = 35) (by decide +kernel) rfl (c_313b σ16 h17 y1 (geI rfl (by omega)) (leI rfl (by omega)) z11 ((h18 _ _ (inW (by decide +kernel : TG 159 = 35) (by decide +kernel))).trans h10)) (by decide) (by decide) (fun v31 σ32 h30 => ?_)
        obtain ⟨h33, h34, z36, rfl, h35⟩ := h30
        have h37 := Fr_trans h21 h34 (by decide +kernel)
        refine En_Ps 1 (pc' := 23) (lv' := [(0, .ref 159)]) (st' := [.int (((Int8.ofInt 10).toInt32)), .int z36]) rfl ?_
        refine En_icNe _ rfl (by decide : ((Int8.ofInt 10).toInt32).toInt = 10) rfl (fun h38 => ?_) (fun h38 => ?_)
        · refine En_Ps 2 (pc' := 41) (lv' := [(0, .ref 159)]) (st' := [.ref 159, .ref 159]) rfl ?_
          refine En_getK (j := 8) ((h34 _ _ (inW (by decide +kernel : TG 159 = 35) (by decide +kernel))).trans ((h18 _ _ (inW (by decide +kernel : TG 159 = 35) (by decide +kernel))).trans h5)) rfl rfl rfl (by decide +kernel : TG 159 = 35) (by decide +kernel) ?_
          refine En_put (j := 9) rfl rfl rfl (by decide +kernel : TG 159 = 35) (by decide +kernel) rfl (vI (l := 0) (u := 1600) (by decide +kernel) rfl (by omega) (by omega)) h33 h37 (by decide +kernel) (fun σ39 h40 h41 h42 h43 => ?_)
          rcases (show y1.toInt ≤ 1599 ∨ y1.toInt = 1600 by omega) with h44 | h44
          · refine En_Ps 2 (pc' := 49) (lv' := [(0, .ref 159)]) (st' := [.ref 159, .ref 159]) rfl ?_
            refine En_getK (j := 8) ((h43 _ _ (Or.inr (by decide))).trans ((h34 _ _ (inW (by decide +kernel : TG 159 = 35) (by decide +kernel))).trans ((h18 _ _ (inW (by decide +kernel : TG 159 = 35) (by decide +kernel))).trans h5))) rfl rfl rfl (by decide +kernel : TG 159 = 35) (by decide +kernel) ?_
            obtain ⟨z45, h46, h47, h48⟩ := WT_peekJ (J := (y1.toInt)) (l := (-128)) (u := 127) h40 (by decide +kernel : TG 163 = 39) (by decide +kernel) (by omega) (lnI (by decide +kernel : LN _ = 1600) (by omega)) (FTsgl (by decide +kernel))
            refine En_callV rfl rfl rfl rfl rfl rfl rfl rfl (by decide +kernel : TG 159 = 35) (by decide +kernel) rfl (c_313a σ39 h40 y1 (geI rfl (by omega)) (leI rfl (by omega)) z11 ((h43 _ _ (Or.inr (by decide))).trans ((h34 _ _ (inW (by decide +kernel : TG 159 = 35) (by decide +kernel))).trans ((h18 _ _ (inW (by decide +kernel : TG 159 = 35) (by decide +kernel))).trans h10))) z45 h46) (by decide) (by decide) (fun v50 σ51 h49 => ?_)
            obtain ⟨h52, h53, z55, rfl, h54⟩ := h49
            have h56 := h54.2.2.2.2
            have h57 := Fr_trans h41 h53 (by decide +kernel)
            refine En_Ps 3 (pc' := 58) (lv' := [(1, .int z55), (0, .ref 159)]) (st' := [.int ((Int32.ofInt (-1))), .int z55]) rfl ?_
            refine En_icNe _ rfl (by decide : (Int32.ofInt (-1)).toInt = -1) rfl (fun h58 => ?_) (fun h58 => ?_)
            · refine En_Ps 4 (pc' := 77) (lv' := [(1, .int z55), (0, .ref 159)]) (st' := [.long ((122 : Int64)), .long ((97 : Int64)), .long z55.toInt64]) rfl ?_
              have : z55.toInt64.toInt = z55.toInt := (i2lI rfl)
              have := (by decide : ((97 : Int64)).toInt = 97)
              have := (by decide : ((122 : Int64)).toInt = 122)
              refine En_callS rfl rfl rfl rfl rfl rfl rfl rfl rfl (c_249 σ51 h52 z55.toInt64 ((97 : Int64)) ((122 : Int64))) (by decide) (by decide) (fun v60 σ61 h59 => ?_)
              obtain ⟨h62, h63, z65, rfl, h64⟩ := h59
              have h66 := Fr_trans h57 h63 (by decide +kernel)
              refine En_iEq _ rfl rfl (fun h67 => ?_) (fun h67 => ?_)
              · refine En_Ps 4 (pc' := 133) (lv' := [(1, .int z55), (0, .ref 159)]) (st' := [.long ((57 : Int64)), .long ((48 : Int64)), .long z55.toInt64]) rfl ?_
                have : z55.toInt64.toInt = z55.toInt := (i2lI rfl)
                have := (by decide : ((48 : Int64)).toInt = 48)
                have := (by decide : ((57 : Int64)).toInt = 57)
                refine En_callS rfl rfl rfl rfl rfl rfl rfl rfl rfl (c_249 σ61 h62 z55.toInt64 ((48 : Int64)) ((57 : Int64))) (by decide) (by decide) (fun v69 σ70 h68 => ?_)
                obtain ⟨h71, h72, z74, rfl, h73⟩ := h68
                have h75 := Fr_trans h66 h72 (by decide +kernel)
                refine En_iEq _ rfl rfl (fun h76 => ?_) (fun h76 => ?_)
                · refine En_Ps 3 (pc' := 218) (lv' := [(1, .int z55), (0, .ref 159)]) (st' := [.int (((Int8.ofInt 59).toInt32)), .int z55, .ref 159]) rfl ?_
                  refine En_icNe _ rfl (by decide : ((Int8.ofInt 59).toInt32).toInt = 59) rfl (fun h77 => ?_) (fun h77 => ?_)
                  · refine En_Ps 1 (pc' := 226) (lv' := [(1, .int z55), (0, .ref 159)]) (st' := [.int ((Int32.ofInt 4)), .ref 159]) rfl ?_
                    refine En_put (j := 10) rfl rfl rfl (by decide +kernel : TG 159 = 35) (by decide +kernel) rfl (vI (l := 0) (u := 4) (by decide +kernel) (by decide : (Int32.ofInt 4).toInt = 4) (by omega) (by omega)) h71 h75 (by decide +kernel) (fun σ78 h79 h80 h81 h82 => ?_)
                    refine En_Ps 2 (pc' := 231) (lv' := [(1, .int z55), (0, .ref 159)]) (st' := [.ref 159, .ref 159]) rfl ?_
                    refine En_getK (j := 8) ((h82 _ _ (Or.inr (by decide))).trans ((h72 _ _ (inW (by decide +kernel : TG 159 = 35) (by decide +kernel))).trans ((h63 _ _ (inW (by decide +kernel : TG 159 = 35) (by decide +kernel))).trans ((h53 _ _ (inW (by decide +kernel : TG 159 = 35) (by decide +kernel))).trans ((h43 _ _ (Or.inr (by decide))).trans ((h34 _ _ (inW (by decide +kernel : TG 159 = 35) (by decide +kernel))).trans ((h18 _ _ (inW (by decide +kernel : TG 159 = 35) (by decide +kernel))).trans h5))))))) rfl rfl rfl (by decide +kernel : TG 159 = 35) (by decide +kernel) ?_
                    refine En_Ps 2 (pc' := 236) (lv' := [(1, .int z55), (0, .ref 159)]) (st' := [.int ((y1 + ((Int32.ofInt 1)))), .ref 159]) rfl ?_
                    refine En_top (addI rfl (by decide : (Int32.ofInt 1).toInt = 1) (by omega) (by omega)) (fun z83 h84 => ?_)
                    refine En_put (j := 8) rfl rfl rfl (by decide +kernel : TG 159 = 35) (by decide +kernel) rfl (vI (l := 0) (u := 1600) (by decide +kernel) rfl (by omega) (by omega)) h79 h80 (by decide +kernel) (fun σ85 h86 h87 h88 h89 => ?_)
                    have := (by decide : (Int32.ofInt 4).toInt = 4)
                    exact En_ret (v := none) rfl rfl rfl ⟨h86, h87, z83, h88, (Int32.ofInt 4), ((h89 _ _ (Or.inr (by decide))).trans h81), rfl, (by omega)⟩
                  · refine En_Ps 2 (pc' := 226) (lv' := [(1, .int z55), (0, .ref 159)]) (st' := [.int ((Int32.ofInt 3)), .ref 159]) rfl ?_
                    refine En_put (j := 10) rfl rfl rfl (by decide +kernel : TG 159 = 35) (by decide +kernel) rfl (vI (l := 0) (u := 4) (by decide +kernel) (by decide : (Int32.ofInt 3).toInt = 3) (by omega) (by omega)) h71 h75 (by decide +kernel) (fun σ90 h91 h92 h93 h94 => ?_)
                    refine En_Ps 2 (pc' := 231) (lv' := [(1, .int z55), (0, .ref 159)]) (st' := [.ref 159, .ref 159]) rfl ?_
                    refine En_getK (j := 8) ((h94 _ _ (Or.inr (by decide))).trans ((h72 _ _ (inW (by decide +kernel : TG 159 = 35) (by decide +kernel))).trans ((h63 _ _ (inW (by decide +kernel : TG 159 = 35) (by decide +kernel))).trans ((h53 _ _ (inW (by decide +kernel : TG 159 = 35) (by decide +kernel))).trans ((h43 _ _ (Or.inr (by decide))).trans ((h34 _ _ (inW (by decide +kernel : TG 159 = 35) (by decide +kernel))).trans ((h18 _ _ (inW (by decide +kernel : TG 159 = 35) (by decide +kernel))).trans h5))))))) rfl rfl rfl (by decide +kernel : TG 159 = 35) (by decide +kernel) ?_
                    refine En_Ps 2 (pc' := 236) (lv' := [(1, .int z55), (0, .ref 159)]) (st' := [.int ((y1 + ((Int32.ofInt 1)))), .ref 159]) rfl ?_
                    refine En_top (addI rfl (by decide : (Int32.ofInt 1).toInt = 1) (by omega) (by omega)) (fun z95 h96 => ?_)
                    refine En_put (j := 8) rfl rfl rfl (by decide +kernel : TG 159 = 35) (by decide +kernel) rfl (vI (l := 0) (u := 1600) (by decide +kernel) rfl (by omega) (by omega)) h91 h92 (by decide +kernel) (fun σ97 h98 h99 h100 h101 => ?_)
                    have := (by decide : (Int32.ofInt 3).toInt = 3)
                    exact En_ret (v := none) rfl rfl rfl ⟨h98, h99, z95, h100, (Int32.ofInt 3), ((h101 _ _ (Or.inr (by decide))).trans h93), rfl, (by omega)⟩
                · refine En_Ps 2 (pc' := 141) (lv' := [(1, .int z55), (0, .ref 159)]) (st' := [.int ((Int32.ofInt 0)), .ref 159]) rfl ?_
                  refine En_put (j := 11) rfl rfl rfl (by decide +kernel : TG 159 = 35) (by decide +kernel) rfl (vI (l := 0) (u := 99999) (by decide +kernel) (by decide : (Int32.ofInt 0).toInt = 0) (by omega) (by omega)) h71 h75 (by decide +kernel) (fun σ102 h103 h104 h105 h106 => ?_)
                  refine En_Ps 2 (pc' := 146) (lv' := [(1, .int z55), (0, .ref 159)]) (st' := [.ref 159, .ref 159]) rfl ?_
                  refine En_getK (j := 8) ((h106 _ _ (Or.inr (by decide))).trans ((h72 _ _ (inW (by decide +kernel : TG 159 = 35) (by decide +kernel))).trans ((h63 _ _ (inW (by decide +kernel : TG 159 = 35) (by decide +kernel))).trans ((h53 _ _ (inW (by decide +kernel : TG 159 = 35) (by decide +kernel))).trans ((h43 _ _ (Or.inr (by decide))).trans ((h34 _ _ (inW (by decide +kernel : TG 159 = 35) (by decide +kernel))).trans ((h18 _ _ (inW (by decide +kernel : TG 159 = 35) (by decide +kernel))).trans h5))))))) rfl rfl rfl (by decide +kernel : TG 159 = 35) (by decide +kernel) ?_
                  refine En_callV rfl rfl rfl rfl rfl rfl rfl rfl (by decide +kernel : TG 159 = 35) (by decide +kernel) rfl (c_313a σ102 h103 y1 (geI rfl (by omega)) (leI rfl (by omega)) z11 ((h106 _ _ (Or.inr (by decide))).trans ((h72 _ _ (inW (by decide +kernel : TG 159 = 35) (by decide +kernel))).trans ((h63 _ _ (inW (by decide +kernel : TG 159 = 35) (by decide +kernel))).trans ((h53 _ _ (inW (by decide +kernel : TG 159 = 35) (by decide +kernel))).trans ((h43 _ _ (Or.inr (by decide))).trans ((h34 _ _ (inW (by decide +kernel : TG 159 = 35) (by decide +kernel))).trans ((h18 _ _ (inW (by decide +kernel : TG 159 = 35) (by decide +kernel))).trans h10))))))) z45 ((h106 _ _ (Or.inl (neTG (by decide +kernel : TG 163 = 39) (by decide +kernel : TG 159 = 35) (by decide)))).trans ((h72 _ _ (inWa (by decide +kernel : TG 163 = 39) (by decide +kernel))).trans ((h63 _ _ (inWa (by decide +kernel : TG 163 = 39) (by decide +kernel))).trans ((h53 _ _ (inWa (by decide +kernel : TG 163 = 39) (by decide +kernel))).trans h46))))) (by decide) (by decide) (fun v108 σ109 h107 => ?_)
                  obtain ⟨h110, h111, z113, rfl, h112⟩ := h107
                  have h114 := h112.2.2.2.2
                  have h115 := Fr_trans h104 h111 (by decide +kernel)
                  refine En_Ps 3 (pc' := 159) (lv' := [(1, .int z55), (0, .ref 159)]) (st' := [.long ((57 : Int64)), .long ((48 : Int64)), .long z113.toInt64]) rfl ?_
                  have : z113.toInt64.toInt = z113.toInt := (i2lI rfl)
                  have := (by decide : ((48 : Int64)).toInt = 48)
                  have := (by decide : ((57 : Int64)).toInt = 57)
                  refine En_callS rfl rfl rfl rfl rfl rfl rfl rfl rfl (c_249 σ109 h110 z113.toInt64 ((48 : Int64)) ((57 : Int64))) (by decide) (by decide) (fun v117 σ118 h116 => ?_)
                  obtain ⟨h119, h120, z122, rfl, h121⟩ := h116
                  have h123 := Fr_trans h115 h120 (by decide +kernel)
                  refine En_iEq _ rfl rfl (fun hx => by exfalso; omega) (fun h124 => ?_)
                  refine En_Ps 4 (pc' := 171) (lv' := [(1, .int z55), (0, .ref 159)]) (st' := [.ref 159, .int (((Int8.ofInt 10).toInt32)), .int ((99999 : Int32)), .ref 159]) rfl ?_
                  refine En_getK (j := 11) ((h120 _ _ (inW (by decide +kernel : TG 159 = 35) (by decide +kernel))).trans ((h111 _ _ (inW (by decide +kernel : TG 159 = 35) (by decide +kernel))).trans h105)) rfl rfl rfl (by decide +kernel : TG 159 = 35) (by decide +kernel) ?_
                  refine En_Ps 1 (pc' := 175) (lv' := [(1, .int z55), (0, .ref 159)]) (st' := [.int (((((Int8.ofInt 10).toInt32)) * ((Int32.ofInt 0)))), .int ((99999 : Int32)), .ref 159]) rfl ?_
                  refine En_top (mulI (by decide : ((Int8.ofInt 10).toInt32).toInt = 10) (by decide : (Int32.ofInt 0).toInt = 0) (Z := 0) (by omega) (by omega) (by omega)) (fun z125 h126 => ?_)
                  refine En_Ps 2 (pc' := 177) (lv' := [(1, .int z55), (0, .ref 159)]) (st' := [.ref 159, .ref 159, .int z125, .int ((99999 : Int32)), .ref 159]) rfl ?_
                  refine En_getK (j := 8) ((h120 _ _ (inW (by decide +kernel : TG 159 = 35) (by decide +kernel))).trans ((h111 _ _ (inW (by decide +kernel : TG 159 = 35) (by decide +kernel))).trans ((h106 _ _ (Or.inr (by decide))).trans ((h72 _ _ (inW (by decide +kernel : TG 159 = 35) (by decide +kernel))).trans ((h63 _ _ (inW (by decide +kernel : TG 159 = 35) (by decide +kernel))).trans ((h53 _ _ (inW (by decide +kernel : TG 159 = 35) (by decide +kernel))).trans ((h43 _ _ (Or.inr (by decide))).trans ((h34 _ _ (inW (by decide +kernel : TG 159 = 35) (by decide +kernel))).trans ((h18 _ _ (inW (by decide +kernel : TG 159 = 35) (by decide +kernel))).trans h5))))))))) rfl rfl rfl (by decide +kernel : TG 159 = 35) (by decide +kernel) ?_
                  refine En_callV rfl rfl rfl rfl rfl rfl rfl rfl (by decide +kernel : TG 159 = 35) (by decide +kernel) rfl (c_313a σ118 h119 y1 (geI rfl (by omega)) (leI rfl (by omega)) z11 ((h120 _ _ (inW (by decide +kernel : TG 159 = 35) (by decide +kernel))).trans ((h111 _ _ (inW (by decide +kernel : TG 159 = 35) (by decide +kernel))).trans ((h106 _ _ (Or.inr (by decide))).trans ((h72 _ _ (inW (by decide +kernel : TG 159 = 35) (by decide +kernel))).trans ((h63 _ _ (inW (by decide +kernel : TG 159 = 35) (by decide +kernel))).trans ((h53 _ _ (inW (by decide +kernel : TG 159 = 35) (by decide +kernel))).trans ((h43 _ _ (Or.inr (by decide))).trans ((h34 _ _ (inW (by decide +kernel : TG 159 = 35) (by decide +kernel))).trans ((h18 _ _ (inW (by decide +kernel : TG 159 = 35) (by decide +kernel))).trans h10))))))))) z45 ((h120 _ _ (inWa (by decide +kernel : TG 163 = 39) (by decide +kernel))).trans ((h111 _ _ (inWa (by decide +kernel : TG 163 = 39) (by decide +kernel))).trans ((h106 _ _ (Or.inl (neTG (by decide +kernel : TG 163 = 39) (by decide +kernel : TG 159 = 35) (by decide)))).trans ((h72 _ _ (inWa (by decide +kernel : TG 163 = 39) (by decide +kernel))).trans ((h63 _ _ (inWa (by decide +kernel : TG 163 = 39) (by decide +kernel))).trans ((h53 _ _ (inWa (by decide +kernel : TG 163 = 39) (by decide +kernel))).trans h46))))))) (by decide) (by decide) (fun v128 σ129 h127 => ?_)
                  obtain ⟨h130, h131, z133, rfl, h132⟩ := h127
                  have h134 := h132.2.2.2.2
                  have h135 := Fr_trans h123 h131 (by decide +kernel)
                  refine En_Ps 1 (pc' := 184) (lv' := [(1, .int z55), (0, .ref 159)]) (st' := [.int ((z125 + z133)), .int ((99999 : Int32)), .ref 159]) rfl ?_
                  refine En_top (addI rfl rfl (by omega) (by omega)) (fun z136 h137 => ?_)
                  refine En_Ps 2 (pc' := 187) (lv' := [(1, .int z55), (0, .ref 159)]) (st' := [.int ((z136 - (((Int8.ofInt 48).toInt32)))), .int ((99999 : Int32)), .ref 159]) rfl ?_
                  refine En_top (subI rfl (by decide : ((Int8.ofInt 48).toInt32).toInt = 48) (by omega) (by omega)) (fun z138 h139 => ?_)
                  have := (by decide : ((99999 : Int32)).toInt = 99999)
                  refine En_callS rfl rfl rfl rfl rfl rfl rfl rfl rfl (c_11 σ129 h130 ((99999 : Int32)) z138) (by decide) (by decide) (fun v141 σ142 h140 => ?_)
                  obtain ⟨h143, h144, z146, rfl, h145⟩ := h140
                  have h147 := Fr_trans h135 h144 (by decide +kernel)
                  refine En_put (j := 11) rfl rfl rfl (by decide +kernel : TG 159 = 35) (by decide +kernel) rfl (vI (l := 0) (u := 99999) (by decide +kernel) rfl (by omega) (by omega)) h143 h147 (by decide +kernel) (fun σ148 h149 h150 h151 h152 => ?_)
                  refine En_Ps 2 (pc' := 195) (lv' := [(1, .int z55), (0, .ref 159)]) (st' := [.ref 159, .ref 159]) rfl ?_
                  refine En_getK (j := 8) ((h152 _ _ (Or.inr (by decide))).trans ((h144 _ _ (inW (by decide +kernel : TG 159 = 35) (by decide +kernel))).trans ((h131 _ _ (inW (by decide +kernel : TG 159 = 35) (by decide +kernel))).trans ((h120 _ _ (inW (by decide +kernel : TG 159 = 35) (by decide +kernel))).trans ((h111 _ _ (inW (by decide +kernel : TG 159 = 35) (by decide +kernel))).trans ((h106 _ _ (Or.inr (by decide))).trans ((h72 _ _ (inW (by decide +kernel : TG 159 = 35) (by decide +kernel))).trans ((h63 _ _ (inW (by decide +kernel : TG 159 = 35) (by decide +kernel))).trans ((h53 _ _ (inW (by decide +kernel : TG 159 = 35) (by decide +kernel))).trans ((h43 _ _ (Or.inr (by decide))).trans ((h34 _ _ (inW (by decide +kernel : TG 159 = 35) (by decide +kernel))).trans ((h18 _ _ (inW (by decide +kernel : TG 159 = 35) (by decide +kernel))).trans h5)))))))))))) rfl rfl rfl (by decide +kernel : TG 159 = 35) (by decide +kernel) ?_
                  refine En_Ps 2 (pc' := 200) (lv' := [(1, .int z55), (0, .ref 159)]) (st' := [.int ((y1 + ((Int32.ofInt 1)))), .ref 159]) rfl ?_
                  refine En_top (addI rfl (by decide : (Int32.ofInt 1).toInt = 1) (by omega) (by omega)) (fun z153 h154 => ?_)
                  refine En_put (j := 8) rfl rfl rfl (by decide +kernel : TG 159 = 35) (by decide +kernel) rfl (vI (l := 0) (u := 1600) (by decide +kernel) rfl (by omega) (by omega)) h149 h150 (by decide +kernel) (fun σ155 h156 h157 h158 h159 => ?_)
                  refine En_Ps 1 (pc' := 144) (lv' := [(1, .int z55), (0, .ref 159)]) (st' := []) rfl ?_
                  have key144 : ∀ (n144 : Nat) (σ162 : SG) (y160 : Int32) (y161 : Int32), WT σ162 → Fr [(35, 8), (35, 9), (35, 10), (35, 11)] σ0 σ162 → (σ162 159)[7]? = some (.int z11) → (σ162 159)[9]? = some (.int y1) → (σ162 163)[(y1.toInt).toNat]? = some (.int z45) → (σ162 159)[11]? = some (.int y160) → (σ162 159)[8]? = some (.int y161) → 0 ≤ y160.toInt → y160.toInt ≤ 99999 → 1 ≤ y161.toInt → y161.toInt ≤ 1600 → y161.toInt - z11.toInt ≤ 0 → z153.toInt - y161.toInt ≤ 0 → z11.toInt - y161.toInt < (n144 : Int) → En 1 25 none mr_189 (P_189 σ0 f) 144 [(0, .ref 159), (1, .int z55)] [] σ162 := by
                    intro n144
                    induction n144 with
                    | zero =>
                      intro σ162 y160 y161 h163 h164 h165 h166 h167 h168 h169 h170 h171 h172 h173 h174 h175 h176
                      exfalso; omega
                    | succ n144 ih144 =>
                      intro σ162 y160 y161 h163 h164 h165 h166 h167 h168 h169 h170 h171 h172 h173 h174 h175 h176
                      rcases (show y161.toInt ≤ 1599 ∨ y161.toInt = 1600 by omega) with h177 | h177
                      · refine En_Ps 2 (pc' := 146) (lv' := [(0, .ref 159), (1, .int z55)]) (st' := [.ref 159, .ref 159]) rfl ?_
                        refine En_getK (j := 8) h169 rfl rfl rfl (by decide +kernel : TG 159 = 35) (by decide +kernel) ?_
                        obtain ⟨z178, h179, h180, h181⟩ := WT_peekJ (J := (y161.toInt)) (l := (-128)) (u := 127) h163 (by decide +kernel : TG 163 = 39) (by decide +kernel) (by omega) (lnI (by decide +kernel : LN _ = 1600) (by omega)) (FTsgl (by decide +kernel))
                        refine En_callV rfl rfl rfl rfl rfl rfl rfl rfl (by decide +kernel : TG 159 = 35) (by decide +kernel) rfl (c_313a σ162 h163 y161 (geI rfl (by omega)) (leI rfl (by omega)) z11 h165 z178 h179) (by decide) (by decide) (fun v183 σ184 h182 => ?_)
                        obtain ⟨h185, h186, z188, rfl, h187⟩ := h182
                        have h189 := h187.2.2.2.2
                        have h190 := Fr_trans h164 h186 (by decide +kernel)
                        refine En_Ps 3 (pc' := 159) (lv' := [(0, .ref 159), (1, .int z55)]) (st' := [.long ((57 : Int64)), .long ((48 : Int64)), .long z188.toInt64]) rfl ?_
                        have : z188.toInt64.toInt = z188.toInt := (i2lI rfl)
                        have := (by decide : ((48 : Int64)).toInt = 48)
                        have := (by decide : ((57 : Int64)).toInt = 57)
                        refine En_callS rfl rfl rfl rfl rfl rfl rfl rfl rfl (c_249 σ184 h185 z188.toInt64 ((48 : Int64)) ((57 : Int64))) (by decide) (by decide) (fun v192 σ193 h191 => ?_)
                        obtain ⟨h194, h195, z197, rfl, h196⟩ := h191
                        have h198 := Fr_trans h190 h195 (by decide +kernel)
                        refine En_iEq _ rfl rfl (fun h199 => ?_) (fun h199 => ?_)
                        · refine En_Ps 2 (pc' := 208) (lv' := [(0, .ref 159), (1, .int z55)]) (st' := [.int ((Int32.ofInt 2)), .ref 159]) rfl ?_
                          refine En_put (j := 10) rfl rfl rfl (by decide +kernel : TG 159 = 35) (by decide +kernel) rfl (vI (l := 0) (u := 4) (by decide +kernel) (by decide : (Int32.ofInt 2).toInt = 2) (by omega) (by omega)) h194 h198 (by decide +kernel) (fun σ200 h201 h202 h203 h204 => ?_)
                          refine En_Ps 1 (pc' := 239) (lv' := [(0, .ref 159), (1, .int z55)]) (st' := []) rfl ?_
                          have := (by decide : (Int32.ofInt 2).toInt = 2)
                          exact En_ret (v := none) rfl rfl rfl ⟨h201, h202, y161, ((h204 _ _ (Or.inr (by decide))).trans ((h195 _ _ (inW (by decide +kernel : TG 159 = 35) (by decide +kernel))).trans ((h186 _ _ (inW (by decide +kernel : TG 159 = 35) (by decide +kernel))).trans h169))), (Int32.ofInt 2), h203, rfl, (by omega)⟩
                        · refine En_Ps 4 (pc' := 171) (lv' := [(0, .ref 159), (1, .int z55)]) (st' := [.ref 159, .int (((Int8.ofInt 10).toInt32)), .int ((99999 : Int32)), .ref 159]) rfl ?_
                          refine En_getK (j := 11) ((h195 _ _ (inW (by decide +kernel : TG 159 = 35) (by decide +kernel))).trans ((h186 _ _ (inW (by decide +kernel : TG 159 = 35) (by decide +kernel))).trans h168)) rfl rfl rfl (by decide +kernel : TG 159 = 35) (by decide +kernel) ?_
                          refine En_Ps 1 (pc' := 175) (lv' := [(0, .ref 159), (1, .int z55)]) (st' := [.int (((((Int8.ofInt 10).toInt32)) * y160)), .int ((99999 : Int32)), .ref 159]) rfl ?_
                          refine En_top (mulI (by decide : ((Int8.ofInt 10).toInt32).toInt = 10) rfl (Z := 10 * y160.toInt) (by omega) (by omega) (by omega)) (fun z205 h206 => ?_)
                          refine En_Ps 2 (pc' := 177) (lv' := [(0, .ref 159), (1, .int z55)]) (st' := [.ref 159, .ref 159, .int z205, .int ((99999 : Int32)), .ref 159]) rfl ?_
                          refine En_getK (j := 8) ((h195 _ _ (inW (by decide +kernel : TG 159 = 35) (by decide +kernel))).trans ((h186 _ _ (inW (by decide +kernel : TG 159 = 35) (by decide +kernel))).trans h169)) rfl rfl rfl (by decide +kernel : TG 159 = 35) (by decide +kernel) ?_
                          refine En_callV rfl rfl rfl rfl rfl rfl rfl rfl (by decide +kernel : TG 159 = 35) (by decide +kernel) rfl (c_313a σ193 h194 y161 (geI rfl (by omega)) (leI rfl (by omega)) z11 ((h195 _ _ (inW (by decide +kernel : TG 159 = 35) (by decide +kernel))).trans ((h186 _ _ (inW (by decide +kernel : TG 159 = 35) (by decide +kernel))).trans h165)) z178 ((h195 _ _ (inWa (by decide +kernel : TG 163 = 39) (by decide +kernel))).trans ((h186 _ _ (inWa (by decide +kernel : TG 163 = 39) (by decide +kernel))).trans h179))) (by decide) (by decide) (fun v208 σ209 h207 => ?_)
                          obtain ⟨h210, h211, z213, rfl, h212⟩ := h207
                          have h214 := h212.2.2.2.2
                          have h215 := Fr_trans h198 h211 (by decide +kernel)
                          refine En_Ps 1 (pc' := 184) (lv' := [(0, .ref 159), (1, .int z55)]) (st' := [.int ((z205 + z213)), .int ((99999 : Int32)), .ref 159]) rfl ?_
                          refine En_top (addI rfl rfl (by omega) (by omega)) (fun z216 h217 => ?_)
                          refine En_Ps 2 (pc' := 187) (lv' := [(0, .ref 159), (1, .int z55)]) (st' := [.int ((z216 - (((Int8.ofInt 48).toInt32)))), .int ((99999 : Int32)), .ref 159]) rfl ?_
                          refine En_top (subI rfl (by decide : ((Int8.ofInt 48).toInt32).toInt = 48) (by omega) (by omega)) (fun z218 h219 => ?_)
                          have := (by decide : ((99999 : Int32)).toInt = 99999)
                          refine En_callS rfl rfl rfl rfl rfl rfl rfl rfl rfl (c_11 σ209 h210 ((99999 : Int32)) z218) (by decide) (by decide) (fun v221 σ222 h220 => ?_)
                          obtain ⟨h223, h224, z226, rfl, h225⟩ := h220
                          have h227 := Fr_trans h215 h224 (by decide +kernel)
                          refine En_put (j := 11) rfl rfl rfl (by decide +kernel : TG 159 = 35) (by decide +kernel) rfl (vI (l := 0) (u := 99999) (by decide +kernel) rfl (by omega) (by omega)) h223 h227 (by decide +kernel) (fun σ228 h229 h230 h231 h232 => ?_)
                          refine En_Ps 2 (pc' := 195) (lv' := [(0, .ref 159), (1, .int z55)]) (st' := [.ref 159, .ref 159]) rfl ?_
                          refine En_getK (j := 8) ((h232 _ _ (Or.inr (by decide))).trans ((h224 _ _ (inW (by decide +kernel : TG 159 = 35) (by decide +kernel))).trans ((h211 _ _ (inW (by decide +kernel : TG 159 = 35) (by decide +kernel))).trans ((h195 _ _ (inW (by decide +kernel : TG 159 = 35) (by decide +kernel))).trans ((h186 _ _ (inW (by decide +kernel : TG 159 = 35) (by decide +kernel))).trans h169))))) rfl rfl rfl (by decide +kernel : TG 159 = 35) (by decide +kernel) ?_
                          refine En_Ps 2 (pc' := 200) (lv' := [(0, .ref 159), (1, .int z55)]) (st' := [.int ((y161 + ((Int32.ofInt 1)))), .ref 159]) rfl ?_
                          refine En_top (addI rfl (by decide : (Int32.ofInt 1).toInt = 1) (by omega) (by omega)) (fun z233 h234 => ?_)
                          refine En_put (j := 8) rfl rfl rfl (by decide +kernel : TG 159 = 35) (by decide +kernel) rfl (vI (l := 0) (u := 1600) (by decide +kernel) rfl (by omega) (by omega)) h229 h230 (by decide +kernel) (fun σ235 h236 h237 h238 h239 => ?_)
                          refine En_Ps 1 (pc' := 144) (lv' := [(0, .ref 159), (1, .int z55)]) (st' := []) rfl ?_
                          exact ih144 σ235 z226 z233 h236 h237 ((h239 _ _ (Or.inr (by decide))).trans ((h232 _ _ (Or.inr (by decide))).trans ((h224 _ _ (inW (by decide +kernel : TG 159 = 35) (by decide +kernel))).trans ((h211 _ _ (inW (by decide +kernel : TG 159 = 35) (by decide +kernel))).trans ((h195 _ _ (inW (by decide +kernel : TG 159 = 35) (by decide +kernel))).trans ((h186 _ _ (inW (by decide +kernel : TG 159 = 35) (by decide +kernel))).trans h165)))))) ((h239 _ _ (Or.inr (by decide))).trans ((h232 _ _ (Or.inr (by decide))).trans ((h224 _ _ (inW (by decide +kernel : TG 159 = 35) (by decide +kernel))).trans ((h211 _ _ (inW (by decide +kernel : TG 159 = 35) (by decide +kernel))).trans ((h195 _ _ (inW (by decide +kernel : TG 159 = 35) (by decide +kernel))).trans ((h186 _ _ (inW (by decide +kernel : TG 159 = 35) (by decide +kernel))).trans h166)))))) ((h239 _ _ (Or.inl (neTG (by decide +kernel : TG 163 = 39) (by decide +kernel : TG 159 = 35) (by decide)))).trans ((h232 _ _ (Or.inl (neTG (by decide +kernel : TG 163 = 39) (by decide +kernel : TG 159 = 35) (by decide)))).trans ((h224 _ _ (inWa (by decide +kernel : TG 163 = 39) (by decide +kernel))).trans ((h211 _ _ (inWa (by decide +kernel : TG 163 = 39) (by decide +kernel))).trans ((h195 _ _ (inWa (by decide +kernel : TG 163 = 39) (by decide +kernel))).trans ((h186 _ _ (inWa (by decide +kernel : TG 163 = 39) (by decide +kernel))).trans h167)))))) ((h239 _ _ (Or.inr (by decide))).trans h231) h238 (by omega) (by omega) (by omega) (by omega) (by omega) (by omega) (by omega)
                      · refine En_Ps 2 (pc' := 146) (lv' := [(0, .ref 159), (1, .int z55)]) (st' := [.ref 159, .ref 159]) rfl ?_
                        refine En_getK (j := 8) h169 rfl rfl rfl (by decide +kernel : TG 159 = 35) (by decide +kernel) ?_
                        refine En_callV rfl rfl rfl rfl rfl rfl rfl rfl (by decide +kernel : TG 159 = 35) (by decide +kernel) rfl (c_313b σ162 h163 y161 (geI rfl (by omega)) (leI rfl (by omega)) z11 h165) (by decide) (by decide) (fun v241 σ242 h240 => ?_)
                        obtain ⟨h243, h244, z246, rfl, h245⟩ := h240
                        have h247 := Fr_trans h164 h244 (by decide +kernel)
                        refine En_Ps 3 (pc' := 159) (lv' := [(0, .ref 159), (1, .int z55)]) (st' := [.long ((57 : Int64)), .long ((48 : Int64)), .long z246.toInt64]) rfl ?_
                        have : z246.toInt64.toInt = z246.toInt := (i2lI rfl)
                        have := (by decide : ((48 : Int64)).toInt = 48)
                        have := (by decide : ((57 : Int64)).toInt = 57)
                        refine En_callS rfl rfl rfl rfl rfl rfl rfl rfl rfl (c_249 σ242 h243 z246.toInt64 ((48 : Int64)) ((57 : Int64))) (by decide) (by decide) (fun v249 σ250 h248 => ?_)
                        obtain ⟨h251, h252, z254, rfl, h253⟩ := h248
                        have h255 := Fr_trans h247 h252 (by decide +kernel)
                        refine En_iEq _ rfl rfl (fun h256 => ?_) (fun hx => by exfalso; omega)
                        refine En_Ps 2 (pc' := 208) (lv' := [(0, .ref 159), (1, .int z55)]) (st' := [.int ((Int32.ofInt 2)), .ref 159]) rfl ?_
                        refine En_put (j := 10) rfl rfl rfl (by decide +kernel : TG 159 = 35) (by decide +kernel) rfl (vI (l := 0) (u := 4) (by decide +kernel) (by decide : (Int32.ofInt 2).toInt = 2) (by omega) (by omega)) h251 h255 (by decide +kernel) (fun σ257 h258 h259 h260 h261 => ?_)
                        refine En_Ps 1 (pc' := 239) (lv' := [(0, .ref 159), (1, .int z55)]) (st' := []) rfl ?_
                        have := (by decide : (Int32.ofInt 2).toInt = 2)
                        exact En_ret (v := none) rfl rfl rfl ⟨h258, h259, y161, ((h261 _ _ (Or.inr (by decide))).trans ((h252 _ _ (inW (by decide +kernel : TG 159 = 35) (by decide +kernel))).trans ((h244 _ _ (inW (by decide +kernel : TG 159 = 35) (by decide +kernel))).trans h169))), (Int32.ofInt 2), h260, rfl, (by omega)⟩
                  refine En_lv (lv := [(0, .ref 159), (1, .int z55)]) ⟨rfl, rfl, trivial⟩ ?_
                  exact key144 (Int.toNat (z11.toInt - z153.toInt) + 1) σ155 z146 z153 h156 h157 ((h159 _ _ (Or.inr (by decide))).trans ((h152 _ _ (Or.inr (by decide))).trans ((h144 _ _ (inW (by decide +kernel : TG 159 = 35) (by decide +kernel))).trans ((h131 _ _ (inW (by decide +kernel : TG 159 = 35) (by decide +kernel))).trans ((h120 _ _ (inW (by decide +kernel : TG 159 = 35) (by decide +kernel))).trans ((h111 _ _ (inW (by decide +kernel : TG 159 = 35) (by decide +kernel))).trans ((h106 _ _ (Or.inr (by decide))).trans ((h72 _ _ (inW (by decide +kernel : TG 159 = 35) (by decide +kernel))).trans ((h63 _ _ (inW (by decide +kernel : TG 159 = 35) (by decide +kernel))).trans ((h53 _ _ (inW (by decide +kernel : TG 159 = 35) (by decide +kernel))).trans ((h43 _ _ (Or.inr (by decide))).trans ((h34 _ _ (inW (by decide +kernel : TG 159 = 35) (by decide +kernel))).trans ((h18 _ _ (inW (by decide +kernel : TG 159 = 35) (by decide +kernel))).trans h10))))))))))))) ((h159 _ _ (Or.inr (by decide))).trans ((h152 _ _ (Or.inr (by decide))).trans ((h144 _ _ (inW (by decide +kernel : TG 159 = 35) (by decide +kernel))).trans ((h131 _ _ (inW (by decide +kernel : TG 159 = 35) (by decide +kernel))).trans ((h120 _ _ (inW (by decide +kernel : TG 159 = 35) (by decide +kernel))).trans ((h111 _ _ (inW (by decide +kernel : TG 159 = 35) (by decide +kernel))).trans ((h106 _ _ (Or.inr (by decide))).trans ((h72 _ _ (inW (by decide +kernel : TG 159 = 35) (by decide +kernel))).trans ((h63 _ _ (inW (by decide +kernel : TG 159 = 35) (by decide +kernel))).trans ((h53 _ _ (inW (by decide +kernel : TG 159 = 35) (by decide +kernel))).trans h42)))))))))) ((h159 _ _ (Or.inl (neTG (by decide +kernel : TG 163 = 39) (by decide +kernel : TG 159 = 35) (by decide)))).trans ((h152 _ _ (Or.inl (neTG (by decide +kernel : TG 163 = 39) (by decide +kernel : TG 159 = 35) (by decide)))).trans ((h144 _ _ (inWa (by decide +kernel : TG 163 = 39) (by decide +kernel))).trans ((h131 _ _ (inWa (by decide +kernel : TG 163 = 39) (by decide +kernel))).trans ((h120 _ _ (inWa (by decide +kernel : TG 163 = 39) (by decide +kernel))).trans ((h111 _ _ (inWa (by decide +kernel : TG 163 = 39) (by decide +kernel))).trans ((h106 _ _ (Or.inl (neTG (by decide +kernel : TG 163 = 39) (by decide +kernel : TG 159 = 35) (by decide)))).trans ((h72 _ _ (inWa (by decide +kernel : TG 163 = 39) (by decide +kernel))).trans ((h63 _ _ (inWa (by decide +kernel : TG 163 = 39) (by decide +kernel))).trans ((h53 _ _ (inWa (by decide +kernel : TG 163 = 39) (by decide +kernel))).trans h46)))))))))) ((h159 _ _ (Or.inr (by decide))).trans h151) h158 (by omega) (by omega) (by omega) (by omega) (by omega) (by omega) (by omega)
              · refine En_Ps 2 (pc' := 85) (lv' := [(1, .int z55), (0, .ref 159)]) (st' := [.ref 159, .ref 159]) rfl ?_
                refine En_getK (j := 8) ((h63 _ _ (inW (by decide +kernel : TG 159 = 35) (by decide +kernel))).trans ((h53 _ _ (inW (by decide +kernel : TG 159 = 35) (by decide +kernel))).trans ((h43 _ _ (Or.inr (by decide))).trans ((h34 _ _ (inW (by decide +kernel : TG 159 = 35) (by decide +kernel))).trans ((h18 _ _ (inW (by decide +kernel : TG 159 = 35) (by decide +kernel))).trans h5))))) rfl rfl rfl (by decide +kernel : TG 159 = 35) (by decide +kernel) ?_
                refine En_callV rfl rfl rfl rfl rfl rfl rfl rfl (by decide +kernel : TG 159 = 35) (by decide +kernel) rfl (c_313a σ61 h62 y1 (geI rfl (by omega)) (leI rfl (by omega)) z11 ((h63 _ _ (inW (by decide +kernel : TG 159 = 35) (by decide +kernel))).trans ((h53 _ _ (inW (by decide +kernel : TG 159 = 35) (by decide +kernel))).trans ((h43 _ _ (Or.inr (by decide))).trans ((h34 _ _ (inW (by decide +kernel : TG 159 = 35) (by decide +kernel))).trans ((h18 _ _ (inW (by decide +kernel : TG 159 = 35) (by decide +kernel))).trans h10))))) z45 ((h63 _ _ (inWa (by decide +kernel : TG 163 = 39) (by decide +kernel))).trans ((h53 _ _ (inWa (by decide +kernel : TG 163 = 39) (by decide +kernel))).trans h46))) (by decide) (by decide) (fun v263 σ264 h262 => ?_)
                obtain ⟨h265, h266, z268, rfl, h267⟩ := h262
                have h269 := h267.2.2.2.2
                have h270 := Fr_trans h66 h266 (by decide +kernel)
                refine En_Ps 3 (pc' := 98) (lv' := [(1, .int z55), (0, .ref 159)]) (st' := [.long ((122 : Int64)), .long ((97 : Int64)), .long z268.toInt64]) rfl ?_
                have : z268.toInt64.toInt = z268.toInt := (i2lI rfl)
                have := (by decide : ((97 : Int64)).toInt = 97)
                have := (by decide : ((122 : Int64)).toInt = 122)
                refine En_callS rfl rfl rfl rfl rfl rfl rfl rfl rfl (c_249 σ264 h265 z268.toInt64 ((97 : Int64)) ((122 : Int64))) (by decide) (by decide) (fun v272 σ273 h271 => ?_)
                obtain ⟨h274, h275, z277, rfl, h276⟩ := h271
                have h278 := Fr_trans h270 h275 (by decide +kernel)
                refine En_iEq _ rfl rfl (fun hx => by exfalso; omega) (fun h279 => ?_)
                refine En_Ps 2 (pc' := 106) (lv' := [(1, .int z55), (0, .ref 159)]) (st' := [.ref 159, .ref 159]) rfl ?_
                refine En_getK (j := 8) ((h275 _ _ (inW (by decide +kernel : TG 159 = 35) (by decide +kernel))).trans ((h266 _ _ (inW (by decide +kernel : TG 159 = 35) (by decide +kernel))).trans ((h63 _ _ (inW (by decide +kernel : TG 159 = 35) (by decide +kernel))).trans ((h53 _ _ (inW (by decide +kernel : TG 159 = 35) (by decide +kernel))).trans ((h43 _ _ (Or.inr (by decide))).trans ((h34 _ _ (inW (by decide +kernel : TG 159 = 35) (by decide +kernel))).trans ((h18 _ _ (inW (by decide +kernel : TG 159 = 35) (by decide +kernel))).trans h5))))))) rfl rfl rfl (by decide +kernel : TG 159 = 35) (by decide +kernel) ?_
                refine En_Ps 2 (pc' := 111) (lv' := [(1, .int z55), (0, .ref 159)]) (st' := [.int ((y1 + ((Int32.ofInt 1)))), .ref 159]) rfl ?_
                refine En_top (addI rfl (by decide : (Int32.ofInt 1).toInt = 1) (by omega) (by omega)) (fun z280 h281 => ?_)
                refine En_put (j := 8) rfl rfl rfl (by decide +kernel : TG 159 = 35) (by decide +kernel) rfl (vI (l := 0) (u := 1600) (by decide +kernel) rfl (by omega) (by omega)) h274 h278 (by decide +kernel) (fun σ282 h283 h284 h285 h286 => ?_)
                refine En_Ps 1 (pc' := 83) (lv' := [(1, .int z55), (0, .ref 159)]) (st' := []) rfl ?_
                have key83 : ∀ (n83 : Nat) (σ288 : SG) (y287 : Int32), WT σ288 → Fr [(35, 8), (35, 9), (35, 10), (35, 11)] σ0 σ288 → (σ288 159)[7]? = some (.int z11) → (σ288 159)[9]? = some (.int y1) → (σ288 163)[(y1.toInt).toNat]? = some (.int z45) → (σ288 159)[8]? = some (.int y287) → 1 ≤ y287.toInt → y287.toInt ≤ 1600 → y287.toInt - z11.toInt ≤ 0 → z280.toInt - y287.toInt ≤ 0 → z11.toInt - y287.toInt < (n83 : Int) → En 1 25 none mr_189 (P_189 σ0 f) 83 [(0, .ref 159), (1, .int z55)] [] σ288 := by
                  intro n83
                  induction n83 with
                  | zero =>
                    intro σ288 y287 h289 h290 h291 h292 h293 h294 h295 h296 h297 h298 h299
                    exfalso; omega
                  | succ n83 ih83 =>
                    intro σ288 y287 h289 h290 h291 h292 h293 h294 h295 h296 h297 h298 h299
                    rcases (show y287.toInt ≤ 1599 ∨ y287.toInt = 1600 by omega) with h300 | h300
                    · refine En_Ps 2 (pc' := 85) (lv' := [(0, .ref 159), (1, .int z55)]) (st' := [.ref 159, .ref 159]) rfl ?_
                      refine En_getK (j := 8) h294 rfl rfl rfl (by decide +kernel : TG 159 = 35) (by decide +kernel) ?_
                      obtain ⟨z301, h302, h303, h304⟩ := WT_peekJ (J := (y287.toInt)) (l := (-128)) (u := 127) h289 (by decide +kernel : TG 163 = 39) (by decide +kernel) (by omega) (lnI (by decide +kernel : LN _ = 1600) (by omega)) (FTsgl (by decide +kernel))
                      refine En_callV rfl rfl rfl rfl rfl rfl rfl rfl (by decide +kernel : TG 159 = 35) (by decide +kernel) rfl (c_313a σ288 h289 y287 (geI rfl (by omega)) (leI rfl (by omega)) z11 h291 z301 h302) (by decide) (by decide) (fun v306 σ307 h305 => ?_)
                      obtain ⟨h308, h309, z311, rfl, h310⟩ := h305
                      have h312 := h310.2.2.2.2
                      have h313 := Fr_trans h290 h309 (by decide +kernel)
                      refine En_Ps 3 (pc' := 98) (lv' := [(0, .ref 159), (1, .int z55)]) (st' := [.long ((122 : Int64)), .long ((97 : Int64)), .long z311.toInt64]) rfl ?_
                      have : z311.toInt64.toInt = z311.toInt := (i2lI rfl)
                      have := (by decide : ((97 : Int64)).toInt = 97)
                      have := (by decide : ((122 : Int64)).toInt = 122)
                      refine En_callS rfl rfl rfl rfl rfl rfl rfl rfl rfl (c_249 σ307 h308 z311.toInt64 ((97 : Int64)) ((122 : Int64))) (by decide) (by decide) (fun v315 σ316 h314 => ?_)
                      obtain ⟨h317, h318, z320, rfl, h319⟩ := h314
                      have h321 := Fr_trans h313 h318 (by decide +kernel)
                      refine En_iEq _ rfl rfl (fun h322 => ?_) (fun h322 => ?_)
                      · refine En_Ps 2 (pc' := 119) (lv' := [(0, .ref 159), (1, .int z55)]) (st' := [.int ((Int32.ofInt 1)), .ref 159]) rfl ?_
                        refine En_put (j := 10) rfl rfl rfl (by decide +kernel : TG 159 = 35) (by decide +kernel) rfl (vI (l := 0) (u := 4) (by decide +kernel) (by decide : (Int32.ofInt 1).toInt = 1) (by omega) (by omega)) h317 h321 (by decide +kernel) (fun σ323 h324 h325 h326 h327 => ?_)
                        refine En_Ps 1 (pc' := 239) (lv' := [(0, .ref 159), (1, .int z55)]) (st' := []) rfl ?_
                        have := (by decide : (Int32.ofInt 1).toInt = 1)
                        exact En_ret (v := none) rfl rfl rfl ⟨h324, h325, y287, ((h327 _ _ (Or.inr (by decide))).trans ((h318 _ _ (inW (by decide +kernel : TG 159 = 35) (by decide +kernel))).trans ((h309 _ _ (inW (by decide +kernel : TG 159 = 35) (by decide +kernel))).trans h294))), (Int32.ofInt 1), h326, rfl, (by omega)⟩
                      · refine En_Ps 2 (pc' := 106) (lv' := [(0, .ref 159), (1, .int z55)]) (st' := [.ref 159, .ref 159]) rfl ?_
                        refine En_getK (j := 8) ((h318 _ _ (inW (by decide +kernel : TG 159 = 35) (by decide +kernel))).trans ((h309 _ _ (inW (by decide +kernel : TG 159 = 35) (by decide +kernel))).trans h294)) rfl rfl rfl (by decide +kernel : TG 159 = 35) (by decide +kernel) ?_
                        refine En_Ps 2 (pc' := 111) (lv' := [(0, .ref 159), (1, .int z55)]) (st' := [.int ((y287 + ((Int32.ofInt 1)))), .ref 159]) rfl ?_
                        refine En_top (addI rfl (by decide : (Int32.ofInt 1).toInt = 1) (by omega) (by omega)) (fun z328 h329 => ?_)
                        refine En_put (j := 8) rfl rfl rfl (by decide +kernel : TG 159 = 35) (by decide +kernel) rfl (vI (l := 0) (u := 1600) (by decide +kernel) rfl (by omega) (by omega)) h317 h321 (by decide +kernel) (fun σ330 h331 h332 h333 h334 => ?_)
                        refine En_Ps 1 (pc' := 83) (lv' := [(0, .ref 159), (1, .int z55)]) (st' := []) rfl ?_
                        exact ih83 σ330 z328 h331 h332 ((h334 _ _ (Or.inr (by decide))).trans ((h318 _ _ (inW (by decide +kernel : TG 159 = 35) (by decide +kernel))).trans ((h309 _ _ (inW (by decide +kernel : TG 159 = 35) (by decide +kernel))).trans h291))) ((h334 _ _ (Or.inr (by decide))).trans ((h318 _ _ (inW (by decide +kernel : TG 159 = 35) (by decide +kernel))).trans ((h309 _ _ (inW (by decide +kernel : TG 159 = 35) (by decide +kernel))).trans h292))) ((h334 _ _ (Or.inl (neTG (by decide +kernel : TG 163 = 39) (by decide +kernel : TG 159 = 35) (by decide)))).trans ((h318 _ _ (inWa (by decide +kernel : TG 163 = 39) (by decide +kernel))).trans ((h309 _ _ (inWa (by decide +kernel : TG 163 = 39) (by decide +kernel))).trans h293))) h333 (by omega) (by omega) (by omega) (by omega) (by omega)
                    · refine En_Ps 2 (pc' := 85) (lv' := [(0, .ref 159), (1, .int z55)]) (st' := [.ref 159, .ref 159]) rfl ?_
                      refine En_getK (j := 8) h294 rfl rfl rfl (by decide +kernel : TG 159 = 35) (by decide +kernel) ?_
                      refine En_callV rfl rfl rfl rfl rfl rfl rfl rfl (by decide +kernel : TG 159 = 35) (by decide +kernel) rfl (c_313b σ288 h289 y287 (geI rfl (by omega)) (leI rfl (by omega)) z11 h291) (by decide) (by decide) (fun v336 σ337 h335 => ?_)
                      obtain ⟨h338, h339, z341, rfl, h340⟩ := h335
                      have h342 := Fr_trans h290 h339 (by decide +kernel)
                      refine En_Ps 3 (pc' := 98) (lv' := [(0, .ref 159), (1, .int z55)]) (st' := [.long ((122 : Int64)), .long ((97 : Int64)), .long z341.toInt64]) rfl ?_
                      have : z341.toInt64.toInt = z341.toInt := (i2lI rfl)
                      have := (by decide : ((97 : Int64)).toInt = 97)
                      have := (by decide : ((122 : Int64)).toInt = 122)
                      refine En_callS rfl rfl rfl rfl rfl rfl rfl rfl rfl (c_249 σ337 h338 z341.toInt64 ((97 : Int64)) ((122 : Int64))) (by decide) (by decide) (fun v344 σ345 h343 => ?_)
                      obtain ⟨h346, h347, z349, rfl, h348⟩ := h343
                      have h350 := Fr_trans h342 h347 (by decide +kernel)
                      refine En_iEq _ rfl rfl (fun h351 => ?_) (fun hx => by exfalso; omega)
                      refine En_Ps 2 (pc' := 119) (lv' := [(0, .ref 159), (1, .int z55)]) (st' := [.int ((Int32.ofInt 1)), .ref 159]) rfl ?_
                      refine En_put (j := 10) rfl rfl rfl (by decide +kernel : TG 159 = 35) (by decide +kernel) rfl (vI (l := 0) (u := 4) (by decide +kernel) (by decide : (Int32.ofInt 1).toInt = 1) (by omega) (by omega)) h346 h350 (by decide +kernel) (fun σ352 h353 h354 h355 h356 => ?_)
                      refine En_Ps 1 (pc' := 239) (lv' := [(0, .ref 159), (1, .int z55)]) (st' := []) rfl ?_
                      have := (by decide : (Int32.ofInt 1).toInt = 1)
                      exact En_ret (v := none) rfl rfl rfl ⟨h353, h354, y287, ((h356 _ _ (Or.inr (by decide))).trans ((h347 _ _ (inW (by decide +kernel : TG 159 = 35) (by decide +kernel))).trans ((h339 _ _ (inW (by decide +kernel : TG 159 = 35) (by decide +kernel))).trans h294))), (Int32.ofInt 1), h355, rfl, (by omega)⟩
                refine En_lv (lv := [(0, .ref 159), (1, .int z55)]) ⟨rfl, rfl, trivial⟩ ?_
                exact key83 (Int.toNat (z11.toInt - z280.toInt) + 1) σ282 z280 h283 h284 ((h286 _ _ (Or.inr (by decide))).trans ((h275 _ _ (inW (by decide +kernel : TG 159 = 35) (by decide +kernel))).trans ((h266 _ _ (inW (by decide +kernel : TG 159 = 35) (by decide +kernel))).trans ((h63 _ _ (inW (by decide +kernel : TG 159 = 35) (by decide +kernel))).trans ((h53 _ _ (inW (by decide +kernel : TG 159 = 35) (by decide +kernel))).trans ((h43 _ _ (Or.inr (by decide))).trans ((h34 _ _ (inW (by decide +kernel : TG 159 = 35) (by decide +kernel))).trans ((h18 _ _ (inW (by decide +kernel : TG 159 = 35) (by decide +kernel))).trans h10)))))))) ((h286 _ _ (Or.inr (by decide))).trans ((h275 _ _ (inW (by decide +kernel : TG 159 = 35) (by decide +kernel))).trans ((h266 _ _ (inW (by decide +kernel : TG 159 = 35) (by decide +kernel))).trans ((h63 _ _ (inW (by decide +kernel : TG 159 = 35) (by decide +kernel))).trans ((h53 _ _ (inW (by decide +kernel : TG 159 = 35) (by decide +kernel))).trans h42))))) ((h286 _ _ (Or.inl (neTG (by decide +kernel : TG 163 = 39) (by decide +kernel : TG 159 = 35) (by decide)))).trans ((h275 _ _ (inWa (by decide +kernel : TG 163 = 39) (by decide +kernel))).trans ((h266 _ _ (inWa (by decide +kernel : TG 163 = 39) (by decide +kernel))).trans ((h63 _ _ (inWa (by decide +kernel : TG 163 = 39) (by decide +kernel))).trans ((h53 _ _ (inWa (by decide +kernel : TG 163 = 39) (by decide +kernel))).trans h46))))) h285 (by omega) (by omega) (by omega) (by omega) (by omega)
            · refine En_Ps 2 (pc' := 63) (lv' := [(1, .int z55), (0, .ref 159)]) (st' := [.int ((Int32.ofInt 0)), .ref 159]) rfl ?_
              refine En_put (j := 10) rfl rfl rfl (by decide +kernel : TG 159 = 35) (by decide +kernel) rfl (vI (l := 0) (u := 4) (by decide +kernel) (by decide : (Int32.ofInt 0).toInt = 0) (by omega) (by omega)) h52 h57 (by decide +kernel) (fun σ357 h358 h359 h360 h361 => ?_)
              refine En_Ps 1 (pc' := 239) (lv' := [(1, .int z55), (0, .ref 159)]) (st' := []) rfl ?_
              have := (by decide : (Int32.ofInt 0).toInt = 0)
              exact En_ret (v := none) rfl rfl rfl ⟨h358, h359, y1, ((h361 _ _ (Or.inr (by decide))).trans ((h53 _ _ (inW (by decide +kernel : TG 159 = 35) (by decide +kernel))).trans ((h43 _ _ (Or.inr (by decide))).trans ((h34 _ _ (inW (by decide +kernel : TG 159 = 35) (by decide +kernel))).trans ((h18 _ _ (inW (by decide +kernel : TG 159 = 35) (by decide +kernel))).trans h5))))), (Int32.ofInt 0), h360, rfl, (by omega)⟩
          · refine En_Ps 2 (pc' := 49) (lv' := [(0, .ref 159)]) (st' := [.ref 159, .ref 159]) rfl ?_
            refine En_getK (j := 8) ((h43 _ _ (Or.inr (by decide))).trans ((h34 _ _ (inW (by decide +kernel : TG 159 = 35) (by decide +kernel))).trans ((h18 _ _ (inW (by decide +kernel : TG 159 = 35) (by decide +kernel))).trans h5))) rfl rfl rfl (by decide +kernel : TG 159 = 35) (by decide +kernel) ?_
            refine En_callV rfl rfl rfl rfl rfl rfl rfl rfl (by decide +kernel : TG 159 = 35) (by decide +kernel) rfl (c_313b σ39 h40 y1 (geI rfl (by omega)) (leI rfl (by omega)) z11 ((h43 _ _ (Or.inr (by decide))).trans ((h34 _ _ (inW (by decide +kernel : TG 159 = 35) (by decide +kernel))).trans ((h18 _ _ (inW (by decide +kernel : TG 159 = 35) (by decide +kernel))).trans h10)))) (by decide) (by decide) (fun v363 σ364 h362 => ?_)
            obtain ⟨h365, h366, z368, rfl, h367⟩ := h362
            have h369 := Fr_trans h41 h366 (by decide +kernel)
            refine En_Ps 3 (pc' := 58) (lv' := [(1, .int z368), (0, .ref 159)]) (st' := [.int ((Int32.ofInt (-1))), .int z368]) rfl ?_
            refine En_icNe _ rfl (by decide : (Int32.ofInt (-1)).toInt = -1) rfl (fun hx => by exfalso; omega) (fun h370 => ?_)
            refine En_Ps 2 (pc' := 63) (lv' := [(1, .int z368), (0, .ref 159)]) (st' := [.int ((Int32.ofInt 0)), .ref 159]) rfl ?_
            refine En_put (j := 10) rfl rfl rfl (by decide +kernel : TG 159 = 35) (by decide +kernel) rfl (vI (l := 0) (u := 4) (by decide +kernel) (by decide : (Int32.ofInt 0).toInt = 0) (by omega) (by omega)) h365 h369 (by decide +kernel) (fun σ371 h372 h373 h374 h375 => ?_)
            refine En_Ps 1 (pc' := 239) (lv' := [(1, .int z368), (0, .ref 159)]) (st' := []) rfl ?_
            have := (by decide : (Int32.ofInt 0).toInt = 0)
            exact En_ret (v := none) rfl rfl rfl ⟨h372, h373, y1, ((h375 _ _ (Or.inr (by decide))).trans ((h366 _ _ (inW (by decide +kernel : TG 159 = 35) (by decide +kernel))).trans ((h43 _ _ (Or.inr (by decide))).trans ((h34 _ _ (inW (by decide +kernel : TG 159 = 35) (by decide +kernel))).trans ((h18 _ _ (inW (by decide +kernel : TG 159 = 35) (by decide +kernel))).trans h5))))), (Int32.ofInt 0), h374, rfl, (by omega)⟩
        · refine En_Ps 2 (pc' := 28) (lv' := [(0, .ref 159)]) (st' := [.ref 159, .ref 159]) rfl ?_
          refine En_getK (j := 8) ((h34 _ _ (inW (by decide +kernel : TG 159 = 35) (by decide +kernel))).trans ((h18 _ _ (inW (by decide +kernel : TG 159 = 35) (by decide +kernel))).trans h5)) rfl rfl rfl (by decide +kernel : TG 159 = 35) (by decide +kernel) ?_
          refine En_Ps 2 (pc' := 33) (lv' := [(0, .ref 159)]) (st' := [.int ((y1 + ((Int32.ofInt 1)))), .ref 159]) rfl ?_
          refine En_top (addI rfl (by decide : (Int32.ofInt 1).toInt = 1) (by omega) (by omega)) (fun z376 h377 => ?_)
          refine En_put (j := 8) rfl rfl rfl (by decide +kernel : TG 159 = 35) (by decide +kernel) rfl (vI (l := 0) (u := 1600) (by decide +kernel) rfl (by omega) (by omega)) h33 h37 (by decide +kernel) (fun σ378 h379 h380 h381 h382 => ?_)
          refine En_Ps 1 (pc' := 0) (lv' := [(0, .ref 159)]) (st' := []) rfl ?_
          exact ih0 σ378 z376 h379 h380 h381 (by omega) (by omega) (by omega) (by omega)
  exact key0 (Int.toNat (-f.toInt + 1600) + 1) σ0 f hσ0 hF0 h_f (by omega) (by omega) (by omega) (by omega)
/-- bit of a small set -/
abbrev P_202a (σ0 : SG) (a : Int32) (b : Int32) : PO := fun v σ => WT σ ∧ Fr [] σ0 σ ∧ ∃ ret : Int32, v = some (.int ret) ∧ -ret.toInt ≤ 0 ∧ ret.toInt - 1 ≤ 0 ∧ ret.toInt = bI a.toInt b.toInt
set_option maxRecDepth 10000 in
set_option maxHeartbeats 4000000 in
theorem c_202a (σ0 : SG) (hσ0 : WT σ0) (a : Int32) (b : Int32) (hl_a : 0 ≤ a.toInt) (hu_a : a.toInt ≤ 63) (hl_b : 0 ≤ b.toInt) (hu_b : b.toInt ≤ 7) : En 0 0 none mr_202 (P_202a σ0 a b) 0 [(0, .int a), (1, .int b)] [] σ0 := by
  refine En_Ps 5 (pc' := 5) (lv' := [(0, .int a), (1, .int b)]) (st' := [.int ((a >>> (b &&& 31)) &&& (Int32.ofInt 1))]) rfl ?_
  refine En_nam (fun z hz => ?_)
  have hb := bit_small hz hl_a hu_a hl_b hu_b
  have hr := bI_rng a.toInt b.toInt
  exact En_ret (v := some (.int z)) rfl rfl rfl ⟨hσ0, Fr_rfl, z, rfl, (by omega)⟩
/-- DoorSchoolModel.bit(II)I -/
abbrev P_202b (σ0 : SG) (a : Int32) (b : Int32) : PO := fun v σ => WT σ ∧ Fr [] σ0 σ ∧ ∃ ret : Int32, v = some (.int ret) ∧ -ret.toInt ≤ 0 ∧ ret.toInt - 1 ≤ 0
set_option maxRecDepth 10000 in
set_option maxHeartbeats 4000000 in
theorem c_202b (σ0 : SG) (hσ0 : WT σ0) (a : Int32) (b : Int32) : En 0 0 none mr_202 (P_202b σ0 a b) 0 [(0, .int a), (1, .int b)] [] σ0 := by
  have hF0 : Fr [] σ0 σ0 := Fr_rfl
  refine En_Ps 3 (pc' := 3) (lv' := [(0, .int a), (1, .int b)]) (st' := [.int ((a >>> (b &&& 31)))]) rfl ?_
  refine En_hav (fun z1 => ?_)
  refine En_Ps 2 (pc' := 5) (lv' := [(0, .int a), (1, .int b)]) (st' := [.int ((z1 &&& ((Int32.ofInt 1))))]) rfl ?_
  refine En_rng (l := 0) (u := 1) (andR_rng (by decide : (Int32.ofInt 1).toInt = 1) (by decide)) (fun z2 h3 h4 => ?_)
  exact En_ret (v := some (.int z2)) rfl rfl rfl ⟨hσ0, hF0, z2, rfl, (by omega)⟩
/-- DoorSchoolModel.takesOf(I)I -/
abbrev P_319 (σ0 : SG) (a : Int32) : PO := fun v σ => WT σ ∧ Fr [] σ0 σ ∧ ∃ ret : Int32, v = some (.int ret) ∧ -ret.toInt ≤ 0 ∧ ret.toInt - 9 ≤ 0 ∧ ret.toInt = ci σ0 160 (154 + 2 * a.toInt)
set_option maxRecDepth 10000 in
set_option maxHeartbeats 4000000 in
theorem c_319 (σ0 : SG) (hσ0 : WT σ0) (a : Int32) (hl_a : 0 ≤ a.toInt) (hu_a : a.toInt ≤ 5) : En 0 0 none mr_319 (P_319 σ0 a) 0 [(0, .ref 159), (1, .int a)] [] σ0 := by
  have hF0 : Fr [] σ0 σ0 := Fr_rfl
  refine En_Ps 1 (pc' := 1) (lv' := [(0, .ref 159), (1, .int a)]) (st' := [.ref 159]) rfl ?_
  refine En_getU (j := 1) (u := 160) (g' := 36) (q := 0) rfl rfl rfl (by decide +kernel : TG 159 = 35) (by decide +kernel) hσ0 (by decide +kernel) (by decide +kernel) (fun h1 => ?_)
  refine En_Ps 4 (pc' := 10) (lv' := [(0, .ref 159), (1, .int a)]) (st' := [.int ((((Int32.ofInt 2)) * a)), .int (((Int16.ofInt 154).toInt32)), .ref 160]) rfl ?_
  refine En_top (mulI (by decide : (Int32.ofInt 2).toInt = 2) rfl (Z := 2 * a.toInt) (by omega) (by omega) (by omega)) (fun z3 h4 => ?_)
  refine En_Ps 1 (pc' := 11) (lv' := [(0, .ref 159), (1, .int a)]) (st' := [.int (((((Int16.ofInt 154).toInt32)) + z3)), .ref 160]) rfl ?_
  refine En_top (addI (by decide : ((Int16.ofInt 154).toInt32).toInt = 154) rfl (by omega) (by omega)) (fun z5 h6 => ?_)
  refine En_iald (l := 0) (u := 9) rfl rfl (by decide +kernel : TG 160 = 36) (by decide +kernel) hσ0 (by omega) (lnI (by decide +kernel : LN _ = 226) (by omega)) (FTrow 36 154 2 6 (by decide +kernel) (by omega) (by omega) (by omega)) (fun z8 h7 h9 h10 => ?_)
  exact En_ret (v := some (.int z8)) rfl rfl rfl ⟨hσ0, hF0, z8, rfl, ⟨by omega, by omega, (ci_at h7 (by omega)).symm⟩⟩
/-- DoorSchoolModel.overOf(I)I -/
abbrev P_294 (σ0 : SG) (a : Int32) : PO := fun v σ => WT σ ∧ Fr [] σ0 σ ∧ ∃ ret : Int32, v = some (.int ret) ∧ -ret.toInt ≤ 0 ∧ ret.toInt - 120 ≤ 0 ∧ ret.toInt = ci σ0 173 a.toInt + ci σ0 160 (154 + 2 * a.toInt)
set_option maxRecDepth 10000 in
set_option maxHeartbeats 4000000 in
theorem c_294 (σ0 : SG) (hσ0 : WT σ0) (a : Int32) (hl_a : 0 ≤ a.toInt) (hu_a : a.toInt ≤ 5) : En 1 21 none mr_294 (P_294 σ0 a) 0 [(0, .ref 159), (1, .int a)] [] σ0 := by
  have hF0 : Fr [] σ0 σ0 := Fr_rfl
  refine En_Ps 1 (pc' := 1) (lv' := [(0, .ref 159), (1, .int a)]) (st' := [.ref 159]) rfl ?_
  refine En_getU (j := 27) (u := 173) (g' := 49) (q := 0) rfl rfl rfl (by decide +kernel : TG 159 = 35) (by decide +kernel) hσ0 (by decide +kernel) (by decide +kernel) (fun h1 => ?_)
  refine En_Ps 1 (pc' := 5) (lv' := [(0, .ref 159), (1, .int a)]) (st' := [.int a, .ref 173]) rfl ?_
  refine En_iald (l := 0) (u := 111) rfl rfl (by decide +kernel : TG 173 = 49) (by decide +kernel) hσ0 (by omega) (lnI (by decide +kernel : LN _ = 6) (by omega)) (FTsgl (by decide +kernel)) (fun z4 h3 h5 h6 => ?_)
  refine En_Ps 2 (pc' := 8) (lv' := [(0, .ref 159), (1, .int a)]) (st' := [.int a, .ref 159, .int z4]) rfl ?_
  refine En_callV rfl rfl rfl rfl rfl rfl rfl rfl (by decide +kernel : TG 159 = 35) (by decide +kernel) rfl (c_319 σ0 hσ0 a (geI rfl (by omega)) (leI rfl (by omega))) (by decide) (by decide) (fun v8 σ9 h7 => ?_)
  obtain ⟨h10, h11, z13, rfl, h12⟩ := h7
  have h14 := h12.2.2
  obtain rfl : σ0 = σ9 := Fr_nil h11
  refine En_Ps 1 (pc' := 12) (lv' := [(0, .ref 159), (1, .int a)]) (st' := [.int ((z4 + z13))]) rfl ?_
  refine En_top (addI rfl rfl (by omega) (by omega)) (fun z15 h16 => ?_)
  exact En_ret (v := some (.int z15)) rfl rfl rfl ⟨hσ0, hF0, z15, rfl, ⟨by omega, by omega, (by have e1 := ci_at h3 (rfl : a.toInt = a.toInt); omega)⟩⟩
/-- DoorSchoolModel.afterAll(II)I -/
abbrev P_190 (σ0 : SG) (a : Int32) (b : Int32) : PO := fun v σ => WT σ ∧ Fr [] σ0 σ ∧ ∃ ret : Int32, v = some (.int ret) ∧ -ret.toInt - 1 ≤ 0 ∧ ret.toInt - 127 ≤ 0 ∧ AFTs σ0 a.toInt b.toInt ret.toInt
set_option maxRecDepth 10000 in
set_option maxHeartbeats 4000000 in
theorem c_190 (σ0 : SG) (hσ0 : WT σ0) (a : Int32) (b : Int32) (hl_a : 0 ≤ a.toInt) (hu_a : a.toInt ≤ 5) (hl_b : 0 ≤ b.toInt) (hu_b : b.toInt ≤ 63) : En 2 42 none mr_190 (P_190 σ0 a b) 0 [(0, .ref 159), (1, .int a), (2, .int b)] [] σ0 := by
  have hF0 : Fr [] σ0 σ0 := Fr_rfl
  refine En_Ps 4 (pc' := 5) (lv' := [(4, .int ((Int32.ofInt 0))), (3, .int ((Int32.ofInt 0))), (0, .ref 159), (1, .int a), (2, .int b)]) (st' := []) rfl ?_
  have key5 : ∀ (n5 : Nat) (y1 : Int32) (y2 : Int32), 0 ≤ y1.toInt → y1.toInt ≤ 127 → 0 ≤ y2.toInt → y2.toInt ≤ 5 → y2.toInt - a.toInt ≤ 0 → a.toInt - y2.toInt < (n5 : Int) → AFL σ0 a.toInt b.toInt y2.toInt y1.toInt → En 2 42 none mr_190 (P_190 σ0 a b) 5 [(0, .ref 159), (1, .int a), (2, .int b), (3, .int y1), (4, .int y2)] [] σ0 := by
    intro n5
    induction n5 with
    | zero =>
      intro y1 y2 h6 h7 h8 h9 h10 h11 h12
      exfalso; omega
    | succ n5 ih5 =>
      intro y1 y2 h6 h7 h8 h9 h10 h11 h12
      refine En_Ps 2 (pc' := 8) (lv' := [(0, .ref 159), (1, .int a), (2, .int b), (3, .int y1), (4, .int y2)]) (st' := [.int a, .int y2]) rfl ?_
      refine En_icGe _ rfl rfl rfl (fun h13 => ?_) (fun h13 => ?_)
      · refine En_Ps 1 (pc' := 65) (lv' := [(0, .ref 159), (1, .int a), (2, .int b), (3, .int y1), (4, .int y2)]) (st' := [.int y1]) rfl ?_
        exact En_ret (v := some (.int y1)) rfl rfl rfl ⟨hσ0, hF0, y1, rfl, ⟨by omega, by omega, AFT_yes h12 (by omega) (by omega)⟩⟩
      · refine En_Ps 1 (pc' := 12) (lv' := [(0, .ref 159), (1, .int a), (2, .int b), (3, .int y1), (4, .int y2)]) (st' := [.ref 159]) rfl ?_
        refine En_getU (j := 1) (u := 160) (g' := 36) (q := 0) rfl rfl rfl (by decide +kernel : TG 159 = 35) (by decide +kernel) hσ0 (by decide +kernel) (by decide +kernel) (fun h14 => ?_)
        refine En_Ps 4 (pc' := 21) (lv' := [(0, .ref 159), (1, .int a), (2, .int b), (3, .int y1), (4, .int y2)]) (st' := [.int ((((Int32.ofInt 2)) * a)), .int (((Int16.ofInt 154).toInt32)), .ref 160]) rfl ?_
        refine En_top (mulI (by decide : (Int32.ofInt 2).toInt = 2) rfl (Z := 2 * a.toInt) (by omega) (by omega) (by omega)) (fun z16 h17 => ?_)
        refine En_Ps 1 (pc' := 22) (lv' := [(0, .ref 159), (1, .int a), (2, .int b), (3, .int y1), (4, .int y2)]) (st' := [.int (((((Int16.ofInt 154).toInt32)) + z16)), .ref 160]) rfl ?_
        refine En_top (addI (by decide : ((Int16.ofInt 154).toInt32).toInt = 154) rfl (by omega) (by omega)) (fun z18 h19 => ?_)
        refine En_Ps 2 (pc' := 24) (lv' := [(0, .ref 159), (1, .int a), (2, .int b), (3, .int y1), (4, .int y2)]) (st' := [.int ((z18 + ((Int32.ofInt 1)))), .ref 160]) rfl ?_
        refine En_top (addI rfl (by decide : (Int32.ofInt 1).toInt = 1) (by omega) (by omega)) (fun z20 h21 => ?_)
        refine En_iald (l := 0) (u := 63) rfl rfl (by decide +kernel : TG 160 = 36) (by decide +kernel) hσ0 (by omega) (lnI (by decide +kernel : LN _ = 226) (by omega)) (FTrow 36 157 2 5 (by decide +kernel) (by omega) (by omega) (by omega)) (fun z23 h22 h24 h25 => ?_)
        refine En_Ps 1 (pc' := 27) (lv' := [(0, .ref 159), (1, .int a), (2, .int b), (3, .int y1), (4, .int y2)]) (st' := [.int y2, .int z23]) rfl ?_
        refine En_callS rfl rfl rfl rfl rfl rfl rfl rfl rfl (c_202a σ0 hσ0 z23 y2 (geI rfl (by omega)) (leI rfl (by omega)) (geI rfl (by omega)) (leI rfl (by omega))) (by decide) (by decide) (fun v27 σ28 h26 => ?_)
        obtain ⟨h29, h30, z32, rfl, h31⟩ := h26
        have h33 := h31.2.2
        obtain rfl : σ0 = σ28 := Fr_nil h30
        refine En_iNe _ rfl rfl (fun h34 => ?_) (fun h34 => ?_)
        · refine En_Ps 2 (pc' := 39) (lv' := [(0, .ref 159), (1, .int a), (2, .int b), (3, .int y1), (4, .int y2)]) (st' := [.int y2, .int b]) rfl ?_
          refine En_callS rfl rfl rfl rfl rfl rfl rfl rfl rfl (c_202a σ0 hσ0 b y2 (geI rfl (by omega)) (leI rfl (by omega)) (geI rfl (by omega)) (leI rfl (by omega))) (by decide) (by decide) (fun v36 σ37 h35 => ?_)
          obtain ⟨h38, h39, z41, rfl, h40⟩ := h35
          have h42 := h40.2.2
          obtain rfl : σ0 = σ37 := Fr_nil h39
          refine En_iNe _ rfl rfl (fun h43 => ?_) (fun h43 => ?_)
          · refine En_Ps 3 (pc' := 51) (lv' := [(0, .ref 159), (1, .int a), (2, .int b), (3, .int y1), (4, .int y2)]) (st' := [.int y2, .ref 159, .int y1]) rfl ?_
            refine En_callV rfl rfl rfl rfl rfl rfl rfl rfl (by decide +kernel : TG 159 = 35) (by decide +kernel) rfl (c_294 σ0 hσ0 y2 (geI rfl (by omega)) (leI rfl (by omega))) (by decide) (by decide) (fun v45 σ46 h44 => ?_)
            obtain ⟨h47, h48, z50, rfl, h49⟩ := h44
            have h51 := h49.2.2
            obtain rfl : σ0 = σ46 := Fr_nil h48
            refine En_callS rfl rfl rfl rfl rfl rfl rfl rfl rfl (c_10 σ0 hσ0 y1 z50) (by decide) (by decide) (fun v53 σ54 h52 => ?_)
            obtain ⟨h55, h56, z58, rfl, h57⟩ := h52
            obtain rfl : σ0 = σ54 := Fr_nil h56
            refine En_Ps 2 (pc' := 61) (lv' := [(4, .int ((y2 + Int32.ofInt 1))), (3, .int z58), (0, .ref 159), (1, .int a), (2, .int b)]) (st' := []) rfl ?_
            refine En_lv1 (addI rfl (by decide : (Int32.ofInt 1).toInt = 1) (by omega) (by omega)) (fun z59 h60 => ?_)
            refine En_Ps 1 (pc' := 5) (lv' := [(4, .int z59), (3, .int z58), (0, .ref 159), (1, .int a), (2, .int b)]) (st' := []) rfl ?_
            refine En_lv (lv := [(0, .ref 159), (1, .int a), (2, .int b), (3, .int z58), (4, .int z59)]) ⟨rfl, rfl, rfl, rfl, rfl, trivial⟩ ?_
            exact ih5 z58 z59 (by omega) (by omega) (by omega) (by omega) (by omega) (by omega) (AFL_y hσ0 h12 h22 (by omega) h33 (by omega) h42 (by omega) h51 (by omega) (by omega) (by omega) (by omega) (by omega) (by omega) (by omega) (by omega) (by omega))
          · refine En_Ps 1 (pc' := 46) (lv' := [(0, .ref 159), (1, .int a), (2, .int b), (3, .int y1), (4, .int y2)]) (st' := [.int ((Int32.ofInt (-1)))]) rfl ?_
            refine En_top (by decide : (Int32.ofInt (-1)).toInt = -1) (fun z61 h62 => ?_)
            exact En_ret (v := some (.int z61)) rfl rfl rfl ⟨hσ0, hF0, z61, rfl, ⟨by omega, by omega, AFT_no hσ0 h22 (by omega) h33 (by omega) h42 (by omega) (by omega) (by omega) (by omega) (by omega) (by omega)⟩⟩
        · refine En_Ps 2 (pc' := 61) (lv' := [(4, .int ((y2 + Int32.ofInt 1))), (0, .ref 159), (1, .int a), (2, .int b), (3, .int y1)]) (st' := []) rfl ?_
          refine En_lv1 (addI rfl (by decide : (Int32.ofInt 1).toInt = 1) (by omega) (by omega)) (fun z63 h64 => ?_)
          refine En_Ps 1 (pc' := 5) (lv' := [(4, .int z63), (0, .ref 159), (1, .int a), (2, .int b), (3, .int y1)]) (st' := []) rfl ?_
          refine En_lv (lv := [(0, .ref 159), (1, .int a), (2, .int b), (3, .int y1), (4, .int z63)]) ⟨rfl, rfl, rfl, rfl, rfl, trivial⟩ ?_
          exact ih5 y1 z63 (by omega) (by omega) (by omega) (by omega) (by omega) (by omega) (AFL_n hσ0 h12 h22 (by omega) h33 (by omega) (by omega) (by omega) (by omega) (by omega))
  have := (by decide : (Int32.ofInt 0).toInt = 0)
  have := (by decide : (Int32.ofInt 0).toInt = 0)
  refine En_lv (lv := [(0, .ref 159), (1, .int a), (2, .int b), (3, .int ((Int32.ofInt 0))), (4, .int ((Int32.ofInt 0)))]) ⟨rfl, rfl, rfl, rfl, rfl, trivial⟩ ?_
  exact key5 (Int.toNat (a.toInt) + 1) ((Int32.ofInt 0)) ((Int32.ofInt 0)) (by omega) (by omega) (by omega) (by omega) (by omega) (by omega) (AFL_0 (by decide) (by decide))
/-- DoorSchoolModel.isDoor(I)Z -/
abbrev P_254 (σ0 : SG) (a : Int32) (nd : Int32) : PO := fun v σ => WT σ ∧ Fr [] σ0 σ ∧ ∃ ret : Int32, v = some (.int ret) ∧ -ret.toInt ≤ 0 ∧ ret.toInt - 1 ≤ 0 ∧ (-ret.toInt + 1 ≤ 0 → -a.toInt ≤ 0 ∧ a.toInt - nd.toInt + 1 ≤ 0) ∧ (-a.toInt ≤ 0 ∧ a.toInt - nd.toInt + 1 ≤ 0 → -ret.toInt + 1 ≤ 0) ∧ (ret.toInt - 1 ≤ 0 ∧ -ret.toInt + 1 ≤ 0 → -a.toInt ≤ 0 ∧ a.toInt - 3 ≤ 0)
set_option maxRecDepth 10000 in
set_option maxHeartbeats 4000000 in
theorem c_254 (σ0 : SG) (hσ0 : WT σ0) (a : Int32) (nd : Int32) (h_nd : (σ0 160)[(2 : Int).toNat]? = some (.int nd)) : En 1 25 none mr_254 (P_254 σ0 a nd) 0 [(0, .ref 159), (1, .int a)] [] σ0 := by
  obtain ⟨hl_nd, hu_nd⟩ := WT_int hσ0 (g := 36) (by decide +kernel) (by decide +kernel) (l := 0) (u := 4) (by decide +kernel) h_nd
  have hF0 : Fr [] σ0 σ0 := Fr_rfl
  refine En_Ps 4 (pc' := 4) (lv' := [(0, .ref 159), (1, .int a)]) (st' := [.ref 159, .long ((Int64.ofNat 0)), .long a.toInt64]) rfl ?_
  refine En_getU (j := 1) (u := 160) (g' := 36) (q := 0) rfl rfl rfl (by decide +kernel : TG 159 = 35) (by decide +kernel) hσ0 (by decide +kernel) (by decide +kernel) (fun h1 => ?_)
  refine En_Ps 1 (pc' := 8) (lv' := [(0, .ref 159), (1, .int a)]) (st' := [.int ((Int32.ofInt 2)), .ref 160, .long ((Int64.ofNat 0)), .long a.toInt64]) rfl ?_
  refine En_ialdK h_nd rfl (by decide : (Int32.ofInt 2).toInt = 2) (by decide +kernel : TG 160 = 36) (by decide +kernel) hσ0 (by omega) (lnI (by decide +kernel : LN _ = 226) (by omega)) ?_
  refine En_Ps 2 (pc' := 11) (lv' := [(0, .ref 159), (1, .int a)]) (st' := [.int ((nd - ((Int32.ofInt 1)))), .long ((Int64.ofNat 0)), .long a.toInt64]) rfl ?_
  refine En_top (subI rfl (by decide : (Int32.ofInt 1).toInt = 1) (by omega) (by omega)) (fun z4 h5 => ?_)
  refine En_Ps 1 (pc' := 12) (lv' := [(0, .ref 159), (1, .int a)]) (st' := [.long z4.toInt64, .long ((Int64.ofNat 0)), .long a.toInt64]) rfl ?_
  have : a.toInt64.toInt = a.toInt := (i2lI rfl)
  have := (by decide : ((Int64.ofNat 0)).toInt = 0)
  have : z4.toInt64.toInt = z4.toInt := (i2lI rfl)
  refine En_callS rfl rfl rfl rfl rfl rfl rfl rfl rfl (c_249 σ0 hσ0 a.toInt64 ((Int64.ofNat 0)) z4.toInt64) (by decide) (by decide) (fun v7 σ8 h6 => ?_)
  obtain ⟨h9, h10, z12, rfl, h11⟩ := h6
  have h13 := Fr_trans hF0 h10 (by decide +kernel)
  exact En_ret (v := some (.int z12)) rfl rfl (retZ rfl rfl (by omega) (by omega)) ⟨h9, h13, z12, rfl, (by omega)⟩
/-- DoorSchoolModel.isSchool()Z -/
abbrev P_264 (σ0 : SG) (sc : Int32) : PO := fun v σ => WT σ ∧ Fr [] σ0 σ ∧ ∃ ret : Int32, v = some (.int ret) ∧ -ret.toInt ≤ 0 ∧ ret.toInt - 1 ≤ 0 ∧ (-ret.toInt + 1 ≤ 0 → -sc.toInt + 1 ≤ 0) ∧ (ret.toInt ≤ 0 → sc.toInt ≤ 0)
set_option maxRecDepth 10000 in
set_option maxHeartbeats 4000000 in
theorem c_264 (σ0 : SG) (hσ0 : WT σ0) (sc : Int32) (h_sc : (σ0 160)[(7 : Int).toNat]? = some (.int sc)) : En 0 0 none mr_264 (P_264 σ0 sc) 0 [(0, .ref 159)] [] σ0 := by
  obtain ⟨hl_sc, hu_sc⟩ := WT_int hσ0 (g := 36) (by decide +kernel) (by decide +kernel) (l := 0) (u := 1600) (by decide +kernel) h_sc
  have hF0 : Fr [] σ0 σ0 := Fr_rfl
  refine En_Ps 1 (pc' := 1) (lv' := [(0, .ref 159)]) (st' := [.ref 159]) rfl ?_
  refine En_getU (j := 1) (u := 160) (g' := 36) (q := 0) rfl rfl rfl (by decide +kernel : TG 159 = 35) (by decide +kernel) hσ0 (by decide +kernel) (by decide +kernel) (fun h1 => ?_)
  refine En_Ps 1 (pc' := 6) (lv' := [(0, .ref 159)]) (st' := [.int (((Int8.ofInt 7).toInt32)), .ref 160]) rfl ?_
  refine En_ialdK h_sc rfl (by decide : ((Int8.ofInt 7).toInt32).toInt = 7) (by decide +kernel : TG 160 = 36) (by decide +kernel) hσ0 (by omega) (lnI (by decide +kernel : LN _ = 226) (by omega)) ?_
  refine En_iLe _ rfl rfl (fun h4 => ?_) (fun h4 => ?_)
  · refine En_Ps 1 (pc' := 15) (lv' := [(0, .ref 159)]) (st' := [.int ((Int32.ofInt 0))]) rfl ?_
    refine En_top (by decide : (Int32.ofInt 0).toInt = 0) (fun z5 h6 => ?_)
    exact En_ret (v := some (.int z5)) rfl rfl (retZ rfl rfl (by omega) (by omega)) ⟨hσ0, hF0, z5, rfl, (by omega)⟩
  · refine En_Ps 2 (pc' := 15) (lv' := [(0, .ref 159)]) (st' := [.int ((Int32.ofInt 1))]) rfl ?_
    refine En_top (by decide : (Int32.ofInt 1).toInt = 1) (fun z7 h8 => ?_)
    exact En_ret (v := some (.int z7)) rfl rfl (retZ rfl rfl (by omega) (by omega)) ⟨hσ0, hF0, z7, rfl, (by omega)⟩
/-- DoorSchoolModel.knocks()I -/
abbrev P_269 (σ0 : SG) (s : Int32) (sc : Int32) : PO := fun v σ => WT σ ∧ Fr [] σ0 σ ∧ ∃ ret : Int32, v = some (.int ret) ∧ -ret.toInt ≤ 0 ∧ ret.toInt - 16 ≤ 0 ∧ ret.toInt = kI sc.toInt s.toInt
set_option maxRecDepth 10000 in
set_option maxHeartbeats 4000000 in
theorem c_269 (σ0 : SG) (hσ0 : WT σ0) (s : Int32) (h_s : (σ0 160)[(0 : Int).toNat]? = some (.int s)) (sc : Int32) (h_sc : (σ0 160)[(7 : Int).toNat]? = some (.int sc)) : En 1 20 none mr_269 (P_269 σ0 s sc) 0 [(0, .ref 159)] [] σ0 := by
  obtain ⟨hl_s, hu_s⟩ := WT_int hσ0 (g := 36) (by decide +kernel) (by decide +kernel) (l := 0) (u := 4) (by decide +kernel) h_s
  obtain ⟨hl_sc, hu_sc⟩ := WT_int hσ0 (g := 36) (by decide +kernel) (by decide +kernel) (l := 0) (u := 1600) (by decide +kernel) h_sc
  have hF0 : Fr [] σ0 σ0 := Fr_rfl
  have := kI_val sc.toInt s.toInt
  refine En_Ps 1 (pc' := 1) (lv' := [(0, .ref 159)]) (st' := [.ref 159]) rfl ?_
  refine En_callV rfl rfl rfl rfl rfl rfl rfl rfl (by decide +kernel : TG 159 = 35) (by decide +kernel) rfl (c_264 σ0 hσ0 sc h_sc) (by decide) (by decide) (fun v2 σ3 h1 => ?_)
  obtain ⟨h4, h5, z7, rfl, h6⟩ := h1
  have h8 := Fr_trans hF0 h5 (by decide +kernel)
  refine En_iEq _ rfl rfl (fun h9 => ?_) (fun h9 => ?_)
  · refine En_Ps 1 (pc' := 19) (lv' := [(0, .ref 159)]) (st' := [.int ((Int32.ofInt 0))]) rfl ?_
    refine En_top (by decide : (Int32.ofInt 0).toInt = 0) (fun z10 h11 => ?_)
    exact En_ret (v := some (.int z10)) rfl rfl rfl ⟨h4, h8, z10, rfl, (by omega)⟩
  · refine En_Ps 2 (pc' := 9) (lv' := [(0, .ref 159)]) (st' := [.ref 159, .int ((Int32.ofInt 1))]) rfl ?_
    refine En_getU (j := 1) (u := 160) (g' := 36) (q := 0) rfl rfl rfl (by decide +kernel : TG 159 = 35) (by decide +kernel) h4 (by decide +kernel) (by decide +kernel) (fun h12 => ?_)
    refine En_Ps 1 (pc' := 13) (lv' := [(0, .ref 159)]) (st' := [.int ((Int32.ofInt 0)), .ref 160, .int ((Int32.ofInt 1))]) rfl ?_
    refine En_ialdK ((h5 _ _ (inWa (by decide +kernel : TG 160 = 36) (by decide +kernel))).trans h_s) rfl (by decide : (Int32.ofInt 0).toInt = 0) (by decide +kernel : TG 160 = 36) (by decide +kernel) h4 (by omega) (lnI (by decide +kernel : LN _ = 226) (by omega)) ?_
    refine En_Ps 1 (pc' := 15) (lv' := [(0, .ref 159)]) (st' := [.int ((((Int32.ofInt 1)) <<< (s &&& 31)))]) rfl ?_
    refine En_nam (fun z15 h16 => ?_)
    have h17 := shl1_v (y := s) rfl (by omega) (by omega)
    rw [← h16] at h17
    have h18 := shl1_p (y := s) 4 rfl (by omega) (by omega) (by decide)
    rw [← h16] at h18
    refine En_Ps 1 (pc' := 19) (lv' := [(0, .ref 159)]) (st' := [.int z15]) rfl ?_
    exact En_ret (v := some (.int z15)) rfl rfl rfl ⟨h4, h8, z15, rfl, (by omega)⟩
/-- DoorSchoolModel.bits(I)I of a small set -/
abbrev P_203a (σ0 : SG) (a : Int32) : PO := fun v σ => WT σ ∧ Fr [] σ0 σ ∧ ∃ ret : Int32, v = some (.int ret) ∧ -ret.toInt ≤ 0 ∧ ret.toInt - 4 ≤ 0 ∧ ret.toInt = bcI a.toInt
set_option maxRecDepth 10000 in
set_option maxHeartbeats 4000000 in
theorem c_203a (σ0 : SG) (hσ0 : WT σ0) (a : Int32) (hl_a : 0 ≤ a.toInt) (hu_a : a.toInt ≤ 15) : En 0 0 none mr_203 (P_203a σ0 a) 0 [(0, .int a)] [] σ0 := by
  have hF0 : Fr [] σ0 σ0 := Fr_rfl
  refine En_Ps 29 (pc' := 35) (lv' := [(2, .int ((((a - (((a.toUInt32 >>> ((Int32.ofInt 1).toUInt32 &&& Int32.toUInt32 31)).toInt32) &&& (1431655765 : Int32))) &&& (858993459 : Int32)) + ((((a - (((a.toUInt32 >>> ((Int32.ofInt 1).toUInt32 &&& Int32.toUInt32 31)).toInt32) &&& (1431655765 : Int32))).toUInt32 >>> ((Int32.ofInt 2).toUInt32 &&& Int32.toUInt32 31)).toInt32) &&& (858993459 : Int32))))), (1, .int ((a - (((a.toUInt32 >>> ((Int32.ofInt 1).toUInt32 &&& Int32.toUInt32 31)).toInt32) &&& (1431655765 : Int32))))), (0, .int a)]) (st' := [.int (((((((((a - (((a.toUInt32 >>> ((Int32.ofInt 1).toUInt32 &&& Int32.toUInt32 31)).toInt32) &&& (1431655765 : Int32))) &&& (858993459 : Int32)) + ((((a - (((a.toUInt32 >>> ((Int32.ofInt 1).toUInt32 &&& Int32.toUInt32 31)).toInt32) &&& (1431655765 : Int32))).toUInt32 >>> ((Int32.ofInt 2).toUInt32 &&& Int32.toUInt32 31)).toInt32) &&& (858993459 : Int32))) + (((((a - (((a.toUInt32 >>> ((Int32.ofInt 1).toUInt32 &&& Int32.toUInt32 31)).toInt32) &&& (1431655765 : Int32))) &&& (858993459 : Int32)) + ((((a - (((a.toUInt32 >>> ((Int32.ofInt 1).toUInt32 &&& Int32.toUInt32 31)).toInt32) &&& (1431655765 : Int32))).toUInt32 >>> ((Int32.ofInt 2).toUInt32 &&& Int32.toUInt32 31)).toInt32) &&& (858993459 : Int32))).toUInt32 >>> ((Int32.ofInt 4).toUInt32 &&& Int32.toUInt32 31)).toInt32)) &&& (252645135 : Int32)) * (16843009 : Int32)).toUInt32 >>> (((Int8.ofInt 24).toInt32).toUInt32 &&& Int32.toUInt32 31)).toInt32))]) rfl ?_
  refine En_nam (fun z hz => ?_)
  have hb := bits_small (fun x => ((((((((x - (((x.toUInt32 >>> ((Int32.ofInt 1).toUInt32 &&& Int32.toUInt32 31)).toInt32) &&& (1431655765 : Int32))) &&& (858993459 : Int32)) + ((((x - (((x.toUInt32 >>> ((Int32.ofInt 1).toUInt32 &&& Int32.toUInt32 31)).toInt32) &&& (1431655765 : Int32))).toUInt32 >>> ((Int32.ofInt 2).toUInt32 &&& Int32.toUInt32 31)).toInt32) &&& (858993459 : Int32))) + (((((x - (((x.toUInt32 >>> ((Int32.ofInt 1).toUInt32 &&& Int32.toUInt32 31)).toInt32) &&& (1431655765 : Int32))) &&& (858993459 : Int32)) + ((((x - (((x.toUInt32 >>> ((Int32.ofInt 1).toUInt32 &&& Int32.toUInt32 31)).toInt32) &&& (1431655765 : Int32))).toUInt32 >>> ((Int32.ofInt 2).toUInt32 &&& Int32.toUInt32 31)).toInt32) &&& (858993459 : Int32))).toUInt32 >>> ((Int32.ofInt 4).toUInt32 &&& Int32.toUInt32 31)).toInt32)) &&& (252645135 : Int32)) * (16843009 : Int32)).toUInt32 >>> (((Int8.ofInt 24).toInt32).toUInt32 &&& Int32.toUInt32 31)).toInt32)) hz (by decide +kernel) hl_a hu_a
  have hr := bcI_rng a.toInt
  exact En_ret (v := some (.int z)) rfl rfl rfl ⟨hσ0, hF0, z, rfl, (by omega)⟩
/-- DoorSchoolModel.bits(I)I -/
abbrev P_203b (σ0 : SG) (a : Int32) : PO := fun v σ => WT σ ∧ Fr [] σ0 σ ∧ ∃ ret : Int32, v = some (.int ret) ∧ True
set_option maxRecDepth 10000 in
set_option maxHeartbeats 4000000 in
theorem c_203b (σ0 : SG) (hσ0 : WT σ0) (a : Int32) : En 0 0 none mr_203 (P_203b σ0 a) 0 [(0, .int a)] [] σ0 := by
  have hF0 : Fr [] σ0 σ0 := Fr_rfl
  refine En_Ps 4 (pc' := 4) (lv' := [(0, .int a)]) (st' := [.int (((a.toUInt32 >>> (((Int32.ofInt 1)).toUInt32 &&& Int32.toUInt32 31)).toInt32)), .int a]) rfl ?_
  refine En_hav (fun z1 => ?_)
  refine En_Ps 2 (pc' := 7) (lv' := [(0, .int a)]) (st' := [.int ((z1 &&& ((1431655765 : Int32)))), .int a]) rfl ?_
  refine En_rng (l := 0) (u := 1431655765) (andR_rng (by decide : (1431655765 : Int32).toInt = 1431655765) (by decide)) (fun z2 h3 h4 => ?_)
  refine En_Ps 1 (pc' := 8) (lv' := [(0, .int a)]) (st' := [.int ((a - z2))]) rfl ?_
  refine En_hav (fun z5 => ?_)
  refine En_Ps 4 (pc' := 13) (lv' := [(1, .int z5), (0, .int a)]) (st' := [.int ((z5 &&& ((858993459 : Int32))))]) rfl ?_
  refine En_rng (l := 0) (u := 858993459) (andR_rng (by decide : (858993459 : Int32).toInt = 858993459) (by decide)) (fun z6 h7 h8 => ?_)
  refine En_Ps 3 (pc' := 16) (lv' := [(1, .int z5), (0, .int a)]) (st' := [.int (((z5.toUInt32 >>> (((Int32.ofInt 2)).toUInt32 &&& Int32.toUInt32 31)).toInt32)), .int z6]) rfl ?_
  refine En_hav (fun z9 => ?_)
  refine En_Ps 2 (pc' := 19) (lv' := [(1, .int z5), (0, .int a)]) (st' := [.int ((z9 &&& ((858993459 : Int32)))), .int z6]) rfl ?_
  refine En_rng (l := 0) (u := 858993459) (andR_rng (by decide : (858993459 : Int32).toInt = 858993459) (by decide)) (fun z10 h11 h12 => ?_)
  refine En_Ps 1 (pc' := 20) (lv' := [(1, .int z5), (0, .int a)]) (st' := [.int ((z6 + z10))]) rfl ?_
  refine En_top (addI rfl rfl (by omega) (by omega)) (fun z13 h14 => ?_)
  refine En_Ps 5 (pc' := 25) (lv' := [(2, .int z13), (1, .int z5), (0, .int a)]) (st' := [.int (((z13.toUInt32 >>> (((Int32.ofInt 4)).toUInt32 &&& Int32.toUInt32 31)).toInt32)), .int z13]) rfl ?_
  refine En_hav (fun z15 => ?_)
  refine En_Ps 1 (pc' := 26) (lv' := [(2, .int z13), (1, .int z5), (0, .int a)]) (st' := [.int ((z13 + z15))]) rfl ?_
  refine En_hav (fun z16 => ?_)
  refine En_Ps 2 (pc' := 29) (lv' := [(2, .int z13), (1, .int z5), (0, .int a)]) (st' := [.int ((z16 &&& ((252645135 : Int32))))]) rfl ?_
  refine En_rng (l := 0) (u := 252645135) (andR_rng (by decide : (252645135 : Int32).toInt = 252645135) (by decide)) (fun z17 h18 h19 => ?_)
  refine En_Ps 2 (pc' := 32) (lv' := [(2, .int z13), (1, .int z5), (0, .int a)]) (st' := [.int ((z17 * ((16843009 : Int32))))]) rfl ?_
  refine En_hav (fun z20 => ?_)
  refine En_Ps 2 (pc' := 35) (lv' := [(2, .int z13), (1, .int z5), (0, .int a)]) (st' := [.int (((z20.toUInt32 >>> ((((Int8.ofInt 24).toInt32)).toUInt32 &&& Int32.toUInt32 31)).toInt32))]) rfl ?_
  refine En_hav (fun z21 => ?_)
  exact En_ret (v := some (.int z21)) rfl rfl rfl ⟨hσ0, hF0, z21, rfl, trivial⟩
