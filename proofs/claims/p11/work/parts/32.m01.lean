/-- DoorSchoolModel.isAsTold(I)Z -/
abbrev P_252x (σ0 : SG) (a : Int32) (lm : Int32) : PO := fun v σ => WT σ ∧ Fr [] σ0 σ ∧ ∃ ret : Int32, v = some (.int ret) ∧ -ret.toInt ≤ 0 ∧ ret.toInt - 1 ≤ 0 ∧ ((ret.toInt = 1 ∧ ASP a.toInt (ci σ0 169) (ci σ0 170) lm.toInt) ∨ (ret.toInt = 0 ∧ ¬ ASP a.toInt (ci σ0 169) (ci σ0 170) lm.toInt))
set_option maxRecDepth 10000 in
set_option maxHeartbeats 4000000 in
theorem c_252x (σ0 : SG) (hσ0 : WT σ0) (a : Int32) (hl_a : 0 ≤ a.toInt) (hu_a : a.toInt ≤ 65535) (lm : Int32) (h_lm : (σ0 159)[21]? = some (.int lm)) : En 1 21 none mr_252 (P_252x σ0 a lm) 0 [(0, .ref 159), (1, .int a)] [] σ0 := by
  obtain ⟨hl_lm, hu_lm⟩ := WT_int hσ0 (g := 35) (by decide +kernel) (by decide +kernel) (l := 0) (u := 17) (by decide +kernel) h_lm
  have hF0 : Fr [] σ0 σ0 := Fr_rfl
  refine En_Ps 2 (pc' := 2) (lv' := [(2, .int ((Int32.ofInt 0))), (0, .ref 159), (1, .int a)]) (st' := []) rfl ?_
  have key2 : ∀ (n2 : Nat) (y1 : Int32), 0 ≤ y1.toInt → y1.toInt ≤ 17 → y1.toInt - lm.toInt ≤ 0 → lm.toInt - y1.toInt < (n2 : Int) → ASP a.toInt (ci σ0 169) (ci σ0 170) y1.toInt → En 1 21 none mr_252 (P_252x σ0 a lm) 2 [(0, .ref 159), (1, .int a), (2, .int y1)] [] σ0 := by
    intro n2
    induction n2 with
    | zero =>
      intro y1 h5 h6 h7 h8 h9
      exfalso; omega
    | succ n2 ih2 =>
      intro y1 h5 h6 h7 h8 h9
      refine En_Ps 2 (pc' := 4) (lv' := [(0, .ref 159), (1, .int a), (2, .int y1)]) (st' := [.ref 159, .int y1]) rfl ?_
      refine En_getK (j := 21) h_lm rfl rfl rfl tgz_159 (by decide +kernel) ?_
      refine En_icGe _ rfl rfl rfl (fun h10 => ?_) (fun h10 => ?_)
      · refine En_Ps 1 (pc' := 38) (lv' := [(0, .ref 159), (1, .int a), (2, .int y1)]) (st' := [.int ((Int32.ofInt 1))]) rfl ?_
        refine En_top (by decide : (Int32.ofInt 1).toInt = 1) (fun z11 h12 => ?_)
        exact En_ret (v := some (.int z11)) rfl rfl (retZ rfl rfl (by omega) (by omega)) ⟨hσ0, hF0, z11, rfl, ⟨by omega, by omega, Or.inl ⟨(by omega), by have e9 : lm.toInt = y1.toInt := (by omega); rw [e9]; exact h9⟩⟩⟩
      · refine En_Ps 2 (pc' := 12) (lv' := [(0, .ref 159), (1, .int a), (2, .int y1)]) (st' := [.ref 159, .int a]) rfl ?_
        refine En_getU (j := 19) (u := 169) (g' := 45) (q := 0) rfl rfl rfl tgz_159 (by decide +kernel) hσ0 (by decide +kernel) (by decide +kernel) (fun h13 => ?_)
        refine En_Ps 1 (pc' := 16) (lv' := [(0, .ref 159), (1, .int a), (2, .int y1)]) (st' := [.int y1, .ref 169, .int a]) rfl ?_
        refine En_iald (l := 0) (u := 15) rfl rfl tgz_169 (by decide +kernel) hσ0 (by omega) (lnI (by decide +kernel : LN _ = 17) (by omega)) (FTsgl (by decide +kernel)) (fun z16 h15 h17 h18 => ?_)
        have h19 : ci σ0 169 (y1.toInt) = z16.toInt := ci_at h15 rfl
        refine En_callS rfl rfl rfl rfl rfl rfl rfl rfl rfl (c_202ax σ0 hσ0 a z16 (geI rfl (by omega)) (leI rfl (by omega)) (geI rfl (by omega)) (leI rfl (by omega))) (by decide) (by decide) (fun v21 σ22 h20 => ?_)
        obtain ⟨h23, h24, z26, rfl, h25⟩ := h20
        have h27 := h25.2.2
        obtain rfl : σ0 = σ22 := Fr_nil h24
        refine En_Ps 1 (pc' := 21) (lv' := [(0, .ref 159), (1, .int a), (2, .int y1)]) (st' := [.ref 159, .int z26]) rfl ?_
        refine En_getU (j := 20) (u := 170) (g' := 46) (q := 0) rfl rfl rfl tgz_159 (by decide +kernel) hσ0 (by decide +kernel) (by decide +kernel) (fun h28 => ?_)
        refine En_Ps 1 (pc' := 25) (lv' := [(0, .ref 159), (1, .int a), (2, .int y1)]) (st' := [.int y1, .ref 170, .int z26]) rfl ?_
        refine En_iald (l := 0) (u := 1) rfl rfl tgz_170 (by decide +kernel) hσ0 (by omega) (lnI (by decide +kernel : LN _ = 17) (by omega)) (FTsgl (by decide +kernel)) (fun z31 h30 h32 h33 => ?_)
        have h34 : ci σ0 170 (y1.toInt) = z31.toInt := ci_at h30 rfl
        refine En_icEq _ rfl rfl rfl (fun h35 => ?_) (fun h35 => ?_)
        · refine En_Ps 1 (pc' := 34) (lv' := [(2, .int ((y1 + Int32.ofInt 1))), (0, .ref 159), (1, .int a)]) (st' := []) rfl ?_
          refine En_lv1 (addI rfl (by decide : (Int32.ofInt 1).toInt = 1) (by omega) (by omega)) (fun z36 h37 => ?_)
          refine En_Ps 1 (pc' := 2) (lv' := [(2, .int z36), (0, .ref 159), (1, .int a)]) (st' := []) rfl ?_
          refine En_lv (lv := [(0, .ref 159), (1, .int a), (2, .int z36)]) ⟨rfl, rfl, rfl, trivial⟩ ?_
          exact ih2 z36 (by omega) (by omega) (by omega) (by omega) (ASP_s h9 (by rw [h19]; omega) (by omega))
        · refine En_Ps 1 (pc' := 30) (lv' := [(0, .ref 159), (1, .int a), (2, .int y1)]) (st' := [.int ((Int32.ofInt 0))]) rfl ?_
          refine En_top (by decide : (Int32.ofInt 0).toInt = 0) (fun z38 h39 => ?_)
          exact En_ret (v := some (.int z38)) rfl rfl (retZ rfl rfl (by omega) (by omega)) ⟨hσ0, hF0, z38, rfl, ⟨by omega, by omega, Or.inr ⟨(by omega), ASP_no (i := y1.toInt) (by omega) (by omega) (by rw [h19]; omega)⟩⟩⟩
  have := (by decide : (Int32.ofInt 0).toInt = 0)
  refine En_lv (lv := [(0, .ref 159), (1, .int a), (2, .int ((Int32.ofInt 0)))]) ⟨rfl, rfl, rfl, trivial⟩ ?_
  exact key2 (Int.toNat (lm.toInt) + 1) ((Int32.ofInt 0)) (by omega) (by omega) (by omega) (by omega) (ASP_0 (by omega))
/-- DoorSchoolModel.firstRule()I -/
abbrev P_229x (σ0 : SG) (rm : Int32) (lm : Int32) : PO := fun v σ => WT σ ∧ Fr [] σ0 σ ∧ ∃ ret : Int32, v = some (.int ret) ∧ -ret.toInt - 1 ≤ 0 ∧ ret.toInt - 80 ≤ 0 ∧ ret.toInt = FIR (fun i => ASP (ci σ0 168 i) (ci σ0 169) (ci σ0 170) lm.toInt) rm.toInt.toNat
set_option maxRecDepth 10000 in
set_option maxHeartbeats 4000000 in
theorem c_229x (σ0 : SG) (hσ0 : WT σ0) (rm : Int32) (h_rm : (σ0 159)[18]? = some (.int rm)) (lm : Int32) (h_lm : (σ0 159)[21]? = some (.int lm)) (hD : ∀ i : Int, 0 ≤ i → i < rm.toInt → 0 ≤ ci σ0 168 i ∧ ci σ0 168 i ≤ 65535) : En 2 43 none mr_229 (P_229x σ0 rm lm) 0 [(0, .ref 159)] [] σ0 := by
  obtain ⟨hl_rm, hu_rm⟩ := WT_int hσ0 (g := 35) (by decide +kernel) (by decide +kernel) (l := 0) (u := 81) (by decide +kernel) h_rm
  obtain ⟨hl_lm, hu_lm⟩ := WT_int hσ0 (g := 35) (by decide +kernel) (by decide +kernel) (l := 0) (u := 17) (by decide +kernel) h_lm
  have hF0 : Fr [] σ0 σ0 := Fr_rfl
  refine En_Ps 2 (pc' := 2) (lv' := [(1, .int ((Int32.ofInt 0))), (0, .ref 159)]) (st' := []) rfl ?_
  have key2 : ∀ (n2 : Nat) (y1 : Int32), 0 ≤ y1.toInt → y1.toInt ≤ 81 → y1.toInt - rm.toInt ≤ 0 → rm.toInt - y1.toInt < (n2 : Int) → NOP (fun i => ASP (ci σ0 168 i) (ci σ0 169) (ci σ0 170) lm.toInt) y1.toInt → En 2 43 none mr_229 (P_229x σ0 rm lm) 2 [(0, .ref 159), (1, .int y1)] [] σ0 := by
    intro n2
    induction n2 with
    | zero =>
      intro y1 h5 h6 h7 h8 h9
      exfalso; omega
    | succ n2 ih2 =>
      intro y1 h5 h6 h7 h8 h9
      refine En_Ps 2 (pc' := 4) (lv' := [(0, .ref 159), (1, .int y1)]) (st' := [.ref 159, .int y1]) rfl ?_
      refine En_getK (j := 18) h_rm rfl rfl rfl tgz_159 (by decide +kernel) ?_
      refine En_icGe _ rfl rfl rfl (fun h10 => ?_) (fun h10 => ?_)
      · refine En_Ps 1 (pc' := 32) (lv' := [(0, .ref 159), (1, .int y1)]) (st' := [.int ((Int32.ofInt (-1)))]) rfl ?_
        refine En_top (by decide : (Int32.ofInt (-1)).toInt = -1) (fun z11 h12 => ?_)
        exact En_ret (v := some (.int z11)) rfl rfl rfl ⟨hσ0, hF0, z11, rfl, ⟨by omega, by omega, NOP_n h9 (by omega) (by omega) (by omega)⟩⟩
      · refine En_Ps 2 (pc' := 12) (lv' := [(0, .ref 159), (1, .int y1)]) (st' := [.ref 159, .ref 159]) rfl ?_
        refine En_getU (j := 17) (u := 168) (g' := 44) (q := 0) rfl rfl rfl tgz_159 (by decide +kernel) hσ0 (by decide +kernel) (by decide +kernel) (fun h13 => ?_)
        refine En_Ps 1 (pc' := 16) (lv' := [(0, .ref 159), (1, .int y1)]) (st' := [.int y1, .ref 168, .ref 159]) rfl ?_
        refine En_iald (l := (-2147483648)) (u := 2147483647) rfl rfl tgz_168 (by decide +kernel) hσ0 (by omega) (lnI (by decide +kernel : LN _ = 81) (by omega)) (FTsgl (by decide +kernel)) (fun z16 h15 h17 h18 => ?_)
        have h19 : ci σ0 168 (y1.toInt) = z16.toInt := ci_at h15 rfl
        have h20 := hD y1.toInt (by omega) (by omega)
        refine En_callV rfl rfl rfl rfl rfl rfl rfl rfl tgz_159 (by decide +kernel) rfl (c_252x σ0 hσ0 z16 (geI rfl (by omega)) (leI rfl (by omega)) lm h_lm) (by decide) (by decide) (fun v22 σ23 h21 => ?_)
        obtain ⟨h24, h25, z27, rfl, h26⟩ := h21
        have h28 := h26.2.2
        obtain rfl : σ0 = σ23 := Fr_nil h25
        refine En_iEq _ rfl rfl (fun h29 => ?_) (fun h29 => ?_)
        · refine En_Ps 1 (pc' := 28) (lv' := [(1, .int ((y1 + Int32.ofInt 1))), (0, .ref 159)]) (st' := []) rfl ?_
          refine En_lv1 (addI rfl (by decide : (Int32.ofInt 1).toInt = 1) (by omega) (by omega)) (fun z30 h31 => ?_)
          refine En_Ps 1 (pc' := 2) (lv' := [(1, .int z30), (0, .ref 159)]) (st' := []) rfl ?_
          refine En_lv (lv := [(0, .ref 159), (1, .int z30)]) ⟨rfl, rfl, trivial⟩ ?_
          exact ih2 z30 (by omega) (by omega) (by omega) (by omega) (NOP_s h9 (by show ¬ ASP (ci σ0 168 _) _ _ _; rw [h19]; rcases h28 with e9 | e9; exfalso; omega; exact e9.2) (by omega))
        · refine En_Ps 1 (pc' := 24) (lv' := [(0, .ref 159), (1, .int y1)]) (st' := [.int y1]) rfl ?_
          exact En_ret (v := some (.int y1)) rfl rfl rfl ⟨hσ0, hF0, y1, rfl, ⟨by omega, by omega, NOP_y h9 (by omega) (by show ASP (ci σ0 168 _) _ _ _; rw [h19]; rcases h28 with e9 | e9; exact e9.2; exfalso; omega) (by omega) (by omega)⟩⟩
  have := (by decide : (Int32.ofInt 0).toInt = 0)
  refine En_lv (lv := [(0, .ref 159), (1, .int ((Int32.ofInt 0)))]) ⟨rfl, rfl, trivial⟩ ?_
  exact key2 (Int.toNat (rm.toInt) + 1) ((Int32.ofInt 0)) (by omega) (by omega) (by omega) (by omega) (NOP_0 (by omega))
/-- DoorSchoolModel.latestOf(I)I -/
abbrev P_270x (σ0 : SG) (a : Int32) (m : Int32) : PO := fun v σ => WT σ ∧ Fr [] σ0 σ ∧ ∃ ret : Int32, v = some (.int ret) ∧ -ret.toInt - 1 ≤ 0 ∧ ret.toInt - 16 ≤ 0 ∧ ret.toInt - m.toInt + 1 ≤ 0 ∧ ret.toInt = LAT (ci σ0 169) a.toInt m.toInt.toNat
set_option maxRecDepth 10000 in
set_option maxHeartbeats 4000000 in
theorem c_270x (σ0 : SG) (hσ0 : WT σ0) (a : Int32) (m : Int32) (h_m : (σ0 159)[21]? = some (.int m)) : En 0 0 none mr_270 (P_270x σ0 a m) 0 [(0, .ref 159), (1, .int a)] [] σ0 := by
  obtain ⟨hl_m, hu_m⟩ := WT_int hσ0 (g := 35) (by decide +kernel) (by decide +kernel) (l := 0) (u := 17) (by decide +kernel) h_m
  have hF0 : Fr [] σ0 σ0 := Fr_rfl
  refine En_Ps 1 (pc' := 1) (lv' := [(0, .ref 159), (1, .int a)]) (st' := [.ref 159]) rfl ?_
  refine En_getK (j := 21) h_m rfl rfl rfl tgz_159 (by decide +kernel) ?_
  refine En_Ps 2 (pc' := 6) (lv' := [(0, .ref 159), (1, .int a)]) (st' := [.int ((m - ((Int32.ofInt 1))))]) rfl ?_
  refine En_top (subI rfl (by decide : (Int32.ofInt 1).toInt = 1) (by omega) (by omega)) (fun z1 h2 => ?_)
  refine En_Ps 1 (pc' := 7) (lv' := [(2, .int z1), (0, .ref 159), (1, .int a)]) (st' := []) rfl ?_
  have key7 : ∀ (n7 : Nat) (y3 : Int32), (-1) ≤ y3.toInt → y3.toInt ≤ 16 → y3.toInt - m.toInt + 1 ≤ 0 → y3.toInt + 1 < (n7 : Int) → LTI (ci σ0 169) a.toInt y3.toInt m.toInt → En 0 0 none mr_270 (P_270x σ0 a m) 7 [(0, .ref 159), (1, .int a), (2, .int y3)] [] σ0 := by
    intro n7
    induction n7 with
    | zero =>
      intro y3 h7 h8 h9 h10 h11
      exfalso; omega
    | succ n7 ih7 =>
      intro y3 h7 h8 h9 h10 h11
      refine En_Ps 1 (pc' := 8) (lv' := [(0, .ref 159), (1, .int a), (2, .int y3)]) (st' := [.int y3]) rfl ?_
      refine En_iLt _ rfl rfl (fun h12 => ?_) (fun h12 => ?_)
      · refine En_Ps 1 (pc' := 30) (lv' := [(0, .ref 159), (1, .int a), (2, .int y3)]) (st' := [.int ((Int32.ofInt (-1)))]) rfl ?_
        refine En_top (by decide : (Int32.ofInt (-1)).toInt = -1) (fun z13 h14 => ?_)
        exact En_ret (v := some (.int z13)) rfl rfl rfl ⟨hσ0, hF0, z13, rfl, ⟨by omega, by omega, by omega, LAT_n h11 (by omega) (by omega) (by omega)⟩⟩
      · refine En_Ps 1 (pc' := 12) (lv' := [(0, .ref 159), (1, .int a), (2, .int y3)]) (st' := [.ref 159]) rfl ?_
        refine En_getU (j := 19) (u := 169) (g' := 45) (q := 0) rfl rfl rfl tgz_159 (by decide +kernel) hσ0 (by decide +kernel) (by decide +kernel) (fun h15 => ?_)
        refine En_Ps 1 (pc' := 16) (lv' := [(0, .ref 159), (1, .int a), (2, .int y3)]) (st' := [.int y3, .ref 169]) rfl ?_
        refine En_iald (l := 0) (u := 15) rfl rfl tgz_169 (by decide +kernel) hσ0 (by omega) (lnI (by decide +kernel : LN _ = 17) (by omega)) (FTsgl (by decide +kernel)) (fun z18 h17 h19 h20 => ?_)
        have h21 : ci σ0 169 (y3.toInt) = z18.toInt := ci_at h17 rfl
        refine En_Ps 1 (pc' := 18) (lv' := [(0, .ref 159), (1, .int a), (2, .int y3)]) (st' := [.int a, .int z18]) rfl ?_
        refine En_icNe _ rfl rfl rfl (fun h22 => ?_) (fun h22 => ?_)
        · refine En_Ps 1 (pc' := 26) (lv' := [(2, .int ((y3 + Int32.ofInt (-1)))), (0, .ref 159), (1, .int a)]) (st' := []) rfl ?_
          refine En_lv1 (addI rfl (by decide : (Int32.ofInt (-1)).toInt = -1) (by omega) (by omega)) (fun z23 h24 => ?_)
          refine En_Ps 1 (pc' := 7) (lv' := [(2, .int z23), (0, .ref 159), (1, .int a)]) (st' := []) rfl ?_
          refine En_lv (lv := [(0, .ref 159), (1, .int a), (2, .int z23)]) ⟨rfl, rfl, rfl, trivial⟩ ?_
          exact ih7 z23 (by omega) (by omega) (by omega) (by omega) (LTI_s h11 (by omega) (by omega))
        · refine En_Ps 1 (pc' := 22) (lv' := [(0, .ref 159), (1, .int a), (2, .int y3)]) (st' := [.int y3]) rfl ?_
          exact En_ret (v := some (.int y3)) rfl rfl rfl ⟨hσ0, hF0, y3, rfl, ⟨by omega, by omega, by omega, LAT_y h11 (by omega) (by omega) (by omega) (by omega)⟩⟩
  refine En_lv (lv := [(0, .ref 159), (1, .int a), (2, .int z1)]) ⟨rfl, rfl, rfl, trivial⟩ ?_
  exact key7 (Int.toNat (z1.toInt + 1) + 1) z1 (by omega) (by omega) (by omega) (by omega) (LTI_0 (by omega))
/-- DoorSchoolModel.nearestTo(I)I -/
abbrev P_285x (σ0 : SG) (a : Int32) (m : Int32) : PO := fun v σ => WT σ ∧ Fr [] σ0 σ ∧ ∃ ret : Int32, v = some (.int ret) ∧ -ret.toInt - 1 ≤ 0 ∧ ret.toInt - 16 ≤ 0 ∧ ret.toInt - m.toInt + 1 ≤ 0 ∧ ret.toInt = NER (ci σ0 169) a.toInt m.toInt.toNat
set_option maxRecDepth 10000 in
set_option maxHeartbeats 4000000 in
theorem c_285x (σ0 : SG) (hσ0 : WT σ0) (a : Int32) (hl_a : 0 ≤ a.toInt) (hu_a : a.toInt ≤ 15) (m : Int32) (h_m : (σ0 159)[21]? = some (.int m)) : En 1 22 none mr_285 (P_285x σ0 a m) 0 [(0, .ref 159), (1, .int a)] [] σ0 := by
  obtain ⟨hl_m, hu_m⟩ := WT_int hσ0 (g := 35) (by decide +kernel) (by decide +kernel) (l := 0) (u := 17) (by decide +kernel) h_m
  have hF0 : Fr [] σ0 σ0 := Fr_rfl
  refine En_Ps 4 (pc' := 4) (lv' := [(3, .int ((Int32.ofInt 0))), (2, .int ((Int32.ofInt (-1)))), (0, .ref 159), (1, .int a)]) (st' := []) rfl ?_
  have key4 : ∀ (n4 : Nat) (y1 : Int32) (y2 : Int32), (-1) ≤ y1.toInt → y1.toInt ≤ 16 → 0 ≤ y2.toInt → y2.toInt ≤ 17 → y2.toInt - m.toInt ≤ 0 → y1.toInt - y2.toInt + 1 ≤ 0 → m.toInt - y2.toInt < (n4 : Int) → y1.toInt = NER (ci σ0 169) a.toInt (y2.toInt).toNat → En 1 22 none mr_285 (P_285x σ0 a m) 4 [(0, .ref 159), (1, .int a), (2, .int y1), (3, .int y2)] [] σ0 := by
    intro n4
    induction n4 with
    | zero =>
      intro y1 y2 h6 h7 h8 h9 h10 h11 h12 h13
      exfalso; omega
    | succ n4 ih4 =>
      intro y1 y2 h6 h7 h8 h9 h10 h11 h12 h13
      refine En_Ps 2 (pc' := 6) (lv' := [(0, .ref 159), (1, .int a), (2, .int y1), (3, .int y2)]) (st' := [.ref 159, .int y2]) rfl ?_
      refine En_getK (j := 21) h_m rfl rfl rfl tgz_159 (by decide +kernel) ?_
      refine En_icGe _ rfl rfl rfl (fun h14 => ?_) (fun h14 => ?_)
      · refine En_Ps 1 (pc' := 51) (lv' := [(0, .ref 159), (1, .int a), (2, .int y1), (3, .int y2)]) (st' := [.int y1]) rfl ?_
        exact En_ret (v := some (.int y1)) rfl rfl rfl ⟨hσ0, hF0, y1, rfl, ⟨by omega, by omega, by omega, NER_e h13 (by omega) (by omega)⟩⟩
      · refine En_Ps 2 (pc' := 14) (lv' := [(0, .ref 159), (1, .int a), (2, .int y1), (3, .int y2)]) (st' := [.int ((Int32.ofInt (-1))), .int y1]) rfl ?_
        refine En_icEq _ rfl (by decide : (Int32.ofInt (-1)).toInt = -1) rfl (fun h15 => ?_) (fun h15 => ?_)
        · refine En_Ps 3 (pc' := 47) (lv' := [(3, .int ((y2 + Int32.ofInt 1))), (2, .int y2), (0, .ref 159), (1, .int a)]) (st' := []) rfl ?_
          refine En_lv1 (addI rfl (by decide : (Int32.ofInt 1).toInt = 1) (by omega) (by omega)) (fun z16 h17 => ?_)
          refine En_Ps 1 (pc' := 4) (lv' := [(3, .int z16), (2, .int y2), (0, .ref 159), (1, .int a)]) (st' := []) rfl ?_
          refine En_lv (lv := [(0, .ref 159), (1, .int a), (2, .int y2), (3, .int z16)]) ⟨rfl, rfl, rfl, rfl, trivial⟩ ?_
          exact ih4 y2 z16 (by omega) (by omega) (by omega) (by omega) (by omega) (by omega) (by omega) (NEM_1 h13 (by omega) (by omega) (by omega) (by omega))
        · refine En_Ps 1 (pc' := 18) (lv' := [(0, .ref 159), (1, .int a), (2, .int y1), (3, .int y2)]) (st' := [.ref 159]) rfl ?_
          refine En_getU (j := 19) (u := 169) (g' := 45) (q := 0) rfl rfl rfl tgz_159 (by decide +kernel) hσ0 (by decide +kernel) (by decide +kernel) (fun h18 => ?_)
          refine En_Ps 1 (pc' := 22) (lv' := [(0, .ref 159), (1, .int a), (2, .int y1), (3, .int y2)]) (st' := [.int y2, .ref 169]) rfl ?_
          refine En_iald (l := 0) (u := 15) rfl rfl tgz_169 (by decide +kernel) hσ0 (by omega) (lnI (by decide +kernel : LN _ = 17) (by omega)) (FTsgl (by decide +kernel)) (fun z21 h20 h22 h23 => ?_)
          have h24 : ci σ0 169 (y2.toInt) = z21.toInt := ci_at h20 rfl
          refine En_Ps 2 (pc' := 25) (lv' := [(0, .ref 159), (1, .int a), (2, .int y1), (3, .int y2)]) (st' := [.int ((z21 ^^^ a))]) rfl ?_
          refine En_nam (fun z25 h26 => ?_)
          have h27 : z25.toInt = xN z21.toInt a.toInt := xor_v h26 rfl rfl (by omega) (by omega)
          have := xN_lt (X := z21.toInt) (Y := a.toInt) 4 (by omega) (by omega) (Int.lt_of_le_of_lt (by omega : _ ≤ (15 : Int)) (by decide)) (Int.lt_of_le_of_lt (by omega : _ ≤ (15 : Int)) (by decide))
          have two4 : ((2 ^ 4 : Nat) : Int) = 16 := by decide
          refine En_callS rfl rfl rfl rfl rfl rfl rfl rfl rfl (c_203a σ0 hσ0 z25 (geI rfl (by omega)) (leI rfl (by omega))) (by decide) (by decide) (fun v29 σ30 h28 => ?_)
          obtain ⟨h31, h32, z34, rfl, h33⟩ := h28
          have h35 := h33.2.2
          obtain rfl : σ0 = σ30 := Fr_nil h32
          refine En_Ps 1 (pc' := 29) (lv' := [(0, .ref 159), (1, .int a), (2, .int y1), (3, .int y2)]) (st' := [.ref 159, .int z34]) rfl ?_
          refine En_getK (j := 19) h18 rfl rfl rfl tgz_159 (by decide +kernel) ?_
          refine En_Ps 1 (pc' := 33) (lv' := [(0, .ref 159), (1, .int a), (2, .int y1), (3, .int y2)]) (st' := [.int y1, .ref 169, .int z34]) rfl ?_
          refine En_iald (l := 0) (u := 15) rfl rfl tgz_169 (by decide +kernel) hσ0 (by omega) (lnI (by decide +kernel : LN _ = 17) (by omega)) (FTsgl (by decide +kernel)) (fun z37 h36 h38 h39 => ?_)
          have h40 : ci σ0 169 (y1.toInt) = z37.toInt := ci_at h36 rfl
          refine En_Ps 2 (pc' := 36) (lv' := [(0, .ref 159), (1, .int a), (2, .int y1), (3, .int y2)]) (st' := [.int ((z37 ^^^ a)), .int z34]) rfl ?_
          refine En_nam (fun z41 h42 => ?_)
          have h43 : z41.toInt = xN z37.toInt a.toInt := xor_v h42 rfl rfl (by omega) (by omega)
          have := xN_lt (X := z37.toInt) (Y := a.toInt) 4 (by omega) (by omega) (Int.lt_of_le_of_lt (by omega : _ ≤ (15 : Int)) (by decide)) (Int.lt_of_le_of_lt (by omega : _ ≤ (15 : Int)) (by decide))
          have two4 : ((2 ^ 4 : Nat) : Int) = 16 := by decide
          refine En_callS rfl rfl rfl rfl rfl rfl rfl rfl rfl (c_203a σ0 hσ0 z41 (geI rfl (by omega)) (leI rfl (by omega))) (by decide) (by decide) (fun v45 σ46 h44 => ?_)
          obtain ⟨h47, h48, z50, rfl, h49⟩ := h44
          have h51 := h49.2.2
          obtain rfl : σ0 = σ46 := Fr_nil h48
          refine En_icGe _ rfl rfl rfl (fun h52 => ?_) (fun h52 => ?_)
          · refine En_Ps 1 (pc' := 47) (lv' := [(3, .int ((y2 + Int32.ofInt 1))), (0, .ref 159), (1, .int a), (2, .int y1)]) (st' := []) rfl ?_
            refine En_lv1 (addI rfl (by decide : (Int32.ofInt 1).toInt = 1) (by omega) (by omega)) (fun z53 h54 => ?_)
            refine En_Ps 1 (pc' := 4) (lv' := [(3, .int z53), (0, .ref 159), (1, .int a), (2, .int y1)]) (st' := []) rfl ?_
            refine En_lv (lv := [(0, .ref 159), (1, .int a), (2, .int y1), (3, .int z53)]) ⟨rfl, rfl, rfl, rfl, trivial⟩ ?_
            exact ih4 y1 z53 (by omega) (by omega) (by omega) (by omega) (by omega) (by omega) (by omega) ((by first | exact NEM_y (q := z25.toInt) (u := z34.toInt) (t := z41.toInt) (v := z50.toInt) h13 (by omega) (by omega) h24 (by omega) (by omega) h40 (by omega) (by omega) (by omega) (by omega) (by omega) | exact NEM_n (q := z25.toInt) (u := z34.toInt) (t := z41.toInt) (v := z50.toInt) h13 (by omega) (by omega) h24 (by omega) (by omega) h40 (by omega) (by omega) (by omega) (by omega) (by omega)))
          · refine En_Ps 3 (pc' := 47) (lv' := [(3, .int ((y2 + Int32.ofInt 1))), (2, .int y2), (0, .ref 159), (1, .int a)]) (st' := []) rfl ?_
            refine En_lv1 (addI rfl (by decide : (Int32.ofInt 1).toInt = 1) (by omega) (by omega)) (fun z55 h56 => ?_)
            refine En_Ps 1 (pc' := 4) (lv' := [(3, .int z55), (2, .int y2), (0, .ref 159), (1, .int a)]) (st' := []) rfl ?_
            refine En_lv (lv := [(0, .ref 159), (1, .int a), (2, .int y2), (3, .int z55)]) ⟨rfl, rfl, rfl, rfl, trivial⟩ ?_
            exact ih4 y2 z55 (by omega) (by omega) (by omega) (by omega) (by omega) (by omega) (by omega) ((by first | exact NEM_y (q := z25.toInt) (u := z34.toInt) (t := z41.toInt) (v := z50.toInt) h13 (by omega) (by omega) h24 (by omega) (by omega) h40 (by omega) (by omega) (by omega) (by omega) (by omega) | exact NEM_n (q := z25.toInt) (u := z34.toInt) (t := z41.toInt) (v := z50.toInt) h13 (by omega) (by omega) h24 (by omega) (by omega) h40 (by omega) (by omega) (by omega) (by omega) (by omega)))
  have := (by decide : (Int32.ofInt (-1)).toInt = -1)
  have := (by decide : (Int32.ofInt 0).toInt = 0)
  refine En_lv (lv := [(0, .ref 159), (1, .int a), (2, .int ((Int32.ofInt (-1)))), (3, .int ((Int32.ofInt 0)))]) ⟨rfl, rfl, rfl, rfl, trivial⟩ ?_
  exact key4 (Int.toNat (m.toInt) + 1) ((Int32.ofInt (-1))) ((Int32.ofInt 0)) (by omega) (by omega) (by omega) (by omega) (by omega) (by omega) (by omega) (NER_0 (by omega) (by omega))
/-- DoorSchoolModel.byLesson(II)I -/
abbrev P_204x (σ0 : SG) (a : Int32) (b : Int32) (m : Int32) : PO := fun v σ => WT σ ∧ Fr [] σ0 σ ∧ ∃ ret : Int32, v = some (.int ret) ∧ -ret.toInt - 1 ≤ 0 ∧ ret.toInt - 16 ≤ 0 ∧ ret.toInt - m.toInt + 1 ≤ 0 ∧ ((a.toInt ≠ 1 → ret.toInt = BYL a.toInt (ci σ0 169) m.toInt b.toInt) ∧ (a.toInt = 1 → ret.toInt = -1))
set_option maxRecDepth 10000 in
set_option maxHeartbeats 4000000 in
theorem c_204x (σ0 : SG) (hσ0 : WT σ0) (a : Int32) (b : Int32) (hl_a : 0 ≤ a.toInt) (hu_a : a.toInt ≤ 2) (hl_b : 0 ≤ b.toInt) (hu_b : b.toInt ≤ 15) (m : Int32) (h_m : (σ0 159)[21]? = some (.int m)) : En 2 45 none mr_204 (P_204x σ0 a b m) 0 [(0, .ref 159), (1, .int a), (2, .int b)] [] σ0 := by
  obtain ⟨hl_m, hu_m⟩ := WT_int hσ0 (g := 35) (by decide +kernel) (by decide +kernel) (l := 0) (u := 17) (by decide +kernel) h_m
  have hF0 : Fr [] σ0 σ0 := Fr_rfl
  refine En_Ps 1 (pc' := 1) (lv' := [(0, .ref 159), (1, .int a), (2, .int b)]) (st' := [.int a]) rfl ?_
  refine En_iNe _ rfl rfl (fun h1 => ?_) (fun h1 => ?_)
  · refine En_Ps 2 (pc' := 14) (lv' := [(0, .ref 159), (1, .int a), (2, .int b)]) (st' := [.int ((Int32.ofInt 2)), .int a]) rfl ?_
    refine En_icNe _ rfl (by decide : (Int32.ofInt 2).toInt = 2) rfl (fun h2 => ?_) (fun h2 => ?_)
    · refine En_Ps 1 (pc' := 26) (lv' := [(0, .ref 159), (1, .int a), (2, .int b)]) (st' := [.int ((Int32.ofInt (-1)))]) rfl ?_
      refine En_top (by decide : (Int32.ofInt (-1)).toInt = -1) (fun z3 h4 => ?_)
      exact En_ret (v := some (.int z3)) rfl rfl rfl ⟨hσ0, hF0, z3, rfl, ⟨by omega, by omega, by omega, ⟨fun hh => by exfalso; omega, fun _ => by omega⟩⟩⟩
    · refine En_Ps 2 (pc' := 19) (lv' := [(0, .ref 159), (1, .int a), (2, .int b)]) (st' := [.int b, .ref 159]) rfl ?_
      refine En_callV rfl rfl rfl rfl rfl rfl rfl rfl tgz_159 (by decide +kernel) rfl (c_285x σ0 hσ0 b (geI rfl (by omega)) (leI rfl (by omega)) m h_m) (by decide) (by decide) (fun v6 σ7 h5 => ?_)
      obtain ⟨h8, h9, z11, rfl, h10⟩ := h5
      have h12 := h10.2.2.2
      obtain rfl : σ0 = σ7 := Fr_nil h9
      refine En_Ps 1 (pc' := 26) (lv' := [(0, .ref 159), (1, .int a), (2, .int b)]) (st' := [.int z11]) rfl ?_
      exact En_ret (v := some (.int z11)) rfl rfl rfl ⟨hσ0, hF0, z11, rfl, ⟨by omega, by omega, by omega, ⟨fun _ => BYL_2 (by omega) h12, fun hh => by exfalso; omega⟩⟩⟩
  · refine En_Ps 2 (pc' := 6) (lv' := [(0, .ref 159), (1, .int a), (2, .int b)]) (st' := [.int b, .ref 159]) rfl ?_
    refine En_callV rfl rfl rfl rfl rfl rfl rfl rfl tgz_159 (by decide +kernel) rfl (c_270x σ0 hσ0 b m h_m) (by decide) (by decide) (fun v14 σ15 h13 => ?_)
    obtain ⟨h16, h17, z19, rfl, h18⟩ := h13
    have h20 := h18.2.2.2
    obtain rfl : σ0 = σ15 := Fr_nil h17
    refine En_Ps 1 (pc' := 26) (lv' := [(0, .ref 159), (1, .int a), (2, .int b)]) (st' := [.int z19]) rfl ?_
    exact En_ret (v := some (.int z19)) rfl rfl rfl ⟨hσ0, hF0, z19, rfl, ⟨by omega, by omega, by omega, ⟨fun _ => BYL_0 (by omega) h20, fun hh => by exfalso; omega⟩⟩⟩
/-- DoorSchoolModel.learns(I)I -/
abbrev P_274x (σ0 : SG) (a : Int32) (s : Int32) (sc : Int32) (rm : Int32) (lm : Int32) : PO := fun v σ => WT σ ∧ Fr [] σ0 σ ∧ ∃ ret : Int32, v = some (.int ret) ∧ ret.toInt = LRN a.toInt (kI sc.toInt s.toInt) rm.toInt lm.toInt (ci σ0 169) (ci σ0 170) (ci σ0 168)
set_option maxRecDepth 10000 in
set_option maxHeartbeats 4000000 in
theorem c_274x (σ0 : SG) (hσ0 : WT σ0) (a : Int32) (hl_a : 0 ≤ a.toInt) (hu_a : a.toInt ≤ 2) (s : Int32) (h_s : (σ0 160)[(0 : Int).toNat]? = some (.int s)) (sc : Int32) (h_sc : (σ0 160)[(7 : Int).toNat]? = some (.int sc)) (rm : Int32) (h_rm : (σ0 159)[18]? = some (.int rm)) (lm : Int32) (h_lm : (σ0 159)[21]? = some (.int lm)) (hD : ∀ i : Int, 0 ≤ i → i < rm.toInt → 0 ≤ ci σ0 168 i ∧ ci σ0 168 i ≤ 65535) : En 3 67 none mr_274 (P_274x σ0 a s sc rm lm) 0 [(0, .ref 159), (1, .int a)] [] σ0 := by
  obtain ⟨hl_s, hu_s⟩ := WT_int hσ0 (g := 36) (by decide +kernel) (by decide +kernel) (l := 0) (u := 4) (by decide +kernel) h_s
  obtain ⟨hl_sc, hu_sc⟩ := WT_int hσ0 (g := 36) (by decide +kernel) (by decide +kernel) (l := 0) (u := 1600) (by decide +kernel) h_sc
  obtain ⟨hl_rm, hu_rm⟩ := WT_int hσ0 (g := 35) (by decide +kernel) (by decide +kernel) (l := 0) (u := 81) (by decide +kernel) h_rm
  obtain ⟨hl_lm, hu_lm⟩ := WT_int hσ0 (g := 35) (by decide +kernel) (by decide +kernel) (l := 0) (u := 17) (by decide +kernel) h_lm
  have hF0 : Fr [] σ0 σ0 := Fr_rfl
  have := kI_rng sc.toInt (s := s.toInt) (by omega) (by omega)
  refine En_Ps 2 (pc' := 2) (lv' := [(0, .ref 159), (1, .int a)]) (st' := [.int ((Int32.ofInt 1)), .int a]) rfl ?_
  refine En_icNe _ rfl (by decide : (Int32.ofInt 1).toInt = 1) rfl (fun h1 => ?_) (fun h1 => ?_)
  · refine En_Ps 4 (pc' := 30) (lv' := [(3, .int ((Int32.ofInt 0))), (2, .int ((Int32.ofInt 0))), (0, .ref 159), (1, .int a)]) (st' := []) rfl ?_
    have key30 : ∀ (n30 : Nat) (y2 : Int32) (y3 : Int32), 0 ≤ y2.toInt → y2.toInt ≤ 65535 → 0 ≤ y3.toInt → y3.toInt ≤ 16 → -y3.toInt + 16 < (n30 : Int) → y2.toInt = LBT a.toInt (ci σ0 169) (ci σ0 170) lm.toInt (y3.toInt).toNat → y3.toInt ≤ kI sc.toInt s.toInt → En 3 67 none mr_274 (P_274x σ0 a s sc rm lm) 30 [(0, .ref 159), (1, .int a), (2, .int y2), (3, .int y3)] [] σ0 := by
      intro n30
      induction n30 with
      | zero =>
        intro y2 y3 h7 h8 h9 h10 h11 h12 h13
        exfalso; omega
      | succ n30 ih30 =>
        intro y2 y3 h7 h8 h9 h10 h11 h12 h13
        refine En_Ps 2 (pc' := 32) (lv' := [(0, .ref 159), (1, .int a), (2, .int y2), (3, .int y3)]) (st' := [.ref 159, .int y3]) rfl ?_
        refine En_callV rfl rfl rfl rfl rfl rfl rfl rfl tgz_159 (by decide +kernel) rfl (c_269 σ0 hσ0 s h_s sc h_sc) (by decide) (by decide) (fun v15 σ16 h14 => ?_)
        obtain ⟨h17, h18, z20, rfl, h19⟩ := h14
        have h21 := h19.2.2
        obtain rfl : σ0 = σ16 := Fr_nil h18
        refine En_icGe _ rfl rfl rfl (fun h22 => ?_) (fun h22 => ?_)
        · refine En_Ps 1 (pc' := 80) (lv' := [(0, .ref 159), (1, .int a), (2, .int y2), (3, .int y3)]) (st' := [.int y2]) rfl ?_
          exact En_ret (v := some (.int y2)) rfl rfl rfl ⟨hσ0, hF0, y2, rfl, LRN_2 (by omega) (LBT_e h12 (by omega) (by omega))⟩
        · refine En_Ps 3 (pc' := 41) (lv' := [(0, .ref 159), (1, .int a), (2, .int y2), (3, .int y3)]) (st' := [.int y3, .int a, .ref 159]) rfl ?_
          refine En_callV rfl rfl rfl rfl rfl rfl rfl rfl tgz_159 (by decide +kernel) rfl (c_204x σ0 hσ0 a y3 (geI rfl (by omega)) (leI rfl (by omega)) (geI rfl (by omega)) (leI rfl (by omega)) lm h_lm) (by decide) (by decide) (fun v24 σ25 h23 => ?_)
          obtain ⟨h26, h27, z29, rfl, h28⟩ := h23
          have h30 := h28.2.2.2
          obtain rfl : σ0 = σ25 := Fr_nil h27
          refine En_Ps 4 (pc' := 50) (lv' := [(4, .int z29), (0, .ref 159), (1, .int a), (2, .int y2), (3, .int y3)]) (st' := [.int ((Int32.ofInt (-1))), .int z29, .int y2]) rfl ?_
          refine En_icEq _ rfl (by decide : (Int32.ofInt (-1)).toInt = -1) rfl (fun h31 => ?_) (fun h31 => ?_)
          · refine En_Ps 2 (pc' := 72) (lv' := [(4, .int z29), (0, .ref 159), (1, .int a), (2, .int y2), (3, .int y3)]) (st' := [.int ((y2 ||| ((Int32.ofInt 0))))]) rfl ?_
            refine En_nam (fun z32 h33 => ?_)
            have h34 : z32.toInt = oN y2.toInt 0 := or_v h33 rfl (by decide : (Int32.ofInt 0).toInt = 0) (by omega) (by omega)
            have := oN_lt (X := y2.toInt) (Y := 0) 16 (by omega) (by omega) (Int.lt_of_le_of_lt (by omega : _ ≤ (65535 : Int)) (by decide)) (Int.lt_of_le_of_lt (by omega : _ ≤ (65535 : Int)) (by decide))
            have two16 : ((2 ^ 16 : Nat) : Int) = 65536 := by decide
            refine En_Ps 2 (pc' := 76) (lv' := [(3, .int ((y3 + Int32.ofInt 1))), (2, .int z32), (4, .int z29), (0, .ref 159), (1, .int a)]) (st' := []) rfl ?_
            refine En_lv1 (addI rfl (by decide : (Int32.ofInt 1).toInt = 1) (by omega) (by omega)) (fun z35 h36 => ?_)
            refine En_Ps 1 (pc' := 30) (lv' := [(3, .int z35), (2, .int z32), (4, .int z29), (0, .ref 159), (1, .int a)]) (st' := []) rfl ?_
            refine En_lv (lv := [(0, .ref 159), (1, .int a), (2, .int z32), (3, .int z35)]) ⟨rfl, rfl, rfl, rfl, trivial⟩ ?_
            exact ih30 z32 z35 (by omega) (by omega) (by omega) (by omega) (by omega) (LBT_z (q := 0) (by omega) h12 (h30.1 (by omega)) (by omega) (by omega) (by omega) (by omega) (by omega)) ((by omega))
          · refine En_Ps 1 (pc' := 54) (lv' := [(4, .int z29), (0, .ref 159), (1, .int a), (2, .int y2), (3, .int y3)]) (st' := [.ref 159, .int y2]) rfl ?_
            refine En_getU (j := 20) (u := 170) (g' := 46) (q := 0) rfl rfl rfl tgz_159 (by decide +kernel) hσ0 (by decide +kernel) (by decide +kernel) (fun h37 => ?_)
            refine En_Ps 1 (pc' := 59) (lv' := [(4, .int z29), (0, .ref 159), (1, .int a), (2, .int y2), (3, .int y3)]) (st' := [.int z29, .ref 170, .int y2]) rfl ?_
            refine En_iald (l := 0) (u := 1) rfl rfl tgz_170 (by decide +kernel) hσ0 (by omega) (lnI (by decide +kernel : LN _ = 17) (by omega)) (FTsgl (by decide +kernel)) (fun z40 h39 h41 h42 => ?_)
            have h43 : ci σ0 170 (z29.toInt) = z40.toInt := ci_at h39 rfl
            refine En_Ps 1 (pc' := 61) (lv' := [(4, .int z29), (0, .ref 159), (1, .int a), (2, .int y2), (3, .int y3)]) (st' := [.int ((Int32.ofInt 1)), .int z40, .int y2]) rfl ?_
            refine En_icNe _ rfl (by decide : (Int32.ofInt 1).toInt = 1) rfl (fun h44 => ?_) (fun h44 => ?_)
            · refine En_Ps 2 (pc' := 72) (lv' := [(4, .int z29), (0, .ref 159), (1, .int a), (2, .int y2), (3, .int y3)]) (st' := [.int ((y2 ||| ((Int32.ofInt 0))))]) rfl ?_
              refine En_nam (fun z45 h46 => ?_)
              have h47 : z45.toInt = oN y2.toInt 0 := or_v h46 rfl (by decide : (Int32.ofInt 0).toInt = 0) (by omega) (by omega)
              have := oN_lt (X := y2.toInt) (Y := 0) 16 (by omega) (by omega) (Int.lt_of_le_of_lt (by omega : _ ≤ (65535 : Int)) (by decide)) (Int.lt_of_le_of_lt (by omega : _ ≤ (65535 : Int)) (by decide))
              have two16 : ((2 ^ 16 : Nat) : Int) = 65536 := by decide
              refine En_Ps 2 (pc' := 76) (lv' := [(3, .int ((y3 + Int32.ofInt 1))), (2, .int z45), (4, .int z29), (0, .ref 159), (1, .int a)]) (st' := []) rfl ?_
              refine En_lv1 (addI rfl (by decide : (Int32.ofInt 1).toInt = 1) (by omega) (by omega)) (fun z48 h49 => ?_)
              refine En_Ps 1 (pc' := 30) (lv' := [(3, .int z48), (2, .int z45), (4, .int z29), (0, .ref 159), (1, .int a)]) (st' := []) rfl ?_
              refine En_lv (lv := [(0, .ref 159), (1, .int a), (2, .int z45), (3, .int z48)]) ⟨rfl, rfl, rfl, rfl, trivial⟩ ?_
              exact ih30 z45 z48 (by omega) (by omega) (by omega) (by omega) (by omega) (LBT_z (q := 0) (by omega) h12 (h30.1 (by omega)) (by omega) (by omega) (by omega) (by omega) (by omega)) ((by omega))
            · refine En_Ps 3 (pc' := 67) (lv' := [(4, .int z29), (0, .ref 159), (1, .int a), (2, .int y2), (3, .int y3)]) (st' := [.int ((((Int32.ofInt 1)) <<< (y3 &&& 31))), .int y2]) rfl ?_
              refine En_nam (fun z50 h51 => ?_)
              have h52 : z50.toInt = pI y3.toInt := shl_v h51 rfl (by omega) (by omega)
              have := pI_pos y3.toInt
              have : pI y3.toInt ≤ 32768 := pI_mono (Y := 15) (by omega)
              refine En_Ps 2 (pc' := 72) (lv' := [(4, .int z29), (0, .ref 159), (1, .int a), (2, .int y2), (3, .int y3)]) (st' := [.int ((y2 ||| z50))]) rfl ?_
              refine En_nam (fun z53 h54 => ?_)
              have h55 : z53.toInt = oN y2.toInt z50.toInt := or_v h54 rfl rfl (by omega) (by omega)
              have := oN_lt (X := y2.toInt) (Y := z50.toInt) 16 (by omega) (by omega) (Int.lt_of_le_of_lt (by omega : _ ≤ (65535 : Int)) (by decide)) (Int.lt_of_le_of_lt (by omega : _ ≤ (65535 : Int)) (by decide))
              have two16 : ((2 ^ 16 : Nat) : Int) = 65536 := by decide
              refine En_Ps 2 (pc' := 76) (lv' := [(3, .int ((y3 + Int32.ofInt 1))), (2, .int z53), (4, .int z29), (0, .ref 159), (1, .int a)]) (st' := []) rfl ?_
              refine En_lv1 (addI rfl (by decide : (Int32.ofInt 1).toInt = 1) (by omega) (by omega)) (fun z56 h57 => ?_)
              refine En_Ps 1 (pc' := 30) (lv' := [(3, .int z56), (2, .int z53), (4, .int z29), (0, .ref 159), (1, .int a)]) (st' := []) rfl ?_
              refine En_lv (lv := [(0, .ref 159), (1, .int a), (2, .int z53), (3, .int z56)]) ⟨rfl, rfl, rfl, rfl, trivial⟩ ?_
              exact ih30 z53 z56 (by omega) (by omega) (by omega) (by omega) (by omega) (LBT_y (q := z50.toInt) (by omega) h12 (h30.1 (by omega)) (by omega) (by omega) (by omega) (by omega) (by omega)) ((by omega))
    have := (by decide : (Int32.ofInt 0).toInt = 0)
    have := (by decide : (Int32.ofInt 0).toInt = 0)
    refine En_lv (lv := [(0, .ref 159), (1, .int a), (2, .int ((Int32.ofInt 0))), (3, .int ((Int32.ofInt 0)))]) ⟨rfl, rfl, rfl, rfl, trivial⟩ ?_
    exact key30 (Int.toNat (16) + 1) ((Int32.ofInt 0)) ((Int32.ofInt 0)) (by omega) (by omega) (by omega) (by omega) (by omega) (LBT_0 (by omega) (by omega)) ((by omega))
  · refine En_Ps 1 (pc' := 6) (lv' := [(0, .ref 159), (1, .int a)]) (st' := [.ref 159]) rfl ?_
    refine En_callV rfl rfl rfl rfl rfl rfl rfl rfl tgz_159 (by decide +kernel) rfl (c_229x σ0 hσ0 rm h_rm lm h_lm hD) (by decide) (by decide) (fun v59 σ60 h58 => ?_)
    obtain ⟨h61, h62, z64, rfl, h63⟩ := h58
    have h65 := h63.2.2
    obtain rfl : σ0 = σ60 := Fr_nil h62
    refine En_Ps 3 (pc' := 12) (lv' := [(2, .int z64), (0, .ref 159), (1, .int a)]) (st' := [.int ((Int32.ofInt (-1))), .int z64]) rfl ?_
    refine En_icNe _ rfl (by decide : (Int32.ofInt (-1)).toInt = -1) rfl (fun h66 => ?_) (fun h66 => ?_)
    · refine En_Ps 1 (pc' := 20) (lv' := [(2, .int z64), (0, .ref 159), (1, .int a)]) (st' := [.ref 159]) rfl ?_
      refine En_getU (j := 17) (u := 168) (g' := 44) (q := 0) rfl rfl rfl tgz_159 (by decide +kernel) hσ0 (by decide +kernel) (by decide +kernel) (fun h67 => ?_)
      refine En_Ps 1 (pc' := 24) (lv' := [(2, .int z64), (0, .ref 159), (1, .int a)]) (st' := [.int z64, .ref 168]) rfl ?_
      refine En_iald (l := (-2147483648)) (u := 2147483647) rfl rfl tgz_168 (by decide +kernel) hσ0 (by omega) (lnI (by decide +kernel : LN _ = 81) (by omega)) (FTsgl (by decide +kernel)) (fun z70 h69 h71 h72 => ?_)
      have h73 : ci σ0 168 (z64.toInt) = z70.toInt := ci_at h69 rfl
      exact En_ret (v := some (.int z70)) rfl rfl rfl ⟨hσ0, hF0, z70, rfl, LRN_1 (by omega) h65 (by omega) h73.symm⟩
    · refine En_Ps 2 (pc' := 25) (lv' := [(2, .int z64), (0, .ref 159), (1, .int a)]) (st' := [.int ((Int32.ofInt 0))]) rfl ?_
      refine En_top (by decide : (Int32.ofInt 0).toInt = 0) (fun z74 h75 => ?_)
      exact En_ret (v := some (.int z74)) rfl rfl rfl ⟨hσ0, hF0, z74, rfl, LRN_0 (by omega) h65 (by omega) (by omega)⟩
/-- DoorSchoolModel.deedsOfDoor(I)I -/
abbrev P_213x (σ0 : SG) (a : Int32) (s : Int32) (sc : Int32) : PO := fun v σ => WT σ ∧ Fr [(35, 18), (35, 21), (42, 0), (43, 0), (44, 0), (45, 0), (46, 0)] σ0 σ ∧ ∃ m1 : Int32, (σ 159)[21]? = some (.int m1) ∧ ∃ ret : Int32, v = some (.int ret) ∧ -ret.toInt ≤ 0 ∧ ret.toInt - 65535 ≤ 0 ∧ -m1.toInt ≤ 0 ∧ m1.toInt - 13 ≤ 0 ∧ -m1.toInt + s.toInt - 4 ≤ 0 ∧ m1.toInt - s.toInt - 13 ≤ 0 ∧ -m1.toInt + sc.toInt - 1600 ≤ 0 ∧ m1.toInt - sc.toInt - 12 ≤ 0 ∧ ret.toInt = DDw (wf σ0) a.toInt
set_option maxRecDepth 10000 in
set_option maxHeartbeats 4000000 in
theorem c_213x (σ0 : SG) (hσ0 : WT σ0) (a : Int32) (hl_a : 0 ≤ a.toInt) (hu_a : a.toInt ≤ 3) (s : Int32) (h_s : (σ0 160)[(0 : Int).toNat]? = some (.int s)) (sc : Int32) (h_sc : (σ0 160)[(7 : Int).toNat]? = some (.int sc)) (hp0 : -sc.toInt + 1 ≤ 0) : En 4 91 none mr_213 (P_213x σ0 a s sc) 0 [(0, .ref 159), (1, .int a)] [] σ0 := by
  obtain ⟨hl_s, hu_s⟩ := WT_int hσ0 (g := 36) (by decide +kernel) (by decide +kernel) (l := 0) (u := 4) (by decide +kernel) h_s
  obtain ⟨hl_sc, hu_sc⟩ := WT_int hσ0 (g := 36) (by decide +kernel) (by decide +kernel) (l := 0) (u := 1600) (by decide +kernel) h_sc
  have hF0 : Fr [(35, 18), (35, 21), (42, 0), (43, 0), (44, 0), (45, 0), (46, 0)] σ0 σ0 := Fr_rfl
  have kv := (kI_val sc.toInt s.toInt).2 (by omega)
  have := pI_rng (s := s.toInt) (by omega) (by omega)
  refine En_Ps 1 (pc' := 1) (lv' := [(0, .ref 159), (1, .int a)]) (st' := [.ref 159]) rfl ?_
  refine En_callV rfl rfl rfl rfl rfl rfl rfl rfl tgz_159 (by decide +kernel) rfl (c_272x σ0 hσ0 s h_s sc h_sc) (by decide) (by decide) (fun v2 σ3 h1 => ?_)
  obtain ⟨h4, h5, z7, h8, rfl, h6⟩ := h1
  have h9 := h6.2.2.2.2.2.2
  have h10 := Fr_trans hF0 h5 (by decide +kernel)
  have h11 : wf σ3 = wf σ0 := wf_fr h5 (by decide +kernel)
  have h12 : z7.toInt = nR s.toInt := h9.1 (by omega)
  have h13 : wf σ0 0 = s.toInt := ci_at h_s rfl
  refine En_Ps 3 (pc' := 7) (lv' := [(0, .ref 159), (1, .int a)]) (st' := [.int a, .ref 159, .ref 159]) rfl ?_
  obtain ⟨z16, h15, h17, h18⟩ := WT_peekI h4 tgz_160 (by decide +kernel : FT 36 (2 : Int).toNat = (0, 0, 4)) (by decide +kernel)
  refine En_callV rfl rfl rfl rfl rfl rfl rfl rfl tgz_159 (by decide +kernel) rfl (c_305x σ3 h4 a (geI rfl (by omega)) (leI rfl (by omega)) z16 h15) (by decide) (by decide) (fun v20 σ21 h19 => ?_)
  obtain ⟨h22, h23, z25, rfl, h24⟩ := h19
  have h26 := h24.2.2
  obtain rfl : σ3 = σ21 := Fr_nil h23
  have h27 : z25.toInt = rlW (wf σ0) a.toInt := by rw [← h11]; exact h26
  refine En_callV rfl rfl rfl rfl rfl rfl rfl rfl tgz_159 (by decide +kernel) rfl (c_271x σ3 h4 z25 (geI rfl (by omega)) (leI rfl (by omega))) (by decide) (by decide) (fun v29 σ30 h28 => ?_)
  obtain ⟨h31, h32, z34, h35, rfl, h33⟩ := h28
  have h36 := h33.2.2
  have h37 := Fr_trans h10 h32 (by decide +kernel)
  have h38 : wf σ30 = wf σ0 := (wf_fr h32 (by decide +kernel)).trans h11
  have h39 : z34.toInt = wf σ0 (12 + 4 * z25.toInt) := by rw [← h11]; exact h36.1
  have h40 : LSQ σ30 (wf σ0) z25.toInt z34.toInt := by rw [← h11]; exact h36.2
  have h41 : TB σ30 166 167 168 (kI sc.toInt s.toInt) z7.toInt := TB_fr h9.2 h32 tgz_166 tgz_167 tgz_168 (by decide +kernel)
  refine En_Ps 4 (pc' := 17) (lv' := [(0, .ref 159), (1, .int a)]) (st' := [.int a, .ref 159, .ref 159, .ref 159]) rfl ?_
  refine En_callV rfl rfl rfl rfl rfl rfl rfl rfl tgz_159 (by decide +kernel) rfl (c_305x σ30 h31 a (geI rfl (by omega)) (leI rfl (by omega)) z16 ((h32 _ _ (inWa tgz_160 (by decide +kernel))).trans h15)) (by decide) (by decide) (fun v43 σ44 h42 => ?_)
  obtain ⟨h45, h46, z48, rfl, h47⟩ := h42
  have h49 := h47.2.2
  obtain rfl : σ30 = σ44 := Fr_nil h46
  have h50 : z48.toInt = rlW (wf σ0) a.toInt := by rw [← h38]; exact h49
  have h51 : z48.toInt = z25.toInt := by omega
  refine En_Ps 1 (pc' := 21) (lv' := [(0, .ref 159), (1, .int a)]) (st' := [.int ((Int32.ofInt 0)), .int z48, .ref 159, .ref 159]) rfl ?_
  have := (by decide : ((Int32.ofInt 0)).toInt = 0)
  obtain ⟨z52, h53, h54, h55⟩ := WT_peekJ (J := (4 * z48.toInt + ((Int32.ofInt 0)).toInt + 10)) (l := 0) (u := 2) h31 tgz_160 (by decide +kernel) (by omega) (lnI (by decide +kernel : LN _ = 226) (by omega)) (FTrow 36 10 4 4 (by decide +kernel) (by omega) (by omega) (by omega))
  have := (by decide : ((Int32.ofInt 0)).toInt = 0)
  refine En_callV rfl rfl rfl rfl rfl rfl rfl rfl tgz_159 (by decide +kernel) rfl (c_290a σ30 h31 z48 ((Int32.ofInt 0)) (geI rfl (by omega)) (leI rfl (by omega)) (geI (by decide : (Int32.ofInt 0).toInt = 0) (by omega)) (leI (by decide : (Int32.ofInt 0).toInt = 0) (by omega)) z52 h53) (by decide) (by decide) (fun v57 σ58 h56 => ?_)
  obtain ⟨h59, h60, z62, rfl, h61⟩ := h56
  obtain rfl : σ30 = σ58 := Fr_nil h60
  have h63 : wf σ0 (10 + 4 * z25.toInt) = z62.toInt := by rw [← h38]; exact (ci_at h53 (by omega)).trans (by omega)
  refine En_callV rfl rfl rfl rfl rfl rfl rfl rfl tgz_159 (by decide +kernel) rfl (c_274x σ30 h31 z62 (geI rfl (by omega)) (leI rfl (by omega)) s ((h32 _ _ (inWa tgz_160 (by decide +kernel))).trans ((h5 _ _ (inWa tgz_160 (by decide +kernel))).trans h_s)) sc ((h32 _ _ (inWa tgz_160 (by decide +kernel))).trans ((h5 _ _ (inWa tgz_160 (by decide +kernel))).trans h_sc)) z7 ((h32 _ _ (inW tgz_159 (by decide +kernel))).trans h8) z34 h35 (fun i i0 i1 => TB_rg h41 (by omega) i i0 (by omega))) (by decide) (by decide) (fun v65 σ66 h64 => ?_)
  obtain ⟨h67, h68, z70, rfl, h69⟩ := h64
  have h71 := h69
  obtain rfl : σ30 = σ66 := Fr_nil h68
  have h72 : z70.toInt = DDw (wf σ0) a.toInt := DDw_of (r := z25.toInt) h27 h63 h39.symm (by rw [h13]; exact kv) (by rw [h13]; exact h12) (by omega) (fun i i0 i1 => (h40 i i0 i1).1) (fun i i0 i1 => (h40 i i0 i1).2) (fun i i0 i1 => by rw [h13, ← kv]; exact TB_D h41 i i0 i1) h71
  have h73 := DDw_rg (w := wf σ0) (d := a.toInt) (by omega) (by omega)
  exact En_ret (v := some (.int z70)) rfl rfl rfl ⟨h31, h37, z34, h35, z70, rfl, ⟨by omega, by omega, by omega, by omega, by omega, by omega, by omega, by omega, h72⟩⟩
/-- DoorSchoolModel.isKnock(J)Z -/
abbrev P_259x (σ0 : SG) (a : Int64) (s : Int32) (sc : Int32) : PO := fun v σ => WT σ ∧ Fr [] σ0 σ ∧ ∃ ret : Int32, v = some (.int ret) ∧ -ret.toInt ≤ 0 ∧ ret.toInt - 1 ≤ 0 ∧ Imp (-ret.toInt + 1 ≤ 0) (-a.toInt ≤ 0 ∧ a.toInt - 15 ≤ 0) ∧ ((ret.toInt = 1 ∧ 0 < sc.toInt ∧ 0 ≤ a.toInt ∧ a.toInt < pI s.toInt) ∨ (ret.toInt = 0 ∧ (sc.toInt ≤ 0 ∨ a.toInt < 0 ∨ pI s.toInt ≤ a.toInt)))
set_option maxRecDepth 10000 in
set_option maxHeartbeats 4000000 in
theorem c_259x (σ0 : SG) (hσ0 : WT σ0) (a : Int64) (s : Int32) (h_s : (σ0 160)[(0 : Int).toNat]? = some (.int s)) (sc : Int32) (h_sc : (σ0 160)[(7 : Int).toNat]? = some (.int sc)) : En 2 40 none mr_259 (P_259x σ0 a s sc) 0 [(0, .ref 159), (1, .long a)] [] σ0 := by
  obtain ⟨hl_s, hu_s⟩ := WT_int hσ0 (g := 36) (by decide +kernel) (by decide +kernel) (l := 0) (u := 4) (by decide +kernel) h_s
  obtain ⟨hl_sc, hu_sc⟩ := WT_int hσ0 (g := 36) (by decide +kernel) (by decide +kernel) (l := 0) (u := 1600) (by decide +kernel) h_sc
  have hF0 : Fr [] σ0 σ0 := Fr_rfl
  have := kI_val sc.toInt s.toInt
  refine En_Ps 3 (pc' := 3) (lv' := [(0, .ref 159), (1, .long a)]) (st' := [.ref 159, .long ((Int64.ofNat 0)), .long a]) rfl ?_
  refine En_callV rfl rfl rfl rfl rfl rfl rfl rfl tgz_159 (by decide +kernel) rfl (c_269 σ0 hσ0 s h_s sc h_sc) (by decide) (by decide) (fun v2 σ3 h1 => ?_)
  obtain ⟨h4, h5, z7, rfl, h6⟩ := h1
  have h8 := h6.2.2
  have h9 := Fr_trans hF0 h5 (by decide +kernel)
  have h10 := h8
  refine En_Ps 2 (pc' := 8) (lv' := [(0, .ref 159), (1, .long a)]) (st' := [.int ((z7 - ((Int32.ofInt 1)))), .long ((Int64.ofNat 0)), .long a]) rfl ?_
  refine En_top (subI rfl (by decide : (Int32.ofInt 1).toInt = 1) (by omega) (by omega)) (fun z11 h12 => ?_)
  refine En_Ps 1 (pc' := 9) (lv' := [(0, .ref 159), (1, .long a)]) (st' := [.long z11.toInt64, .long ((Int64.ofNat 0)), .long a]) rfl ?_
  have := (by decide : ((Int64.ofNat 0)).toInt = 0)
  have : z11.toInt64.toInt = z11.toInt := (i2lI rfl)
  refine En_callS rfl rfl rfl rfl rfl rfl rfl rfl rfl (c_249 σ3 h4 a ((Int64.ofNat 0)) z11.toInt64) (by decide) (by decide) (fun v14 σ15 h13 => ?_)
  obtain ⟨h16, h17, z19, rfl, h18⟩ := h13
  have h20 := Fr_trans h9 h17 (by decide +kernel)
  exact En_ret (v := some (.int z19)) rfl rfl (retZ rfl rfl (by omega) (by omega)) ⟨h16, h20, z19, rfl, ⟨by omega, by omega, fun _ => by omega, (by omega)⟩⟩
/-- DoorSchoolModel.back(I)I -/
abbrev P_199x (σ0 : SG) (a : Int32) : PO := fun v σ => WT σ ∧ Fr [(36, 0)] σ0 σ ∧ ∃ ret : Int32, v = some (.int ret) ∧ -ret.toInt - 6 ≤ 0 ∧ ret.toInt ≤ 0 ∧ (WI σ ∧ BCK (ci σ0 162 a.toInt) a.toInt ret.toInt ∧ BKM σ0 σ a.toInt (ci σ0 162 a.toInt))
set_option maxRecDepth 10000 in
set_option maxHeartbeats 4000000 in
theorem c_199x (σ0 : SG) (hσ0 : WT σ0) (a : Int32) (hI : WI σ0) : En 1 25 none mr_199 (P_199x σ0 a) 0 [(0, .ref 159), (1, .int a)] [] σ0 := by
  have hF0 : Fr [(36, 0)] σ0 σ0 := Fr_rfl
  refine En_Ps 4 (pc' := 6) (lv' := [(0, .ref 159), (1, .int a)]) (st' := [.long ((2 : Int64)), .long ((Int64.ofNat 0)), .long a.toInt64]) rfl ?_
  have : a.toInt64.toInt = a.toInt := (i2lI rfl)
  have := (by decide : ((Int64.ofNat 0)).toInt = 0)
  have := (by decide : ((2 : Int64)).toInt = 2)
  refine En_callS rfl rfl rfl rfl rfl rfl rfl rfl rfl (c_249 σ0 hσ0 a.toInt64 ((Int64.ofNat 0)) ((2 : Int64))) (by decide) (by decide) (fun v2 σ3 h1 => ?_)
  obtain ⟨h4, h5, z7, rfl, h6⟩ := h1
  obtain rfl : σ0 = σ3 := Fr_nil h5
  refine En_iNe _ rfl rfl (fun h8 => ?_) (fun h8 => ?_)
  · refine En_Ps 1 (pc' := 16) (lv' := [(0, .ref 159), (1, .int a)]) (st' := [.ref 159]) rfl ?_
    refine En_getU (j := 3) (u := 162) (g' := 38) (q := 0) rfl rfl rfl tgz_159 (by decide +kernel) hσ0 (by decide +kernel) (by decide +kernel) (fun h9 => ?_)
    refine En_Ps 1 (pc' := 20) (lv' := [(0, .ref 159), (1, .int a)]) (st' := [.int a, .ref 162]) rfl ?_
    refine En_bald (l := 0) (u := 1) rfl rfl tgz_162 (by decide +kernel) hσ0 (by omega) (lnI (by decide +kernel : LN _ = 3) (by omega)) (FTsgl (by decide +kernel)) (fun z12 h11 h13 h14 => ?_)
    have h15 := ci_at h11 (rfl : a.toInt = a.toInt)
    refine En_iNe _ rfl rfl (fun h16 => ?_) (fun h16 => ?_)
    · refine En_Ps 2 (pc' := 29) (lv' := [(2, .int ((Int32.ofInt 0))), (0, .ref 159), (1, .int a)]) (st' := []) rfl ?_
      have key29 : ∀ (n29 : Nat) (σ18 : SG) (y17 : Int32), WT σ18 → Fr [(36, 0)] σ0 σ18 → (σ18 159)[3]? = some (.ref 162) → (σ18 162)[(a.toInt).toNat]? = some (.int z12) → 0 ≤ y17.toInt → y17.toInt ≤ 226 → -y17.toInt + 226 < (n29 : Int) → CPB σ0 σ18 a.toInt y17.toInt → En 1 25 none mr_199 (P_199x σ0 a) 29 [(0, .ref 159), (1, .int a), (2, .int y17)] [] σ18 := by
        intro n29
        induction n29 with
        | zero =>
          intro σ18 y17 h19 h20 h21 h22 h23 h24 h25 h26
          exfalso; omega
        | succ n29 ih29 =>
          intro σ18 y17 h19 h20 h21 h22 h23 h24 h25 h26
          refine En_Ps 2 (pc' := 33) (lv' := [(0, .ref 159), (1, .int a), (2, .int y17)]) (st' := [.int (((Int16.ofInt 226).toInt32)), .int y17]) rfl ?_
          refine En_icGe _ rfl (by decide : ((Int16.ofInt 226).toInt32).toInt = 226) rfl (fun h27 => ?_) (fun h27 => ?_)
          · refine En_Ps 1 (pc' := 61) (lv' := [(0, .ref 159), (1, .int a), (2, .int y17)]) (st' := [.int ((Int32.ofInt 0))]) rfl ?_
            refine En_top (by decide : (Int32.ofInt 0).toInt = 0) (fun z28 h29 => ?_)
            exact En_ret (v := some (.int z28)) rfl rfl rfl ⟨h19, h20, z28, rfl, ⟨by omega, by omega, ⟨CPB_x h26 (by omega) h20 (by decide +kernel) (by omega) (by omega) hI, BCK_0 (by omega) (by omega) (by omega) (by omega), BKM_ok h26 (by omega) (by omega) (by omega) (by omega)⟩⟩⟩
          · refine En_Ps 1 (pc' := 37) (lv' := [(0, .ref 159), (1, .int a), (2, .int y17)]) (st' := [.ref 159]) rfl ?_
            refine En_getU (j := 1) (u := 160) (g' := 36) (q := 0) rfl rfl rfl tgz_159 (by decide +kernel) h19 (by decide +kernel) (by decide +kernel) (fun h30 => ?_)
            refine En_Ps 2 (pc' := 42) (lv' := [(0, .ref 159), (1, .int a), (2, .int y17)]) (st' := [.ref 159, .int y17, .ref 160]) rfl ?_
            refine En_getU (j := 2) (u := 161) (g' := 37) (q := 0) rfl rfl rfl tgz_159 (by decide +kernel) h19 (by decide +kernel) (by decide +kernel) (fun h32 => ?_)
            refine En_Ps 3 (pc' := 50) (lv' := [(0, .ref 159), (1, .int a), (2, .int y17)]) (st' := [.int (((((Int16.ofInt 226).toInt32)) * a)), .ref 161, .int y17, .ref 160]) rfl ?_
            refine En_top (mulI (by decide : ((Int16.ofInt 226).toInt32).toInt = 226) rfl (Z := 226 * a.toInt) (by omega) (by omega) (by omega)) (fun z34 h35 => ?_)
            refine En_Ps 2 (pc' := 52) (lv' := [(0, .ref 159), (1, .int a), (2, .int y17)]) (st' := [.int ((z34 + y17)), .ref 161, .int y17, .ref 160]) rfl ?_
            refine En_top (addI rfl rfl (by omega) (by omega)) (fun z36 h37 => ?_)
            refine En_ialdW (n := 678) rfl rfl tgz_161 (by decide +kernel) h19 (by omega) (by decide +kernel) (by omega) (by decide +kernel) (fun z38 h39 h40 => ?_)
            refine En_iastW (n := 226) rfl rfl tgz_160 (by decide +kernel) (by omega) (by decide +kernel) (by omega) (ft_iw h40 (by omega) (by omega) (k := a.toInt) (by omega) (by omega) (by omega)) h19 h20 (by decide +kernel) (fun σ41 h42 h43 h44 h45 => ?_)
            refine En_Ps 1 (pc' := 57) (lv' := [(2, .int ((y17 + Int32.ofInt 1))), (0, .ref 159), (1, .int a)]) (st' := []) rfl ?_
            refine En_lv1 (addI rfl (by decide : (Int32.ofInt 1).toInt = 1) (by omega) (by omega)) (fun z46 h47 => ?_)
            refine En_Ps 1 (pc' := 29) (lv' := [(2, .int z46), (0, .ref 159), (1, .int a)]) (st' := []) rfl ?_
            refine En_lv (lv := [(0, .ref 159), (1, .int a), (2, .int z46)]) ⟨rfl, rfl, rfl, trivial⟩ ?_
            exact ih29 σ41 z46 h42 h43 ((h45 _ _ (Or.inl (neTG tgz_159 tgz_160 (by decide)))).trans h21) ((h45 _ _ (Or.inl (neTG tgz_162 tgz_160 (by decide)))).trans h22) (by omega) (by omega) (by omega) (CPB_s h26 h20 (by decide +kernel) h39 h44 h45 (by omega) (by omega) (by omega))
      have := (by decide : (Int32.ofInt 0).toInt = 0)
      refine En_lv (lv := [(0, .ref 159), (1, .int a), (2, .int ((Int32.ofInt 0)))]) ⟨rfl, rfl, rfl, trivial⟩ ?_
      exact key29 (Int.toNat (226) + 1) σ0 ((Int32.ofInt 0)) hσ0 hF0 h9 h11 (by omega) (by omega) (by omega) (CPB_0 (by decide))
    · refine En_Ps 1 (pc' := 26) (lv' := [(0, .ref 159), (1, .int a)]) (st' := [.int (((Int8.ofInt (-6)).toInt32))]) rfl ?_
      refine En_top (by decide : ((Int8.ofInt (-6)).toInt32).toInt = -6) (fun z48 h49 => ?_)
      exact En_ret (v := some (.int z48)) rfl rfl rfl ⟨hσ0, hF0, z48, rfl, ⟨by omega, by omega, ⟨hI, BCK_6 (by omega) (by omega) (by omega) (by omega), BKM_no (by omega)⟩⟩⟩
  · refine En_Ps 1 (pc' := 14) (lv' := [(0, .ref 159), (1, .int a)]) (st' := [.int (((Int8.ofInt (-2)).toInt32))]) rfl ?_
    refine En_top (by decide : ((Int8.ofInt (-2)).toInt32).toInt = -2) (fun z50 h51 => ?_)
    exact En_ret (v := some (.int z50)) rfl rfl rfl ⟨hσ0, hF0, z50, rfl, ⟨by omega, by omega, ⟨hI, BCK_2 (by omega) (by omega), BKM_no (by omega)⟩⟩⟩
/-- DoorSchoolModel.isCopied(I)Z -/
abbrev P_253x (σ0 : SG) (a : Int32) : PO := fun v σ => WT σ ∧ Fr [] σ0 σ ∧ ∃ ret : Int32, v = some (.int ret) ∧ -ret.toInt ≤ 0 ∧ ret.toInt - 1 ≤ 0 ∧ Imp (ret.toInt - 1 ≤ 0 ∧ -ret.toInt + 1 ≤ 0) (-a.toInt - 1 ≤ 0 ∧ a.toInt - 3 ≤ 0) ∧ ret.toInt = cpI (wf σ0) a.toInt
set_option maxRecDepth 10000 in
set_option maxHeartbeats 4000000 in
theorem c_253x (σ0 : SG) (hσ0 : WT σ0) (a : Int32) : En 1 22 none mr_253 (P_253x σ0 a) 0 [(0, .ref 159), (1, .int a)] [] σ0 := by
  have hF0 : Fr [] σ0 σ0 := Fr_rfl
  refine En_Ps 2 (pc' := 2) (lv' := [(2, .int ((Int32.ofInt 0))), (0, .ref 159), (1, .int a)]) (st' := []) rfl ?_
  have key2 : ∀ (n2 : Nat) (y1 : Int32), 0 ≤ y1.toInt → y1.toInt ≤ 4 → -y1.toInt + 4 < (n2 : Int) → NCw (wf σ0) a.toInt y1.toInt → En 1 22 none mr_253 (P_253x σ0 a) 2 [(0, .ref 159), (1, .int a), (2, .int y1)] [] σ0 := by
    intro n2
    induction n2 with
    | zero =>
      intro y1 h5 h6 h7 h8
      exfalso; omega
    | succ n2 ih2 =>
      intro y1 h5 h6 h7 h8
      refine En_Ps 2 (pc' := 4) (lv' := [(0, .ref 159), (1, .int a), (2, .int y1)]) (st' := [.ref 159, .int y1]) rfl ?_
      refine En_getU (j := 1) (u := 160) (g' := 36) (q := 0) rfl rfl rfl tgz_159 (by decide +kernel) hσ0 (by decide +kernel) (by decide +kernel) (fun h9 => ?_)
      refine En_Ps 1 (pc' := 8) (lv' := [(0, .ref 159), (1, .int a), (2, .int y1)]) (st' := [.int ((Int32.ofInt 2)), .ref 160, .int y1]) rfl ?_
      refine En_iald (l := 0) (u := 4) rfl (by decide : (Int32.ofInt 2).toInt = 2) tgz_160 (by decide +kernel) hσ0 (by omega) (lnI (by decide +kernel : LN _ = 226) (by omega)) (by decide +kernel) (fun z12 h11 h13 h14 => ?_)
      have w15 : wf σ0 (2) = z12.toInt := ci_at h11 (by omega)
      refine En_icGe _ rfl rfl rfl (fun h16 => ?_) (fun h16 => ?_)
      · refine En_Ps 1 (pc' := 31) (lv' := [(0, .ref 159), (1, .int a), (2, .int y1)]) (st' := [.int ((Int32.ofInt 0))]) rfl ?_
        refine En_top (by decide : (Int32.ofInt 0).toInt = 0) (fun z17 h18 => ?_)
        exact En_ret (v := some (.int z17)) rfl rfl (retZ rfl rfl (by omega) (by omega)) ⟨hσ0, hF0, z17, rfl, ⟨by omega, by omega, fun _ => by omega, CPw_n h8 (by omega) (by omega)⟩⟩
      · refine En_Ps 3 (pc' := 15) (lv' := [(0, .ref 159), (1, .int a), (2, .int y1)]) (st' := [.int ((Int32.ofInt 3)), .int y1, .ref 159]) rfl ?_
        have := (by decide : ((Int32.ofInt 3)).toInt = 3)
        obtain ⟨z19, h20, h21, h22⟩ := WT_peekJ (J := (4 * y1.toInt + ((Int32.ofInt 3)).toInt + 10)) (l := (-1)) (u := 3) hσ0 tgz_160 (by decide +kernel) (by omega) (lnI (by decide +kernel : LN _ = 226) (by omega)) (FTrow 36 13 4 4 (by decide +kernel) (by omega) (by omega) (by omega))
        have := (by decide : ((Int32.ofInt 3)).toInt = 3)
        refine En_callV rfl rfl rfl rfl rfl rfl rfl rfl tgz_159 (by decide +kernel) rfl (c_290d σ0 hσ0 y1 ((Int32.ofInt 3)) (geI rfl (by omega)) (leI rfl (by omega)) (geI (by decide : (Int32.ofInt 3).toInt = 3) (by omega)) (leI (by decide : (Int32.ofInt 3).toInt = 3) (by omega)) z19 h20) (by decide) (by decide) (fun v24 σ25 h23 => ?_)
        obtain ⟨h26, h27, z29, rfl, h28⟩ := h23
        obtain rfl : σ0 = σ25 := Fr_nil h27
        refine En_Ps 1 (pc' := 19) (lv' := [(0, .ref 159), (1, .int a), (2, .int y1)]) (st' := [.int a, .int z29]) rfl ?_
        have w30 : wf σ0 (13 + 4 * y1.toInt) = z19.toInt := ci_at h20 (by omega)
        refine En_icNe _ rfl rfl rfl (fun h31 => ?_) (fun h31 => ?_)
        · refine En_Ps 1 (pc' := 27) (lv' := [(2, .int ((y1 + Int32.ofInt 1))), (0, .ref 159), (1, .int a)]) (st' := []) rfl ?_
          refine En_lv1 (addI rfl (by decide : (Int32.ofInt 1).toInt = 1) (by omega) (by omega)) (fun z32 h33 => ?_)
          refine En_Ps 1 (pc' := 2) (lv' := [(2, .int z32), (0, .ref 159), (1, .int a)]) (st' := []) rfl ?_
          refine En_lv (lv := [(0, .ref 159), (1, .int a), (2, .int z32)]) ⟨rfl, rfl, rfl, trivial⟩ ?_
          exact ih2 z32 (by omega) (by omega) (by omega) (NCw_s (y := y1.toInt) h8 (by have q0 := w30; rw [show (13 : Int) + 4 * y1.toInt = 13 + 4 * y1.toInt by omega, q0]; omega) (by omega))
        · refine En_Ps 1 (pc' := 23) (lv' := [(0, .ref 159), (1, .int a), (2, .int y1)]) (st' := [.int ((Int32.ofInt 1))]) rfl ?_
          refine En_top (by decide : (Int32.ofInt 1).toInt = 1) (fun z34 h35 => ?_)
          exact En_ret (v := some (.int z34)) rfl rfl (retZ rfl rfl (by omega) (by omega)) ⟨hσ0, hF0, z34, rfl, ⟨by omega, by omega, fun _ => by omega, CPw_1 (y := y1.toInt) (by omega) (by omega) (by omega) (by rw [show (13 : Int) + 4 * y1.toInt = 13 + 4 * y1.toInt by omega, w30]; omega) (by omega)⟩⟩
  have := (by decide : (Int32.ofInt 0).toInt = 0)
  refine En_lv (lv := [(0, .ref 159), (1, .int a), (2, .int ((Int32.ofInt 0)))]) ⟨rfl, rfl, rfl, trivial⟩ ?_
  exact key2 (Int.toNat (4) + 1) ((Int32.ofInt 0)) (by omega) (by omega) (by omega) (fun q q0 q1 => by omega)
/-- DoorSchoolModel.copy(II)I -/
abbrev P_205x (σ0 : SG) (a : Int32) (b : Int32) : PO := fun v σ => WT σ ∧ Fr [(36, 0)] σ0 σ ∧ ∃ ret : Int32, v = some (.int ret) ∧ -ret.toInt - 5 ≤ 0 ∧ ret.toInt - 3 ≤ 0 ∧ (SAM (wf σ0) (wf σ) ∧ (∀ i : Int, 0 ≤ i → i < 226 → wf σ i = cyW (wf σ0) a.toInt b.toInt i))
set_option maxRecDepth 10000 in
set_option maxHeartbeats 4000000 in
theorem c_205x (σ0 : SG) (hσ0 : WT σ0) (a : Int32) (b : Int32) (hT : TWN (wf σ0)) : En 2 46 none mr_205 (P_205x σ0 a b) 0 [(0, .ref 159), (1, .int a), (2, .int b)] [] σ0 := by
  have hF0 : Fr [(36, 0)] σ0 σ0 := Fr_rfl
  refine En_Ps 2 (pc' := 2) (lv' := [(0, .ref 159), (1, .int a), (2, .int b)]) (st' := [.int a, .ref 159]) rfl ?_
  obtain ⟨z2, h1, h3, h4⟩ := WT_peekI hσ0 tgz_160 (by decide +kernel : FT 36 (2 : Int).toNat = (0, 0, 4)) (by decide +kernel)
  refine En_callV rfl rfl rfl rfl rfl rfl rfl rfl tgz_159 (by decide +kernel) rfl (c_254 σ0 hσ0 a z2 h1) (by decide) (by decide) (fun v6 σ7 h5 => ?_)
  obtain ⟨h8, h9, z11, rfl, h10⟩ := h5
  obtain rfl : σ0 = σ7 := Fr_nil h9
  have w12 : wf σ0 (2) = z2.toInt := ci_at h1 (by omega)
  refine En_iEq _ rfl rfl (fun h13 => ?_) (fun h13 => ?_)
  · refine En_Ps 1 (pc' := 28) (lv' := [(0, .ref 159), (1, .int a), (2, .int b)]) (st' := [.int (((Int8.ofInt (-2)).toInt32))]) rfl ?_
    refine En_top (by decide : ((Int8.ofInt (-2)).toInt32).toInt = -2) (fun z14 h15 => ?_)
    exact En_ret (v := some (.int z14)) rfl rfl rfl ⟨hσ0, hF0, z14, rfl, ⟨by omega, by omega, ⟨fun _ _ => rfl, cyMn (by omega)⟩⟩⟩
  · refine En_Ps 2 (pc' := 10) (lv' := [(0, .ref 159), (1, .int a), (2, .int b)]) (st' := [.int ((Int32.ofInt (-1))), .int b]) rfl ?_
    refine En_icEq _ rfl (by decide : (Int32.ofInt (-1)).toInt = -1) rfl (fun h16 => ?_) (fun h16 => ?_)
    · refine En_Ps 2 (pc' := 23) (lv' := [(0, .ref 159), (1, .int a), (2, .int b)]) (st' := [.int b, .int a]) rfl ?_
      refine En_icNe _ rfl rfl rfl (fun h17 => ?_) (fun hx => by exfalso; omega)
      refine En_Ps 2 (pc' := 31) (lv' := [(0, .ref 159), (1, .int a), (2, .int b)]) (st' := [.int ((Int32.ofInt (-1))), .int b]) rfl ?_
      refine En_icEq _ rfl (by decide : (Int32.ofInt (-1)).toInt = -1) rfl (fun h18 => ?_) (fun hx => by exfalso; omega)
      refine En_Ps 3 (pc' := 58) (lv' := [(0, .ref 159), (1, .int a), (2, .int b)]) (st' := [.int ((Int32.ofInt 3)), .int a, .ref 159]) rfl ?_
      have := (by decide : ((Int32.ofInt 3)).toInt = 3)
      obtain ⟨z19, h20, h21, h22⟩ := WT_peekJ (J := (4 * a.toInt + ((Int32.ofInt 3)).toInt + 10)) (l := (-1)) (u := 3) hσ0 tgz_160 (by decide +kernel) (by omega) (lnI (by decide +kernel : LN _ = 226) (by omega)) (FTrow 36 13 4 4 (by decide +kernel) (by omega) (by omega) (by omega))
      have := (by decide : ((Int32.ofInt 3)).toInt = 3)
      refine En_callV rfl rfl rfl rfl rfl rfl rfl rfl tgz_159 (by decide +kernel) rfl (c_290d σ0 hσ0 a ((Int32.ofInt 3)) (geI rfl (by omega)) (leI rfl (by omega)) (geI (by decide : (Int32.ofInt 3).toInt = 3) (by omega)) (leI (by decide : (Int32.ofInt 3).toInt = 3) (by omega)) z19 h20) (by decide) (by decide) (fun v24 σ25 h23 => ?_)
      obtain ⟨h26, h27, z29, rfl, h28⟩ := h23
      obtain rfl : σ0 = σ25 := Fr_nil h27
      refine En_Ps 2 (pc' := 63) (lv' := [(3, .int z29), (0, .ref 159), (1, .int a), (2, .int b)]) (st' := [.ref 159]) rfl ?_
      refine En_getU (j := 1) (u := 160) (g' := 36) (q := 0) rfl rfl rfl tgz_159 (by decide +kernel) hσ0 (by decide +kernel) (by decide +kernel) (fun h30 => ?_)
      refine En_Ps 4 (pc' := 71) (lv' := [(3, .int z29), (0, .ref 159), (1, .int a), (2, .int b)]) (st' := [.int ((((Int32.ofInt 4)) * a)), .int (((Int8.ofInt 10).toInt32)), .ref 160]) rfl ?_
      refine En_top (mulI (by decide : (Int32.ofInt 4).toInt = 4) rfl (Z := 4 * a.toInt) (by omega) (by omega) (by omega)) (fun z32 h33 => ?_)
      refine En_Ps 1 (pc' := 72) (lv' := [(3, .int z29), (0, .ref 159), (1, .int a), (2, .int b)]) (st' := [.int (((((Int8.ofInt 10).toInt32)) + z32)), .ref 160]) rfl ?_
      refine En_top (addI (by decide : ((Int8.ofInt 10).toInt32).toInt = 10) rfl (by omega) (by omega)) (fun z34 h35 => ?_)
      refine En_Ps 2 (pc' := 74) (lv' := [(3, .int z29), (0, .ref 159), (1, .int a), (2, .int b)]) (st' := [.int ((z34 + ((Int32.ofInt 3)))), .ref 160]) rfl ?_
      refine En_top (addI rfl (by decide : (Int32.ofInt 3).toInt = 3) (by omega) (by omega)) (fun z36 h37 => ?_)
      refine En_Ps 1 (pc' := 75) (lv' := [(3, .int z29), (0, .ref 159), (1, .int a), (2, .int b)]) (st' := [.int b, .int z36, .ref 160]) rfl ?_
      have w38 : wf σ0 (13 + 4 * a.toInt) = z19.toInt := ci_at h20 (by omega)
      refine En_iast (l := (-1)) (u := 3) rfl rfl tgz_160 (by decide +kernel) (by omega) (lnI (by decide +kernel : LN _ = 226) (by omega)) (FTrow 36 13 4 4 (by decide +kernel) (by omega) (by omega) (by omega)) (rngI rfl (by omega) (by omega)) hσ0 hF0 (by decide +kernel) (fun σ39 h40 h41 h42 h43 => ?_)
      refine En_Ps 1 (pc' := 77) (lv' := [(3, .int z29), (0, .ref 159), (1, .int a), (2, .int b)]) (st' := [.int z29]) rfl ?_
      exact En_ret (v := some (.int z29)) rfl rfl rfl ⟨h40, h41, z29, rfl, ⟨by omega, by omega, ⟨fun i hi => (by rw [show wf _ i = ci _ 160 i from rfl, ci_st h42 h43 (by omega) i (by omega), if_neg (by omega)]; rfl), cyM hT (by omega) (fun i hi => (by rw [show wf _ i = ci _ 160 i from rfl, ci_st h42 h43 (by omega) i hi]; rfl)) (by omega) (by omega) (by omega) (by omega) (by omega) rfl⟩⟩⟩
    · refine En_Ps 2 (pc' := 15) (lv' := [(0, .ref 159), (1, .int a), (2, .int b)]) (st' := [.int b, .ref 159]) rfl ?_
      refine En_callV rfl rfl rfl rfl rfl rfl rfl rfl tgz_159 (by decide +kernel) rfl (c_254 σ0 hσ0 b z2 h1) (by decide) (by decide) (fun v45 σ46 h44 => ?_)
      obtain ⟨h47, h48, z50, rfl, h49⟩ := h44
      obtain rfl : σ0 = σ46 := Fr_nil h48
      refine En_iEq _ rfl rfl (fun h51 => ?_) (fun h51 => ?_)
      · refine En_Ps 1 (pc' := 28) (lv' := [(0, .ref 159), (1, .int a), (2, .int b)]) (st' := [.int (((Int8.ofInt (-2)).toInt32))]) rfl ?_
        refine En_top (by decide : ((Int8.ofInt (-2)).toInt32).toInt = -2) (fun z52 h53 => ?_)
        exact En_ret (v := some (.int z52)) rfl rfl rfl ⟨hσ0, hF0, z52, rfl, ⟨by omega, by omega, ⟨fun _ _ => rfl, cyMn (by omega)⟩⟩⟩
      · refine En_Ps 2 (pc' := 23) (lv' := [(0, .ref 159), (1, .int a), (2, .int b)]) (st' := [.int b, .int a]) rfl ?_
        refine En_icNe _ rfl rfl rfl (fun h54 => ?_) (fun h54 => ?_)
        · refine En_Ps 2 (pc' := 31) (lv' := [(0, .ref 159), (1, .int a), (2, .int b)]) (st' := [.int ((Int32.ofInt (-1))), .int b]) rfl ?_
          refine En_icEq _ rfl (by decide : (Int32.ofInt (-1)).toInt = -1) rfl (fun hx => by exfalso; omega) (fun h55 => ?_)
          refine En_Ps 3 (pc' := 37) (lv' := [(0, .ref 159), (1, .int a), (2, .int b)]) (st' := [.int ((Int32.ofInt 3)), .int b, .ref 159]) rfl ?_
          have := (by decide : ((Int32.ofInt 3)).toInt = 3)
          obtain ⟨z56, h57, h58, h59⟩ := WT_peekJ (J := (4 * b.toInt + ((Int32.ofInt 3)).toInt + 10)) (l := (-1)) (u := 3) hσ0 tgz_160 (by decide +kernel) (by omega) (lnI (by decide +kernel : LN _ = 226) (by omega)) (FTrow 36 13 4 4 (by decide +kernel) (by omega) (by omega) (by omega))
          have := (by decide : ((Int32.ofInt 3)).toInt = 3)
          refine En_callV rfl rfl rfl rfl rfl rfl rfl rfl tgz_159 (by decide +kernel) rfl (c_290d σ0 hσ0 b ((Int32.ofInt 3)) (geI rfl (by omega)) (leI rfl (by omega)) (geI (by decide : (Int32.ofInt 3).toInt = 3) (by omega)) (leI (by decide : (Int32.ofInt 3).toInt = 3) (by omega)) z56 h57) (by decide) (by decide) (fun v61 σ62 h60 => ?_)
          obtain ⟨h63, h64, z66, rfl, h65⟩ := h60
          obtain rfl : σ0 = σ62 := Fr_nil h64
          refine En_Ps 1 (pc' := 41) (lv' := [(0, .ref 159), (1, .int a), (2, .int b)]) (st' := [.int ((Int32.ofInt (-1))), .int z66]) rfl ?_
          have w67 : wf σ0 (13 + 4 * b.toInt) = z56.toInt := ci_at h57 (by omega)
          refine En_icNe _ rfl (by decide : (Int32.ofInt (-1)).toInt = -1) rfl (fun h68 => ?_) (fun h68 => ?_)
          · refine En_Ps 1 (pc' := 54) (lv' := [(0, .ref 159), (1, .int a), (2, .int b)]) (st' := [.int (((Int8.ofInt (-5)).toInt32))]) rfl ?_
            refine En_top (by decide : ((Int8.ofInt (-5)).toInt32).toInt = -5) (fun z69 h70 => ?_)
            exact En_ret (v := some (.int z69)) rfl rfl rfl ⟨hσ0, hF0, z69, rfl, ⟨by omega, by omega, ⟨fun _ _ => rfl, cyMn (by omega)⟩⟩⟩
          · refine En_Ps 2 (pc' := 46) (lv' := [(0, .ref 159), (1, .int a), (2, .int b)]) (st' := [.int a, .ref 159]) rfl ?_
            refine En_callV rfl rfl rfl rfl rfl rfl rfl rfl tgz_159 (by decide +kernel) rfl (c_253x σ0 hσ0 a) (by decide) (by decide) (fun v72 σ73 h71 => ?_)
            obtain ⟨h74, h75, z77, rfl, h76⟩ := h71
            have h78 := h76.2.2.2
            obtain rfl : σ0 = σ73 := Fr_nil h75
            have h79 : z77.toInt = cpI (wf σ0) a.toInt := h78
            refine En_iEq _ rfl rfl (fun h80 => ?_) (fun h80 => ?_)
            · refine En_Ps 3 (pc' := 58) (lv' := [(0, .ref 159), (1, .int a), (2, .int b)]) (st' := [.int ((Int32.ofInt 3)), .int a, .ref 159]) rfl ?_
              have := (by decide : ((Int32.ofInt 3)).toInt = 3)
              obtain ⟨z81, h82, h83, h84⟩ := WT_peekJ (J := (4 * a.toInt + ((Int32.ofInt 3)).toInt + 10)) (l := (-1)) (u := 3) hσ0 tgz_160 (by decide +kernel) (by omega) (lnI (by decide +kernel : LN _ = 226) (by omega)) (FTrow 36 13 4 4 (by decide +kernel) (by omega) (by omega) (by omega))
              have := (by decide : ((Int32.ofInt 3)).toInt = 3)
              refine En_callV rfl rfl rfl rfl rfl rfl rfl rfl tgz_159 (by decide +kernel) rfl (c_290d σ0 hσ0 a ((Int32.ofInt 3)) (geI rfl (by omega)) (leI rfl (by omega)) (geI (by decide : (Int32.ofInt 3).toInt = 3) (by omega)) (leI (by decide : (Int32.ofInt 3).toInt = 3) (by omega)) z81 h82) (by decide) (by decide) (fun v86 σ87 h85 => ?_)
              obtain ⟨h88, h89, z91, rfl, h90⟩ := h85
              obtain rfl : σ0 = σ87 := Fr_nil h89
              refine En_Ps 2 (pc' := 63) (lv' := [(3, .int z91), (0, .ref 159), (1, .int a), (2, .int b)]) (st' := [.ref 159]) rfl ?_
              refine En_getU (j := 1) (u := 160) (g' := 36) (q := 0) rfl rfl rfl tgz_159 (by decide +kernel) hσ0 (by decide +kernel) (by decide +kernel) (fun h92 => ?_)
              refine En_Ps 4 (pc' := 71) (lv' := [(3, .int z91), (0, .ref 159), (1, .int a), (2, .int b)]) (st' := [.int ((((Int32.ofInt 4)) * a)), .int (((Int8.ofInt 10).toInt32)), .ref 160]) rfl ?_
              refine En_top (mulI (by decide : (Int32.ofInt 4).toInt = 4) rfl (Z := 4 * a.toInt) (by omega) (by omega) (by omega)) (fun z94 h95 => ?_)
              refine En_Ps 1 (pc' := 72) (lv' := [(3, .int z91), (0, .ref 159), (1, .int a), (2, .int b)]) (st' := [.int (((((Int8.ofInt 10).toInt32)) + z94)), .ref 160]) rfl ?_
              refine En_top (addI (by decide : ((Int8.ofInt 10).toInt32).toInt = 10) rfl (by omega) (by omega)) (fun z96 h97 => ?_)
              refine En_Ps 2 (pc' := 74) (lv' := [(3, .int z91), (0, .ref 159), (1, .int a), (2, .int b)]) (st' := [.int ((z96 + ((Int32.ofInt 3)))), .ref 160]) rfl ?_
              refine En_top (addI rfl (by decide : (Int32.ofInt 3).toInt = 3) (by omega) (by omega)) (fun z98 h99 => ?_)
              refine En_Ps 1 (pc' := 75) (lv' := [(3, .int z91), (0, .ref 159), (1, .int a), (2, .int b)]) (st' := [.int b, .int z98, .ref 160]) rfl ?_
              have w100 : wf σ0 (13 + 4 * a.toInt) = z81.toInt := ci_at h82 (by omega)
              refine En_iast (l := (-1)) (u := 3) rfl rfl tgz_160 (by decide +kernel) (by omega) (lnI (by decide +kernel : LN _ = 226) (by omega)) (FTrow 36 13 4 4 (by decide +kernel) (by omega) (by omega) (by omega)) (rngI rfl (by omega) (by omega)) hσ0 hF0 (by decide +kernel) (fun σ101 h102 h103 h104 h105 => ?_)
              refine En_Ps 1 (pc' := 77) (lv' := [(3, .int z91), (0, .ref 159), (1, .int a), (2, .int b)]) (st' := [.int z91]) rfl ?_
              exact En_ret (v := some (.int z91)) rfl rfl rfl ⟨h102, h103, z91, rfl, ⟨by omega, by omega, ⟨fun i hi => (by rw [show wf _ i = ci _ 160 i from rfl, ci_st h104 h105 (by omega) i (by omega), if_neg (by omega)]; rfl), cyM hT (by omega) (fun i hi => (by rw [show wf _ i = ci _ 160 i from rfl, ci_st h104 h105 (by omega) i hi]; rfl)) (by omega) (by omega) (by omega) (by omega) (by omega) rfl⟩⟩⟩
            · have h106 := Imp_m h76.2.2.1 (by omega)
              refine En_Ps 1 (pc' := 54) (lv' := [(0, .ref 159), (1, .int a), (2, .int b)]) (st' := [.int (((Int8.ofInt (-5)).toInt32))]) rfl ?_
              refine En_top (by decide : ((Int8.ofInt (-5)).toInt32).toInt = -5) (fun z107 h108 => ?_)
              exact En_ret (v := some (.int z107)) rfl rfl rfl ⟨hσ0, hF0, z107, rfl, ⟨by omega, by omega, ⟨fun _ _ => rfl, cyMn (by omega)⟩⟩⟩
        · refine En_Ps 1 (pc' := 28) (lv' := [(0, .ref 159), (1, .int a), (2, .int b)]) (st' := [.int (((Int8.ofInt (-2)).toInt32))]) rfl ?_
          refine En_top (by decide : ((Int8.ofInt (-2)).toInt32).toInt = -2) (fun z109 h110 => ?_)
          exact En_ret (v := some (.int z109)) rfl rfl rfl ⟨hσ0, hF0, z109, rfl, ⟨by omega, by omega, ⟨fun _ _ => rfl, cyMn (by omega)⟩⟩⟩

