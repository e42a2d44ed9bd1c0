set_option maxRecDepth 10000 in
set_option maxHeartbeats 4000000 in
theorem c_302x {By : Int → Int} {Nb : Int} {Sp : PS} (σ0 : SG) (hσ0 : WT σ0) (f : Int32) (h_f : (σ0 159)[8]? = some (.int f)) (k : Int32) (h_k : (σ0 159)[12]? = some (.int k)) (hM : ML By Nb σ0 Sp) (hg : Sp.1 = 0) : En 9 200 none mr_302 (P_302x σ0 By Nb Sp f k) 0 [(0, .ref 159)] [] σ0 := by
  obtain ⟨hl_f, hu_f⟩ := WT_int hσ0 (g := 35) (by decide +kernel) (by decide +kernel) (l := 0) (u := 1600) (by decide +kernel) h_f
  obtain ⟨hl_k, hu_k⟩ := WT_int hσ0 (g := 35) (by decide +kernel) (by decide +kernel) (l := 0) (u := 3) (by decide +kernel) h_k
  have hF0 : Fr [(35, 8), (35, 9), (35, 10), (35, 11), (35, 12), (35, 13), (41, 0)] σ0 σ0 := Fr_rfl
  have keyj87 := k_302x_87 σ0 hσ0 f h_f k h_k hM hg
  have h1468 := ML_k hM h_k
  refine En_Ps 1 (pc' := 1) (lv' := [(0, .ref 159)]) (st' := [.ref 159]) rfl ?_
  refine En_ldcS (i := 2) rfl rfl rfl ?_
  refine En_callV rfl rfl rfl rfl rfl rfl rfl rfl (by decide +kernel : TG 159 = 35) (by decide +kernel) rfl (c_251s2x σ0 hσ0 hM) (by decide) (by decide) (fun v1470 σ1471 h1469 => ?_)
  obtain ⟨h1472, h1473, z1475, rfl, h1474⟩ := h1469
  have h1476 := h1474.2.2
  obtain rfl : σ0 = σ1471 := Fr_nil h1473
  refine En_iNe _ rfl rfl (fun h1477 => ?_) (fun h1477 => ?_)
  · refine En_Ps 4 (pc' := 79) (lv' := [(1, .int ((Int32.ofInt 1))), (0, .ref 159)]) (st' := [.int ((Int32.ofInt 1))]) rfl ?_
    refine En_iNe _ (by decide : (Int32.ofInt 1).toInt = 1) rfl (fun h1478 => ?_) (fun hx => by exfalso; omega)
    refine En_lv (lv := [(0, .ref 159)]) ⟨rfl, trivial⟩ ?_
    exact keyj87 σ0 k f hσ0 hF0 h_k (by omega) (by omega) h_f (by omega) (by omega) (by omega) (by omega) ((KF_0 (σ := σ0))) (ML_eq hM (gN1_pos 2 (by omega) (by omega)).symm)
  · refine En_Ps 1 (pc' := 10) (lv' := [(0, .ref 159)]) (st' := [.ref 159]) rfl ?_
    refine En_ldcS (i := 6) rfl rfl rfl ?_
    refine En_callV rfl rfl rfl rfl rfl rfl rfl rfl (by decide +kernel : TG 159 = 35) (by decide +kernel) rfl (c_251s6x σ0 hσ0 hM) (by decide) (by decide) (fun v1480 σ1481 h1479 => ?_)
    obtain ⟨h1482, h1483, z1485, rfl, h1484⟩ := h1479
    have h1486 := h1484.2.2
    obtain rfl : σ0 = σ1481 := Fr_nil h1483
    refine En_iNe _ rfl rfl (fun h1487 => ?_) (fun h1487 => ?_)
    · refine En_Ps 4 (pc' := 79) (lv' := [(1, .int ((Int32.ofInt 1))), (0, .ref 159)]) (st' := [.int ((Int32.ofInt 1))]) rfl ?_
      refine En_iNe _ (by decide : (Int32.ofInt 1).toInt = 1) rfl (fun h1488 => ?_) (fun hx => by exfalso; omega)
      refine En_lv (lv := [(0, .ref 159)]) ⟨rfl, trivial⟩ ?_
      exact keyj87 σ0 k f hσ0 hF0 h_k (by omega) (by omega) h_f (by omega) (by omega) (by omega) (by omega) ((KF_0 (σ := σ0))) (ML_eq hM (gN1_pos 6 (by omega) (by omega)).symm)
    · refine En_Ps 1 (pc' := 19) (lv' := [(0, .ref 159)]) (st' := [.ref 159]) rfl ?_
      refine En_ldcS (i := 3) rfl rfl rfl ?_
      refine En_callV rfl rfl rfl rfl rfl rfl rfl rfl (by decide +kernel : TG 159 = 35) (by decide +kernel) rfl (c_251s3x σ0 hσ0 hM) (by decide) (by decide) (fun v1490 σ1491 h1489 => ?_)
      obtain ⟨h1492, h1493, z1495, rfl, h1494⟩ := h1489
      have h1496 := h1494.2.2
      obtain rfl : σ0 = σ1491 := Fr_nil h1493
      refine En_iNe _ rfl rfl (fun h1497 => ?_) (fun h1497 => ?_)
      · refine En_Ps 4 (pc' := 79) (lv' := [(1, .int ((Int32.ofInt 1))), (0, .ref 159)]) (st' := [.int ((Int32.ofInt 1))]) rfl ?_
        refine En_iNe _ (by decide : (Int32.ofInt 1).toInt = 1) rfl (fun h1498 => ?_) (fun hx => by exfalso; omega)
        refine En_lv (lv := [(0, .ref 159)]) ⟨rfl, trivial⟩ ?_
        exact keyj87 σ0 k f hσ0 hF0 h_k (by omega) (by omega) h_f (by omega) (by omega) (by omega) (by omega) ((KF_0 (σ := σ0))) (ML_eq hM (gN1_pos 3 (by omega) (by omega)).symm)
      · refine En_Ps 1 (pc' := 28) (lv' := [(0, .ref 159)]) (st' := [.ref 159]) rfl ?_
        refine En_ldcS (i := 17) rfl rfl rfl ?_
        refine En_callV rfl rfl rfl rfl rfl rfl rfl rfl (by decide +kernel : TG 159 = 35) (by decide +kernel) rfl (c_251s17x σ0 hσ0 hM) (by decide) (by decide) (fun v1500 σ1501 h1499 => ?_)
        obtain ⟨h1502, h1503, z1505, rfl, h1504⟩ := h1499
        have h1506 := h1504.2.2
        obtain rfl : σ0 = σ1501 := Fr_nil h1503
        refine En_iNe _ rfl rfl (fun h1507 => ?_) (fun h1507 => ?_)
        · refine En_Ps 4 (pc' := 79) (lv' := [(1, .int ((Int32.ofInt 1))), (0, .ref 159)]) (st' := [.int ((Int32.ofInt 1))]) rfl ?_
          refine En_iNe _ (by decide : (Int32.ofInt 1).toInt = 1) rfl (fun h1508 => ?_) (fun hx => by exfalso; omega)
          refine En_lv (lv := [(0, .ref 159)]) ⟨rfl, trivial⟩ ?_
          exact keyj87 σ0 k f hσ0 hF0 h_k (by omega) (by omega) h_f (by omega) (by omega) (by omega) (by omega) ((KF_0 (σ := σ0))) (ML_eq hM (gN1_pos 17 (by omega) (by omega)).symm)
        · refine En_Ps 1 (pc' := 37) (lv' := [(0, .ref 159)]) (st' := [.ref 159]) rfl ?_
          refine En_ldcS (i := 9) rfl rfl rfl ?_
          refine En_callV rfl rfl rfl rfl rfl rfl rfl rfl (by decide +kernel : TG 159 = 35) (by decide +kernel) rfl (c_251s9x σ0 hσ0 hM) (by decide) (by decide) (fun v1510 σ1511 h1509 => ?_)
          obtain ⟨h1512, h1513, z1515, rfl, h1514⟩ := h1509
          have h1516 := h1514.2.2
          obtain rfl : σ0 = σ1511 := Fr_nil h1513
          refine En_iNe _ rfl rfl (fun h1517 => ?_) (fun h1517 => ?_)
          · refine En_Ps 4 (pc' := 79) (lv' := [(1, .int ((Int32.ofInt 1))), (0, .ref 159)]) (st' := [.int ((Int32.ofInt 1))]) rfl ?_
            refine En_iNe _ (by decide : (Int32.ofInt 1).toInt = 1) rfl (fun h1518 => ?_) (fun hx => by exfalso; omega)
            refine En_lv (lv := [(0, .ref 159)]) ⟨rfl, trivial⟩ ?_
            exact keyj87 σ0 k f hσ0 hF0 h_k (by omega) (by omega) h_f (by omega) (by omega) (by omega) (by omega) ((KF_0 (σ := σ0))) (ML_eq hM (gN1_pos 9 (by omega) (by omega)).symm)
          · refine En_Ps 1 (pc' := 46) (lv' := [(0, .ref 159)]) (st' := [.ref 159]) rfl ?_
            refine En_ldcS (i := 5) rfl rfl rfl ?_
            refine En_callV rfl rfl rfl rfl rfl rfl rfl rfl (by decide +kernel : TG 159 = 35) (by decide +kernel) rfl (c_251s5x σ0 hσ0 hM) (by decide) (by decide) (fun v1520 σ1521 h1519 => ?_)
            obtain ⟨h1522, h1523, z1525, rfl, h1524⟩ := h1519
            have h1526 := h1524.2.2
            obtain rfl : σ0 = σ1521 := Fr_nil h1523
            refine En_iNe _ rfl rfl (fun h1527 => ?_) (fun h1527 => ?_)
            · refine En_Ps 4 (pc' := 79) (lv' := [(1, .int ((Int32.ofInt 1))), (0, .ref 159)]) (st' := [.int ((Int32.ofInt 1))]) rfl ?_
              refine En_iNe _ (by decide : (Int32.ofInt 1).toInt = 1) rfl (fun h1528 => ?_) (fun hx => by exfalso; omega)
              refine En_lv (lv := [(0, .ref 159)]) ⟨rfl, trivial⟩ ?_
              exact keyj87 σ0 k f hσ0 hF0 h_k (by omega) (by omega) h_f (by omega) (by omega) (by omega) (by omega) ((KF_0 (σ := σ0))) (ML_eq hM (gN1_pos 5 (by omega) (by omega)).symm)
            · refine En_Ps 1 (pc' := 55) (lv' := [(0, .ref 159)]) (st' := [.ref 159]) rfl ?_
              refine En_ldcS (i := 1) rfl rfl rfl ?_
              refine En_callV rfl rfl rfl rfl rfl rfl rfl rfl (by decide +kernel : TG 159 = 35) (by decide +kernel) rfl (c_251s1x σ0 hσ0 hM) (by decide) (by decide) (fun v1530 σ1531 h1529 => ?_)
              obtain ⟨h1532, h1533, z1535, rfl, h1534⟩ := h1529
              have h1536 := h1534.2.2
              obtain rfl : σ0 = σ1531 := Fr_nil h1533
              refine En_iNe _ rfl rfl (fun h1537 => ?_) (fun h1537 => ?_)
              · refine En_Ps 4 (pc' := 79) (lv' := [(1, .int ((Int32.ofInt 1))), (0, .ref 159)]) (st' := [.int ((Int32.ofInt 1))]) rfl ?_
                refine En_iNe _ (by decide : (Int32.ofInt 1).toInt = 1) rfl (fun h1538 => ?_) (fun hx => by exfalso; omega)
                refine En_lv (lv := [(0, .ref 159)]) ⟨rfl, trivial⟩ ?_
                exact keyj87 σ0 k f hσ0 hF0 h_k (by omega) (by omega) h_f (by omega) (by omega) (by omega) (by omega) ((KF_0 (σ := σ0))) (ML_eq hM (gN1_pos 1 (by omega) (by omega)).symm)
              · refine En_Ps 1 (pc' := 64) (lv' := [(0, .ref 159)]) (st' := [.ref 159]) rfl ?_
                refine En_ldcS (i := 0) rfl rfl rfl ?_
                refine En_callV rfl rfl rfl rfl rfl rfl rfl rfl (by decide +kernel : TG 159 = 35) (by decide +kernel) rfl (c_251s0x σ0 hσ0 hM) (by decide) (by decide) (fun v1540 σ1541 h1539 => ?_)
                obtain ⟨h1542, h1543, z1545, rfl, h1544⟩ := h1539
                have h1546 := h1544.2.2
                obtain rfl : σ0 = σ1541 := Fr_nil h1543
                refine En_iEq _ rfl rfl (fun h1547 => ?_) (fun h1547 => ?_)
                · refine En_Ps 3 (pc' := 79) (lv' := [(1, .int ((Int32.ofInt 0))), (0, .ref 159)]) (st' := [.int ((Int32.ofInt 0))]) rfl ?_
                  refine En_iNe _ (by decide : (Int32.ofInt 0).toInt = 0) rfl (fun hx => by exfalso; omega) (fun h1548 => ?_)
                  refine En_Ps 2 (pc' := 84) (lv' := [(1, .int ((Int32.ofInt 0))), (0, .ref 159)]) (st' := [.int ((Int32.ofInt 1)), .ref 159]) rfl ?_
                  have := (by decide : ((Int32.ofInt 1)).toInt = 1)
                  refine En_callV rfl rfl rfl rfl rfl rfl rfl rfl (by decide +kernel : TG 159 = 35) (by decide +kernel) rfl (c_223x σ0 hσ0 ((Int32.ofInt 1)) (geI (by decide : (Int32.ofInt 1).toInt = 1) (by omega)) (leI (by decide : (Int32.ofInt 1).toInt = 1) (by omega)) k h_k hM) (by decide) (by decide) (fun v1550 σ1551 h1549 => ?_)
                  obtain ⟨h1552, h1553, z1555, h1556, rfl, h1554⟩ := h1549
                  have h1557 := h1554.2.2.2.2.2
                  have h1558 := Fr_trans hF0 h1553 (by decide +kernel)
                  have h1559 := KF_fr (KF_0 (σ := σ0)) h1553 (by decide +kernel)
                  obtain ⟨S1560, h1561⟩ : ∃ q : PS, q = err By Nb 1 Sp := ⟨_, rfl⟩
                  have h1562 : ML By Nb σ1551 S1560 := by rw [h1561]; exact (ML_eq h1557 (err_cg (by omega)))
                  have h1563 := ML_k h1562 h1556
                  have h1564 : S1560.2.2.2 = Sp.2.2.2 := by rw [h1561]; exact err_w
                  refine En_lv (lv := [(0, .ref 159)]) ⟨rfl, trivial⟩ ?_
                  exact keyj87 σ1551 z1555 f h1552 h1558 h1556 (by omega) (by omega) ((h1553 _ _ (inW (by decide +kernel : TG 159 = 35) (by decide +kernel))).trans h_f) (by omega) (by omega) (by omega) (by omega) (h1559) (ML_eq h1562 (by subst h1561; exact (gN1_neg (by omega) (by omega) (by omega) (by omega) (by omega) (by omega) (by omega) (by omega)).symm))
                · refine En_Ps 4 (pc' := 79) (lv' := [(1, .int ((Int32.ofInt 1))), (0, .ref 159)]) (st' := [.int ((Int32.ofInt 1))]) rfl ?_
                  refine En_iNe _ (by decide : (Int32.ofInt 1).toInt = 1) rfl (fun h1565 => ?_) (fun hx => by exfalso; omega)
                  refine En_lv (lv := [(0, .ref 159)]) ⟨rfl, trivial⟩ ?_
                  exact keyj87 σ0 k f hσ0 hF0 h_k (by omega) (by omega) h_f (by omega) (by omega) (by omega) (by omega) ((KF_0 (σ := σ0))) (ML_eq hM (gN1_pos 0 (by omega) (by omega)).symm)
/-- DoorSchoolModel.readLine()V -/
abbrev P_301x (σ0 : SG) (By : Int → Int) (Nb : Int) (Sp : PS) (f : Int32) (k : Int32) (l : Int32) : PO := fun v σ => WT σ ∧ Fr [(35, 8), (35, 9), (35, 10), (35, 11), (35, 12), (35, 13), (41, 0)] σ0 σ ∧ ∃ f1 : Int32, (σ 159)[8]? = some (.int f1) ∧ ∃ t1 : Int32, (σ 159)[10]? = some (.int t1) ∧ ∃ k1 : Int32, (σ 159)[12]? = some (.int k1) ∧ ∃ l1 : Int32, (σ 165)[(7 : Int).toNat]? = some (.int l1) ∧ v = none ∧ -f1.toInt + 1 ≤ 0 ∧ f1.toInt - 1600 ≤ 0 ∧ -f1.toInt + f.toInt ≤ 0 ∧ f1.toInt - f.toInt - 1599 ≤ 0 ∧ -f1.toInt + k.toInt + 1 ≤ 0 ∧ f1.toInt - k.toInt - 1600 ≤ 0 ∧ -f1.toInt + l.toInt + 1 ≤ 0 ∧ f1.toInt - l.toInt - 1600 ≤ 0 ∧ -t1.toInt ≤ 0 ∧ t1.toInt - 4 ≤ 0 ∧ -t1.toInt + f.toInt - 1600 ≤ 0 ∧ t1.toInt - f.toInt - 3 ≤ 0 ∧ -t1.toInt + k.toInt ≤ 0 ∧ t1.toInt - k.toInt - 4 ≤ 0 ∧ -t1.toInt + l.toInt - 1599 ≤ 0 ∧ t1.toInt - l.toInt - 4 ≤ 0 ∧ -k1.toInt ≤ 0 ∧ k1.toInt - 3 ≤ 0 ∧ -k1.toInt + f.toInt - 1600 ≤ 0 ∧ k1.toInt - f.toInt - 2 ≤ 0 ∧ -k1.toInt + k.toInt ≤ 0 ∧ k1.toInt - k.toInt - 3 ≤ 0 ∧ -k1.toInt + l.toInt - 1599 ≤ 0 ∧ k1.toInt - l.toInt - 3 ≤ 0 ∧ -l1.toInt + 1 ≤ 0 ∧ l1.toInt - 1600 ≤ 0 ∧ -l1.toInt + f.toInt - 1599 ≤ 0 ∧ l1.toInt - f.toInt ≤ 0 ∧ -l1.toInt + k.toInt + 1 ≤ 0 ∧ l1.toInt - k.toInt - 1600 ≤ 0 ∧ -l1.toInt + l.toInt + 1 ≤ 0 ∧ l1.toInt - l.toInt - 1 ≤ 0 ∧ f.toInt - f1.toInt ≤ 0 ∧ Imp (k1.toInt ≤ 0 ∧ -t1.toInt + 1 ≤ 0) (f.toInt - f1.toInt + 1 ≤ 0) ∧ l1.toInt - l.toInt - 1 ≤ 0 ∧ -l1.toInt + l.toInt + 1 ≤ 0 ∧ ((∀ k2 : Int, k2 = k1.toInt → FI σ k2) ∧ ML By Nb σ (gLine By Nb Sp))
set_option maxRecDepth 10000 in
set_option maxHeartbeats 4000000 in
theorem c_301x {By : Int → Int} {Nb : Int} {Sp : PS} (σ0 : SG) (hσ0 : WT σ0) (f : Int32) (h_f : (σ0 159)[8]? = some (.int f)) (k : Int32) (h_k : (σ0 159)[12]? = some (.int k)) (l : Int32) (h_l : (σ0 165)[(7 : Int).toNat]? = some (.int l)) (hp0 : l.toInt - f.toInt + 1 ≤ 0) (hp1 : k.toInt ≤ 0) (hI : FI σ0 k.toInt) (hM : ML By Nb σ0 Sp) (hg : Sp.1 = 0) : En 10 223 none mr_301 (P_301x σ0 By Nb Sp f k l) 0 [(0, .ref 159)] [] σ0 := by
  obtain ⟨hl_f, hu_f⟩ := WT_int hσ0 (g := 35) (by decide +kernel) (by decide +kernel) (l := 0) (u := 1600) (by decide +kernel) h_f
  obtain ⟨hl_k, hu_k⟩ := WT_int hσ0 (g := 35) (by decide +kernel) (by decide +kernel) (l := 0) (u := 3) (by decide +kernel) h_k
  obtain ⟨hl_l, hu_l⟩ := WT_int hσ0 (g := 41) (by decide +kernel) (by decide +kernel) (l := 0) (u := 1600) (by decide +kernel) h_l
  have hF0 : Fr [(35, 8), (35, 9), (35, 10), (35, 11), (35, 12), (35, 13), (41, 0)] σ0 σ0 := Fr_rfl
  have h1 := ML_k hM h_k
  have h2 := ML_w hM hg h_l (by omega) (by omega)
  refine En_Ps 1 (pc' := 1) (lv' := [(0, .ref 159)]) (st' := [.ref 159]) rfl ?_
  refine En_getU (j := 14) (u := 165) (g' := 41) (q := 0) rfl rfl rfl (by decide +kernel : TG 159 = 35) (by decide +kernel) hσ0 (by decide +kernel) (by decide +kernel) (fun h3 => ?_)
  refine En_Ps 1 (pc' := 6) (lv' := [(0, .ref 159)]) (st' := [.int (((Int8.ofInt 7).toInt32)), .ref 165]) rfl ?_
  refine En_ialdK h_l rfl (by decide : ((Int8.ofInt 7).toInt32).toInt = 7) (by decide +kernel : TG 165 = 41) (by decide +kernel) hσ0 (by omega) (lnI (by decide +kernel : LN _ = 226) (by omega)) ?_
  refine En_iNe _ rfl rfl (fun h6 => ?_) (fun h6 => ?_)
  · refine En_Ps 1 (pc' := 48) (lv' := [(0, .ref 159)]) (st' := [.ref 159]) rfl ?_
    refine En_callV rfl rfl rfl rfl rfl rfl rfl rfl (by decide +kernel : TG 159 = 35) (by decide +kernel) rfl (c_302x σ0 hσ0 f h_f k h_k hM (by omega)) (by decide) (by decide) (fun v8 σ9 h7 => ?_)
    obtain ⟨h10, h11, z13, h14, z15, h16, rfl, h12⟩ := h7
    have h17 := h12.2.2.2.2.2.2.2.2.2.2.2.2.2.2
    have h18 := Fr_trans hF0 h11 (by decide +kernel)
    obtain ⟨S19, h20⟩ : ∃ q : PS, q = gNext By Nb Sp := ⟨_, rfl⟩
    have h21 : ML By Nb σ9 S19 := by rw [h20]; exact h17.2
    have h22 := ML_k h21 h16
    obtain ⟨z24, h23, h25, h26⟩ := WT_peekI h10 (by decide +kernel : TG 159 = 35) (by decide +kernel : FT 35 10 = (0, 0, 4)) (by decide +kernel)
    have h27 := ML_k h21 h16
    have h28 : Imp (S19.1 = 0) (tK By Nb S19.2.2.1 = z24.toInt) := ML_t h21 h23
    obtain ⟨z30, h29, h31, h32⟩ := WT_peekI h10 (by decide +kernel : TG 165 = 41) (by decide +kernel : FT 41 (7 : Int).toNat = (0, 0, 1600)) (by decide +kernel)
    have h33 := ci_at h_l (rfl : (7 : Int) = 7)
    have h34 := ci_at h29 (rfl : (7 : Int) = 7)
    have h35 := h17.1 7 (by omega)
    refine En_Ps 1 (pc' := 52) (lv' := [(0, .ref 159)]) (st' := [.ref 159]) rfl ?_
    refine En_callV rfl rfl rfl rfl rfl rfl rfl rfl (by decide +kernel : TG 159 = 35) (by decide +kernel) rfl (c_237 σ9 h10 z15 h16) (by decide) (by decide) (fun v37 σ38 h36 => ?_)
    obtain ⟨h39, h40, z42, rfl, h41⟩ := h36
    obtain rfl : σ9 = σ38 := Fr_nil h40
    refine En_iEq _ rfl rfl (fun h43 => ?_) (fun h43 => ?_)
    · have h44 := Imp_m h41.2.2.2 (by omega)
      refine En_Ps 1 (pc' := 72) (lv' := [(0, .ref 159)]) (st' := [.ref 159]) rfl ?_
      refine En_callV rfl rfl rfl rfl rfl rfl rfl rfl (by decide +kernel : TG 159 = 35) (by decide +kernel) rfl (c_237 σ9 h10 z15 h16) (by decide) (by decide) (fun v46 σ47 h45 => ?_)
      obtain ⟨h48, h49, z51, rfl, h50⟩ := h45
      obtain rfl : σ9 = σ47 := Fr_nil h49
      refine En_iEq _ rfl rfl (fun h52 => ?_) (fun hx => by exfalso; omega)
      have h53 := Imp_m h50.2.2.2 (by omega)
      obtain ⟨S54, h55⟩ : ∃ q : PS, q = adv By Nb S19 := ⟨_, rfl⟩
      have h56 : ML By Nb σ9 S54 := by rw [h55]; exact (ML_eq h21 (adv_bad (by omega)).symm)
      have h57 := ML_k h56 h16
      have h58 : Imp (S54.1 = 0) (tK By Nb S54.2.2.1 = z24.toInt) := ML_t h56 h23
      refine En_Ps 1 (pc' := 83) (lv' := [(0, .ref 159)]) (st' := [.ref 159]) rfl ?_
      refine En_getK (j := 14) ((h11 _ _ (inW (by decide +kernel : TG 159 = 35) (by decide +kernel))).trans h3) rfl rfl rfl (by decide +kernel : TG 159 = 35) (by decide +kernel) ?_
      refine En_Ps 2 (pc' := 89) (lv' := [(0, .ref 159)]) (st' := [.int (((Int8.ofInt 7).toInt32)), .ref 165, .int (((Int8.ofInt 7).toInt32)), .ref 165]) rfl ?_
      refine En_ialdK h29 rfl (by decide : ((Int8.ofInt 7).toInt32).toInt = 7) (by decide +kernel : TG 165 = 41) (by decide +kernel) h10 (by omega) (lnI (by decide +kernel : LN _ = 226) (by omega)) ?_
      refine En_Ps 2 (pc' := 92) (lv' := [(0, .ref 159)]) (st' := [.int ((z30 + ((Int32.ofInt 1)))), .int (((Int8.ofInt 7).toInt32)), .ref 165]) rfl ?_
      refine En_top (addI rfl (by decide : (Int32.ofInt 1).toInt = 1) (by omega) (by omega)) (fun z60 h61 => ?_)
      refine En_iast (l := 0) (u := 1600) rfl (by decide : ((Int8.ofInt 7).toInt32).toInt = 7) (by decide +kernel : TG 165 = 41) (by decide +kernel) (by omega) (lnI (by decide +kernel : LN _ = 226) (by omega)) (by decide +kernel) (rngI rfl (by omega) (by omega)) h10 h18 (by decide +kernel) (fun σ62 h63 h64 h65 h66 => ?_)
      obtain ⟨S67, h68⟩ : ∃ q : PS, q = wst S54 (7) (Sp.2.2.2 7 + 1) := ⟨_, rfl⟩
      have h69 : ML By Nb σ62 S67 := by rw [h68]; exact (ML_wst (i := 7) (v := Sp.2.2.2 7 + 1) h56 h65 h66 (by omega) (fun z => by have j1 := Imp_m h58 z; exact ⟨by omega, by omega⟩))
      have h70 := ML_k h69 ((h66 _ _ (Or.inl (neTG (by decide +kernel : TG 159 = 35) (by decide +kernel : TG 165 = 41) (by decide)))).trans h16)
      have h71 : Imp (S67.1 = 0) (tK By Nb S67.2.2.1 = z24.toInt) := ML_t h69 ((h66 _ _ (Or.inl (neTG (by decide +kernel : TG 159 = 35) (by decide +kernel : TG 165 = 41) (by decide)))).trans h23)
      have h72 : S67.1 = S54.1 := by rw [h68]; rfl
      have h73 : ci σ62 165 6 = ci σ0 165 6 := by rw [ci_st h65 h66 (by omega) 6 (by omega), if_neg (by omega), h17.1 6 (by omega)]
      have h75 : ci σ62 165 7 = z60.toInt := by rw [ci_st h65 h66 (by omega) 7 (by omega), if_pos rfl]
      have h74 : ci σ62 165 1 = ci σ0 165 1 := by rw [ci_st h65 h66 (by omega) 1 (by omega), if_neg (by omega), h17.1 1 (by omega)]
      have h76 := ci_at h_l (rfl : (7 : Int) = 7)
      exact En_ret (v := none) rfl rfl rfl ⟨h63, h64, z13, ((h66 _ _ (Or.inl (neTG (by decide +kernel : TG 159 = 35) (by decide +kernel : TG 165 = 41) (by decide)))).trans h14), z24, ((h66 _ _ (Or.inl (neTG (by decide +kernel : TG 159 = 35) (by decide +kernel : TG 165 = 41) (by decide)))).trans h23), z15, ((h66 _ _ (Or.inl (neTG (by decide +kernel : TG 159 = 35) (by decide +kernel : TG 165 = 41) (by decide)))).trans h16), z60, h65, rfl, ⟨by omega, by omega, by omega, by omega, by omega, by omega, by omega, by omega, by omega, by omega, by omega, by omega, by omega, by omega, by omega, by omega, by omega, by omega, by omega, by omega, by omega, by omega, by omega, by omega, by omega, by omega, by omega, by omega, by omega, by omega, by omega, by omega, by omega, fun _ => by omega, by omega, by omega, ⟨fun k2 hk2 => ⟨h73.trans hI.1, fun hz => ⟨fun _ => by rw [h74]; exact (hI.2 (by omega)).1 (by omega), fun z7 => (by omega)⟩⟩, ML_eq h69 (by subst h68; subst h55; subst h20; unfold gLine fFirst gL1; dsimp only; first | done | rfl | ((repeat' split) <;> first | rfl | (exfalso; omega) | ((try have i0 := Imp_m h71 (by omega)); (try have i1 := Imp_m h58 (by omega)); (try have i2 := Imp_m h28 (by omega)); exfalso; omega)))⟩⟩⟩
    · have h77 := Imp_m h41.2.2.1 (by omega)
      have h78 := Imp_m h12.2.2.2.2.2.2.2.2.2.2.2.2.2.1 (by omega)
      try have h79 := Imp_m h28 (by omega)
      refine En_Ps 1 (pc' := 59) (lv' := [(0, .ref 159)]) (st' := [.ref 159]) rfl ?_
      refine En_getK (j := 10) h23 rfl rfl rfl (by decide +kernel : TG 159 = 35) (by decide +kernel) ?_
      refine En_Ps 1 (pc' := 63) (lv' := [(0, .ref 159)]) (st' := [.int ((Int32.ofInt 3)), .int z24]) rfl ?_
      refine En_icEq _ rfl (by decide : (Int32.ofInt 3).toInt = 3) rfl (fun h80 => ?_) (fun h80 => ?_)
      · refine En_Ps 1 (pc' := 72) (lv' := [(0, .ref 159)]) (st' := [.ref 159]) rfl ?_
        refine En_callV rfl rfl rfl rfl rfl rfl rfl rfl (by decide +kernel : TG 159 = 35) (by decide +kernel) rfl (c_237 σ9 h10 z15 h16) (by decide) (by decide) (fun v82 σ83 h81 => ?_)
        obtain ⟨h84, h85, z87, rfl, h86⟩ := h81
        obtain rfl : σ9 = σ83 := Fr_nil h85
        refine En_iEq _ rfl rfl (fun hx => by exfalso; omega) (fun h88 => ?_)
        have h89 := Imp_m h86.2.2.1 (by omega)
        try have h90 := Imp_m h28 (by omega)
        refine En_Ps 1 (pc' := 79) (lv' := [(0, .ref 159)]) (st' := [.ref 159]) rfl ?_
        refine En_callV rfl rfl rfl rfl rfl rfl rfl rfl (by decide +kernel : TG 159 = 35) (by decide +kernel) rfl (c_189x σ9 h10 z13 h14 h21.1 (ML_at h21 (by omega) h14)) (by decide) (by decide) (fun v92 σ93 h91 => ?_)
        obtain ⟨h94, h95, z97, h98, z99, h100, rfl, h96⟩ := h91
        have h101 := h96.2.2.2.2.2.2.2.2.2.2
        have h102 := Fr_trans h18 h95 (by decide +kernel)
        obtain ⟨S103, h104⟩ : ∃ q : PS, q = adv By Nb S19 := ⟨_, rfl⟩
        have h105 : ML By Nb σ93 S103 := by rw [h104]; exact (ML_adv h21 (by omega) h14 h95 (by decide +kernel) h101.2)
        have h106 := ML_k h105 ((h95 _ _ (inW (by decide +kernel : TG 159 = 35) (by decide +kernel))).trans h16)
        have h107 : Imp (S103.1 = 0) (tK By Nb S103.2.2.1 = z99.toInt) := ML_t h105 h100
        have h108 : S103.2.2.2 = S19.2.2.2 := by rw [h104]; exact adv_w
        refine En_Ps 1 (pc' := 83) (lv' := [(0, .ref 159)]) (st' := [.ref 159]) rfl ?_
        refine En_getK (j := 14) ((h95 _ _ (inW (by decide +kernel : TG 159 = 35) (by decide +kernel))).trans ((h11 _ _ (inW (by decide +kernel : TG 159 = 35) (by decide +kernel))).trans h3)) rfl rfl rfl (by decide +kernel : TG 159 = 35) (by decide +kernel) ?_
        refine En_Ps 2 (pc' := 89) (lv' := [(0, .ref 159)]) (st' := [.int (((Int8.ofInt 7).toInt32)), .ref 165, .int (((Int8.ofInt 7).toInt32)), .ref 165]) rfl ?_
        refine En_ialdK ((h95 _ _ (inWa (by decide +kernel : TG 165 = 41) (by decide +kernel))).trans h29) rfl (by decide : ((Int8.ofInt 7).toInt32).toInt = 7) (by decide +kernel : TG 165 = 41) (by decide +kernel) h94 (by omega) (lnI (by decide +kernel : LN _ = 226) (by omega)) ?_
        refine En_Ps 2 (pc' := 92) (lv' := [(0, .ref 159)]) (st' := [.int ((z30 + ((Int32.ofInt 1)))), .int (((Int8.ofInt 7).toInt32)), .ref 165]) rfl ?_
        refine En_top (addI rfl (by decide : (Int32.ofInt 1).toInt = 1) (by omega) (by omega)) (fun z110 h111 => ?_)
        refine En_iast (l := 0) (u := 1600) rfl (by decide : ((Int8.ofInt 7).toInt32).toInt = 7) (by decide +kernel : TG 165 = 41) (by decide +kernel) (by omega) (lnI (by decide +kernel : LN _ = 226) (by omega)) (by decide +kernel) (rngI rfl (by omega) (by omega)) h94 h102 (by decide +kernel) (fun σ112 h113 h114 h115 h116 => ?_)
        obtain ⟨S117, h118⟩ : ∃ q : PS, q = wst S103 (7) (Sp.2.2.2 7 + 1) := ⟨_, rfl⟩
        have h119 : ML By Nb σ112 S117 := by rw [h118]; exact (ML_wst (i := 7) (v := Sp.2.2.2 7 + 1) h105 h115 h116 (by omega) (fun z => by have j1 := Imp_m h107 z; exact ⟨by omega, by omega⟩))
        have h120 := ML_k h119 ((h116 _ _ (Or.inl (neTG (by decide +kernel : TG 159 = 35) (by decide +kernel : TG 165 = 41) (by decide)))).trans ((h95 _ _ (inW (by decide +kernel : TG 159 = 35) (by decide +kernel))).trans h16))
        have h121 : Imp (S117.1 = 0) (tK By Nb S117.2.2.1 = z99.toInt) := ML_t h119 ((h116 _ _ (Or.inl (neTG (by decide +kernel : TG 159 = 35) (by decide +kernel : TG 165 = 41) (by decide)))).trans h100)
        have h122 : S117.1 = S103.1 := by rw [h118]; rfl
        have h123 : ci σ112 165 6 = ci σ0 165 6 := by rw [ci_st h115 h116 (by omega) 6 (by omega), if_neg (by omega), ci_fr h95 (by decide +kernel : TG 165 = 41) (by decide +kernel) 6, h17.1 6 (by omega)]
        have h125 : ci σ112 165 7 = z110.toInt := by rw [ci_st h115 h116 (by omega) 7 (by omega), if_pos rfl]
        have h124 : ci σ112 165 1 = ci σ0 165 1 := by rw [ci_st h115 h116 (by omega) 1 (by omega), if_neg (by omega), ci_fr h95 (by decide +kernel : TG 165 = 41) (by decide +kernel) 1, h17.1 1 (by omega)]
        have h126 := ci_at h_l (rfl : (7 : Int) = 7)
        exact En_ret (v := none) rfl rfl rfl ⟨h113, h114, z97, ((h116 _ _ (Or.inl (neTG (by decide +kernel : TG 159 = 35) (by decide +kernel : TG 165 = 41) (by decide)))).trans h98), z99, ((h116 _ _ (Or.inl (neTG (by decide +kernel : TG 159 = 35) (by decide +kernel : TG 165 = 41) (by decide)))).trans h100), z15, ((h116 _ _ (Or.inl (neTG (by decide +kernel : TG 159 = 35) (by decide +kernel : TG 165 = 41) (by decide)))).trans ((h95 _ _ (inW (by decide +kernel : TG 159 = 35) (by decide +kernel))).trans h16)), z110, h115, rfl, ⟨by omega, by omega, by omega, by omega, by omega, by omega, by omega, by omega, by omega, by omega, by omega, by omega, by omega, by omega, by omega, by omega, by omega, by omega, by omega, by omega, by omega, by omega, by omega, by omega, by omega, by omega, by omega, by omega, by omega, by omega, by omega, by omega, by omega, fun _ => by omega, by omega, by omega, ⟨fun k2 hk2 => ⟨h123.trans hI.1, fun hz => ⟨fun _ => by rw [h124]; exact (hI.2 (by omega)).1 (by omega), fun z7 => (by omega)⟩⟩, ML_eq h119 (by subst h118; subst h104; subst h20; unfold gLine fFirst gL1; dsimp only; first | done | rfl | ((repeat' split) <;> first | rfl | (exfalso; omega) | ((try have i0 := Imp_m h121 (by omega)); (try have i1 := Imp_m h107 (by omega)); (try have i2 := Imp_m h28 (by omega)); exfalso; omega)))⟩⟩⟩
      · refine En_Ps 2 (pc' := 68) (lv' := [(0, .ref 159)]) (st' := [.int ((Int32.ofInt 1)), .ref 159]) rfl ?_
        have := (by decide : ((Int32.ofInt 1)).toInt = 1)
        refine En_callV rfl rfl rfl rfl rfl rfl rfl rfl (by decide +kernel : TG 159 = 35) (by decide +kernel) rfl (c_223x σ9 h10 ((Int32.ofInt 1)) (geI (by decide : (Int32.ofInt 1).toInt = 1) (by omega)) (leI (by decide : (Int32.ofInt 1).toInt = 1) (by omega)) z15 h16 h21) (by decide) (by decide) (fun v128 σ129 h127 => ?_)
        obtain ⟨h130, h131, z133, h134, rfl, h132⟩ := h127
        have h135 := h132.2.2.2.2.2
        have h136 := Fr_trans h18 h131 (by decide +kernel)
        obtain ⟨S137, h138⟩ : ∃ q : PS, q = err By Nb 1 S19 := ⟨_, rfl⟩
        have h139 : ML By Nb σ129 S137 := by rw [h138]; exact (ML_eq h135 (err_cg (by omega)))
        have h140 := ML_k h139 h134
        have h141 : Imp (S137.1 = 0) (tK By Nb S137.2.2.1 = z24.toInt) := ML_t h139 ((h131 _ _ (inW (by decide +kernel : TG 159 = 35) (by decide +kernel))).trans h23)
        have h142 : S137.2.2.2 = S19.2.2.2 := by rw [h138]; exact err_w
        refine En_Ps 1 (pc' := 72) (lv' := [(0, .ref 159)]) (st' := [.ref 159]) rfl ?_
        refine En_callV rfl rfl rfl rfl rfl rfl rfl rfl (by decide +kernel : TG 159 = 35) (by decide +kernel) rfl (c_237 σ129 h130 z133 h134) (by decide) (by decide) (fun v144 σ145 h143 => ?_)
        obtain ⟨h146, h147, z149, rfl, h148⟩ := h143
        obtain rfl : σ129 = σ145 := Fr_nil h147
        refine En_iEq _ rfl rfl (fun h150 => ?_) (fun hx => by exfalso; omega)
        have h151 := Imp_m h148.2.2.2 (by omega)
        obtain ⟨S152, h153⟩ : ∃ q : PS, q = adv By Nb S137 := ⟨_, rfl⟩
        have h154 : ML By Nb σ129 S152 := by rw [h153]; exact (ML_eq h139 (adv_bad (by omega)).symm)
        have h155 := ML_k h154 h134
        have h156 : Imp (S152.1 = 0) (tK By Nb S152.2.2.1 = z24.toInt) := ML_t h154 ((h131 _ _ (inW (by decide +kernel : TG 159 = 35) (by decide +kernel))).trans h23)
        refine En_Ps 1 (pc' := 83) (lv' := [(0, .ref 159)]) (st' := [.ref 159]) rfl ?_
        refine En_getK (j := 14) ((h131 _ _ (inW (by decide +kernel : TG 159 = 35) (by decide +kernel))).trans ((h11 _ _ (inW (by decide +kernel : TG 159 = 35) (by decide +kernel))).trans h3)) rfl rfl rfl (by decide +kernel : TG 159 = 35) (by decide +kernel) ?_
        refine En_Ps 2 (pc' := 89) (lv' := [(0, .ref 159)]) (st' := [.int (((Int8.ofInt 7).toInt32)), .ref 165, .int (((Int8.ofInt 7).toInt32)), .ref 165]) rfl ?_
        refine En_ialdK ((h131 _ _ (inWa (by decide +kernel : TG 165 = 41) (by decide +kernel))).trans h29) rfl (by decide : ((Int8.ofInt 7).toInt32).toInt = 7) (by decide +kernel : TG 165 = 41) (by decide +kernel) h130 (by omega) (lnI (by decide +kernel : LN _ = 226) (by omega)) ?_
        refine En_Ps 2 (pc' := 92) (lv' := [(0, .ref 159)]) (st' := [.int ((z30 + ((Int32.ofInt 1)))), .int (((Int8.ofInt 7).toInt32)), .ref 165]) rfl ?_
        refine En_top (addI rfl (by decide : (Int32.ofInt 1).toInt = 1) (by omega) (by omega)) (fun z158 h159 => ?_)
        refine En_iast (l := 0) (u := 1600) rfl (by decide : ((Int8.ofInt 7).toInt32).toInt = 7) (by decide +kernel : TG 165 = 41) (by decide +kernel) (by omega) (lnI (by decide +kernel : LN _ = 226) (by omega)) (by decide +kernel) (rngI rfl (by omega) (by omega)) h130 h136 (by decide +kernel) (fun σ160 h161 h162 h163 h164 => ?_)
        obtain ⟨S165, h166⟩ : ∃ q : PS, q = wst S152 (7) (Sp.2.2.2 7 + 1) := ⟨_, rfl⟩
        have h167 : ML By Nb σ160 S165 := by rw [h166]; exact (ML_wst (i := 7) (v := Sp.2.2.2 7 + 1) h154 h163 h164 (by omega) (fun z => by have j1 := Imp_m h156 z; exact ⟨by omega, by omega⟩))
        have h168 := ML_k h167 ((h164 _ _ (Or.inl (neTG (by decide +kernel : TG 159 = 35) (by decide +kernel : TG 165 = 41) (by decide)))).trans h134)
        have h169 : Imp (S165.1 = 0) (tK By Nb S165.2.2.1 = z24.toInt) := ML_t h167 ((h164 _ _ (Or.inl (neTG (by decide +kernel : TG 159 = 35) (by decide +kernel : TG 165 = 41) (by decide)))).trans ((h131 _ _ (inW (by decide +kernel : TG 159 = 35) (by decide +kernel))).trans h23))
        have h170 : S165.1 = S152.1 := by rw [h166]; rfl
        have h171 : ci σ160 165 6 = ci σ0 165 6 := by rw [ci_st h163 h164 (by omega) 6 (by omega), if_neg (by omega), ci_fr h131 (by decide +kernel : TG 165 = 41) (by decide +kernel) 6, h17.1 6 (by omega)]
        have h173 : ci σ160 165 7 = z158.toInt := by rw [ci_st h163 h164 (by omega) 7 (by omega), if_pos rfl]
        have h172 : ci σ160 165 1 = ci σ0 165 1 := by rw [ci_st h163 h164 (by omega) 1 (by omega), if_neg (by omega), ci_fr h131 (by decide +kernel : TG 165 = 41) (by decide +kernel) 1, h17.1 1 (by omega)]
        have h174 := ci_at h_l (rfl : (7 : Int) = 7)
        exact En_ret (v := none) rfl rfl rfl ⟨h161, h162, z13, ((h164 _ _ (Or.inl (neTG (by decide +kernel : TG 159 = 35) (by decide +kernel : TG 165 = 41) (by decide)))).trans ((h131 _ _ (inW (by decide +kernel : TG 159 = 35) (by decide +kernel))).trans h14)), z24, ((h164 _ _ (Or.inl (neTG (by decide +kernel : TG 159 = 35) (by decide +kernel : TG 165 = 41) (by decide)))).trans ((h131 _ _ (inW (by decide +kernel : TG 159 = 35) (by decide +kernel))).trans h23)), z133, ((h164 _ _ (Or.inl (neTG (by decide +kernel : TG 159 = 35) (by decide +kernel : TG 165 = 41) (by decide)))).trans h134), z158, h163, rfl, ⟨by omega, by omega, by omega, by omega, by omega, by omega, by omega, by omega, by omega, by omega, by omega, by omega, by omega, by omega, by omega, by omega, by omega, by omega, by omega, by omega, by omega, by omega, by omega, by omega, by omega, by omega, by omega, by omega, by omega, by omega, by omega, by omega, by omega, fun _ => by omega, by omega, by omega, ⟨fun k2 hk2 => ⟨h171.trans hI.1, fun hz => ⟨fun _ => by rw [h172]; exact (hI.2 (by omega)).1 (by omega), fun z7 => (by omega)⟩⟩, ML_eq h167 (by subst h166; subst h153; subst h138; subst h20; unfold gLine fFirst gL1; dsimp only; first | done | rfl | ((repeat' split) <;> first | rfl | (exfalso; omega) | ((try have i0 := Imp_m h169 (by omega)); (try have i1 := Imp_m h156 (by omega)); (try have i2 := Imp_m h141 (by omega)); (try have i3 := Imp_m h28 (by omega)); exfalso; omega)))⟩⟩⟩
  · refine En_Ps 1 (pc' := 11) (lv' := [(0, .ref 159)]) (st' := [.ref 159]) rfl ?_
    refine En_ldcS (i := 10) rfl rfl rfl ?_
    refine En_callV rfl rfl rfl rfl rfl rfl rfl rfl (by decide +kernel : TG 159 = 35) (by decide +kernel) rfl (c_286s10x σ0 hσ0 f h_f k h_k hM) (by decide) (by decide) (fun v176 σ177 h175 => ?_)
    obtain ⟨h178, h179, z181, h182, z183, h184, rfl, h180⟩ := h175
    have h185 := h180.2.2.2.2.2.2.2.2.2.2.2.2.2.2
    have h186 := Fr_trans hF0 h179 (by decide +kernel)
    obtain ⟨S187, h188⟩ : ∃ q : PS, q = pss By Nb (iW By Nb 10 Sp) Sp := ⟨_, rfl⟩
    have h189 : ML By Nb σ177 S187 := by rw [h188]; exact h185
    have h190 := ML_k h189 h184
    refine En_Ps 1 (pc' := 17) (lv' := [(0, .ref 159)]) (st' := [.ref 159]) rfl ?_
    refine En_getK (j := 14) ((h179 _ _ (inW (by decide +kernel : TG 159 = 35) (by decide +kernel))).trans h3) rfl rfl rfl (by decide +kernel : TG 159 = 35) (by decide +kernel) ?_
    refine En_Ps 2 (pc' := 22) (lv' := [(0, .ref 159)]) (st' := [.ref 159, .int ((Int32.ofInt 0)), .ref 165]) rfl ?_
    refine En_ldcS (i := 13) rfl rfl rfl ?_
    refine En_Ps 2 (pc' := 26) (lv' := [(0, .ref 159)]) (st' := [.int ((Int32.ofInt 4)), .int ((Int32.ofInt 2)), .retAddr 27, .ref 159, .int ((Int32.ofInt 0)), .ref 165]) rfl ?_
    have := (by decide : ((Int32.ofInt 2)).toInt = 2)
    have := (by decide : ((Int32.ofInt 4)).toInt = 4)
    refine En_callV rfl rfl rfl rfl rfl rfl rfl rfl (by decide +kernel : TG 159 = 35) (by decide +kernel) rfl (c_323s13x σ177 h178 ((Int32.ofInt 2)) ((Int32.ofInt 4)) (geI (by decide : (Int32.ofInt 2).toInt = 2) (by omega)) (leI (by decide : (Int32.ofInt 2).toInt = 2) (by omega)) (geI (by decide : (Int32.ofInt 4).toInt = 4) (by omega)) (leI (by decide : (Int32.ofInt 4).toInt = 4) (by omega)) z181 h182 z183 h184 h189) (by decide) (by decide) (fun v192 σ193 h191 => ?_)
    obtain ⟨h194, h195, z197, h198, z199, h200, z201, rfl, h196⟩ := h191
    have h202 := h196.2.2.2.2.2.2.2.2.2.2.2.2.2.2.2.2.2.2.2.2
    have h203 := Fr_trans h186 h195 (by decide +kernel)
    obtain ⟨S204, h205⟩ : ∃ q : PS, q = pss By Nb (iW By Nb 13 S187) S187 := ⟨_, rfl⟩
    have h206 : tN By Nb ((Int32.ofInt 2)).toInt ((Int32.ofInt 4)).toInt (pss By Nb (iW By Nb 13 S187) S187) = tN By Nb (2) (4) S204 := by rw [h205]; exact tN_cg2 (fun _ => by omega) (fun _ => by omega)
    obtain ⟨S207, h208⟩ : ∃ q : PS, q = tN By Nb (2) (4) S204 := ⟨_, rfl⟩
    have h209 : ML By Nb σ193 S207 := by rw [h208]; exact (ML_eq h202.1 h206)
    have h210 := ML_k h209 h200
    have h211 : Imp (S207.1 = 0) (z201.toInt = tV By Nb S204.2.2.1) := fun z => by rw [h205]; exact h202.2 (by rw [h206, ← h208]; exact z)
    have h212 := Imp_m h196.2.2.2.2.2.2.2.2.2.2.2.2.2.2.2.2.1 (by omega)
    have h213 := Imp_m h196.2.2.2.2.2.2.2.2.2.2.2.2.2.2.2.2.2.1 (by omega)
    refine En_iast (l := 0) (u := 4) rfl (by decide : (Int32.ofInt 0).toInt = 0) (by decide +kernel : TG 165 = 41) (by decide +kernel) (by omega) (lnI (by decide +kernel : LN _ = 226) (by omega)) (by decide +kernel) (rngI rfl (by omega) (by omega)) h194 h203 (by decide +kernel) (fun σ214 h215 h216 h217 h218 => ?_)
    obtain ⟨S219, h220⟩ : ∃ q : PS, q = wst S207 (0) ((tV By Nb S204.2.2.1)) := ⟨_, rfl⟩
    have h221 : ML By Nb σ214 S219 := by rw [h220]; exact (ML_wst (i := 0) (v := (tV By Nb S204.2.2.1)) h209 h217 h218 (by omega) (fun z => by have j1 := Imp_m h211 z; exact ⟨by omega, by omega⟩))
    have h222 := ML_k h221 ((h218 _ _ (Or.inl (neTG (by decide +kernel : TG 159 = 35) (by decide +kernel : TG 165 = 41) (by decide)))).trans h200)
    have h223 : S219.1 = S207.1 := by rw [h220]; rfl
    refine En_Ps 1 (pc' := 31) (lv' := [(0, .ref 159)]) (st' := [.ref 159]) rfl ?_
    refine En_getK (j := 14) ((h218 _ _ (Or.inl (neTG (by decide +kernel : TG 159 = 35) (by decide +kernel : TG 165 = 41) (by decide)))).trans ((h195 _ _ (inW (by decide +kernel : TG 159 = 35) (by decide +kernel))).trans ((h179 _ _ (inW (by decide +kernel : TG 159 = 35) (by decide +kernel))).trans h3))) rfl rfl rfl (by decide +kernel : TG 159 = 35) (by decide +kernel) ?_
    refine En_Ps 2 (pc' := 36) (lv' := [(0, .ref 159)]) (st' := [.ref 159, .int ((Int32.ofInt 1)), .ref 165]) rfl ?_
    refine En_ldcS (i := 16) rfl rfl rfl ?_
    refine En_Ps 2 (pc' := 40) (lv' := [(0, .ref 159)]) (st' := [.int ((Int32.ofInt 3)), .int ((Int32.ofInt 1)), .retAddr 33, .ref 159, .int ((Int32.ofInt 1)), .ref 165]) rfl ?_
    have := (by decide : ((Int32.ofInt 1)).toInt = 1)
    have := (by decide : ((Int32.ofInt 3)).toInt = 3)
    refine En_callV rfl rfl rfl rfl rfl rfl rfl rfl (by decide +kernel : TG 159 = 35) (by decide +kernel) rfl (c_323s16x σ214 h215 ((Int32.ofInt 1)) ((Int32.ofInt 3)) (geI (by decide : (Int32.ofInt 1).toInt = 1) (by omega)) (leI (by decide : (Int32.ofInt 1).toInt = 1) (by omega)) (geI (by decide : (Int32.ofInt 3).toInt = 3) (by omega)) (leI (by decide : (Int32.ofInt 3).toInt = 3) (by omega)) z197 ((h218 _ _ (Or.inl (neTG (by decide +kernel : TG 159 = 35) (by decide +kernel : TG 165 = 41) (by decide)))).trans h198) z199 ((h218 _ _ (Or.inl (neTG (by decide +kernel : TG 159 = 35) (by decide +kernel : TG 165 = 41) (by decide)))).trans h200) h221) (by decide) (by decide) (fun v225 σ226 h224 => ?_)
    obtain ⟨h227, h228, z230, h231, z232, h233, z234, rfl, h229⟩ := h224
    have h235 := h229.2.2.2.2.2.2.2.2.2.2.2.2.2.2.2.2.2.2.2.2
    have h236 := Fr_trans h216 h228 (by decide +kernel)
    obtain ⟨S237, h238⟩ : ∃ q : PS, q = pss By Nb (iW By Nb 16 S219) S219 := ⟨_, rfl⟩
    have h239 : tN By Nb ((Int32.ofInt 1)).toInt ((Int32.ofInt 3)).toInt (pss By Nb (iW By Nb 16 S219) S219) = tN By Nb (1) (3) S237 := by rw [h238]; exact tN_cg2 (fun _ => by omega) (fun _ => by omega)
    obtain ⟨S240, h241⟩ : ∃ q : PS, q = tN By Nb (1) (3) S237 := ⟨_, rfl⟩
    have h242 : ML By Nb σ226 S240 := by rw [h241]; exact (ML_eq h235.1 h239)
    have h243 := ML_k h242 h233
    have h244 : Imp (S240.1 = 0) (z234.toInt = tV By Nb S237.2.2.1) := fun z => by rw [h238]; exact h235.2 (by rw [h239, ← h241]; exact z)
    have h245 := Imp_m h229.2.2.2.2.2.2.2.2.2.2.2.2.2.2.2.2.1 (by omega)
    have h246 := Imp_m h229.2.2.2.2.2.2.2.2.2.2.2.2.2.2.2.2.2.1 (by omega)
    refine En_iast (l := 0) (u := 3) rfl (by decide : (Int32.ofInt 1).toInt = 1) (by decide +kernel : TG 165 = 41) (by decide +kernel) (by omega) (lnI (by decide +kernel : LN _ = 226) (by omega)) (by decide +kernel) (rngI rfl (by omega) (by omega)) h227 h236 (by decide +kernel) (fun σ247 h248 h249 h250 h251 => ?_)
    obtain ⟨S252, h253⟩ : ∃ q : PS, q = wst S240 (1) ((tV By Nb S237.2.2.1)) := ⟨_, rfl⟩
    have h254 : ML By Nb σ247 S252 := by rw [h253]; exact (ML_wst (i := 1) (v := (tV By Nb S237.2.2.1)) h242 h250 h251 (by omega) (fun z => by have j1 := Imp_m h244 z; exact ⟨by omega, by omega⟩))
    have h255 := ML_k h254 ((h251 _ _ (Or.inl (neTG (by decide +kernel : TG 159 = 35) (by decide +kernel : TG 165 = 41) (by decide)))).trans h233)
    have h256 : S252.1 = S240.1 := by rw [h253]; rfl
    refine En_Ps 1 (pc' := 51) (lv' := [(0, .ref 159)]) (st' := []) rfl ?_
    obtain ⟨z258, h257, h259, h260⟩ := WT_peekI h248 (by decide +kernel : TG 159 = 35) (by decide +kernel : FT 35 10 = (0, 0, 4)) (by decide +kernel)
    have h261 := ML_k h254 ((h251 _ _ (Or.inl (neTG (by decide +kernel : TG 159 = 35) (by decide +kernel : TG 165 = 41) (by decide)))).trans h233)
    have h262 : Imp (S252.1 = 0) (tK By Nb S252.2.2.1 = z258.toInt) := ML_t h254 h257
    refine En_Ps 1 (pc' := 52) (lv' := [(0, .ref 159)]) (st' := [.ref 159]) rfl ?_
    refine En_callV rfl rfl rfl rfl rfl rfl rfl rfl (by decide +kernel : TG 159 = 35) (by decide +kernel) rfl (c_237 σ247 h248 z232 ((h251 _ _ (Or.inl (neTG (by decide +kernel : TG 159 = 35) (by decide +kernel : TG 165 = 41) (by decide)))).trans h233)) (by decide) (by decide) (fun v264 σ265 h263 => ?_)
    obtain ⟨h266, h267, z269, rfl, h268⟩ := h263
    obtain rfl : σ247 = σ265 := Fr_nil h267
    refine En_iEq _ rfl rfl (fun h270 => ?_) (fun h270 => ?_)
    · have h271 := Imp_m h268.2.2.2 (by omega)
      refine En_Ps 1 (pc' := 72) (lv' := [(0, .ref 159)]) (st' := [.ref 159]) rfl ?_
      refine En_callV rfl rfl rfl rfl rfl rfl rfl rfl (by decide +kernel : TG 159 = 35) (by decide +kernel) rfl (c_237 σ247 h248 z232 ((h251 _ _ (Or.inl (neTG (by decide +kernel : TG 159 = 35) (by decide +kernel : TG 165 = 41) (by decide)))).trans h233)) (by decide) (by decide) (fun v273 σ274 h272 => ?_)
      obtain ⟨h275, h276, z278, rfl, h277⟩ := h272
      obtain rfl : σ247 = σ274 := Fr_nil h276
      refine En_iEq _ rfl rfl (fun h279 => ?_) (fun hx => by exfalso; omega)
      have h280 := Imp_m h277.2.2.2 (by omega)
      obtain ⟨S281, h282⟩ : ∃ q : PS, q = adv By Nb S252 := ⟨_, rfl⟩
      have h283 : ML By Nb σ247 S281 := by rw [h282]; exact (ML_eq h254 (adv_bad (by omega)).symm)
      have h284 := ML_k h283 ((h251 _ _ (Or.inl (neTG (by decide +kernel : TG 159 = 35) (by decide +kernel : TG 165 = 41) (by decide)))).trans h233)
      have h285 : Imp (S281.1 = 0) (tK By Nb S281.2.2.1 = z258.toInt) := ML_t h283 h257
      refine En_Ps 1 (pc' := 83) (lv' := [(0, .ref 159)]) (st' := [.ref 159]) rfl ?_
      refine En_getK (j := 14) ((h251 _ _ (Or.inl (neTG (by decide +kernel : TG 159 = 35) (by decide +kernel : TG 165 = 41) (by decide)))).trans ((h228 _ _ (inW (by decide +kernel : TG 159 = 35) (by decide +kernel))).trans ((h218 _ _ (Or.inl (neTG (by decide +kernel : TG 159 = 35) (by decide +kernel : TG 165 = 41) (by decide)))).trans ((h195 _ _ (inW (by decide +kernel : TG 159 = 35) (by decide +kernel))).trans ((h179 _ _ (inW (by decide +kernel : TG 159 = 35) (by decide +kernel))).trans h3))))) rfl rfl rfl (by decide +kernel : TG 159 = 35) (by decide +kernel) ?_
      refine En_Ps 2 (pc' := 89) (lv' := [(0, .ref 159)]) (st' := [.int (((Int8.ofInt 7).toInt32)), .ref 165, .int (((Int8.ofInt 7).toInt32)), .ref 165]) rfl ?_
      refine En_ialdK ((h251 _ _ (Or.inr (by omega))).trans ((h228 _ _ (inWa (by decide +kernel : TG 165 = 41) (by decide +kernel))).trans ((h218 _ _ (Or.inr (by omega))).trans ((h195 _ _ (inWa (by decide +kernel : TG 165 = 41) (by decide +kernel))).trans ((h179 _ _ (inWa (by decide +kernel : TG 165 = 41) (by decide +kernel))).trans h_l))))) rfl (by decide : ((Int8.ofInt 7).toInt32).toInt = 7) (by decide +kernel : TG 165 = 41) (by decide +kernel) h248 (by omega) (lnI (by decide +kernel : LN _ = 226) (by omega)) ?_
      refine En_Ps 2 (pc' := 92) (lv' := [(0, .ref 159)]) (st' := [.int ((l + ((Int32.ofInt 1)))), .int (((Int8.ofInt 7).toInt32)), .ref 165]) rfl ?_
      refine En_top (addI rfl (by decide : (Int32.ofInt 1).toInt = 1) (by omega) (by omega)) (fun z287 h288 => ?_)
      refine En_iast (l := 0) (u := 1600) rfl (by decide : ((Int8.ofInt 7).toInt32).toInt = 7) (by decide +kernel : TG 165 = 41) (by decide +kernel) (by omega) (lnI (by decide +kernel : LN _ = 226) (by omega)) (by decide +kernel) (rngI rfl (by omega) (by omega)) h248 h249 (by decide +kernel) (fun σ289 h290 h291 h292 h293 => ?_)
      obtain ⟨S294, h295⟩ : ∃ q : PS, q = wst S281 (7) (Sp.2.2.2 7 + 1) := ⟨_, rfl⟩
      have h296 : ML By Nb σ289 S294 := by rw [h295]; exact (ML_wst (i := 7) (v := Sp.2.2.2 7 + 1) h283 h292 h293 (by omega) (fun z => by have j1 := Imp_m h285 z; exact ⟨by omega, by omega⟩))
      have h297 := ML_k h296 ((h293 _ _ (Or.inl (neTG (by decide +kernel : TG 159 = 35) (by decide +kernel : TG 165 = 41) (by decide)))).trans ((h251 _ _ (Or.inl (neTG (by decide +kernel : TG 159 = 35) (by decide +kernel : TG 165 = 41) (by decide)))).trans h233))
      have h298 : Imp (S294.1 = 0) (tK By Nb S294.2.2.1 = z258.toInt) := ML_t h296 ((h293 _ _ (Or.inl (neTG (by decide +kernel : TG 159 = 35) (by decide +kernel : TG 165 = 41) (by decide)))).trans h257)
      have h299 : S294.1 = S281.1 := by rw [h295]; rfl
      have h300 : ci σ289 165 6 = ci σ0 165 6 := by rw [ci_st h292 h293 (by omega) 6 (by omega), if_neg (by omega), ci_st h250 h251 (by omega) 6 (by omega), if_neg (by omega), ci_fr h228 (by decide +kernel : TG 165 = 41) (by decide +kernel) 6, ci_st h217 h218 (by omega) 6 (by omega), if_neg (by omega), ci_fr h195 (by decide +kernel : TG 165 = 41) (by decide +kernel) 6, ci_fr h179 (by decide +kernel : TG 165 = 41) (by decide +kernel) 6]
      have h302 : ci σ289 165 7 = z287.toInt := by rw [ci_st h292 h293 (by omega) 7 (by omega), if_pos rfl]
      have h301 : ci σ289 165 1 = z234.toInt := by rw [ci_st h292 h293 (by omega) 1 (by omega), if_neg (by omega), ci_st h250 h251 (by omega) 1 (by omega), if_pos rfl]
      have h303 := ci_at h_l (rfl : (7 : Int) = 7)
      exact En_ret (v := none) rfl rfl rfl ⟨h290, h291, z230, ((h293 _ _ (Or.inl (neTG (by decide +kernel : TG 159 = 35) (by decide +kernel : TG 165 = 41) (by decide)))).trans ((h251 _ _ (Or.inl (neTG (by decide +kernel : TG 159 = 35) (by decide +kernel : TG 165 = 41) (by decide)))).trans h231)), z258, ((h293 _ _ (Or.inl (neTG (by decide +kernel : TG 159 = 35) (by decide +kernel : TG 165 = 41) (by decide)))).trans h257), z232, ((h293 _ _ (Or.inl (neTG (by decide +kernel : TG 159 = 35) (by decide +kernel : TG 165 = 41) (by decide)))).trans ((h251 _ _ (Or.inl (neTG (by decide +kernel : TG 159 = 35) (by decide +kernel : TG 165 = 41) (by decide)))).trans h233)), z287, h292, rfl, ⟨by omega, by omega, by omega, by omega, by omega, by omega, by omega, by omega, by omega, by omega, by omega, by omega, by omega, by omega, by omega, by omega, by omega, by omega, by omega, by omega, by omega, by omega, by omega, by omega, by omega, by omega, by omega, by omega, by omega, by omega, by omega, by omega, by omega, fun _ => by omega, by omega, by omega, ⟨fun k2 hk2 => ⟨h300.trans hI.1, fun hz => ⟨fun _ => by rw [h301]; omega, fun z7 => (by omega)⟩⟩, ML_eq h296 (by subst h295; subst h282; subst h253; subst h241; subst h238; subst h220; subst h208; subst h205; subst h188; unfold gLine fFirst gL1; dsimp only; first | done | rfl | ((repeat' split) <;> first | rfl | (exfalso; omega) | ((try have i0 := Imp_m h298 (by omega)); (try have i1 := Imp_m h285 (by omega)); (try have i2 := Imp_m h262 (by omega)); (try have i3 := Imp_m h244 (by omega)); (try have i4 := Imp_m h211 (by omega)); exfalso; omega)))⟩⟩⟩
    · have h304 := Imp_m h268.2.2.1 (by omega)
      have h305 := Imp_m h180.2.2.2.2.2.2.2.2.2.2.2.2.2.1 (by omega)
      have h306 := Imp_m h196.2.2.2.2.2.2.2.2.2.2.2.2.2.2.2.2.2.2.2.1 (by omega)
      have h307 := Imp_m h229.2.2.2.2.2.2.2.2.2.2.2.2.2.2.2.2.2.2.2.1 (by omega)
      try have h308 := Imp_m h262 (by omega)
      try have h309 := Imp_m h244 (by omega)
      try have h310 := Imp_m h211 (by omega)
      refine En_Ps 1 (pc' := 59) (lv' := [(0, .ref 159)]) (st' := [.ref 159]) rfl ?_
      refine En_getK (j := 10) h257 rfl rfl rfl (by decide +kernel : TG 159 = 35) (by decide +kernel) ?_
      refine En_Ps 1 (pc' := 63) (lv' := [(0, .ref 159)]) (st' := [.int ((Int32.ofInt 3)), .int z258]) rfl ?_
      refine En_icEq _ rfl (by decide : (Int32.ofInt 3).toInt = 3) rfl (fun h311 => ?_) (fun h311 => ?_)
      · refine En_Ps 1 (pc' := 72) (lv' := [(0, .ref 159)]) (st' := [.ref 159]) rfl ?_
        refine En_callV rfl rfl rfl rfl rfl rfl rfl rfl (by decide +kernel : TG 159 = 35) (by decide +kernel) rfl (c_237 σ247 h248 z232 ((h251 _ _ (Or.inl (neTG (by decide +kernel : TG 159 = 35) (by decide +kernel : TG 165 = 41) (by decide)))).trans h233)) (by decide) (by decide) (fun v313 σ314 h312 => ?_)
        obtain ⟨h315, h316, z318, rfl, h317⟩ := h312
        obtain rfl : σ247 = σ314 := Fr_nil h316
        refine En_iEq _ rfl rfl (fun hx => by exfalso; omega) (fun h319 => ?_)
        have h320 := Imp_m h317.2.2.1 (by omega)
        try have h321 := Imp_m h262 (by omega)
        try have h322 := Imp_m h244 (by omega)
        try have h323 := Imp_m h211 (by omega)
        refine En_Ps 1 (pc' := 79) (lv' := [(0, .ref 159)]) (st' := [.ref 159]) rfl ?_
        refine En_callV rfl rfl rfl rfl rfl rfl rfl rfl (by decide +kernel : TG 159 = 35) (by decide +kernel) rfl (c_189x σ247 h248 z230 ((h251 _ _ (Or.inl (neTG (by decide +kernel : TG 159 = 35) (by decide +kernel : TG 165 = 41) (by decide)))).trans h231) h254.1 (ML_at h254 (by omega) ((h251 _ _ (Or.inl (neTG (by decide +kernel : TG 159 = 35) (by decide +kernel : TG 165 = 41) (by decide)))).trans h231))) (by decide) (by decide) (fun v325 σ326 h324 => ?_)
        obtain ⟨h327, h328, z330, h331, z332, h333, rfl, h329⟩ := h324
        have h334 := h329.2.2.2.2.2.2.2.2.2.2
        have h335 := Fr_trans h249 h328 (by decide +kernel)
        obtain ⟨S336, h337⟩ : ∃ q : PS, q = adv By Nb S252 := ⟨_, rfl⟩
        have h338 : ML By Nb σ326 S336 := by rw [h337]; exact (ML_adv h254 (by omega) ((h251 _ _ (Or.inl (neTG (by decide +kernel : TG 159 = 35) (by decide +kernel : TG 165 = 41) (by decide)))).trans h231) h328 (by decide +kernel) h334.2)
        have h339 := ML_k h338 ((h328 _ _ (inW (by decide +kernel : TG 159 = 35) (by decide +kernel))).trans ((h251 _ _ (Or.inl (neTG (by decide +kernel : TG 159 = 35) (by decide +kernel : TG 165 = 41) (by decide)))).trans h233))
        have h340 : Imp (S336.1 = 0) (tK By Nb S336.2.2.1 = z332.toInt) := ML_t h338 h333
        have h341 : S336.2.2.2 = S252.2.2.2 := by rw [h337]; exact adv_w
        refine En_Ps 1 (pc' := 83) (lv' := [(0, .ref 159)]) (st' := [.ref 159]) rfl ?_
        refine En_getK (j := 14) ((h328 _ _ (inW (by decide +kernel : TG 159 = 35) (by decide +kernel))).trans ((h251 _ _ (Or.inl (neTG (by decide +kernel : TG 159 = 35) (by decide +kernel : TG 165 = 41) (by decide)))).trans ((h228 _ _ (inW (by decide +kernel : TG 159 = 35) (by decide +kernel))).trans ((h218 _ _ (Or.inl (neTG (by decide +kernel : TG 159 = 35) (by decide +kernel : TG 165 = 41) (by decide)))).trans ((h195 _ _ (inW (by decide +kernel : TG 159 = 35) (by decide +kernel))).trans ((h179 _ _ (inW (by decide +kernel : TG 159 = 35) (by decide +kernel))).trans h3)))))) rfl rfl rfl (by decide +kernel : TG 159 = 35) (by decide +kernel) ?_
        refine En_Ps 2 (pc' := 89) (lv' := [(0, .ref 159)]) (st' := [.int (((Int8.ofInt 7).toInt32)), .ref 165, .int (((Int8.ofInt 7).toInt32)), .ref 165]) rfl ?_
        refine En_ialdK ((h328 _ _ (inWa (by decide +kernel : TG 165 = 41) (by decide +kernel))).trans ((h251 _ _ (Or.inr (by omega))).trans ((h228 _ _ (inWa (by decide +kernel : TG 165 = 41) (by decide +kernel))).trans ((h218 _ _ (Or.inr (by omega))).trans ((h195 _ _ (inWa (by decide +kernel : TG 165 = 41) (by decide +kernel))).trans ((h179 _ _ (inWa (by decide +kernel : TG 165 = 41) (by decide +kernel))).trans h_l)))))) rfl (by decide : ((Int8.ofInt 7).toInt32).toInt = 7) (by decide +kernel : TG 165 = 41) (by decide +kernel) h327 (by omega) (lnI (by decide +kernel : LN _ = 226) (by omega)) ?_
        refine En_Ps 2 (pc' := 92) (lv' := [(0, .ref 159)]) (st' := [.int ((l + ((Int32.ofInt 1)))), .int (((Int8.ofInt 7).toInt32)), .ref 165]) rfl ?_
        refine En_top (addI rfl (by decide : (Int32.ofInt 1).toInt = 1) (by omega) (by omega)) (fun z343 h344 => ?_)
        refine En_iast (l := 0) (u := 1600) rfl (by decide : ((Int8.ofInt 7).toInt32).toInt = 7) (by decide +kernel : TG 165 = 41) (by decide +kernel) (by omega) (lnI (by decide +kernel : LN _ = 226) (by omega)) (by decide +kernel) (rngI rfl (by omega) (by omega)) h327 h335 (by decide +kernel) (fun σ345 h346 h347 h348 h349 => ?_)
        obtain ⟨S350, h351⟩ : ∃ q : PS, q = wst S336 (7) (Sp.2.2.2 7 + 1) := ⟨_, rfl⟩
        have h352 : ML By Nb σ345 S350 := by rw [h351]; exact (ML_wst (i := 7) (v := Sp.2.2.2 7 + 1) h338 h348 h349 (by omega) (fun z => by have j1 := Imp_m h340 z; exact ⟨by omega, by omega⟩))
        have h353 := ML_k h352 ((h349 _ _ (Or.inl (neTG (by decide +kernel : TG 159 = 35) (by decide +kernel : TG 165 = 41) (by decide)))).trans ((h328 _ _ (inW (by decide +kernel : TG 159 = 35) (by decide +kernel))).trans ((h251 _ _ (Or.inl (neTG (by decide +kernel : TG 159 = 35) (by decide +kernel : TG 165 = 41) (by decide)))).trans h233)))
        have h354 : Imp (S350.1 = 0) (tK By Nb S350.2.2.1 = z332.toInt) := ML_t h352 ((h349 _ _ (Or.inl (neTG (by decide +kernel : TG 159 = 35) (by decide +kernel : TG 165 = 41) (by decide)))).trans h333)
        have h355 : S350.1 = S336.1 := by rw [h351]; rfl
        have h356 : ci σ345 165 6 = ci σ0 165 6 := by rw [ci_st h348 h349 (by omega) 6 (by omega), if_neg (by omega), ci_fr h328 (by decide +kernel : TG 165 = 41) (by decide +kernel) 6, ci_st h250 h251 (by omega) 6 (by omega), if_neg (by omega), ci_fr h228 (by decide +kernel : TG 165 = 41) (by decide +kernel) 6, ci_st h217 h218 (by omega) 6 (by omega), if_neg (by omega), ci_fr h195 (by decide +kernel : TG 165 = 41) (by decide +kernel) 6, ci_fr h179 (by decide +kernel : TG 165 = 41) (by decide +kernel) 6]
        have h358 : ci σ345 165 7 = z343.toInt := by rw [ci_st h348 h349 (by omega) 7 (by omega), if_pos rfl]
        have h357 : ci σ345 165 1 = z234.toInt := by rw [ci_st h348 h349 (by omega) 1 (by omega), if_neg (by omega), ci_fr h328 (by decide +kernel : TG 165 = 41) (by decide +kernel) 1, ci_st h250 h251 (by omega) 1 (by omega), if_pos rfl]
        have h359 := ci_at h_l (rfl : (7 : Int) = 7)
        exact En_ret (v := none) rfl rfl rfl ⟨h346, h347, z330, ((h349 _ _ (Or.inl (neTG (by decide +kernel : TG 159 = 35) (by decide +kernel : TG 165 = 41) (by decide)))).trans h331), z332, ((h349 _ _ (Or.inl (neTG (by decide +kernel : TG 159 = 35) (by decide +kernel : TG 165 = 41) (by decide)))).trans h333), z232, ((h349 _ _ (Or.inl (neTG (by decide +kernel : TG 159 = 35) (by decide +kernel : TG 165 = 41) (by decide)))).trans ((h328 _ _ (inW (by decide +kernel : TG 159 = 35) (by decide +kernel))).trans ((h251 _ _ (Or.inl (neTG (by decide +kernel : TG 159 = 35) (by decide +kernel : TG 165 = 41) (by decide)))).trans h233))), z343, h348, rfl, ⟨by omega, by omega, by omega, by omega, by omega, by omega, by omega, by omega, by omega, by omega, by omega, by omega, by omega, by omega, by omega, by omega, by omega, by omega, by omega, by omega, by omega, by omega, by omega, by omega, by omega, by omega, by omega, by omega, by omega, by omega, by omega, by omega, by omega, fun _ => by omega, by omega, by omega, ⟨fun k2 hk2 => ⟨h356.trans hI.1, fun hz => ⟨fun _ => by rw [h357]; omega, fun z7 => (by omega)⟩⟩, ML_eq h352 (by subst h351; subst h337; subst h253; subst h241; subst h238; subst h220; subst h208; subst h205; subst h188; unfold gLine fFirst gL1; dsimp only; first | done | rfl | ((repeat' split) <;> first | rfl | (exfalso; omega) | ((try have i0 := Imp_m h354 (by omega)); (try have i1 := Imp_m h340 (by omega)); (try have i2 := Imp_m h262 (by omega)); (try have i3 := Imp_m h244 (by omega)); (try have i4 := Imp_m h211 (by omega)); exfalso; omega)))⟩⟩⟩
      · refine En_Ps 2 (pc' := 68) (lv' := [(0, .ref 159)]) (st' := [.int ((Int32.ofInt 1)), .ref 159]) rfl ?_
        have := (by decide : ((Int32.ofInt 1)).toInt = 1)
        refine En_callV rfl rfl rfl rfl rfl rfl rfl rfl (by decide +kernel : TG 159 = 35) (by decide +kernel) rfl (c_223x σ247 h248 ((Int32.ofInt 1)) (geI (by decide : (Int32.ofInt 1).toInt = 1) (by omega)) (leI (by decide : (Int32.ofInt 1).toInt = 1) (by omega)) z232 ((h251 _ _ (Or.inl (neTG (by decide +kernel : TG 159 = 35) (by decide +kernel : TG 165 = 41) (by decide)))).trans h233) h254) (by decide) (by decide) (fun v361 σ362 h360 => ?_)
        obtain ⟨h363, h364, z366, h367, rfl, h365⟩ := h360
        have h368 := h365.2.2.2.2.2
        have h369 := Fr_trans h249 h364 (by decide +kernel)
        obtain ⟨S370, h371⟩ : ∃ q : PS, q = err By Nb 1 S252 := ⟨_, rfl⟩
        have h372 : ML By Nb σ362 S370 := by rw [h371]; exact (ML_eq h368 (err_cg (by omega)))
        have h373 := ML_k h372 h367
        have h374 : Imp (S370.1 = 0) (tK By Nb S370.2.2.1 = z258.toInt) := ML_t h372 ((h364 _ _ (inW (by decide +kernel : TG 159 = 35) (by decide +kernel))).trans h257)
        have h375 : S370.2.2.2 = S252.2.2.2 := by rw [h371]; exact err_w
        refine En_Ps 1 (pc' := 72) (lv' := [(0, .ref 159)]) (st' := [.ref 159]) rfl ?_
        refine En_callV rfl rfl rfl rfl rfl rfl rfl rfl (by decide +kernel : TG 159 = 35) (by decide +kernel) rfl (c_237 σ362 h363 z366 h367) (by decide) (by decide) (fun v377 σ378 h376 => ?_)
        obtain ⟨h379, h380, z382, rfl, h381⟩ := h376
        obtain rfl : σ362 = σ378 := Fr_nil h380
        refine En_iEq _ rfl rfl (fun h383 => ?_) (fun hx => by exfalso; omega)
        have h384 := Imp_m h381.2.2.2 (by omega)
        obtain ⟨S385, h386⟩ : ∃ q : PS, q = adv By Nb S370 := ⟨_, rfl⟩
        have h387 : ML By Nb σ362 S385 := by rw [h386]; exact (ML_eq h372 (adv_bad (by omega)).symm)
        have h388 := ML_k h387 h367
        have h389 : Imp (S385.1 = 0) (tK By Nb S385.2.2.1 = z258.toInt) := ML_t h387 ((h364 _ _ (inW (by decide +kernel : TG 159 = 35) (by decide +kernel))).trans h257)
        refine En_Ps 1 (pc' := 83) (lv' := [(0, .ref 159)]) (st' := [.ref 159]) rfl ?_
        refine En_getK (j := 14) ((h364 _ _ (inW (by decide +kernel : TG 159 = 35) (by decide +kernel))).trans ((h251 _ _ (Or.inl (neTG (by decide +kernel : TG 159 = 35) (by decide +kernel : TG 165 = 41) (by decide)))).trans ((h228 _ _ (inW (by decide +kernel : TG 159 = 35) (by decide +kernel))).trans ((h218 _ _ (Or.inl (neTG (by decide +kernel : TG 159 = 35) (by decide +kernel : TG 165 = 41) (by decide)))).trans ((h195 _ _ (inW (by decide +kernel : TG 159 = 35) (by decide +kernel))).trans ((h179 _ _ (inW (by decide +kernel : TG 159 = 35) (by decide +kernel))).trans h3)))))) rfl rfl rfl (by decide +kernel : TG 159 = 35) (by decide +kernel) ?_
        refine En_Ps 2 (pc' := 89) (lv' := [(0, .ref 159)]) (st' := [.int (((Int8.ofInt 7).toInt32)), .ref 165, .int (((Int8.ofInt 7).toInt32)), .ref 165]) rfl ?_
        refine En_ialdK ((h364 _ _ (inWa (by decide +kernel : TG 165 = 41) (by decide +kernel))).trans ((h251 _ _ (Or.inr (by omega))).trans ((h228 _ _ (inWa (by decide +kernel : TG 165 = 41) (by decide +kernel))).trans ((h218 _ _ (Or.inr (by omega))).trans ((h195 _ _ (inWa (by decide +kernel : TG 165 = 41) (by decide +kernel))).trans ((h179 _ _ (inWa (by decide +kernel : TG 165 = 41) (by decide +kernel))).trans h_l)))))) rfl (by decide : ((Int8.ofInt 7).toInt32).toInt = 7) (by decide +kernel : TG 165 = 41) (by decide +kernel) h363 (by omega) (lnI (by decide +kernel : LN _ = 226) (by omega)) ?_
        refine En_Ps 2 (pc' := 92) (lv' := [(0, .ref 159)]) (st' := [.int ((l + ((Int32.ofInt 1)))), .int (((Int8.ofInt 7).toInt32)), .ref 165]) rfl ?_
        refine En_top (addI rfl (by decide : (Int32.ofInt 1).toInt = 1) (by omega) (by omega)) (fun z391 h392 => ?_)
        refine En_iast (l := 0) (u := 1600) rfl (by decide : ((Int8.ofInt 7).toInt32).toInt = 7) (by decide +kernel : TG 165 = 41) (by decide +kernel) (by omega) (lnI (by decide +kernel : LN _ = 226) (by omega)) (by decide +kernel) (rngI rfl (by omega) (by omega)) h363 h369 (by decide +kernel) (fun σ393 h394 h395 h396 h397 => ?_)
        obtain ⟨S398, h399⟩ : ∃ q : PS, q = wst S385 (7) (Sp.2.2.2 7 + 1) := ⟨_, rfl⟩
        have h400 : ML By Nb σ393 S398 := by rw [h399]; exact (ML_wst (i := 7) (v := Sp.2.2.2 7 + 1) h387 h396 h397 (by omega) (fun z => by have j1 := Imp_m h389 z; exact ⟨by omega, by omega⟩))
        have h401 := ML_k h400 ((h397 _ _ (Or.inl (neTG (by decide +kernel : TG 159 = 35) (by decide +kernel : TG 165 = 41) (by decide)))).trans h367)
        have h402 : Imp (S398.1 = 0) (tK By Nb S398.2.2.1 = z258.toInt) := ML_t h400 ((h397 _ _ (Or.inl (neTG (by decide +kernel : TG 159 = 35) (by decide +kernel : TG 165 = 41) (by decide)))).trans ((h364 _ _ (inW (by decide +kernel : TG 159 = 35) (by decide +kernel))).trans h257))
        have h403 : S398.1 = S385.1 := by rw [h399]; rfl
        have h404 : ci σ393 165 6 = ci σ0 165 6 := by rw [ci_st h396 h397 (by omega) 6 (by omega), if_neg (by omega), ci_fr h364 (by decide +kernel : TG 165 = 41) (by decide +kernel) 6, ci_st h250 h251 (by omega) 6 (by omega), if_neg (by omega), ci_fr h228 (by decide +kernel : TG 165 = 41) (by decide +kernel) 6, ci_st h217 h218 (by omega) 6 (by omega), if_neg (by omega), ci_fr h195 (by decide +kernel : TG 165 = 41) (by decide +kernel) 6, ci_fr h179 (by decide +kernel : TG 165 = 41) (by decide +kernel) 6]
        have h406 : ci σ393 165 7 = z391.toInt := by rw [ci_st h396 h397 (by omega) 7 (by omega), if_pos rfl]
        have h405 : ci σ393 165 1 = z234.toInt := by rw [ci_st h396 h397 (by omega) 1 (by omega), if_neg (by omega), ci_fr h364 (by decide +kernel : TG 165 = 41) (by decide +kernel) 1, ci_st h250 h251 (by omega) 1 (by omega), if_pos rfl]
        have h407 := ci_at h_l (rfl : (7 : Int) = 7)
        exact En_ret (v := none) rfl rfl rfl ⟨h394, h395, z230, ((h397 _ _ (Or.inl (neTG (by decide +kernel : TG 159 = 35) (by decide +kernel : TG 165 = 41) (by decide)))).trans ((h364 _ _ (inW (by decide +kernel : TG 159 = 35) (by decide +kernel))).trans ((h251 _ _ (Or.inl (neTG (by decide +kernel : TG 159 = 35) (by decide +kernel : TG 165 = 41) (by decide)))).trans h231))), z258, ((h397 _ _ (Or.inl (neTG (by decide +kernel : TG 159 = 35) (by decide +kernel : TG 165 = 41) (by decide)))).trans ((h364 _ _ (inW (by decide +kernel : TG 159 = 35) (by decide +kernel))).trans h257)), z366, ((h397 _ _ (Or.inl (neTG (by decide +kernel : TG 159 = 35) (by decide +kernel : TG 165 = 41) (by decide)))).trans h367), z391, h396, rfl, ⟨by omega, by omega, by omega, by omega, by omega, by omega, by omega, by omega, by omega, by omega, by omega, by omega, by omega, by omega, by omega, by omega, by omega, by omega, by omega, by omega, by omega, by omega, by omega, by omega, by omega, by omega, by omega, by omega, by omega, by omega, by omega, by omega, by omega, fun _ => by omega, by omega, by omega, ⟨fun k2 hk2 => ⟨h404.trans hI.1, fun hz => ⟨fun _ => by rw [h405]; omega, fun z7 => (by omega)⟩⟩, ML_eq h400 (by subst h399; subst h386; subst h371; subst h253; subst h241; subst h238; subst h220; subst h208; subst h205; subst h188; unfold gLine fFirst gL1; dsimp only; first | done | rfl | ((repeat' split) <;> first | rfl | (exfalso; omega) | ((try have i0 := Imp_m h402 (by omega)); (try have i1 := Imp_m h389 (by omega)); (try have i2 := Imp_m h374 (by omega)); (try have i3 := Imp_m h262 (by omega)); (try have i4 := Imp_m h244 (by omega)); (try have i5 := Imp_m h211 (by omega)); exfalso; omega)))⟩⟩⟩
/-- DoorSchoolModel.row(III)I -/
abbrev P_308x (σ0 : SG) (a : Int32) (b : Int32) (c : Int32) : PO := fun v σ => WT σ ∧ Fr [(53, 0), (54, 0), (55, 0)] σ0 σ ∧ ∃ ret : Int32, v = some (.int ret) ∧ -ret.toInt - 3 ≤ 0 ∧ ret.toInt ≤ 0 ∧ Imp (-a.toInt ≤ 0 ∧ a.toInt - 3 ≤ 0 ∧ -b.toInt ≤ 0 ∧ b.toInt - 3 ≤ 0 ∧ c.toInt - 60 ≤ 0 ∧ -c.toInt ≤ 0) (ret.toInt ≤ 0 ∧ -ret.toInt ≤ 0) ∧ Imp (-a.toInt ≤ 0 ∧ a.toInt - 3 ≤ 0 ∧ -b.toInt ≤ 0 ∧ b.toInt - 3 ≤ 0 ∧ c.toInt - 60 ≤ 0 ∧ c.toInt + 1 ≤ 0) (ret.toInt + 3 ≤ 0 ∧ -ret.toInt - 3 ≤ 0) ∧ Imp (a.toInt + 1 ≤ 0) (ret.toInt + 2 ≤ 0 ∧ -ret.toInt - 2 ≤ 0) ∧ Imp (-a.toInt + 4 ≤ 0) (ret.toInt + 2 ≤ 0 ∧ -ret.toInt - 2 ≤ 0) ∧ Imp (b.toInt + 1 ≤ 0) (ret.toInt + 2 ≤ 0 ∧ -ret.toInt - 2 ≤ 0) ∧ Imp (-b.toInt + 4 ≤ 0) (ret.toInt + 2 ≤ 0 ∧ -ret.toInt - 2 ≤ 0) ∧ Imp (-c.toInt + 61 ≤ 0) (ret.toInt + 2 ≤ 0 ∧ -ret.toInt - 2 ≤ 0)
set_option maxRecDepth 10000 in
set_option maxHeartbeats 4000000 in
theorem c_308x (σ0 : SG) (hσ0 : WT σ0) (a : Int32) (b : Int32) (c : Int32) : En 2 45 none mr_308 (P_308x σ0 a b c) 0 [(0, .ref 159), (1, .int a), (2, .int b), (3, .int c)] [] σ0 := by
  have hF0 : Fr [(53, 0), (54, 0), (55, 0)] σ0 σ0 := Fr_rfl
  refine En_Ps 1 (pc' := 1) (lv' := [(0, .ref 159), (1, .int a), (2, .int b), (3, .int c)]) (st' := [.int a]) rfl ?_
  refine En_callS rfl rfl rfl rfl rfl rfl rfl rfl rfl (c_266 σ0 hσ0 a) (by decide) (by decide) (fun v2 σ3 h1 => ?_)
  obtain ⟨h4, h5, z7, rfl, h6⟩ := h1
  have h8 := Fr_trans hF0 h5 (by decide +kernel)
  refine En_iEq _ rfl rfl (fun h9 => ?_) (fun h9 => ?_)
  · refine En_Ps 1 (pc' := 27) (lv' := [(0, .ref 159), (1, .int a), (2, .int b), (3, .int c)]) (st' := [.int (((Int8.ofInt (-2)).toInt32))]) rfl ?_
    refine En_top (by decide : ((Int8.ofInt (-2)).toInt32).toInt = -2) (fun z10 h11 => ?_)
    exact En_ret (v := some (.int z10)) rfl rfl rfl ⟨h4, h8, z10, rfl, ⟨by omega, by omega, fun _ => by omega, fun _ => by omega, fun _ => by omega, fun _ => by omega, fun _ => by omega, fun _ => by omega, fun _ => by omega⟩⟩
  · have h12 := Imp_m h6.2.2.1 (by omega)
    have h13 := Imp_m h6.2.2.2 (by omega)
    refine En_Ps 4 (pc' := 13) (lv' := [(0, .ref 159), (1, .int a), (2, .int b), (3, .int c)]) (st' := [.long ((3 : Int64)), .long ((Int64.ofNat 0)), .long b.toInt64]) rfl ?_
    have : b.toInt64.toInt = b.toInt := (i2lI rfl)
    have := (by decide : ((Int64.ofNat 0)).toInt = 0)
    have := (by decide : ((3 : Int64)).toInt = 3)
    refine En_callS rfl rfl rfl rfl rfl rfl rfl rfl rfl (c_249 σ3 h4 b.toInt64 ((Int64.ofNat 0)) ((3 : Int64))) (by decide) (by decide) (fun v15 σ16 h14 => ?_)
    obtain ⟨h17, h18, z20, rfl, h19⟩ := h14
    have h21 := Fr_trans h8 h18 (by decide +kernel)
    refine En_iEq _ rfl rfl (fun h22 => ?_) (fun h22 => ?_)
    · refine En_Ps 1 (pc' := 27) (lv' := [(0, .ref 159), (1, .int a), (2, .int b), (3, .int c)]) (st' := [.int (((Int8.ofInt (-2)).toInt32))]) rfl ?_
      refine En_top (by decide : ((Int8.ofInt (-2)).toInt32).toInt = -2) (fun z23 h24 => ?_)
      exact En_ret (v := some (.int z23)) rfl rfl rfl ⟨h17, h21, z23, rfl, ⟨by omega, by omega, fun _ => by omega, fun _ => by omega, fun _ => by omega, fun _ => by omega, fun _ => by omega, fun _ => by omega, fun _ => by omega⟩⟩
    · have h25 := Imp_m h19.2.2.1 (by omega)
      have h26 := Imp_m h19.2.2.2 (by omega)
      refine En_Ps 2 (pc' := 22) (lv' := [(0, .ref 159), (1, .int a), (2, .int b), (3, .int c)]) (st' := [.int (((Int8.ofInt 60).toInt32)), .int c]) rfl ?_
      refine En_icLe _ rfl (by decide : ((Int8.ofInt 60).toInt32).toInt = 60) rfl (fun h27 => ?_) (fun h27 => ?_)
      · refine En_Ps 1 (pc' := 29) (lv' := [(0, .ref 159), (1, .int a), (2, .int b), (3, .int c)]) (st' := [.int c]) rfl ?_
        refine En_iGe _ rfl rfl (fun h28 => ?_) (fun h28 => ?_)
        · refine En_Ps 1 (pc' := 36) (lv' := [(0, .ref 159), (1, .int a), (2, .int b), (3, .int c)]) (st' := [.ref 159]) rfl ?_
          refine En_getU (j := 32) (u := 177) (g' := 53) (q := 0) rfl rfl rfl (by decide +kernel : TG 159 = 35) (by decide +kernel) h17 (by decide +kernel) (by decide +kernel) (fun h29 => ?_)
          refine En_Ps 2 (pc' := 41) (lv' := [(0, .ref 159), (1, .int a), (2, .int b), (3, .int c)]) (st' := [.int c, .int a, .ref 177]) rfl ?_
          refine En_iast (l := (-1)) (u := 60) rfl rfl (by decide +kernel : TG 177 = 53) (by decide +kernel) (by omega) (lnI (by decide +kernel : LN _ = 4) (by omega)) (FTsgl (by decide +kernel)) (rngI rfl (by omega) (by omega)) h17 h21 (by decide +kernel) (fun σ31 h32 h33 h34 h35 => ?_)
          refine En_Ps 1 (pc' := 43) (lv' := [(0, .ref 159), (1, .int a), (2, .int b), (3, .int c)]) (st' := [.ref 159]) rfl ?_
          refine En_getU (j := 33) (u := 178) (g' := 54) (q := 0) rfl rfl rfl (by decide +kernel : TG 159 = 35) (by decide +kernel) h32 (by decide +kernel) (by decide +kernel) (fun h36 => ?_)
          refine En_Ps 2 (pc' := 48) (lv' := [(0, .ref 159), (1, .int a), (2, .int b), (3, .int c)]) (st' := [.int b, .int a, .ref 178]) rfl ?_
          refine En_iast (l := 0) (u := 3) rfl rfl (by decide +kernel : TG 178 = 54) (by decide +kernel) (by omega) (lnI (by decide +kernel : LN _ = 4) (by omega)) (FTsgl (by decide +kernel)) (rngI rfl (by omega) (by omega)) h32 h33 (by decide +kernel) (fun σ38 h39 h40 h41 h42 => ?_)
          refine En_Ps 2 (pc' := 52) (lv' := [(4, .int ((Int32.ofInt 0))), (0, .ref 159), (1, .int a), (2, .int b), (3, .int c)]) (st' := []) rfl ?_
          have key52 : ∀ (n52 : Nat) (σ44 : SG) (y43 : Int32), WT σ44 → Fr [(53, 0), (54, 0), (55, 0)] σ0 σ44 → (σ44 159)[32]? = some (.ref 177) → (σ44 159)[33]? = some (.ref 178) → 0 ≤ y43.toInt → y43.toInt ≤ 60 → -y43.toInt + 60 < (n52 : Int) → En 2 45 none mr_308 (P_308x σ0 a b c) 52 [(0, .ref 159), (1, .int a), (2, .int b), (3, .int c), (4, .int y43)] [] σ44 := by
            intro n52
            induction n52 with
            | zero =>
              intro σ44 y43 h45 h46 h47 h48 h49 h50 h51
              exfalso; omega
            | succ n52 ih52 =>
              intro σ44 y43 h45 h46 h47 h48 h49 h50 h51
              refine En_Ps 2 (pc' := 56) (lv' := [(0, .ref 159), (1, .int a), (2, .int b), (3, .int c), (4, .int y43)]) (st' := [.int (((Int8.ofInt 60).toInt32)), .int y43]) rfl ?_
              refine En_icGe _ rfl (by decide : ((Int8.ofInt 60).toInt32).toInt = 60) rfl (fun h52 => ?_) (fun h52 => ?_)
              · refine En_Ps 1 (pc' := 79) (lv' := [(0, .ref 159), (1, .int a), (2, .int b), (3, .int c), (4, .int y43)]) (st' := [.int ((Int32.ofInt 0))]) rfl ?_
                refine En_top (by decide : (Int32.ofInt 0).toInt = 0) (fun z53 h54 => ?_)
                exact En_ret (v := some (.int z53)) rfl rfl rfl ⟨h45, h46, z53, rfl, ⟨by omega, by omega, fun _ => by omega, fun _ => by omega, fun _ => by omega, fun _ => by omega, fun _ => by omega, fun _ => by omega, fun _ => by omega⟩⟩
              · refine En_Ps 1 (pc' := 60) (lv' := [(0, .ref 159), (1, .int a), (2, .int b), (3, .int c), (4, .int y43)]) (st' := [.ref 159]) rfl ?_
                refine En_getU (j := 34) (u := 179) (g' := 55) (q := 0) rfl rfl rfl (by decide +kernel : TG 159 = 35) (by decide +kernel) h45 (by decide +kernel) (by decide +kernel) (fun h55 => ?_)
                refine En_Ps 3 (pc' := 67) (lv' := [(0, .ref 159), (1, .int a), (2, .int b), (3, .int c), (4, .int y43)]) (st' := [.int (((((Int8.ofInt 60).toInt32)) * a)), .ref 179]) rfl ?_
                refine En_top (mulI (by decide : ((Int8.ofInt 60).toInt32).toInt = 60) rfl (Z := 60 * a.toInt) (by omega) (by omega) (by omega)) (fun z57 h58 => ?_)
                refine En_Ps 2 (pc' := 70) (lv' := [(0, .ref 159), (1, .int a), (2, .int b), (3, .int c), (4, .int y43)]) (st' := [.int ((z57 + y43)), .ref 179]) rfl ?_
                refine En_top (addI rfl rfl (by omega) (by omega)) (fun z59 h60 => ?_)
                refine En_Ps 1 (pc' := 71) (lv' := [(0, .ref 159), (1, .int a), (2, .int b), (3, .int c), (4, .int y43)]) (st' := [.long ((Int64.ofNat 0)), .int z59, .ref 179]) rfl ?_
                refine En_last (l := (-9223372036854775808)) (u := 9223372036854775807) rfl rfl (by decide +kernel : TG 179 = 55) (by decide +kernel) (by omega) (lnI (by decide +kernel : LN _ = 240) (by omega)) (FTsgl (by decide +kernel)) (fullL _) h45 h46 (by decide +kernel) (fun σ61 h62 h63 h64 h65 => ?_)
                refine En_Ps 1 (pc' := 75) (lv' := [(4, .int ((y43 + Int32.ofInt 1))), (0, .ref 159), (1, .int a), (2, .int b), (3, .int c)]) (st' := []) rfl ?_
                refine En_lv1 (addI rfl (by decide : (Int32.ofInt 1).toInt = 1) (by omega) (by omega)) (fun z66 h67 => ?_)
                refine En_Ps 1 (pc' := 52) (lv' := [(4, .int z66), (0, .ref 159), (1, .int a), (2, .int b), (3, .int c)]) (st' := []) rfl ?_
                refine En_lv (lv := [(0, .ref 159), (1, .int a), (2, .int b), (3, .int c), (4, .int z66)]) ⟨rfl, rfl, rfl, rfl, rfl, trivial⟩ ?_
                exact ih52 σ61 z66 h62 h63 ((h65 _ _ (Or.inl (neTG (by decide +kernel : TG 159 = 35) (by decide +kernel : TG 179 = 55) (by decide)))).trans h47) ((h65 _ _ (Or.inl (neTG (by decide +kernel : TG 159 = 35) (by decide +kernel : TG 179 = 55) (by decide)))).trans h48) (by omega) (by omega) (by omega)
          have := (by decide : (Int32.ofInt 0).toInt = 0)
          refine En_lv (lv := [(0, .ref 159), (1, .int a), (2, .int b), (3, .int c), (4, .int ((Int32.ofInt 0)))]) ⟨rfl, rfl, rfl, rfl, rfl, trivial⟩ ?_
          exact key52 (Int.toNat (60) + 1) σ38 ((Int32.ofInt 0)) h39 h40 ((h42 _ _ (Or.inl (neTG (by decide +kernel : TG 159 = 35) (by decide +kernel : TG 178 = 54) (by decide)))).trans ((h35 _ _ (Or.inl (neTG (by decide +kernel : TG 159 = 35) (by decide +kernel : TG 177 = 53) (by decide)))).trans h29)) ((h42 _ _ (Or.inl (neTG (by decide +kernel : TG 159 = 35) (by decide +kernel : TG 178 = 54) (by decide)))).trans h36) (by omega) (by omega) (by omega)
        · refine En_Ps 1 (pc' := 34) (lv' := [(0, .ref 159), (1, .int a), (2, .int b), (3, .int c)]) (st' := [.int (((Int8.ofInt (-3)).toInt32))]) rfl ?_
          refine En_top (by decide : ((Int8.ofInt (-3)).toInt32).toInt = -3) (fun z68 h69 => ?_)
          exact En_ret (v := some (.int z68)) rfl rfl rfl ⟨h17, h21, z68, rfl, ⟨by omega, by omega, fun _ => by omega, fun _ => by omega, fun _ => by omega, fun _ => by omega, fun _ => by omega, fun _ => by omega, fun _ => by omega⟩⟩
      · refine En_Ps 1 (pc' := 27) (lv' := [(0, .ref 159), (1, .int a), (2, .int b), (3, .int c)]) (st' := [.int (((Int8.ofInt (-2)).toInt32))]) rfl ?_
        refine En_top (by decide : ((Int8.ofInt (-2)).toInt32).toInt = -2) (fun z70 h71 => ?_)
        exact En_ret (v := some (.int z70)) rfl rfl rfl ⟨h17, h21, z70, rfl, ⟨by omega, by omega, fun _ => by omega, fun _ => by omega, fun _ => by omega, fun _ => by omega, fun _ => by omega, fun _ => by omega, fun _ => by omega⟩⟩
/-- DoorSchoolModel.school()I -/
abbrev P_312x (σ0 : SG) (By : Int → Int) (Nb : Int) : PO := fun v σ => WT σ ∧ Fr [(35, 5), (35, 7), (35, 8), (35, 9), (35, 10), (35, 11), (35, 12), (35, 13), (36, 0), (41, 0)] σ0 σ ∧ ∃ m1 : Int32, (σ 159)[5]? = some (.int m1) ∧ ∃ ret : Int32, v = some (.int ret) ∧ -ret.toInt - 4 ≤ 0 ∧ ret.toInt - 1600 ≤ 0 ∧ -m1.toInt ≤ 0 ∧ m1.toInt ≤ 0 ∧ m1.toInt ≤ 0 ∧ -m1.toInt ≤ 0 ∧ (WI σ ∧ MSC By Nb σ0 σ ret.toInt)
set_option maxRecDepth 10000 in
set_option maxHeartbeats 4000000 in
theorem c_312x {By : Int → Int} {Nb : Int} (σ0 : SG) (hσ0 : WT σ0) (hI : WI σ0) (hB : TBm By Nb σ0) : En 11 243 none mr_312 (P_312x σ0 By Nb) 0 [(0, .ref 159)] [] σ0 := by
  have hF0 : Fr [(35, 5), (35, 7), (35, 8), (35, 9), (35, 10), (35, 11), (35, 12), (35, 13), (36, 0), (41, 0)] σ0 σ0 := Fr_rfl
  refine En_Ps 2 (pc' := 2) (lv' := [(0, .ref 159)]) (st' := [.ref 159, .ref 159]) rfl ?_
  refine En_getI (j := 5) (l := 0) (u := 1600) rfl rfl rfl (by decide +kernel : TG 159 = 35) (by decide +kernel) hσ0 (by decide +kernel) (fun z2 h1 h3 h4 => ?_)
  refine En_put (j := 7) rfl rfl rfl (by decide +kernel : TG 159 = 35) (by decide +kernel) rfl (vI (l := 0) (u := 1600) (by decide +kernel) rfl (by omega) (by omega)) hσ0 hF0 (by decide +kernel) (fun σ5 h6 h7 h8 h9 => ?_)
  have h10 : SWd σ0 σ5 := SWd_tr (fun _ => rfl : SWd σ0 σ0) (fun i => ci_ne h9 (by decide) i)
  refine En_Ps 2 (pc' := 10) (lv' := [(0, .ref 159)]) (st' := [.int ((Int32.ofInt 0)), .ref 159]) rfl ?_
  refine En_put (j := 5) rfl rfl rfl (by decide +kernel : TG 159 = 35) (by decide +kernel) rfl (vI (l := 0) (u := 1600) (by decide +kernel) (by decide : (Int32.ofInt 0).toInt = 0) (by omega) (by omega)) h6 h7 (by decide +kernel) (fun σ11 h12 h13 h14 h15 => ?_)
  have h16 : SWd σ0 σ11 := SWd_tr h10 (fun i => ci_ne h15 (by decide) i)
  refine En_Ps 2 (pc' := 15) (lv' := [(0, .ref 159)]) (st' := [.int ((Int32.ofInt 0)), .ref 159]) rfl ?_
  refine En_put (j := 8) rfl rfl rfl (by decide +kernel : TG 159 = 35) (by decide +kernel) rfl (vI (l := 0) (u := 1600) (by decide +kernel) (by decide : (Int32.ofInt 0).toInt = 0) (by omega) (by omega)) h12 h13 (by decide +kernel) (fun σ17 h18 h19 h20 h21 => ?_)
  have h22 : SWd σ0 σ17 := SWd_tr h16 (fun i => ci_ne h21 (by decide) i)
  refine En_Ps 2 (pc' := 20) (lv' := [(0, .ref 159)]) (st' := [.int ((Int32.ofInt 0)), .ref 159]) rfl ?_
  refine En_put (j := 12) rfl rfl rfl (by decide +kernel : TG 159 = 35) (by decide +kernel) rfl (vI (l := 0) (u := 3) (by decide +kernel) (by decide : (Int32.ofInt 0).toInt = 0) (by omega) (by omega)) h18 h19 (by decide +kernel) (fun σ23 h24 h25 h26 h27 => ?_)
  have h28 : SWd σ0 σ23 := SWd_tr h22 (fun i => ci_ne h27 (by decide) i)
  refine En_Ps 2 (pc' := 25) (lv' := [(0, .ref 159)]) (st' := [.int ((Int32.ofInt (-1))), .ref 159]) rfl ?_
  refine En_put (j := 13) rfl rfl rfl (by decide +kernel : TG 159 = 35) (by decide +kernel) rfl (vI (l := (-1)) (u := 1600) (by decide +kernel) (by decide : (Int32.ofInt (-1)).toInt = -1) (by omega) (by omega)) h24 h25 (by decide +kernel) (fun σ29 h30 h31 h32 h33 => ?_)
  have h34 : SWd σ0 σ29 := SWd_tr h28 (fun i => ci_ne h33 (by decide) i)
  refine En_Ps 2 (pc' := 30) (lv' := [(1, .int ((Int32.ofInt 0))), (0, .ref 159)]) (st' := []) rfl ?_
  have key30 : ∀ (n30 : Nat) (σ36 : SG) (y35 : Int32), WT σ36 → Fr [(35, 5), (35, 7), (35, 8), (35, 9), (35, 10), (35, 11), (35, 12), (35, 13), (36, 0), (41, 0)] σ0 σ36 → (σ36 159)[7]? = some (.int z2) → (σ36 159)[5]? = some (.int ((Int32.ofInt 0))) → (σ36 159)[8]? = some (.int ((Int32.ofInt 0))) → (σ36 159)[12]? = some (.int ((Int32.ofInt 0))) → (σ36 159)[13]? = some (.int ((Int32.ofInt (-1)))) → 0 ≤ y35.toInt → y35.toInt ≤ 226 → -y35.toInt + 226 < (n30 : Int) → CLF σ36 y35.toInt → SWd σ0 σ36 → En 11 243 none mr_312 (P_312x σ0 By Nb) 30 [(0, .ref 159), (1, .int y35)] [] σ36 := by
    intro n30
    induction n30 with
    | zero =>
      intro σ36 y35 h37 h38 h39 h40 h41 h42 h43 h44 h45 h46 h47 h48
      exfalso; omega
    | succ n30 ih30 =>
      intro σ36 y35 h37 h38 h39 h40 h41 h42 h43 h44 h45 h46 h47 h48
      refine En_Ps 2 (pc' := 34) (lv' := [(0, .ref 159), (1, .int y35)]) (st' := [.int (((Int16.ofInt 226).toInt32)), .int y35]) rfl ?_
      refine En_icGe _ rfl (by decide : ((Int16.ofInt 226).toInt32).toInt = 226) rfl (fun h49 => ?_) (fun h49 => ?_)
      · have h50 := TPm_of hB h38 (by decide +kernel) h1 h39
        refine En_Ps 1 (pc' := 51) (lv' := [(0, .ref 159), (1, .int y35)]) (st' := [.ref 159]) rfl ?_
        refine En_callV rfl rfl rfl rfl rfl rfl rfl rfl (by decide +kernel : TG 159 = 35) (by decide +kernel) rfl (c_189x σ36 h37 ((Int32.ofInt 0)) h41 h50 (by have := (by decide : (Int32.ofInt 0).toInt = 0); have := hB.1; omega)) (by decide) (by decide) (fun v52 σ53 h51 => ?_)
        obtain ⟨h54, h55, z57, h58, z59, h60, rfl, h56⟩ := h51
        have h61 := h56.2.2.2.2.2.2.2.2.2.2
        have h62 := Fr_trans h38 h55 (by decide +kernel)
        have h63 : SWd σ0 σ53 := SWd_tr h48 (SWd_fr h55 (by decide +kernel))
        have key54 : ∀ (n54 : Nat) (σ81 : SG) (y64 : Int32) (y65 : Int32) (y66 : Int32), WT σ81 → Fr [(35, 5), (35, 7), (35, 8), (35, 9), (35, 10), (35, 11), (35, 12), (35, 13), (36, 0), (41, 0)] σ0 σ81 → (σ81 159)[7]? = some (.int z2) → (σ81 159)[5]? = some (.int ((Int32.ofInt 0))) → (σ81 159)[12]? = some (.int y64) → (σ81 159)[8]? = some (.int y65) → (σ81 159)[10]? = some (.int y66) → 0 ≤ y64.toInt → y64.toInt ≤ 3 → 0 ≤ y65.toInt → y65.toInt ≤ 1600 → 0 ≤ y66.toInt → y66.toInt ≤ 4 → 5 * (1600 - y65.toInt) + y66.toInt + 9000 * (3 - y64.toInt) < (n54 : Int) → FI σ81 y64.toInt → (y64.toInt = 0 → y66.toInt ≠ 0 → ci σ81 165 7 + 1 ≤ y65.toInt) → SWd σ0 σ81 → LPI By Nb σ81 → En 11 243 none mr_312 (P_312x σ0 By Nb) 54 [(0, .ref 159), (1, .int y35)] [] σ81 := by
          intro n54
          induction n54 with
          | zero =>
            intro σ81 y64 y65 y66 h82 h83 h84 h85 h86 h87 h88 h89 h90 h91 h92 h93 h94 h95 h96 h97 h98 h99
            obtain ⟨S100, f101, h102, h103, h104⟩ := h99
            have h105 := ML_k h102 ((h55 _ _ (inW (by decide +kernel : TG 159 = 35) (by decide +kernel))).trans h42)
            have h106 := ML_t h102 h60
            exfalso; omega
          | succ n54 ih54 =>
            intro σ81 y64 y65 y66 h82 h83 h84 h85 h86 h87 h88 h89 h90 h91 h92 h93 h94 h95 h96 h97 h98 h99
            obtain ⟨S121, f122, h123, h124, h125⟩ := h99
            have h126 := ML_k h123 h86
            have h127 := ML_t h123 h88
            refine En_Ps 1 (pc' := 55) (lv' := [(0, .ref 159), (1, .int y35)]) (st' := [.ref 159]) rfl ?_
            refine En_callV rfl rfl rfl rfl rfl rfl rfl rfl (by decide +kernel : TG 159 = 35) (by decide +kernel) rfl (c_237 σ81 h82 y64 h86) (by decide) (by decide) (fun v129 σ130 h128 => ?_)
            obtain ⟨h131, h132, z134, rfl, h133⟩ := h128
            obtain rfl : σ81 = σ130 := Fr_nil h132
            refine En_iEq _ rfl rfl (fun h135 => ?_) (fun h135 => ?_)
            · have h136 := Imp_m h133.2.2.2 (by omega)
              refine En_Ps 1 (pc' := 76) (lv' := [(0, .ref 159), (1, .int y35)]) (st' := [.ref 159]) rfl ?_
              refine En_callV rfl rfl rfl rfl rfl rfl rfl rfl (by decide +kernel : TG 159 = 35) (by decide +kernel) rfl (c_237 σ81 h82 y64 h86) (by decide) (by decide) (fun v138 σ139 h137 => ?_)
              obtain ⟨h140, h141, z143, rfl, h142⟩ := h137
              obtain rfl : σ81 = σ139 := Fr_nil h141
              refine En_iNe _ rfl rfl (fun hx => by exfalso; omega) (fun h144 => ?_)
              have h145 := Imp_m h142.2.2.2 (by omega)
              refine En_Ps 1 (pc' := 84) (lv' := [(0, .ref 159), (1, .int y35)]) (st' := [.int (((Int8.ofInt (-4)).toInt32))]) rfl ?_
              have := (by decide : (Int32.ofInt 0).toInt = 0)
              refine En_top (by decide : ((Int8.ofInt (-4)).toInt32).toInt = -4) (fun z146 h147 => ?_)
              exact En_ret (v := some (.int z146)) rfl rfl rfl ⟨h82, h83, (Int32.ofInt 0), h85, z146, rfl, ⟨by omega, by omega, by omega, by omega, by omega, by omega, ⟨WI_sw h98 h83 (by decide +kernel) hI, MSC_bad h123 h124 (by omega) (by omega) h98⟩⟩⟩
            · have h148 := Imp_m h133.2.2.1 (by omega)
              refine En_Ps 1 (pc' := 62) (lv' := [(0, .ref 159), (1, .int y35)]) (st' := [.ref 159]) rfl ?_
              refine En_getK (j := 10) h88 rfl rfl rfl (by decide +kernel : TG 159 = 35) (by decide +kernel) ?_
              refine En_iEq _ rfl rfl (fun h149 => ?_) (fun h149 => ?_)
              · refine En_Ps 1 (pc' := 76) (lv' := [(0, .ref 159), (1, .int y35)]) (st' := [.ref 159]) rfl ?_
                refine En_callV rfl rfl rfl rfl rfl rfl rfl rfl (by decide +kernel : TG 159 = 35) (by decide +kernel) rfl (c_237 σ81 h82 y64 h86) (by decide) (by decide) (fun v151 σ152 h150 => ?_)
                obtain ⟨h153, h154, z156, rfl, h155⟩ := h150
                obtain rfl : σ81 = σ152 := Fr_nil h154
                refine En_iNe _ rfl rfl (fun h157 => ?_) (fun hx => by exfalso; omega)
                have h158 := Imp_m h155.2.2.1 (by omega)
                refine En_Ps 2 (pc' := 87) (lv' := [(1, .int ((Int32.ofInt 0))), (0, .ref 159)]) (st' := []) rfl ?_
                have key87 : ∀ (n87 : Nat) (σ160 : SG) (y159 : Int32), WT σ160 → Fr [(35, 5), (35, 7), (35, 8), (35, 9), (35, 10), (35, 11), (35, 12), (35, 13), (36, 0), (41, 0)] σ0 σ160 → (σ160 159)[7]? = some (.int z2) → (σ160 159)[5]? = some (.int ((Int32.ofInt 0))) → (σ160 159)[12]? = some (.int y64) → (σ160 159)[8]? = some (.int y65) → (σ160 159)[10]? = some (.int y66) → 0 ≤ y159.toInt → y159.toInt ≤ 226 → -y159.toInt + 226 < (n87 : Int) → CPY (ff σ160) (wf σ160) y159.toInt → FI σ160 0 → ML By Nb σ160 S121 → En 11 243 none mr_312 (P_312x σ0 By Nb) 87 [(0, .ref 159), (1, .int y159)] [] σ160 := by
                  intro n87
                  induction n87 with
                  | zero =>
                    intro σ160 y159 h161 h162 h163 h164 h165 h166 h167 h168 h169 h170 h171 h172 h173
                    exfalso; omega
                  | succ n87 ih87 =>
                    intro σ160 y159 h161 h162 h163 h164 h165 h166 h167 h168 h169 h170 h171 h172 h173
                    refine En_Ps 2 (pc' := 91) (lv' := [(0, .ref 159), (1, .int y159)]) (st' := [.int (((Int16.ofInt 226).toInt32)), .int y159]) rfl ?_
                    refine En_icGe _ rfl (by decide : ((Int16.ofInt 226).toInt32).toInt = 226) rfl (fun h174 => ?_) (fun h174 => ?_)
                    · refine En_Ps 1 (pc' := 113) (lv' := [(0, .ref 159), (1, .int y159)]) (st' := [.ref 159]) rfl ?_
                      refine En_getU (j := 1) (u := 160) (g' := 36) (q := 0) rfl rfl rfl (by decide +kernel : TG 159 = 35) (by decide +kernel) h161 (by decide +kernel) (by decide +kernel) (fun h175 => ?_)
                      refine En_Ps 1 (pc' := 118) (lv' := [(0, .ref 159), (1, .int y159)]) (st' := [.int (((Int8.ofInt 7).toInt32)), .ref 160]) rfl ?_
                      refine En_iald (l := 0) (u := 1600) rfl (by decide : ((Int8.ofInt 7).toInt32).toInt = 7) (by decide +kernel : TG 160 = 36) (by decide +kernel) h161 (by omega) (lnI (by decide +kernel : LN _ = 226) (by omega)) (by decide +kernel) (fun z178 h177 h179 h180 => ?_)
                      have := (by decide : (Int32.ofInt 0).toInt = 0)
                      exact En_ret (v := some (.int z178)) rfl rfl rfl ⟨h161, h162, (Int32.ofInt 0), h164, z178, rfl, ⟨by omega, by omega, by omega, by omega, by omega, by omega, ⟨FI_x h161 h172 rfl h171 (by omega) h162 (by decide +kernel) hI, MSC_ok h173 h124 (by omega) (by omega) h171 (by omega) h177⟩⟩⟩
                    · refine En_Ps 1 (pc' := 95) (lv' := [(0, .ref 159), (1, .int y159)]) (st' := [.ref 159]) rfl ?_
                      refine En_getU (j := 1) (u := 160) (g' := 36) (q := 0) rfl rfl rfl (by decide +kernel : TG 159 = 35) (by decide +kernel) h161 (by decide +kernel) (by decide +kernel) (fun h181 => ?_)
                      refine En_Ps 2 (pc' := 100) (lv' := [(0, .ref 159), (1, .int y159)]) (st' := [.ref 159, .int y159, .ref 160]) rfl ?_
                      refine En_getU (j := 14) (u := 165) (g' := 41) (q := 0) rfl rfl rfl (by decide +kernel : TG 159 = 35) (by decide +kernel) h161 (by decide +kernel) (by decide +kernel) (fun h183 => ?_)
                      refine En_Ps 1 (pc' := 104) (lv' := [(0, .ref 159), (1, .int y159)]) (st' := [.int y159, .ref 165, .int y159, .ref 160]) rfl ?_
                      refine En_ialdW (n := 226) rfl rfl (by decide +kernel : TG 165 = 41) (by decide +kernel) h161 (by omega) (by decide +kernel) (by omega) (by decide +kernel) (fun z185 h186 h187 => ?_)
                      refine En_iastW (n := 226) rfl rfl (by decide +kernel : TG 160 = 36) (by decide +kernel) (by omega) (by decide +kernel) (by omega) (ft_fw h187 (by omega) (by omega) (by omega)) h161 h162 (by decide +kernel) (fun σ188 h189 h190 h191 h192 => ?_)
                      refine En_Ps 1 (pc' := 109) (lv' := [(1, .int ((y159 + Int32.ofInt 1))), (0, .ref 159)]) (st' := []) rfl ?_
                      refine En_lv1 (addI rfl (by decide : (Int32.ofInt 1).toInt = 1) (by omega) (by omega)) (fun z193 h194 => ?_)
                      refine En_Ps 1 (pc' := 87) (lv' := [(1, .int z193), (0, .ref 159)]) (st' := []) rfl ?_
                      refine En_lv (lv := [(0, .ref 159), (1, .int z193)]) ⟨rfl, rfl, trivial⟩ ?_
                      exact ih87 σ188 z193 h189 h190 ((h192 _ _ (Or.inl (neTG (by decide +kernel : TG 159 = 35) (by decide +kernel : TG 160 = 36) (by decide)))).trans h163) ((h192 _ _ (Or.inl (neTG (by decide +kernel : TG 159 = 35) (by decide +kernel : TG 160 = 36) (by decide)))).trans h164) ((h192 _ _ (Or.inl (neTG (by decide +kernel : TG 159 = 35) (by decide +kernel : TG 160 = 36) (by decide)))).trans h165) ((h192 _ _ (Or.inl (neTG (by decide +kernel : TG 159 = 35) (by decide +kernel : TG 160 = 36) (by decide)))).trans h166) ((h192 _ _ (Or.inl (neTG (by decide +kernel : TG 159 = 35) (by decide +kernel : TG 160 = 36) (by decide)))).trans h167) (by omega) (by omega) (by omega) (CPY_fw h171 h186 h191 h192 (by omega) (by omega)) (FI_ne h172 h192 (by decide)) (ML_ne h173 h192 (by decide))
                have := (by decide : (Int32.ofInt 0).toInt = 0)
                refine En_lv (lv := [(0, .ref 159), (1, .int ((Int32.ofInt 0)))]) ⟨rfl, rfl, trivial⟩ ?_
                exact key87 (Int.toNat (226) + 1) σ81 ((Int32.ofInt 0)) h82 h83 h84 h85 h86 h87 h88 (by omega) (by omega) (by omega) (CPY_0 (by decide)) (FI_z h96 (by omega)) (h123)
              · refine En_Ps 1 (pc' := 69) (lv' := [(0, .ref 159), (1, .int y35)]) (st' := [.ref 159]) rfl ?_
                obtain ⟨z196, h195, h197, h198⟩ := WT_peekI h82 (by decide +kernel : TG 165 = 41) (by decide +kernel : FT 41 (7 : Int).toNat = (0, 0, 1600)) (by decide +kernel)
                have h199 := ci_at h195 (rfl : (7 : Int) = 7)
                have h200 := h97 (by omega) (by omega)
                refine En_callV rfl rfl rfl rfl rfl rfl rfl rfl (by decide +kernel : TG 159 = 35) (by decide +kernel) rfl (c_301x σ81 h82 y65 h87 y64 h86 z196 h195 (by omega) (by omega) h96 h123 (by omega)) (by decide) (by decide) (fun v202 σ203 h201 => ?_)
                obtain ⟨h204, h205, z207, h208, z209, h210, z211, h212, z213, h214, rfl, h206⟩ := h201
                have h215 := h206.2.2.2.2.2.2.2.2.2.2.2.2.2.2.2.2.2.2.2.2.2.2.2.2.2.2.2.2.2.2.2.2.2.2.2.2
                have h216 := Fr_trans h83 h205 (by decide +kernel)
                have h217 : SWd σ0 σ203 := SWd_tr h98 (SWd_fr h205 (by decide +kernel))
                refine En_Ps 1 (pc' := 54) (lv' := [(0, .ref 159), (1, .int y35)]) (st' := []) rfl ?_
                have h218 := ci_at h214 (rfl : (7 : Int) = 7)
                exact ih54 σ203 z211 z207 z209 h204 h216 ((h205 _ _ (inW (by decide +kernel : TG 159 = 35) (by decide +kernel))).trans h84) ((h205 _ _ (inW (by decide +kernel : TG 159 = 35) (by decide +kernel))).trans h85) h212 h208 h210 (by omega) (by omega) (by omega) (by omega) (by omega) (by omega) (by omega) (h215.1 _ rfl) (fun _ _ => (by omega)) (h217) (LPI_s h123 h82 (by omega) (by omega) h124 h125 h215.2)
        have := (by decide : (Int32.ofInt 0).toInt = 0)
        have h219 := FI_0 (k := (Int32.ofInt 0).toInt) (CLF_fr (CLF_226 h47 (by omega)) h55 (by decide +kernel))
        have h220 := CLF_fr (CLF_226 h47 (by omega)) h55 (by decide +kernel) 7 (by omega) (by omega)
        exact key54 (Int.toNat (5 * (1600 - z57.toInt) + z59.toInt + 9000 * (3 - 0)) + 1) σ53 ((Int32.ofInt 0)) z57 z59 h54 h62 ((h55 _ _ (inW (by decide +kernel : TG 159 = 35) (by decide +kernel))).trans h39) ((h55 _ _ (inW (by decide +kernel : TG 159 = 35) (by decide +kernel))).trans h40) ((h55 _ _ (inW (by decide +kernel : TG 159 = 35) (by decide +kernel))).trans h42) h58 h60 (by omega) (by omega) (by omega) (by omega) (by omega) (by omega) (by omega) (h219) (fun _ _ => (by omega)) (h63) (LPI_0 h61 (by decide) ((h55 _ _ (inW (by decide +kernel : TG 159 = 35) (by decide +kernel))).trans h42) (by decide) ((h55 _ _ (inW (by decide +kernel : TG 159 = 35) (by decide +kernel))).trans h43) (by decide) (CLF_fr (CLF_226 h47 (by omega)) h55 (by decide +kernel)))
      · refine En_Ps 1 (pc' := 38) (lv' := [(0, .ref 159), (1, .int y35)]) (st' := [.ref 159]) rfl ?_
        refine En_getU (j := 14) (u := 165) (g' := 41) (q := 0) rfl rfl rfl (by decide +kernel : TG 159 = 35) (by decide +kernel) h37 (by decide +kernel) (by decide +kernel) (fun h221 => ?_)
        refine En_Ps 2 (pc' := 43) (lv' := [(0, .ref 159), (1, .int y35)]) (st' := [.int ((Int32.ofInt 0)), .int y35, .ref 165]) rfl ?_
        refine En_iastW (n := 226) rfl rfl (by decide +kernel : TG 165 = 41) (by decide +kernel) (by omega) (by decide +kernel) (by omega) (ft_zero (by omega) (by omega) (by decide)) h37 h38 (by decide +kernel) (fun σ223 h224 h225 h226 h227 => ?_)
        have h228 : SWd σ0 σ223 := SWd_tr h48 (fun i => ci_ne h227 (by decide) i)
        refine En_Ps 1 (pc' := 47) (lv' := [(1, .int ((y35 + Int32.ofInt 1))), (0, .ref 159)]) (st' := []) rfl ?_
        refine En_lv1 (addI rfl (by decide : (Int32.ofInt 1).toInt = 1) (by omega) (by omega)) (fun z229 h230 => ?_)
        refine En_Ps 1 (pc' := 30) (lv' := [(1, .int z229), (0, .ref 159)]) (st' := []) rfl ?_
        refine En_lv (lv := [(0, .ref 159), (1, .int z229)]) ⟨rfl, rfl, trivial⟩ ?_
        exact ih30 σ223 z229 h224 h225 ((h227 _ _ (Or.inl (neTG (by decide +kernel : TG 159 = 35) (by decide +kernel : TG 165 = 41) (by decide)))).trans h39) ((h227 _ _ (Or.inl (neTG (by decide +kernel : TG 159 = 35) (by decide +kernel : TG 165 = 41) (by decide)))).trans h40) ((h227 _ _ (Or.inl (neTG (by decide +kernel : TG 159 = 35) (by decide +kernel : TG 165 = 41) (by decide)))).trans h41) ((h227 _ _ (Or.inl (neTG (by decide +kernel : TG 159 = 35) (by decide +kernel : TG 165 = 41) (by decide)))).trans h42) ((h227 _ _ (Or.inl (neTG (by decide +kernel : TG 159 = 35) (by decide +kernel : TG 165 = 41) (by decide)))).trans h43) (by omega) (by omega) (by omega) (CLF_s h47 h226 h227 (by decide) (by omega) (by omega)) (h228)
  have := (by decide : (Int32.ofInt 0).toInt = 0)
  refine En_lv (lv := [(0, .ref 159), (1, .int ((Int32.ofInt 0)))]) ⟨rfl, rfl, trivial⟩ ?_
  exact key30 (Int.toNat (226) + 1) σ29 ((Int32.ofInt 0)) h30 h31 ((h33 _ _ (Or.inr (by decide))).trans ((h27 _ _ (Or.inr (by decide))).trans ((h21 _ _ (Or.inr (by decide))).trans ((h15 _ _ (Or.inr (by decide))).trans h8)))) ((h33 _ _ (Or.inr (by decide))).trans ((h27 _ _ (Or.inr (by decide))).trans ((h21 _ _ (Or.inr (by decide))).trans h14))) ((h33 _ _ (Or.inr (by decide))).trans ((h27 _ _ (Or.inr (by decide))).trans h20)) ((h33 _ _ (Or.inr (by decide))).trans h26) h32 (by omega) (by omega) (by omega) (CLF_0 (by decide)) (h34)

