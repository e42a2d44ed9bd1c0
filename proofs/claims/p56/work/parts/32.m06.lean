set_option maxRecDepth 10000 in
set_option maxHeartbeats 4000000 in
theorem c_302x {By : Int → Int} {Nb : Int} {Sp : PS} (σ0 : SG) (hσ0 : WT σ0) (f : Int32) (h_f : (σ0 159)[8]? = some (.int f)) (k : Int32) (h_k : (σ0 159)[12]? = some (.int k)) (hM : ML By Nb σ0 Sp) (hg : Sp.1 = 0) : En 9 200 none mr_302 (P_302x σ0 By Nb Sp f k) 0 [(0, .ref 159)] [] σ0 := by
  obtain ⟨hl_f, hu_f⟩ := WT_int hσ0 (g := 35) (by decide +kernel) (by decide +kernel) (l := 0) (u := 1600) (by decide +kernel) h_f
  obtain ⟨hl_k, hu_k⟩ := WT_int hσ0 (g := 35) (by decide +kernel) (by decide +kernel) (l := 0) (u := 3) (by decide +kernel) h_k
  have hF0 : Fr [(35, 8), (35, 9), (35, 10), (35, 11), (35, 12), (35, 13), (41, 0)] σ0 σ0 := Fr_rfl
  have keyj87 := k_302x_87 σ0 hσ0 f h_f k h_k hM hg
  have h1473 := ML_k hM h_k
  refine En_Ps 1 (pc' := 1) (lv' := [(0, .ref 159)]) (st' := [.ref 159]) rfl ?_
  refine En_ldcS (i := 2) rfl rfl rfl ?_
  refine En_callV rfl rfl rfl rfl rfl rfl rfl rfl tgz_159 (by decide +kernel) rfl (c_251s2x σ0 hσ0 hM) (by decide) (by decide) (fun v1475 σ1476 h1474 => ?_)
  obtain ⟨h1477, h1478, z1480, rfl, h1479⟩ := h1474
  have h1481 := h1479.2.2
  obtain rfl : σ0 = σ1476 := Fr_nil h1478
  refine En_iNe _ rfl rfl (fun h1482 => ?_) (fun h1482 => ?_)
  · refine En_Ps 4 (pc' := 79) (lv' := [(1, .int ((Int32.ofInt 1))), (0, .ref 159)]) (st' := [.int ((Int32.ofInt 1))]) rfl ?_
    refine En_iNe _ (by decide : (Int32.ofInt 1).toInt = 1) rfl (fun h1483 => ?_) (fun hx => by first | exact (q_0561915bfe hx).elim | (exfalso; omega))
    refine En_lv (lv := [(0, .ref 159)]) ⟨rfl, trivial⟩ ?_
    exact keyj87 σ0 k f hσ0 hF0 h_k (by first | exact q_58e6e51dcc hl_k | omega) (by first | exact q_da5e9b976f hu_k | omega) h_f (by first | exact q_58e6e51dcc hl_f | omega) (by first | exact q_246f9048f8 hu_f | omega) (by omega) (fun _ => by omega) ((KF_0 (σ := σ0))) (ML_eq hM (gN1_pos 2 (by omega) (by omega)).symm)
  · refine En_Ps 1 (pc' := 10) (lv' := [(0, .ref 159)]) (st' := [.ref 159]) rfl ?_
    refine En_ldcS (i := 6) rfl rfl rfl ?_
    refine En_callV rfl rfl rfl rfl rfl rfl rfl rfl tgz_159 (by decide +kernel) rfl (c_251s6x σ0 hσ0 hM) (by decide) (by decide) (fun v1485 σ1486 h1484 => ?_)
    obtain ⟨h1487, h1488, z1490, rfl, h1489⟩ := h1484
    have h1491 := h1489.2.2
    obtain rfl : σ0 = σ1486 := Fr_nil h1488
    refine En_iNe _ rfl rfl (fun h1492 => ?_) (fun h1492 => ?_)
    · refine En_Ps 4 (pc' := 79) (lv' := [(1, .int ((Int32.ofInt 1))), (0, .ref 159)]) (st' := [.int ((Int32.ofInt 1))]) rfl ?_
      refine En_iNe _ (by decide : (Int32.ofInt 1).toInt = 1) rfl (fun h1493 => ?_) (fun hx => by first | exact (q_0561915bfe hx).elim | (exfalso; omega))
      refine En_lv (lv := [(0, .ref 159)]) ⟨rfl, trivial⟩ ?_
      exact keyj87 σ0 k f hσ0 hF0 h_k (by first | exact q_58e6e51dcc hl_k | omega) (by first | exact q_da5e9b976f hu_k | omega) h_f (by first | exact q_58e6e51dcc hl_f | omega) (by first | exact q_246f9048f8 hu_f | omega) (by omega) (fun _ => by omega) ((KF_0 (σ := σ0))) (ML_eq hM (gN1_pos 6 (by omega) (by omega)).symm)
    · refine En_Ps 1 (pc' := 19) (lv' := [(0, .ref 159)]) (st' := [.ref 159]) rfl ?_
      refine En_ldcS (i := 3) rfl rfl rfl ?_
      refine En_callV rfl rfl rfl rfl rfl rfl rfl rfl tgz_159 (by decide +kernel) rfl (c_251s3x σ0 hσ0 hM) (by decide) (by decide) (fun v1495 σ1496 h1494 => ?_)
      obtain ⟨h1497, h1498, z1500, rfl, h1499⟩ := h1494
      have h1501 := h1499.2.2
      obtain rfl : σ0 = σ1496 := Fr_nil h1498
      refine En_iNe _ rfl rfl (fun h1502 => ?_) (fun h1502 => ?_)
      · refine En_Ps 4 (pc' := 79) (lv' := [(1, .int ((Int32.ofInt 1))), (0, .ref 159)]) (st' := [.int ((Int32.ofInt 1))]) rfl ?_
        refine En_iNe _ (by decide : (Int32.ofInt 1).toInt = 1) rfl (fun h1503 => ?_) (fun hx => by first | exact (q_0561915bfe hx).elim | (exfalso; omega))
        refine En_lv (lv := [(0, .ref 159)]) ⟨rfl, trivial⟩ ?_
        exact keyj87 σ0 k f hσ0 hF0 h_k (by first | exact q_58e6e51dcc hl_k | omega) (by first | exact q_da5e9b976f hu_k | omega) h_f (by first | exact q_58e6e51dcc hl_f | omega) (by first | exact q_246f9048f8 hu_f | omega) (by omega) (fun _ => by omega) ((KF_0 (σ := σ0))) (ML_eq hM (gN1_pos 3 (by omega) (by omega)).symm)
      · refine En_Ps 1 (pc' := 28) (lv' := [(0, .ref 159)]) (st' := [.ref 159]) rfl ?_
        refine En_ldcS (i := 17) rfl rfl rfl ?_
        refine En_callV rfl rfl rfl rfl rfl rfl rfl rfl tgz_159 (by decide +kernel) rfl (c_251s17x σ0 hσ0 hM) (by decide) (by decide) (fun v1505 σ1506 h1504 => ?_)
        obtain ⟨h1507, h1508, z1510, rfl, h1509⟩ := h1504
        have h1511 := h1509.2.2
        obtain rfl : σ0 = σ1506 := Fr_nil h1508
        refine En_iNe _ rfl rfl (fun h1512 => ?_) (fun h1512 => ?_)
        · refine En_Ps 4 (pc' := 79) (lv' := [(1, .int ((Int32.ofInt 1))), (0, .ref 159)]) (st' := [.int ((Int32.ofInt 1))]) rfl ?_
          refine En_iNe _ (by decide : (Int32.ofInt 1).toInt = 1) rfl (fun h1513 => ?_) (fun hx => by first | exact (q_0561915bfe hx).elim | (exfalso; omega))
          refine En_lv (lv := [(0, .ref 159)]) ⟨rfl, trivial⟩ ?_
          exact keyj87 σ0 k f hσ0 hF0 h_k (by first | exact q_58e6e51dcc hl_k | omega) (by first | exact q_da5e9b976f hu_k | omega) h_f (by first | exact q_58e6e51dcc hl_f | omega) (by first | exact q_246f9048f8 hu_f | omega) (by omega) (fun _ => by omega) ((KF_0 (σ := σ0))) (ML_eq hM (gN1_pos 17 (by omega) (by omega)).symm)
        · refine En_Ps 1 (pc' := 37) (lv' := [(0, .ref 159)]) (st' := [.ref 159]) rfl ?_
          refine En_ldcS (i := 9) rfl rfl rfl ?_
          refine En_callV rfl rfl rfl rfl rfl rfl rfl rfl tgz_159 (by decide +kernel) rfl (c_251s9x σ0 hσ0 hM) (by decide) (by decide) (fun v1515 σ1516 h1514 => ?_)
          obtain ⟨h1517, h1518, z1520, rfl, h1519⟩ := h1514
          have h1521 := h1519.2.2
          obtain rfl : σ0 = σ1516 := Fr_nil h1518
          refine En_iNe _ rfl rfl (fun h1522 => ?_) (fun h1522 => ?_)
          · refine En_Ps 4 (pc' := 79) (lv' := [(1, .int ((Int32.ofInt 1))), (0, .ref 159)]) (st' := [.int ((Int32.ofInt 1))]) rfl ?_
            refine En_iNe _ (by decide : (Int32.ofInt 1).toInt = 1) rfl (fun h1523 => ?_) (fun hx => by first | exact (q_0561915bfe hx).elim | (exfalso; omega))
            refine En_lv (lv := [(0, .ref 159)]) ⟨rfl, trivial⟩ ?_
            exact keyj87 σ0 k f hσ0 hF0 h_k (by first | exact q_58e6e51dcc hl_k | omega) (by first | exact q_da5e9b976f hu_k | omega) h_f (by first | exact q_58e6e51dcc hl_f | omega) (by first | exact q_246f9048f8 hu_f | omega) (by omega) (fun _ => by omega) ((KF_0 (σ := σ0))) (ML_eq hM (gN1_pos 9 (by omega) (by omega)).symm)
          · refine En_Ps 1 (pc' := 46) (lv' := [(0, .ref 159)]) (st' := [.ref 159]) rfl ?_
            refine En_ldcS (i := 5) rfl rfl rfl ?_
            refine En_callV rfl rfl rfl rfl rfl rfl rfl rfl tgz_159 (by decide +kernel) rfl (c_251s5x σ0 hσ0 hM) (by decide) (by decide) (fun v1525 σ1526 h1524 => ?_)
            obtain ⟨h1527, h1528, z1530, rfl, h1529⟩ := h1524
            have h1531 := h1529.2.2
            obtain rfl : σ0 = σ1526 := Fr_nil h1528
            refine En_iNe _ rfl rfl (fun h1532 => ?_) (fun h1532 => ?_)
            · refine En_Ps 4 (pc' := 79) (lv' := [(1, .int ((Int32.ofInt 1))), (0, .ref 159)]) (st' := [.int ((Int32.ofInt 1))]) rfl ?_
              refine En_iNe _ (by decide : (Int32.ofInt 1).toInt = 1) rfl (fun h1533 => ?_) (fun hx => by first | exact (q_0561915bfe hx).elim | (exfalso; omega))
              refine En_lv (lv := [(0, .ref 159)]) ⟨rfl, trivial⟩ ?_
              exact keyj87 σ0 k f hσ0 hF0 h_k (by first | exact q_58e6e51dcc hl_k | omega) (by first | exact q_da5e9b976f hu_k | omega) h_f (by first | exact q_58e6e51dcc hl_f | omega) (by first | exact q_246f9048f8 hu_f | omega) (by omega) (fun _ => by omega) ((KF_0 (σ := σ0))) (ML_eq hM (gN1_pos 5 (by omega) (by omega)).symm)
            · refine En_Ps 1 (pc' := 55) (lv' := [(0, .ref 159)]) (st' := [.ref 159]) rfl ?_
              refine En_ldcS (i := 1) rfl rfl rfl ?_
              refine En_callV rfl rfl rfl rfl rfl rfl rfl rfl tgz_159 (by decide +kernel) rfl (c_251s1x σ0 hσ0 hM) (by decide) (by decide) (fun v1535 σ1536 h1534 => ?_)
              obtain ⟨h1537, h1538, z1540, rfl, h1539⟩ := h1534
              have h1541 := h1539.2.2
              obtain rfl : σ0 = σ1536 := Fr_nil h1538
              refine En_iNe _ rfl rfl (fun h1542 => ?_) (fun h1542 => ?_)
              · refine En_Ps 4 (pc' := 79) (lv' := [(1, .int ((Int32.ofInt 1))), (0, .ref 159)]) (st' := [.int ((Int32.ofInt 1))]) rfl ?_
                refine En_iNe _ (by decide : (Int32.ofInt 1).toInt = 1) rfl (fun h1543 => ?_) (fun hx => by first | exact (q_0561915bfe hx).elim | (exfalso; omega))
                refine En_lv (lv := [(0, .ref 159)]) ⟨rfl, trivial⟩ ?_
                exact keyj87 σ0 k f hσ0 hF0 h_k (by first | exact q_58e6e51dcc hl_k | omega) (by first | exact q_da5e9b976f hu_k | omega) h_f (by first | exact q_58e6e51dcc hl_f | omega) (by first | exact q_246f9048f8 hu_f | omega) (by omega) (fun _ => by omega) ((KF_0 (σ := σ0))) (ML_eq hM (gN1_pos 1 (by omega) (by omega)).symm)
              · refine En_Ps 1 (pc' := 64) (lv' := [(0, .ref 159)]) (st' := [.ref 159]) rfl ?_
                refine En_ldcS (i := 0) rfl rfl rfl ?_
                refine En_callV rfl rfl rfl rfl rfl rfl rfl rfl tgz_159 (by decide +kernel) rfl (c_251s0x σ0 hσ0 hM) (by decide) (by decide) (fun v1545 σ1546 h1544 => ?_)
                obtain ⟨h1547, h1548, z1550, rfl, h1549⟩ := h1544
                have h1551 := h1549.2.2
                obtain rfl : σ0 = σ1546 := Fr_nil h1548
                refine En_iEq _ rfl rfl (fun h1552 => ?_) (fun h1552 => ?_)
                · refine En_Ps 3 (pc' := 79) (lv' := [(1, .int ((Int32.ofInt 0))), (0, .ref 159)]) (st' := [.int ((Int32.ofInt 0))]) rfl ?_
                  refine En_iNe _ (by decide : (Int32.ofInt 0).toInt = 0) rfl (fun hx => by first | exact (q_4a39151843 hx).elim | (exfalso; omega)) (fun h1553 => ?_)
                  refine En_Ps 2 (pc' := 84) (lv' := [(1, .int ((Int32.ofInt 0))), (0, .ref 159)]) (st' := [.int ((Int32.ofInt 1)), .ref 159]) rfl ?_
                  have := (by decide : ((Int32.ofInt 1)).toInt = 1)
                  refine En_callV rfl rfl rfl rfl rfl rfl rfl rfl tgz_159 (by decide +kernel) rfl (c_223x σ0 hσ0 ((Int32.ofInt 1)) (geI (by decide : (Int32.ofInt 1).toInt = 1) (by decide)) (leI (by decide : (Int32.ofInt 1).toInt = 1) (by decide)) k h_k hM) (by decide) (by decide) (fun v1555 σ1556 h1554 => ?_)
                  obtain ⟨h1557, h1558, z1560, h1561, rfl, h1559⟩ := h1554
                  have h1562 := h1559.2.2.2.2
                  have h1563 := Fr_trans hF0 h1558 (by decide +kernel)
                  have h1564 := KF_fr (KF_0 (σ := σ0)) h1558 (by decide +kernel)
                  obtain ⟨S1565, h1566⟩ : ∃ q : PS, q = err By Nb 1 Sp := ⟨_, rfl⟩
                  have h1567 : ML By Nb σ1556 S1565 := by rw [h1566]; exact (ML_eq h1562 (err_cg (by omega)))
                  have h1568 := ML_k h1567 h1561
                  have h1569 : S1565.2.2.2 = Sp.2.2.2 := by rw [h1566]; exact err_w
                  refine En_lv (lv := [(0, .ref 159)]) ⟨rfl, trivial⟩ ?_
                  exact keyj87 σ1556 z1560 f h1557 h1563 h1561 (by first | exact q_996aa4c518 h1559.1 | omega) (by first | exact q_87d9217d84 h1559.2.1 | omega) ((h1558 _ _ (inW tgz_159 (by decide +kernel))).trans h_f) (by first | exact q_58e6e51dcc hl_f | omega) (by first | exact q_246f9048f8 hu_f | omega) (by omega) (fun _ => by omega) (h1564) (ML_eq h1567 (by subst h1566; exact (gN1_neg (by omega) (by omega) (by omega) (by omega) (by omega) (by omega) (by omega) (by omega)).symm))
                · refine En_Ps 4 (pc' := 79) (lv' := [(1, .int ((Int32.ofInt 1))), (0, .ref 159)]) (st' := [.int ((Int32.ofInt 1))]) rfl ?_
                  refine En_iNe _ (by decide : (Int32.ofInt 1).toInt = 1) rfl (fun h1570 => ?_) (fun hx => by first | exact (q_0561915bfe hx).elim | (exfalso; omega))
                  refine En_lv (lv := [(0, .ref 159)]) ⟨rfl, trivial⟩ ?_
                  exact keyj87 σ0 k f hσ0 hF0 h_k (by first | exact q_58e6e51dcc hl_k | omega) (by first | exact q_da5e9b976f hu_k | omega) h_f (by first | exact q_58e6e51dcc hl_f | omega) (by first | exact q_246f9048f8 hu_f | omega) (by omega) (fun _ => by omega) ((KF_0 (σ := σ0))) (ML_eq hM (gN1_pos 0 (by omega) (by omega)).symm)
/-- DoorSchoolModel.readLine()V -/
abbrev P_301x (σ0 : SG) (By : Int → Int) (Nb : Int) (Sp : PS) (f : Int32) (k : Int32) (l : Int32) : PO := fun v σ => WT σ ∧ Fr [(35, 8), (35, 9), (35, 10), (35, 11), (35, 12), (35, 13), (41, 0)] σ0 σ ∧ ∃ f1 : Int32, (σ 159)[8]? = some (.int f1) ∧ ∃ t1 : Int32, (σ 159)[10]? = some (.int t1) ∧ ∃ k1 : Int32, (σ 159)[12]? = some (.int k1) ∧ ∃ l1 : Int32, (σ 165)[(7 : Int).toNat]? = some (.int l1) ∧ v = none ∧ -f1.toInt + 1 ≤ 0 ∧ f1.toInt - 1600 ≤ 0 ∧ -f1.toInt + f.toInt ≤ 0 ∧ -t1.toInt ≤ 0 ∧ t1.toInt - 4 ≤ 0 ∧ -k1.toInt ≤ 0 ∧ k1.toInt - 3 ≤ 0 ∧ -l1.toInt + 1 ≤ 0 ∧ l1.toInt - 1600 ≤ 0 ∧ -l1.toInt + l.toInt + 1 ≤ 0 ∧ l1.toInt - l.toInt - 1 ≤ 0 ∧ f.toInt - f1.toInt ≤ 0 ∧ Imp (k1.toInt ≤ 0 ∧ -t1.toInt + 1 ≤ 0) (f.toInt - f1.toInt + 1 ≤ 0) ∧ l1.toInt - l.toInt - 1 ≤ 0 ∧ -l1.toInt + l.toInt + 1 ≤ 0 ∧ ((∀ k2 : Int, k2 = k1.toInt → FI σ k2) ∧ ML By Nb σ (gLine By Nb Sp))
set_option maxRecDepth 10000 in
set_option maxHeartbeats 4000000 in
theorem c_301x {By : Int → Int} {Nb : Int} {Sp : PS} (σ0 : SG) (hσ0 : WT σ0) (f : Int32) (h_f : (σ0 159)[8]? = some (.int f)) (k : Int32) (h_k : (σ0 159)[12]? = some (.int k)) (l : Int32) (h_l : (σ0 165)[(7 : Int).toNat]? = some (.int l)) (hp0 : l.toInt - f.toInt + 1 ≤ 0) (hp1 : k.toInt ≤ 0) (hI : FI σ0 k.toInt) (hM : ML By Nb σ0 Sp) (hg : Sp.1 = 0) : En 10 223 none mr_301 (P_301x σ0 By Nb Sp f k l) 0 [(0, .ref 159)] [] σ0 := by
  obtain ⟨hl_f, hu_f⟩ := WT_int hσ0 (g := 35) (by decide +kernel) (by decide +kernel) (l := 0) (u := 1600) (by decide +kernel) h_f
  obtain ⟨hl_k, hu_k⟩ := WT_int hσ0 (g := 35) (by decide +kernel) (by decide +kernel) (l := 0) (u := 3) (by decide +kernel) h_k
  obtain ⟨hl_l, hu_l⟩ := WT_int hσ0 (g := 41) (by decide +kernel) (by decide +kernel) (l := 0) (u := 1600) (by decide +kernel) h_l
  have hF0 : Fr [(35, 8), (35, 9), (35, 10), (35, 11), (35, 12), (35, 13), (41, 0)] σ0 σ0 := Fr_rfl
  have h1 := ML_k hM h_k
  have h2 := ML_w hM hg h_l (by omega) (by omega)
  refine En_Ps 1 (pc' := 1) (lv' := [(0, .ref 159)]) (st' := [.ref 159]) rfl ?_
  refine En_getU (j := 14) (u := 165) (g' := 41) (q := 0) rfl rfl rfl tgz_159 (by decide +kernel) hσ0 (by decide +kernel) (by decide +kernel) (fun h3 => ?_)
  refine En_Ps 1 (pc' := 6) (lv' := [(0, .ref 159)]) (st' := [.int (((Int8.ofInt 7).toInt32)), .ref 165]) rfl ?_
  refine En_ialdK h_l rfl (by decide : ((Int8.ofInt 7).toInt32).toInt = 7) tgz_165 (by decide +kernel) hσ0 (by decide) (lnI (by decide +kernel : LN _ = 226) (by decide)) ?_
  refine En_iNe _ rfl rfl (fun h6 => ?_) (fun h6 => ?_)
  · refine En_Ps 1 (pc' := 48) (lv' := [(0, .ref 159)]) (st' := [.ref 159]) rfl ?_
    refine En_callV rfl rfl rfl rfl rfl rfl rfl rfl tgz_159 (by decide +kernel) rfl (c_302x σ0 hσ0 f h_f k h_k hM (by omega)) (by decide) (by decide) (fun v8 σ9 h7 => ?_)
    obtain ⟨h10, h11, z13, h14, z15, h16, rfl, h12⟩ := h7
    have h17 := h12.2.2.2.2.2.2.2.2
    have h18 := Fr_trans hF0 h11 (by decide +kernel)
    obtain ⟨S19, h20⟩ : ∃ q : PS, q = gNext By Nb Sp := ⟨_, rfl⟩
    have h21 : ML By Nb σ9 S19 := by rw [h20]; exact h17.2
    have h22 := ML_k h21 h16
    obtain ⟨z24, h23, h25, h26⟩ := WT_peekI h10 tgz_159 (by decide +kernel : FT 35 10 = (0, 0, 4)) (by decide +kernel)
    have h27 := ML_k h21 h16
    have h28 : Imp (S19.1 = 0) (tK By Nb S19.2.2.1 = z24.toInt) := ML_t h21 h23
    obtain ⟨z30, h29, h31, h32⟩ := WT_peekI h10 tgz_165 (by decide +kernel : FT 41 (7 : Int).toNat = (0, 0, 1600)) (by decide +kernel)
    have h33 := ci_at h_l (rfl : (7 : Int) = 7)
    have h34 := ci_at h29 (rfl : (7 : Int) = 7)
    have h35 := h17.1 7 (by omega)
    refine En_Ps 1 (pc' := 52) (lv' := [(0, .ref 159)]) (st' := [.ref 159]) rfl ?_
    refine En_callV rfl rfl rfl rfl rfl rfl rfl rfl tgz_159 (by decide +kernel) rfl (c_237 σ9 h10 z15 h16) (by decide) (by decide) (fun v37 σ38 h36 => ?_)
    obtain ⟨h39, h40, z42, rfl, h41⟩ := h36
    obtain rfl : σ9 = σ38 := Fr_nil h40
    refine En_iEq _ rfl rfl (fun h43 => ?_) (fun h43 => ?_)
    · refine En_Ps 1 (pc' := 72) (lv' := [(0, .ref 159)]) (st' := [.ref 159]) rfl ?_
      refine En_callV rfl rfl rfl rfl rfl rfl rfl rfl tgz_159 (by decide +kernel) rfl (c_237 σ9 h10 z15 h16) (by decide) (by decide) (fun v45 σ46 h44 => ?_)
      obtain ⟨h47, h48, z50, rfl, h49⟩ := h44
      obtain rfl : σ9 = σ46 := Fr_nil h48
      refine En_iEq _ rfl rfl (fun h51 => ?_) (fun hx => by exfalso; have := Imp_m h12.2.2.2.2.2.2.2.1 (by omega); omega)
      obtain ⟨S52, h53⟩ : ∃ q : PS, q = adv By Nb S19 := ⟨_, rfl⟩
      have h54 : ML By Nb σ9 S52 := by rw [h53]; exact (ML_eq h21 (adv_bad (by omega)).symm)
      have h55 := ML_k h54 h16
      have h56 : Imp (S52.1 = 0) (tK By Nb S52.2.2.1 = z24.toInt) := ML_t h54 h23
      refine En_Ps 1 (pc' := 83) (lv' := [(0, .ref 159)]) (st' := [.ref 159]) rfl ?_
      refine En_getK (j := 14) ((h11 _ _ (inW tgz_159 (by decide +kernel))).trans h3) rfl rfl rfl tgz_159 (by decide +kernel) ?_
      refine En_Ps 2 (pc' := 89) (lv' := [(0, .ref 159)]) (st' := [.int (((Int8.ofInt 7).toInt32)), .ref 165, .int (((Int8.ofInt 7).toInt32)), .ref 165]) rfl ?_
      refine En_ialdK h29 rfl (by decide : ((Int8.ofInt 7).toInt32).toInt = 7) tgz_165 (by decide +kernel) h10 (by decide) (lnI (by decide +kernel : LN _ = 226) (by decide)) ?_
      refine En_Ps 2 (pc' := 92) (lv' := [(0, .ref 159)]) (st' := [.int ((z30 + ((Int32.ofInt 1)))), .int (((Int8.ofInt 7).toInt32)), .ref 165]) rfl ?_
      refine En_top (addI rfl (by decide : (Int32.ofInt 1).toInt = 1) (by first | exact q_465ab79ac1 h31 | omega) (by first | exact q_1c9c6c18a7 h32 | omega)) (fun z58 h59 => ?_)
      refine En_iast (l := 0) (u := 1600) rfl (by decide : ((Int8.ofInt 7).toInt32).toInt = 7) tgz_165 (by decide +kernel) (by decide) (lnI (by decide +kernel : LN _ = 226) (by decide)) (by decide +kernel) (rngI rfl (by first | exact q_35104ce9d3 h59 h31 | omega) (by omega)) h10 h18 (by decide +kernel) (fun σ60 h61 h62 h63 h64 => ?_)
      obtain ⟨S65, h66⟩ : ∃ q : PS, q = wst S52 (7) (Sp.2.2.2 7 + 1) := ⟨_, rfl⟩
      have h67 : ML By Nb σ60 S65 := by rw [h66]; exact (ML_wst (i := 7) (v := Sp.2.2.2 7 + 1) h54 h63 h64 (by omega) (fun z => by have j1 := Imp_m h56 z; exact ⟨by omega, by omega⟩))
      have h68 := ML_k h67 ((h64 _ _ (Or.inl (neTG tgz_159 tgz_165 (by decide)))).trans h16)
      have h69 : Imp (S65.1 = 0) (tK By Nb S65.2.2.1 = z24.toInt) := ML_t h67 ((h64 _ _ (Or.inl (neTG tgz_159 tgz_165 (by decide)))).trans h23)
      have h70 : S65.1 = S52.1 := by rw [h66]; rfl
      have h71 : ci σ60 165 6 = ci σ0 165 6 := by rw [ci_st h63 h64 (by omega) 6 (by omega), if_neg (by omega), h17.1 6 (by omega)]
      have h73 : ci σ60 165 7 = z58.toInt := by rw [ci_st h63 h64 (by omega) 7 (by omega), if_pos rfl]
      have h72 : ci σ60 165 1 = ci σ0 165 1 := by rw [ci_st h63 h64 (by omega) 1 (by omega), if_neg (by omega), h17.1 1 (by omega)]
      have h74 := ci_at h_l (rfl : (7 : Int) = 7)
      exact En_ret (v := none) rfl rfl rfl ⟨h61, h62, z13, ((h64 _ _ (Or.inl (neTG tgz_159 tgz_165 (by decide)))).trans h14), z24, ((h64 _ _ (Or.inl (neTG tgz_159 tgz_165 (by decide)))).trans h23), z15, ((h64 _ _ (Or.inl (neTG tgz_159 tgz_165 (by decide)))).trans h16), z58, h63, rfl, ⟨by first | exact q_8c58de1fa6 h12.2.2.1 hp0 h6 hl_l | omega, by first | exact q_76190b61a3 h12.2.1 | omega, by first | exact q_d22b102a8e h12.2.2.1 | omega, by first | exact q_c803b490ef h25 | omega, by first | exact q_3919a0a4ce h26 | omega, by first | exact q_a555021d16 h12.2.2.2.1 | omega, by first | exact q_c733b715bf h12.2.2.2.2.1 | omega, by first | exact q_eeff886842 h59 h31 | omega, by omega, by omega, by omega, by first | exact q_83f4b1e050 h12.2.2.1 | omega, fun _ => by have := Imp_m h12.2.2.2.2.2.2.2.1 (by omega); omega, by omega, by omega, ⟨fun k2 hk2 => ⟨h71.trans hI.1, fun hz => ⟨fun _ => by rw [h72]; exact (hI.2 (by omega)).1 (by omega), fun z7 => (by omega)⟩⟩, ML_eq h67 (by subst h66; subst h53; subst h20; unfold gLine fFirst gL1; dsimp only; first | done | rfl | ((repeat' split) <;> first | rfl | (exfalso; omega) | ((try have i0 := Imp_m h69 (by omega)); (try have i1 := Imp_m h56 (by omega)); (try have i2 := Imp_m h28 (by omega)); (try have i3 := Imp_m h12.2.2.2.2.2.2.2.1 (by omega)); exfalso; omega)))⟩⟩⟩
    · have h75 := Imp_m h12.2.2.2.2.2.2.2.1 (by omega)
      try have h76 := Imp_m h28 (by omega)
      refine En_Ps 1 (pc' := 59) (lv' := [(0, .ref 159)]) (st' := [.ref 159]) rfl ?_
      refine En_getK (j := 10) h23 rfl rfl rfl tgz_159 (by decide +kernel) ?_
      refine En_Ps 1 (pc' := 63) (lv' := [(0, .ref 159)]) (st' := [.int ((Int32.ofInt 3)), .int z24]) rfl ?_
      refine En_icEq _ rfl (by decide : (Int32.ofInt 3).toInt = 3) rfl (fun h77 => ?_) (fun h77 => ?_)
      · refine En_Ps 1 (pc' := 72) (lv' := [(0, .ref 159)]) (st' := [.ref 159]) rfl ?_
        refine En_callV rfl rfl rfl rfl rfl rfl rfl rfl tgz_159 (by decide +kernel) rfl (c_237 σ9 h10 z15 h16) (by decide) (by decide) (fun v79 σ80 h78 => ?_)
        obtain ⟨h81, h82, z84, rfl, h83⟩ := h78
        obtain rfl : σ9 = σ80 := Fr_nil h82
        refine En_iEq _ rfl rfl (fun hx => by exfalso; omega) (fun h85 => ?_)
        try have h86 := Imp_m h28 (by omega)
        refine En_Ps 1 (pc' := 79) (lv' := [(0, .ref 159)]) (st' := [.ref 159]) rfl ?_
        refine En_callV rfl rfl rfl rfl rfl rfl rfl rfl tgz_159 (by decide +kernel) rfl (c_189x σ9 h10 z13 h14 h21.1 (ML_at h21 (by omega) h14)) (by decide) (by decide) (fun v88 σ89 h87 => ?_)
        obtain ⟨h90, h91, z93, h94, z95, h96, rfl, h92⟩ := h87
        have h97 := h92.2.2.2.2.2.2.2
        have h98 := Fr_trans h18 h91 (by decide +kernel)
        obtain ⟨S99, h100⟩ : ∃ q : PS, q = adv By Nb S19 := ⟨_, rfl⟩
        have h101 : ML By Nb σ89 S99 := by rw [h100]; exact (ML_adv h21 (by omega) h14 h91 (by decide +kernel) h97.2)
        have h102 := ML_k h101 ((h91 _ _ (inW tgz_159 (by decide +kernel))).trans h16)
        have h103 : Imp (S99.1 = 0) (tK By Nb S99.2.2.1 = z95.toInt) := ML_t h101 h96
        have h104 : S99.2.2.2 = S19.2.2.2 := by rw [h100]; exact adv_w
        refine En_Ps 1 (pc' := 83) (lv' := [(0, .ref 159)]) (st' := [.ref 159]) rfl ?_
        refine En_getK (j := 14) ((h91 _ _ (inW tgz_159 (by decide +kernel))).trans ((h11 _ _ (inW tgz_159 (by decide +kernel))).trans h3)) rfl rfl rfl tgz_159 (by decide +kernel) ?_
        refine En_Ps 2 (pc' := 89) (lv' := [(0, .ref 159)]) (st' := [.int (((Int8.ofInt 7).toInt32)), .ref 165, .int (((Int8.ofInt 7).toInt32)), .ref 165]) rfl ?_
        refine En_ialdK ((h91 _ _ (inWa tgz_165 (by decide +kernel))).trans h29) rfl (by decide : ((Int8.ofInt 7).toInt32).toInt = 7) tgz_165 (by decide +kernel) h90 (by decide) (lnI (by decide +kernel : LN _ = 226) (by decide)) ?_
        refine En_Ps 2 (pc' := 92) (lv' := [(0, .ref 159)]) (st' := [.int ((z30 + ((Int32.ofInt 1)))), .int (((Int8.ofInt 7).toInt32)), .ref 165]) rfl ?_
        refine En_top (addI rfl (by decide : (Int32.ofInt 1).toInt = 1) (by first | exact q_465ab79ac1 h31 | omega) (by first | exact q_1c9c6c18a7 h32 | omega)) (fun z106 h107 => ?_)
        refine En_iast (l := 0) (u := 1600) rfl (by decide : ((Int8.ofInt 7).toInt32).toInt = 7) tgz_165 (by decide +kernel) (by decide) (lnI (by decide +kernel : LN _ = 226) (by decide)) (by decide +kernel) (rngI rfl (by first | exact q_35104ce9d3 h107 h31 | omega) (by omega)) h90 h98 (by decide +kernel) (fun σ108 h109 h110 h111 h112 => ?_)
        obtain ⟨S113, h114⟩ : ∃ q : PS, q = wst S99 (7) (Sp.2.2.2 7 + 1) := ⟨_, rfl⟩
        have h115 : ML By Nb σ108 S113 := by rw [h114]; exact (ML_wst (i := 7) (v := Sp.2.2.2 7 + 1) h101 h111 h112 (by omega) (fun z => by have j1 := Imp_m h103 z; exact ⟨by omega, by omega⟩))
        have h116 := ML_k h115 ((h112 _ _ (Or.inl (neTG tgz_159 tgz_165 (by decide)))).trans ((h91 _ _ (inW tgz_159 (by decide +kernel))).trans h16))
        have h117 : Imp (S113.1 = 0) (tK By Nb S113.2.2.1 = z95.toInt) := ML_t h115 ((h112 _ _ (Or.inl (neTG tgz_159 tgz_165 (by decide)))).trans h96)
        have h118 : S113.1 = S99.1 := by rw [h114]; rfl
        have h119 : ci σ108 165 6 = ci σ0 165 6 := by rw [ci_st h111 h112 (by omega) 6 (by omega), if_neg (by omega), ci_fr h91 tgz_165 (by decide +kernel) 6, h17.1 6 (by omega)]
        have h121 : ci σ108 165 7 = z106.toInt := by rw [ci_st h111 h112 (by omega) 7 (by omega), if_pos rfl]
        have h120 : ci σ108 165 1 = ci σ0 165 1 := by rw [ci_st h111 h112 (by omega) 1 (by omega), if_neg (by omega), ci_fr h91 tgz_165 (by decide +kernel) 1, h17.1 1 (by omega)]
        have h122 := ci_at h_l (rfl : (7 : Int) = 7)
        exact En_ret (v := none) rfl rfl rfl ⟨h109, h110, z93, ((h112 _ _ (Or.inl (neTG tgz_159 tgz_165 (by decide)))).trans h94), z95, ((h112 _ _ (Or.inl (neTG tgz_159 tgz_165 (by decide)))).trans h96), z15, ((h112 _ _ (Or.inl (neTG tgz_159 tgz_165 (by decide)))).trans ((h91 _ _ (inW tgz_159 (by decide +kernel))).trans h16)), z106, h111, rfl, ⟨by first | exact q_1bafaf3e85 h92.2.2.1 h12.2.2.1 hp0 h6 hl_l | omega, by first | exact q_76190b61a3 h92.2.1 | omega, by first | exact q_ccc3bb8fc9 h12.2.2.1 h92.2.2.1 | omega, by first | exact q_a555021d16 h92.2.2.2.1 | omega, by first | exact q_05cffb065e h92.2.2.2.2.1 | omega, by first | exact q_a555021d16 h12.2.2.2.1 | omega, by first | exact q_c733b715bf h12.2.2.2.2.1 | omega, by first | exact q_eeff886842 h107 h31 | omega, by omega, by omega, by omega, by first | exact q_28bfca2c13 h12.2.2.1 h92.2.2.1 | omega, fun _ => by have := Imp_m h92.2.2.2.2.2.2.1 (by omega); omega, by omega, by omega, ⟨fun k2 hk2 => ⟨h119.trans hI.1, fun hz => ⟨fun _ => by rw [h120]; exact (hI.2 (by omega)).1 (by omega), fun z7 => (by omega)⟩⟩, ML_eq h115 (by subst h114; subst h100; subst h20; unfold gLine fFirst gL1; dsimp only; first | done | rfl | ((repeat' split) <;> first | rfl | (exfalso; omega) | ((try have i0 := Imp_m h117 (by omega)); (try have i1 := Imp_m h103 (by omega)); (try have i2 := Imp_m h28 (by omega)); (try have i3 := Imp_m h92.2.2.2.2.2.2.1 (by omega)); exfalso; omega)))⟩⟩⟩
      · refine En_Ps 2 (pc' := 68) (lv' := [(0, .ref 159)]) (st' := [.int ((Int32.ofInt 1)), .ref 159]) rfl ?_
        have := (by decide : ((Int32.ofInt 1)).toInt = 1)
        refine En_callV rfl rfl rfl rfl rfl rfl rfl rfl tgz_159 (by decide +kernel) rfl (c_223x σ9 h10 ((Int32.ofInt 1)) (geI (by decide : (Int32.ofInt 1).toInt = 1) (by decide)) (leI (by decide : (Int32.ofInt 1).toInt = 1) (by decide)) z15 h16 h21) (by decide) (by decide) (fun v124 σ125 h123 => ?_)
        obtain ⟨h126, h127, z129, h130, rfl, h128⟩ := h123
        have h131 := h128.2.2.2.2
        have h132 := Fr_trans h18 h127 (by decide +kernel)
        obtain ⟨S133, h134⟩ : ∃ q : PS, q = err By Nb 1 S19 := ⟨_, rfl⟩
        have h135 : ML By Nb σ125 S133 := by rw [h134]; exact (ML_eq h131 (err_cg (by omega)))
        have h136 := ML_k h135 h130
        have h137 : Imp (S133.1 = 0) (tK By Nb S133.2.2.1 = z24.toInt) := ML_t h135 ((h127 _ _ (inW tgz_159 (by decide +kernel))).trans h23)
        have h138 : S133.2.2.2 = S19.2.2.2 := by rw [h134]; exact err_w
        refine En_Ps 1 (pc' := 72) (lv' := [(0, .ref 159)]) (st' := [.ref 159]) rfl ?_
        refine En_callV rfl rfl rfl rfl rfl rfl rfl rfl tgz_159 (by decide +kernel) rfl (c_237 σ125 h126 z129 h130) (by decide) (by decide) (fun v140 σ141 h139 => ?_)
        obtain ⟨h142, h143, z145, rfl, h144⟩ := h139
        obtain rfl : σ125 = σ141 := Fr_nil h143
        refine En_iEq _ rfl rfl (fun h146 => ?_) (fun hx => by exfalso; omega)
        obtain ⟨S147, h148⟩ : ∃ q : PS, q = adv By Nb S133 := ⟨_, rfl⟩
        have h149 : ML By Nb σ125 S147 := by rw [h148]; exact (ML_eq h135 (adv_bad (by omega)).symm)
        have h150 := ML_k h149 h130
        have h151 : Imp (S147.1 = 0) (tK By Nb S147.2.2.1 = z24.toInt) := ML_t h149 ((h127 _ _ (inW tgz_159 (by decide +kernel))).trans h23)
        refine En_Ps 1 (pc' := 83) (lv' := [(0, .ref 159)]) (st' := [.ref 159]) rfl ?_
        refine En_getK (j := 14) ((h127 _ _ (inW tgz_159 (by decide +kernel))).trans ((h11 _ _ (inW tgz_159 (by decide +kernel))).trans h3)) rfl rfl rfl tgz_159 (by decide +kernel) ?_
        refine En_Ps 2 (pc' := 89) (lv' := [(0, .ref 159)]) (st' := [.int (((Int8.ofInt 7).toInt32)), .ref 165, .int (((Int8.ofInt 7).toInt32)), .ref 165]) rfl ?_
        refine En_ialdK ((h127 _ _ (inWa tgz_165 (by decide +kernel))).trans h29) rfl (by decide : ((Int8.ofInt 7).toInt32).toInt = 7) tgz_165 (by decide +kernel) h126 (by decide) (lnI (by decide +kernel : LN _ = 226) (by decide)) ?_
        refine En_Ps 2 (pc' := 92) (lv' := [(0, .ref 159)]) (st' := [.int ((z30 + ((Int32.ofInt 1)))), .int (((Int8.ofInt 7).toInt32)), .ref 165]) rfl ?_
        refine En_top (addI rfl (by decide : (Int32.ofInt 1).toInt = 1) (by first | exact q_465ab79ac1 h31 | omega) (by first | exact q_1c9c6c18a7 h32 | omega)) (fun z153 h154 => ?_)
        refine En_iast (l := 0) (u := 1600) rfl (by decide : ((Int8.ofInt 7).toInt32).toInt = 7) tgz_165 (by decide +kernel) (by decide) (lnI (by decide +kernel : LN _ = 226) (by decide)) (by decide +kernel) (rngI rfl (by first | exact q_35104ce9d3 h154 h31 | omega) (by omega)) h126 h132 (by decide +kernel) (fun σ155 h156 h157 h158 h159 => ?_)
        obtain ⟨S160, h161⟩ : ∃ q : PS, q = wst S147 (7) (Sp.2.2.2 7 + 1) := ⟨_, rfl⟩
        have h162 : ML By Nb σ155 S160 := by rw [h161]; exact (ML_wst (i := 7) (v := Sp.2.2.2 7 + 1) h149 h158 h159 (by omega) (fun z => by have j1 := Imp_m h151 z; exact ⟨by omega, by omega⟩))
        have h163 := ML_k h162 ((h159 _ _ (Or.inl (neTG tgz_159 tgz_165 (by decide)))).trans h130)
        have h164 : Imp (S160.1 = 0) (tK By Nb S160.2.2.1 = z24.toInt) := ML_t h162 ((h159 _ _ (Or.inl (neTG tgz_159 tgz_165 (by decide)))).trans ((h127 _ _ (inW tgz_159 (by decide +kernel))).trans h23))
        have h165 : S160.1 = S147.1 := by rw [h161]; rfl
        have h166 : ci σ155 165 6 = ci σ0 165 6 := by rw [ci_st h158 h159 (by omega) 6 (by omega), if_neg (by omega), ci_fr h127 tgz_165 (by decide +kernel) 6, h17.1 6 (by omega)]
        have h168 : ci σ155 165 7 = z153.toInt := by rw [ci_st h158 h159 (by omega) 7 (by omega), if_pos rfl]
        have h167 : ci σ155 165 1 = ci σ0 165 1 := by rw [ci_st h158 h159 (by omega) 1 (by omega), if_neg (by omega), ci_fr h127 tgz_165 (by decide +kernel) 1, h17.1 1 (by omega)]
        have h169 := ci_at h_l (rfl : (7 : Int) = 7)
        exact En_ret (v := none) rfl rfl rfl ⟨h156, h157, z13, ((h159 _ _ (Or.inl (neTG tgz_159 tgz_165 (by decide)))).trans ((h127 _ _ (inW tgz_159 (by decide +kernel))).trans h14)), z24, ((h159 _ _ (Or.inl (neTG tgz_159 tgz_165 (by decide)))).trans ((h127 _ _ (inW tgz_159 (by decide +kernel))).trans h23)), z129, ((h159 _ _ (Or.inl (neTG tgz_159 tgz_165 (by decide)))).trans h130), z153, h158, rfl, ⟨by first | exact q_8c58de1fa6 h12.2.2.1 hp0 h6 hl_l | omega, by first | exact q_76190b61a3 h12.2.1 | omega, by first | exact q_d22b102a8e h12.2.2.1 | omega, by first | exact q_c803b490ef h25 | omega, by first | exact q_3919a0a4ce h26 | omega, by first | exact q_1a6ee862c1 h128.1 | omega, by first | exact q_c733b715bf h128.2.1 | omega, by first | exact q_eeff886842 h154 h31 | omega, by omega, by omega, by omega, by first | exact q_83f4b1e050 h12.2.2.1 | omega, fun _ => by omega, by omega, by omega, ⟨fun k2 hk2 => ⟨h166.trans hI.1, fun hz => ⟨fun _ => by rw [h167]; exact (hI.2 (by omega)).1 (by omega), fun z7 => (by omega)⟩⟩, ML_eq h162 (by subst h161; subst h148; subst h134; subst h20; unfold gLine fFirst gL1; dsimp only; first | done | rfl | ((repeat' split) <;> first | rfl | (exfalso; omega) | ((try have i0 := Imp_m h164 (by omega)); (try have i1 := Imp_m h151 (by omega)); (try have i2 := Imp_m h137 (by omega)); (try have i3 := Imp_m h28 (by omega)); exfalso; omega)))⟩⟩⟩
  · refine En_Ps 1 (pc' := 11) (lv' := [(0, .ref 159)]) (st' := [.ref 159]) rfl ?_
    refine En_ldcS (i := 10) rfl rfl rfl ?_
    refine En_callV rfl rfl rfl rfl rfl rfl rfl rfl tgz_159 (by decide +kernel) rfl (c_286s10x σ0 hσ0 f h_f k h_k hM) (by decide) (by decide) (fun v171 σ172 h170 => ?_)
    obtain ⟨h173, h174, z176, h177, z178, h179, rfl, h175⟩ := h170
    have h180 := h175.2.2.2.2.2.2.2.2
    have h181 := Fr_trans hF0 h174 (by decide +kernel)
    obtain ⟨S182, h183⟩ : ∃ q : PS, q = pss By Nb (iW By Nb 10 Sp) Sp := ⟨_, rfl⟩
    have h184 : ML By Nb σ172 S182 := by rw [h183]; exact h180
    have h185 := ML_k h184 h179
    refine En_Ps 1 (pc' := 17) (lv' := [(0, .ref 159)]) (st' := [.ref 159]) rfl ?_
    refine En_getK (j := 14) ((h174 _ _ (inW tgz_159 (by decide +kernel))).trans h3) rfl rfl rfl tgz_159 (by decide +kernel) ?_
    refine En_Ps 2 (pc' := 22) (lv' := [(0, .ref 159)]) (st' := [.ref 159, .int ((Int32.ofInt 0)), .ref 165]) rfl ?_
    refine En_ldcS (i := 13) rfl rfl rfl ?_
    refine En_Ps 2 (pc' := 26) (lv' := [(0, .ref 159)]) (st' := [.int ((Int32.ofInt 4)), .int ((Int32.ofInt 2)), .retAddr 27, .ref 159, .int ((Int32.ofInt 0)), .ref 165]) rfl ?_
    have := (by decide : ((Int32.ofInt 2)).toInt = 2)
    have := (by decide : ((Int32.ofInt 4)).toInt = 4)
    refine En_callV rfl rfl rfl rfl rfl rfl rfl rfl tgz_159 (by decide +kernel) rfl (c_323s13x σ172 h173 ((Int32.ofInt 2)) ((Int32.ofInt 4)) (geI (by decide : (Int32.ofInt 2).toInt = 2) (by decide)) (leI (by decide : (Int32.ofInt 2).toInt = 2) (by decide)) (geI (by decide : (Int32.ofInt 4).toInt = 4) (by decide)) (leI (by decide : (Int32.ofInt 4).toInt = 4) (by decide)) z176 h177 z178 h179 h184) (by decide) (by decide) (fun v187 σ188 h186 => ?_)
    obtain ⟨h189, h190, z192, h193, z194, h195, z196, rfl, h191⟩ := h186
    have h197 := h191.2.2.2.2.2.2.2.2.2.2.2.2.2.2
    have h198 := Fr_trans h181 h190 (by decide +kernel)
    obtain ⟨S199, h200⟩ : ∃ q : PS, q = pss By Nb (iW By Nb 13 S182) S182 := ⟨_, rfl⟩
    have h201 : tN By Nb ((Int32.ofInt 2)).toInt ((Int32.ofInt 4)).toInt (pss By Nb (iW By Nb 13 S182) S182) = tN By Nb (2) (4) S199 := by rw [h200]; exact tN_cg2 (fun _ => by omega) (fun _ => by omega)
    obtain ⟨S202, h203⟩ : ∃ q : PS, q = tN By Nb (2) (4) S199 := ⟨_, rfl⟩
    have h204 : ML By Nb σ188 S202 := by rw [h203]; exact (ML_eq h197.1 h201)
    have h205 := ML_k h204 h195
    have h206 : Imp (S202.1 = 0) (z196.toInt = tV By Nb S199.2.2.1) := fun z => by rw [h200]; exact h197.2 (by rw [h201, ← h203]; exact z)
    have h207 := Imp_m h191.2.2.2.2.2.2.2.2.2.2.1 (by omega)
    have h208 := Imp_m h191.2.2.2.2.2.2.2.2.2.2.2.1 (by omega)
    refine En_iast (l := 0) (u := 4) rfl (by decide : (Int32.ofInt 0).toInt = 0) tgz_165 (by decide +kernel) (by decide) (lnI (by decide +kernel : LN _ = 226) (by decide)) (by decide +kernel) (rngI rfl (by first | exact q_ef1e8e38bf h191.1 | omega) (by omega)) h189 h198 (by decide +kernel) (fun σ209 h210 h211 h212 h213 => ?_)
    obtain ⟨S214, h215⟩ : ∃ q : PS, q = wst S202 (0) ((tV By Nb S199.2.2.1)) := ⟨_, rfl⟩
    have h216 : ML By Nb σ209 S214 := by rw [h215]; exact (ML_wst (i := 0) (v := (tV By Nb S199.2.2.1)) h204 h212 h213 (by omega) (fun z => by have j1 := Imp_m h206 z; exact ⟨by omega, by omega⟩))
    have h217 := ML_k h216 ((h213 _ _ (Or.inl (neTG tgz_159 tgz_165 (by decide)))).trans h195)
    have h218 : S214.1 = S202.1 := by rw [h215]; rfl
    refine En_Ps 1 (pc' := 31) (lv' := [(0, .ref 159)]) (st' := [.ref 159]) rfl ?_
    refine En_getK (j := 14) ((h213 _ _ (Or.inl (neTG tgz_159 tgz_165 (by decide)))).trans ((h190 _ _ (inW tgz_159 (by decide +kernel))).trans ((h174 _ _ (inW tgz_159 (by decide +kernel))).trans h3))) rfl rfl rfl tgz_159 (by decide +kernel) ?_
    refine En_Ps 2 (pc' := 36) (lv' := [(0, .ref 159)]) (st' := [.ref 159, .int ((Int32.ofInt 1)), .ref 165]) rfl ?_
    refine En_ldcS (i := 16) rfl rfl rfl ?_
    refine En_Ps 2 (pc' := 40) (lv' := [(0, .ref 159)]) (st' := [.int ((Int32.ofInt 3)), .int ((Int32.ofInt 1)), .retAddr 33, .ref 159, .int ((Int32.ofInt 1)), .ref 165]) rfl ?_
    have := (by decide : ((Int32.ofInt 1)).toInt = 1)
    have := (by decide : ((Int32.ofInt 3)).toInt = 3)
    refine En_callV rfl rfl rfl rfl rfl rfl rfl rfl tgz_159 (by decide +kernel) rfl (c_323s16x σ209 h210 ((Int32.ofInt 1)) ((Int32.ofInt 3)) (geI (by decide : (Int32.ofInt 1).toInt = 1) (by decide)) (leI (by decide : (Int32.ofInt 1).toInt = 1) (by decide)) (geI (by decide : (Int32.ofInt 3).toInt = 3) (by decide)) (leI (by decide : (Int32.ofInt 3).toInt = 3) (by decide)) z192 ((h213 _ _ (Or.inl (neTG tgz_159 tgz_165 (by decide)))).trans h193) z194 ((h213 _ _ (Or.inl (neTG tgz_159 tgz_165 (by decide)))).trans h195) h216) (by decide) (by decide) (fun v220 σ221 h219 => ?_)
    obtain ⟨h222, h223, z225, h226, z227, h228, z229, rfl, h224⟩ := h219
    have h230 := h224.2.2.2.2.2.2.2.2.2.2.2.2.2.2
    have h231 := Fr_trans h211 h223 (by decide +kernel)
    obtain ⟨S232, h233⟩ : ∃ q : PS, q = pss By Nb (iW By Nb 16 S214) S214 := ⟨_, rfl⟩
    have h234 : tN By Nb ((Int32.ofInt 1)).toInt ((Int32.ofInt 3)).toInt (pss By Nb (iW By Nb 16 S214) S214) = tN By Nb (1) (3) S232 := by rw [h233]; exact tN_cg2 (fun _ => by omega) (fun _ => by omega)
    obtain ⟨S235, h236⟩ : ∃ q : PS, q = tN By Nb (1) (3) S232 := ⟨_, rfl⟩
    have h237 : ML By Nb σ221 S235 := by rw [h236]; exact (ML_eq h230.1 h234)
    have h238 := ML_k h237 h228
    have h239 : Imp (S235.1 = 0) (z229.toInt = tV By Nb S232.2.2.1) := fun z => by rw [h233]; exact h230.2 (by rw [h234, ← h236]; exact z)
    have h240 := Imp_m h224.2.2.2.2.2.2.2.2.2.2.1 (by omega)
    have h241 := Imp_m h224.2.2.2.2.2.2.2.2.2.2.2.1 (by omega)
    refine En_iast (l := 0) (u := 3) rfl (by decide : (Int32.ofInt 1).toInt = 1) tgz_165 (by decide +kernel) (by decide) (lnI (by decide +kernel : LN _ = 226) (by decide)) (by decide +kernel) (rngI rfl (by first | exact q_ef1e8e38bf h224.1 | omega) (by omega)) h222 h231 (by decide +kernel) (fun σ242 h243 h244 h245 h246 => ?_)
    obtain ⟨S247, h248⟩ : ∃ q : PS, q = wst S235 (1) ((tV By Nb S232.2.2.1)) := ⟨_, rfl⟩
    have h249 : ML By Nb σ242 S247 := by rw [h248]; exact (ML_wst (i := 1) (v := (tV By Nb S232.2.2.1)) h237 h245 h246 (by omega) (fun z => by have j1 := Imp_m h239 z; exact ⟨by omega, by omega⟩))
    have h250 := ML_k h249 ((h246 _ _ (Or.inl (neTG tgz_159 tgz_165 (by decide)))).trans h228)
    have h251 : S247.1 = S235.1 := by rw [h248]; rfl
    refine En_Ps 1 (pc' := 51) (lv' := [(0, .ref 159)]) (st' := []) rfl ?_
    obtain ⟨z253, h252, h254, h255⟩ := WT_peekI h243 tgz_159 (by decide +kernel : FT 35 10 = (0, 0, 4)) (by decide +kernel)
    have h256 := ML_k h249 ((h246 _ _ (Or.inl (neTG tgz_159 tgz_165 (by decide)))).trans h228)
    have h257 : Imp (S247.1 = 0) (tK By Nb S247.2.2.1 = z253.toInt) := ML_t h249 h252
    refine En_Ps 1 (pc' := 52) (lv' := [(0, .ref 159)]) (st' := [.ref 159]) rfl ?_
    refine En_callV rfl rfl rfl rfl rfl rfl rfl rfl tgz_159 (by decide +kernel) rfl (c_237 σ242 h243 z227 ((h246 _ _ (Or.inl (neTG tgz_159 tgz_165 (by decide)))).trans h228)) (by decide) (by decide) (fun v259 σ260 h258 => ?_)
    obtain ⟨h261, h262, z264, rfl, h263⟩ := h258
    obtain rfl : σ242 = σ260 := Fr_nil h262
    refine En_iEq _ rfl rfl (fun h265 => ?_) (fun h265 => ?_)
    · refine En_Ps 1 (pc' := 72) (lv' := [(0, .ref 159)]) (st' := [.ref 159]) rfl ?_
      refine En_callV rfl rfl rfl rfl rfl rfl rfl rfl tgz_159 (by decide +kernel) rfl (c_237 σ242 h243 z227 ((h246 _ _ (Or.inl (neTG tgz_159 tgz_165 (by decide)))).trans h228)) (by decide) (by decide) (fun v267 σ268 h266 => ?_)
      obtain ⟨h269, h270, z272, rfl, h271⟩ := h266
      obtain rfl : σ242 = σ268 := Fr_nil h270
      refine En_iEq _ rfl rfl (fun h273 => ?_) (fun hx => by exfalso; have := Imp_m h175.2.2.2.2.2.2.2.1 (by omega); have := Imp_m h191.2.2.2.2.2.2.2.2.2.2.2.2.2.1 (by omega); have := Imp_m h224.2.2.2.2.2.2.2.2.2.2.2.2.2.1 (by omega); omega)
      obtain ⟨S274, h275⟩ : ∃ q : PS, q = adv By Nb S247 := ⟨_, rfl⟩
      have h276 : ML By Nb σ242 S274 := by rw [h275]; exact (ML_eq h249 (adv_bad (by omega)).symm)
      have h277 := ML_k h276 ((h246 _ _ (Or.inl (neTG tgz_159 tgz_165 (by decide)))).trans h228)
      have h278 : Imp (S274.1 = 0) (tK By Nb S274.2.2.1 = z253.toInt) := ML_t h276 h252
      refine En_Ps 1 (pc' := 83) (lv' := [(0, .ref 159)]) (st' := [.ref 159]) rfl ?_
      refine En_getK (j := 14) ((h246 _ _ (Or.inl (neTG tgz_159 tgz_165 (by decide)))).trans ((h223 _ _ (inW tgz_159 (by decide +kernel))).trans ((h213 _ _ (Or.inl (neTG tgz_159 tgz_165 (by decide)))).trans ((h190 _ _ (inW tgz_159 (by decide +kernel))).trans ((h174 _ _ (inW tgz_159 (by decide +kernel))).trans h3))))) rfl rfl rfl tgz_159 (by decide +kernel) ?_
      refine En_Ps 2 (pc' := 89) (lv' := [(0, .ref 159)]) (st' := [.int (((Int8.ofInt 7).toInt32)), .ref 165, .int (((Int8.ofInt 7).toInt32)), .ref 165]) rfl ?_
      refine En_ialdK ((h246 _ _ (Or.inr (by omega))).trans ((h223 _ _ (inWa tgz_165 (by decide +kernel))).trans ((h213 _ _ (Or.inr (by omega))).trans ((h190 _ _ (inWa tgz_165 (by decide +kernel))).trans ((h174 _ _ (inWa tgz_165 (by decide +kernel))).trans h_l))))) rfl (by decide : ((Int8.ofInt 7).toInt32).toInt = 7) tgz_165 (by decide +kernel) h243 (by decide) (lnI (by decide +kernel : LN _ = 226) (by decide)) ?_
      refine En_Ps 2 (pc' := 92) (lv' := [(0, .ref 159)]) (st' := [.int ((l + ((Int32.ofInt 1)))), .int (((Int8.ofInt 7).toInt32)), .ref 165]) rfl ?_
      refine En_top (addI rfl (by decide : (Int32.ofInt 1).toInt = 1) (by first | exact q_465ab79ac1 hl_l | omega) (by first | exact q_12b1326583 h6 | omega)) (fun z280 h281 => ?_)
      refine En_iast (l := 0) (u := 1600) rfl (by decide : ((Int8.ofInt 7).toInt32).toInt = 7) tgz_165 (by decide +kernel) (by decide) (lnI (by decide +kernel : LN _ = 226) (by decide)) (by decide +kernel) (rngI rfl (by first | exact q_35104ce9d3 h281 hl_l | omega) (by first | exact q_b14eb82b79 h281 h6 | omega)) h243 h244 (by decide +kernel) (fun σ282 h283 h284 h285 h286 => ?_)
      obtain ⟨S287, h288⟩ : ∃ q : PS, q = wst S274 (7) (Sp.2.2.2 7 + 1) := ⟨_, rfl⟩
      have h289 : ML By Nb σ282 S287 := by rw [h288]; exact (ML_wst (i := 7) (v := Sp.2.2.2 7 + 1) h276 h285 h286 (by omega) (fun z => by have j1 := Imp_m h278 z; exact ⟨by omega, by omega⟩))
      have h290 := ML_k h289 ((h286 _ _ (Or.inl (neTG tgz_159 tgz_165 (by decide)))).trans ((h246 _ _ (Or.inl (neTG tgz_159 tgz_165 (by decide)))).trans h228))
      have h291 : Imp (S287.1 = 0) (tK By Nb S287.2.2.1 = z253.toInt) := ML_t h289 ((h286 _ _ (Or.inl (neTG tgz_159 tgz_165 (by decide)))).trans h252)
      have h292 : S287.1 = S274.1 := by rw [h288]; rfl
      have h293 : ci σ282 165 6 = ci σ0 165 6 := by rw [ci_st h285 h286 (by omega) 6 (by omega), if_neg (by omega), ci_st h245 h246 (by omega) 6 (by omega), if_neg (by omega), ci_fr h223 tgz_165 (by decide +kernel) 6, ci_st h212 h213 (by omega) 6 (by omega), if_neg (by omega), ci_fr h190 tgz_165 (by decide +kernel) 6, ci_fr h174 tgz_165 (by decide +kernel) 6]
      have h295 : ci σ282 165 7 = z280.toInt := by rw [ci_st h285 h286 (by omega) 7 (by omega), if_pos rfl]
      have h294 : ci σ282 165 1 = z229.toInt := by rw [ci_st h285 h286 (by omega) 1 (by omega), if_neg (by omega), ci_st h245 h246 (by omega) 1 (by omega), if_pos rfl]
      have h296 := ci_at h_l (rfl : (7 : Int) = 7)
      exact En_ret (v := none) rfl rfl rfl ⟨h283, h284, z225, ((h286 _ _ (Or.inl (neTG tgz_159 tgz_165 (by decide)))).trans ((h246 _ _ (Or.inl (neTG tgz_159 tgz_165 (by decide)))).trans h226)), z253, ((h286 _ _ (Or.inl (neTG tgz_159 tgz_165 (by decide)))).trans h252), z227, ((h286 _ _ (Or.inl (neTG tgz_159 tgz_165 (by decide)))).trans ((h246 _ _ (Or.inl (neTG tgz_159 tgz_165 (by decide)))).trans h228)), z280, h285, rfl, ⟨by first | exact q_a3cfc6bb33 h224.2.2.2.2.1 h191.2.2.2.2.1 h175.2.2.1 hp0 hl_l | omega, by first | exact q_76190b61a3 h224.2.2.2.1 | omega, by first | exact q_06e02fd287 h175.2.2.1 h191.2.2.2.2.1 h224.2.2.2.2.1 | omega, by first | exact q_c803b490ef h254 | omega, by first | exact q_3919a0a4ce h255 | omega, by first | exact q_a555021d16 h224.2.2.2.2.2.1 | omega, by first | exact q_c733b715bf h224.2.2.2.2.2.2.1 | omega, by first | exact q_eeff886842 h281 hl_l | omega, by first | exact q_4f3726f57a h281 h6 | omega, by first | exact q_0f0670fdd6 h281 | omega, by first | exact q_9a409ce733 h281 | omega, by first | exact q_5ee31f9195 h175.2.2.1 h191.2.2.2.2.1 h224.2.2.2.2.1 | omega, fun _ => by have := Imp_m h175.2.2.2.2.2.2.2.1 (by omega); have := Imp_m h191.2.2.2.2.2.2.2.2.2.2.2.2.2.1 (by omega); have := Imp_m h224.2.2.2.2.2.2.2.2.2.2.2.2.2.1 (by omega); omega, by first | exact q_9a409ce733 h281 | omega, by first | exact q_0f0670fdd6 h281 | omega, ⟨fun k2 hk2 => ⟨h293.trans hI.1, fun hz => ⟨fun _ => by rw [h294]; omega, fun z7 => (by omega)⟩⟩, ML_eq h289 (by subst h288; subst h275; subst h248; subst h236; subst h233; subst h215; subst h203; subst h200; subst h183; unfold gLine fFirst gL1; dsimp only; first | done | rfl | ((repeat' split) <;> first | rfl | (exfalso; omega) | ((try have i0 := Imp_m h291 (by omega)); (try have i1 := Imp_m h278 (by omega)); (try have i2 := Imp_m h257 (by omega)); (try have i3 := Imp_m h239 (by omega)); (try have i4 := Imp_m h206 (by omega)); (try have i5 := Imp_m h175.2.2.2.2.2.2.2.1 (by omega)); (try have i6 := Imp_m h191.2.2.2.2.2.2.2.2.2.1 (by omega)); (try have i7 := Imp_m h191.2.2.2.2.2.2.2.2.2.2.2.2.1 (by omega)); (try have i8 := Imp_m h191.2.2.2.2.2.2.2.2.2.2.2.2.2.1 (by omega)); (try have i9 := Imp_m h224.2.2.2.2.2.2.2.2.2.1 (by omega)); (try have i10 := Imp_m h224.2.2.2.2.2.2.2.2.2.2.2.2.1 (by omega)); (try have i11 := Imp_m h224.2.2.2.2.2.2.2.2.2.2.2.2.2.1 (by omega)); exfalso; omega)))⟩⟩⟩
    · have h297 := Imp_m h175.2.2.2.2.2.2.2.1 (by omega)
      have h298 := Imp_m h191.2.2.2.2.2.2.2.2.2.2.2.2.2.1 (by omega)
      have h299 := Imp_m h224.2.2.2.2.2.2.2.2.2.2.2.2.2.1 (by omega)
      try have h300 := Imp_m h257 (by omega)
      try have h301 := Imp_m h239 (by omega)
      try have h302 := Imp_m h206 (by omega)
      refine En_Ps 1 (pc' := 59) (lv' := [(0, .ref 159)]) (st' := [.ref 159]) rfl ?_
      refine En_getK (j := 10) h252 rfl rfl rfl tgz_159 (by decide +kernel) ?_
      refine En_Ps 1 (pc' := 63) (lv' := [(0, .ref 159)]) (st' := [.int ((Int32.ofInt 3)), .int z253]) rfl ?_
      refine En_icEq _ rfl (by decide : (Int32.ofInt 3).toInt = 3) rfl (fun h303 => ?_) (fun h303 => ?_)
      · refine En_Ps 1 (pc' := 72) (lv' := [(0, .ref 159)]) (st' := [.ref 159]) rfl ?_
        refine En_callV rfl rfl rfl rfl rfl rfl rfl rfl tgz_159 (by decide +kernel) rfl (c_237 σ242 h243 z227 ((h246 _ _ (Or.inl (neTG tgz_159 tgz_165 (by decide)))).trans h228)) (by decide) (by decide) (fun v305 σ306 h304 => ?_)
        obtain ⟨h307, h308, z310, rfl, h309⟩ := h304
        obtain rfl : σ242 = σ306 := Fr_nil h308
        refine En_iEq _ rfl rfl (fun hx => by exfalso; omega) (fun h311 => ?_)
        try have h312 := Imp_m h257 (by omega)
        try have h313 := Imp_m h239 (by omega)
        try have h314 := Imp_m h206 (by omega)
        refine En_Ps 1 (pc' := 79) (lv' := [(0, .ref 159)]) (st' := [.ref 159]) rfl ?_
        refine En_callV rfl rfl rfl rfl rfl rfl rfl rfl tgz_159 (by decide +kernel) rfl (c_189x σ242 h243 z225 ((h246 _ _ (Or.inl (neTG tgz_159 tgz_165 (by decide)))).trans h226) h249.1 (ML_at h249 (by omega) ((h246 _ _ (Or.inl (neTG tgz_159 tgz_165 (by decide)))).trans h226))) (by decide) (by decide) (fun v316 σ317 h315 => ?_)
        obtain ⟨h318, h319, z321, h322, z323, h324, rfl, h320⟩ := h315
        have h325 := h320.2.2.2.2.2.2.2
        have h326 := Fr_trans h244 h319 (by decide +kernel)
        obtain ⟨S327, h328⟩ : ∃ q : PS, q = adv By Nb S247 := ⟨_, rfl⟩
        have h329 : ML By Nb σ317 S327 := by rw [h328]; exact (ML_adv h249 (by omega) ((h246 _ _ (Or.inl (neTG tgz_159 tgz_165 (by decide)))).trans h226) h319 (by decide +kernel) h325.2)
        have h330 := ML_k h329 ((h319 _ _ (inW tgz_159 (by decide +kernel))).trans ((h246 _ _ (Or.inl (neTG tgz_159 tgz_165 (by decide)))).trans h228))
        have h331 : Imp (S327.1 = 0) (tK By Nb S327.2.2.1 = z323.toInt) := ML_t h329 h324
        have h332 : S327.2.2.2 = S247.2.2.2 := by rw [h328]; exact adv_w
        refine En_Ps 1 (pc' := 83) (lv' := [(0, .ref 159)]) (st' := [.ref 159]) rfl ?_
        refine En_getK (j := 14) ((h319 _ _ (inW tgz_159 (by decide +kernel))).trans ((h246 _ _ (Or.inl (neTG tgz_159 tgz_165 (by decide)))).trans ((h223 _ _ (inW tgz_159 (by decide +kernel))).trans ((h213 _ _ (Or.inl (neTG tgz_159 tgz_165 (by decide)))).trans ((h190 _ _ (inW tgz_159 (by decide +kernel))).trans ((h174 _ _ (inW tgz_159 (by decide +kernel))).trans h3)))))) rfl rfl rfl tgz_159 (by decide +kernel) ?_
        refine En_Ps 2 (pc' := 89) (lv' := [(0, .ref 159)]) (st' := [.int (((Int8.ofInt 7).toInt32)), .ref 165, .int (((Int8.ofInt 7).toInt32)), .ref 165]) rfl ?_
        refine En_ialdK ((h319 _ _ (inWa tgz_165 (by decide +kernel))).trans ((h246 _ _ (Or.inr (by omega))).trans ((h223 _ _ (inWa tgz_165 (by decide +kernel))).trans ((h213 _ _ (Or.inr (by omega))).trans ((h190 _ _ (inWa tgz_165 (by decide +kernel))).trans ((h174 _ _ (inWa tgz_165 (by decide +kernel))).trans h_l)))))) rfl (by decide : ((Int8.ofInt 7).toInt32).toInt = 7) tgz_165 (by decide +kernel) h318 (by decide) (lnI (by decide +kernel : LN _ = 226) (by decide)) ?_
        refine En_Ps 2 (pc' := 92) (lv' := [(0, .ref 159)]) (st' := [.int ((l + ((Int32.ofInt 1)))), .int (((Int8.ofInt 7).toInt32)), .ref 165]) rfl ?_
        refine En_top (addI rfl (by decide : (Int32.ofInt 1).toInt = 1) (by first | exact q_465ab79ac1 hl_l | omega) (by first | exact q_12b1326583 h6 | omega)) (fun z334 h335 => ?_)
        refine En_iast (l := 0) (u := 1600) rfl (by decide : ((Int8.ofInt 7).toInt32).toInt = 7) tgz_165 (by decide +kernel) (by decide) (lnI (by decide +kernel : LN _ = 226) (by decide)) (by decide +kernel) (rngI rfl (by first | exact q_35104ce9d3 h335 hl_l | omega) (by first | exact q_b14eb82b79 h335 h6 | omega)) h318 h326 (by decide +kernel) (fun σ336 h337 h338 h339 h340 => ?_)
        obtain ⟨S341, h342⟩ : ∃ q : PS, q = wst S327 (7) (Sp.2.2.2 7 + 1) := ⟨_, rfl⟩
        have h343 : ML By Nb σ336 S341 := by rw [h342]; exact (ML_wst (i := 7) (v := Sp.2.2.2 7 + 1) h329 h339 h340 (by omega) (fun z => by have j1 := Imp_m h331 z; exact ⟨by omega, by omega⟩))
        have h344 := ML_k h343 ((h340 _ _ (Or.inl (neTG tgz_159 tgz_165 (by decide)))).trans ((h319 _ _ (inW tgz_159 (by decide +kernel))).trans ((h246 _ _ (Or.inl (neTG tgz_159 tgz_165 (by decide)))).trans h228)))
        have h345 : Imp (S341.1 = 0) (tK By Nb S341.2.2.1 = z323.toInt) := ML_t h343 ((h340 _ _ (Or.inl (neTG tgz_159 tgz_165 (by decide)))).trans h324)
        have h346 : S341.1 = S327.1 := by rw [h342]; rfl
        have h347 : ci σ336 165 6 = ci σ0 165 6 := by rw [ci_st h339 h340 (by omega) 6 (by omega), if_neg (by omega), ci_fr h319 tgz_165 (by decide +kernel) 6, ci_st h245 h246 (by omega) 6 (by omega), if_neg (by omega), ci_fr h223 tgz_165 (by decide +kernel) 6, ci_st h212 h213 (by omega) 6 (by omega), if_neg (by omega), ci_fr h190 tgz_165 (by decide +kernel) 6, ci_fr h174 tgz_165 (by decide +kernel) 6]
        have h349 : ci σ336 165 7 = z334.toInt := by rw [ci_st h339 h340 (by omega) 7 (by omega), if_pos rfl]
        have h348 : ci σ336 165 1 = z229.toInt := by rw [ci_st h339 h340 (by omega) 1 (by omega), if_neg (by omega), ci_fr h319 tgz_165 (by decide +kernel) 1, ci_st h245 h246 (by omega) 1 (by omega), if_pos rfl]
        have h350 := ci_at h_l (rfl : (7 : Int) = 7)
        exact En_ret (v := none) rfl rfl rfl ⟨h337, h338, z321, ((h340 _ _ (Or.inl (neTG tgz_159 tgz_165 (by decide)))).trans h322), z323, ((h340 _ _ (Or.inl (neTG tgz_159 tgz_165 (by decide)))).trans h324), z227, ((h340 _ _ (Or.inl (neTG tgz_159 tgz_165 (by decide)))).trans ((h319 _ _ (inW tgz_159 (by decide +kernel))).trans ((h246 _ _ (Or.inl (neTG tgz_159 tgz_165 (by decide)))).trans h228))), z334, h339, rfl, ⟨by first | exact q_dbf9be8f58 h320.2.2.1 h224.2.2.2.2.1 h191.2.2.2.2.1 h175.2.2.1 hp0 hl_l | omega, by first | exact q_76190b61a3 h320.2.1 | omega, by first | exact q_d4bac2ac81 h175.2.2.1 h191.2.2.2.2.1 h224.2.2.2.2.1 h320.2.2.1 | omega, by first | exact q_a555021d16 h320.2.2.2.1 | omega, by first | exact q_05cffb065e h320.2.2.2.2.1 | omega, by first | exact q_a555021d16 h224.2.2.2.2.2.1 | omega, by first | exact q_c733b715bf h224.2.2.2.2.2.2.1 | omega, by first | exact q_eeff886842 h335 hl_l | omega, by first | exact q_4f3726f57a h335 h6 | omega, by first | exact q_0f0670fdd6 h335 | omega, by first | exact q_9a409ce733 h335 | omega, by first | exact q_e22842ad2a h175.2.2.1 h191.2.2.2.2.1 h224.2.2.2.2.1 h320.2.2.1 | omega, fun _ => by have := Imp_m h320.2.2.2.2.2.2.1 (by omega); omega, by first | exact q_9a409ce733 h335 | omega, by first | exact q_0f0670fdd6 h335 | omega, ⟨fun k2 hk2 => ⟨h347.trans hI.1, fun hz => ⟨fun _ => by rw [h348]; omega, fun z7 => (by omega)⟩⟩, ML_eq h343 (by subst h342; subst h328; subst h248; subst h236; subst h233; subst h215; subst h203; subst h200; subst h183; unfold gLine fFirst gL1; dsimp only; first | done | rfl | ((repeat' split) <;> first | rfl | (exfalso; omega) | ((try have i0 := Imp_m h345 (by omega)); (try have i1 := Imp_m h331 (by omega)); (try have i2 := Imp_m h257 (by omega)); (try have i3 := Imp_m h239 (by omega)); (try have i4 := Imp_m h206 (by omega)); (try have i5 := Imp_m h191.2.2.2.2.2.2.2.2.2.1 (by omega)); (try have i6 := Imp_m h191.2.2.2.2.2.2.2.2.2.2.2.2.1 (by omega)); (try have i7 := Imp_m h224.2.2.2.2.2.2.2.2.2.1 (by omega)); (try have i8 := Imp_m h224.2.2.2.2.2.2.2.2.2.2.2.2.1 (by omega)); (try have i9 := Imp_m h320.2.2.2.2.2.2.1 (by omega)); exfalso; omega)))⟩⟩⟩
      · refine En_Ps 2 (pc' := 68) (lv' := [(0, .ref 159)]) (st' := [.int ((Int32.ofInt 1)), .ref 159]) rfl ?_
        have := (by decide : ((Int32.ofInt 1)).toInt = 1)
        refine En_callV rfl rfl rfl rfl rfl rfl rfl rfl tgz_159 (by decide +kernel) rfl (c_223x σ242 h243 ((Int32.ofInt 1)) (geI (by decide : (Int32.ofInt 1).toInt = 1) (by decide)) (leI (by decide : (Int32.ofInt 1).toInt = 1) (by decide)) z227 ((h246 _ _ (Or.inl (neTG tgz_159 tgz_165 (by decide)))).trans h228) h249) (by decide) (by decide) (fun v352 σ353 h351 => ?_)
        obtain ⟨h354, h355, z357, h358, rfl, h356⟩ := h351
        have h359 := h356.2.2.2.2
        have h360 := Fr_trans h244 h355 (by decide +kernel)
        obtain ⟨S361, h362⟩ : ∃ q : PS, q = err By Nb 1 S247 := ⟨_, rfl⟩
        have h363 : ML By Nb σ353 S361 := by rw [h362]; exact (ML_eq h359 (err_cg (by omega)))
        have h364 := ML_k h363 h358
        have h365 : Imp (S361.1 = 0) (tK By Nb S361.2.2.1 = z253.toInt) := ML_t h363 ((h355 _ _ (inW tgz_159 (by decide +kernel))).trans h252)
        have h366 : S361.2.2.2 = S247.2.2.2 := by rw [h362]; exact err_w
        refine En_Ps 1 (pc' := 72) (lv' := [(0, .ref 159)]) (st' := [.ref 159]) rfl ?_
        refine En_callV rfl rfl rfl rfl rfl rfl rfl rfl tgz_159 (by decide +kernel) rfl (c_237 σ353 h354 z357 h358) (by decide) (by decide) (fun v368 σ369 h367 => ?_)
        obtain ⟨h370, h371, z373, rfl, h372⟩ := h367
        obtain rfl : σ353 = σ369 := Fr_nil h371
        refine En_iEq _ rfl rfl (fun h374 => ?_) (fun hx => by exfalso; omega)
        obtain ⟨S375, h376⟩ : ∃ q : PS, q = adv By Nb S361 := ⟨_, rfl⟩
        have h377 : ML By Nb σ353 S375 := by rw [h376]; exact (ML_eq h363 (adv_bad (by omega)).symm)
        have h378 := ML_k h377 h358
        have h379 : Imp (S375.1 = 0) (tK By Nb S375.2.2.1 = z253.toInt) := ML_t h377 ((h355 _ _ (inW tgz_159 (by decide +kernel))).trans h252)
        refine En_Ps 1 (pc' := 83) (lv' := [(0, .ref 159)]) (st' := [.ref 159]) rfl ?_
        refine En_getK (j := 14) ((h355 _ _ (inW tgz_159 (by decide +kernel))).trans ((h246 _ _ (Or.inl (neTG tgz_159 tgz_165 (by decide)))).trans ((h223 _ _ (inW tgz_159 (by decide +kernel))).trans ((h213 _ _ (Or.inl (neTG tgz_159 tgz_165 (by decide)))).trans ((h190 _ _ (inW tgz_159 (by decide +kernel))).trans ((h174 _ _ (inW tgz_159 (by decide +kernel))).trans h3)))))) rfl rfl rfl tgz_159 (by decide +kernel) ?_
        refine En_Ps 2 (pc' := 89) (lv' := [(0, .ref 159)]) (st' := [.int (((Int8.ofInt 7).toInt32)), .ref 165, .int (((Int8.ofInt 7).toInt32)), .ref 165]) rfl ?_
        refine En_ialdK ((h355 _ _ (inWa tgz_165 (by decide +kernel))).trans ((h246 _ _ (Or.inr (by omega))).trans ((h223 _ _ (inWa tgz_165 (by decide +kernel))).trans ((h213 _ _ (Or.inr (by omega))).trans ((h190 _ _ (inWa tgz_165 (by decide +kernel))).trans ((h174 _ _ (inWa tgz_165 (by decide +kernel))).trans h_l)))))) rfl (by decide : ((Int8.ofInt 7).toInt32).toInt = 7) tgz_165 (by decide +kernel) h354 (by decide) (lnI (by decide +kernel : LN _ = 226) (by decide)) ?_
        refine En_Ps 2 (pc' := 92) (lv' := [(0, .ref 159)]) (st' := [.int ((l + ((Int32.ofInt 1)))), .int (((Int8.ofInt 7).toInt32)), .ref 165]) rfl ?_
        refine En_top (addI rfl (by decide : (Int32.ofInt 1).toInt = 1) (by first | exact q_465ab79ac1 hl_l | omega) (by first | exact q_12b1326583 h6 | omega)) (fun z381 h382 => ?_)
        refine En_iast (l := 0) (u := 1600) rfl (by decide : ((Int8.ofInt 7).toInt32).toInt = 7) tgz_165 (by decide +kernel) (by decide) (lnI (by decide +kernel : LN _ = 226) (by decide)) (by decide +kernel) (rngI rfl (by first | exact q_35104ce9d3 h382 hl_l | omega) (by first | exact q_b14eb82b79 h382 h6 | omega)) h354 h360 (by decide +kernel) (fun σ383 h384 h385 h386 h387 => ?_)
        obtain ⟨S388, h389⟩ : ∃ q : PS, q = wst S375 (7) (Sp.2.2.2 7 + 1) := ⟨_, rfl⟩
        have h390 : ML By Nb σ383 S388 := by rw [h389]; exact (ML_wst (i := 7) (v := Sp.2.2.2 7 + 1) h377 h386 h387 (by omega) (fun z => by have j1 := Imp_m h379 z; exact ⟨by omega, by omega⟩))
        have h391 := ML_k h390 ((h387 _ _ (Or.inl (neTG tgz_159 tgz_165 (by decide)))).trans h358)
        have h392 : Imp (S388.1 = 0) (tK By Nb S388.2.2.1 = z253.toInt) := ML_t h390 ((h387 _ _ (Or.inl (neTG tgz_159 tgz_165 (by decide)))).trans ((h355 _ _ (inW tgz_159 (by decide +kernel))).trans h252))
        have h393 : S388.1 = S375.1 := by rw [h389]; rfl
        have h394 : ci σ383 165 6 = ci σ0 165 6 := by rw [ci_st h386 h387 (by omega) 6 (by omega), if_neg (by omega), ci_fr h355 tgz_165 (by decide +kernel) 6, ci_st h245 h246 (by omega) 6 (by omega), if_neg (by omega), ci_fr h223 tgz_165 (by decide +kernel) 6, ci_st h212 h213 (by omega) 6 (by omega), if_neg (by omega), ci_fr h190 tgz_165 (by decide +kernel) 6, ci_fr h174 tgz_165 (by decide +kernel) 6]
        have h396 : ci σ383 165 7 = z381.toInt := by rw [ci_st h386 h387 (by omega) 7 (by omega), if_pos rfl]
        have h395 : ci σ383 165 1 = z229.toInt := by rw [ci_st h386 h387 (by omega) 1 (by omega), if_neg (by omega), ci_fr h355 tgz_165 (by decide +kernel) 1, ci_st h245 h246 (by omega) 1 (by omega), if_pos rfl]
        have h397 := ci_at h_l (rfl : (7 : Int) = 7)
        exact En_ret (v := none) rfl rfl rfl ⟨h384, h385, z225, ((h387 _ _ (Or.inl (neTG tgz_159 tgz_165 (by decide)))).trans ((h355 _ _ (inW tgz_159 (by decide +kernel))).trans ((h246 _ _ (Or.inl (neTG tgz_159 tgz_165 (by decide)))).trans h226))), z253, ((h387 _ _ (Or.inl (neTG tgz_159 tgz_165 (by decide)))).trans ((h355 _ _ (inW tgz_159 (by decide +kernel))).trans h252)), z357, ((h387 _ _ (Or.inl (neTG tgz_159 tgz_165 (by decide)))).trans h358), z381, h386, rfl, ⟨by first | exact q_a3cfc6bb33 h224.2.2.2.2.1 h191.2.2.2.2.1 h175.2.2.1 hp0 hl_l | omega, by first | exact q_76190b61a3 h224.2.2.2.1 | omega, by first | exact q_06e02fd287 h175.2.2.1 h191.2.2.2.2.1 h224.2.2.2.2.1 | omega, by first | exact q_c803b490ef h254 | omega, by first | exact q_3919a0a4ce h255 | omega, by first | exact q_1a6ee862c1 h356.1 | omega, by first | exact q_c733b715bf h356.2.1 | omega, by first | exact q_eeff886842 h382 hl_l | omega, by first | exact q_4f3726f57a h382 h6 | omega, by first | exact q_0f0670fdd6 h382 | omega, by first | exact q_9a409ce733 h382 | omega, by first | exact q_5ee31f9195 h175.2.2.1 h191.2.2.2.2.1 h224.2.2.2.2.1 | omega, fun _ => by omega, by first | exact q_9a409ce733 h382 | omega, by first | exact q_0f0670fdd6 h382 | omega, ⟨fun k2 hk2 => ⟨h394.trans hI.1, fun hz => ⟨fun _ => by rw [h395]; omega, fun z7 => (by omega)⟩⟩, ML_eq h390 (by subst h389; subst h376; subst h362; subst h248; subst h236; subst h233; subst h215; subst h203; subst h200; subst h183; unfold gLine fFirst gL1; dsimp only; first | done | rfl | ((repeat' split) <;> first | rfl | (exfalso; omega) | ((try have i0 := Imp_m h392 (by omega)); (try have i1 := Imp_m h379 (by omega)); (try have i2 := Imp_m h365 (by omega)); (try have i3 := Imp_m h257 (by omega)); (try have i4 := Imp_m h239 (by omega)); (try have i5 := Imp_m h206 (by omega)); (try have i6 := Imp_m h191.2.2.2.2.2.2.2.2.2.1 (by omega)); (try have i7 := Imp_m h191.2.2.2.2.2.2.2.2.2.2.2.2.1 (by omega)); (try have i8 := Imp_m h224.2.2.2.2.2.2.2.2.2.1 (by omega)); (try have i9 := Imp_m h224.2.2.2.2.2.2.2.2.2.2.2.2.1 (by omega)); exfalso; omega)))⟩⟩⟩
/-- DoorSchoolModel.row(III)I -/
abbrev P_308x (σ0 : SG) (a : Int32) (b : Int32) (c : Int32) : PO := fun v σ => WT σ ∧ Fr [(53, 0), (54, 0), (55, 0)] σ0 σ ∧ ∃ ret : Int32, v = some (.int ret) ∧ -ret.toInt - 3 ≤ 0 ∧ ret.toInt ≤ 0 ∧ Imp (-a.toInt ≤ 0 ∧ a.toInt - 3 ≤ 0 ∧ -b.toInt ≤ 0 ∧ b.toInt - 3 ≤ 0 ∧ c.toInt - 60 ≤ 0 ∧ -c.toInt ≤ 0) (ret.toInt ≤ 0 ∧ -ret.toInt ≤ 0) ∧ Imp (-a.toInt ≤ 0 ∧ a.toInt - 3 ≤ 0 ∧ -b.toInt ≤ 0 ∧ b.toInt - 3 ≤ 0 ∧ c.toInt - 60 ≤ 0 ∧ c.toInt + 1 ≤ 0) (ret.toInt + 3 ≤ 0 ∧ -ret.toInt - 3 ≤ 0) ∧ Imp (a.toInt + 1 ≤ 0) (ret.toInt + 2 ≤ 0 ∧ -ret.toInt - 2 ≤ 0) ∧ Imp (-a.toInt + 4 ≤ 0) (ret.toInt + 2 ≤ 0 ∧ -ret.toInt - 2 ≤ 0) ∧ Imp (b.toInt + 1 ≤ 0) (ret.toInt + 2 ≤ 0 ∧ -ret.toInt - 2 ≤ 0) ∧ Imp (-b.toInt + 4 ≤ 0) (ret.toInt + 2 ≤ 0 ∧ -ret.toInt - 2 ≤ 0) ∧ Imp (-c.toInt + 61 ≤ 0) (ret.toInt + 2 ≤ 0 ∧ -ret.toInt - 2 ≤ 0)
set_option maxRecDepth 10000 in
set_option maxHeartbeats 4000000 in
theorem c_308x (σ0 : SG) (hσ0 : WT σ0) (a : Int32) (b : Int32) (c : Int32) : En 2 45 none mr_308 (P_308x σ0 a b c) 0 [(0, .ref 159), (1, .int a), (2, .int b), (3, .int c)] [] σ0 := by
  have hF0 : Fr [(53, 0), (54, 0), (55, 0)] σ0 σ0 := Fr_rfl
  refine En_Ps 1 (pc' := 1) (lv' := [(0, .ref 159), (1, .int a), (2, .int b), (3, .int c)]) (st' := [.int a]) rfl ?_
  refine En_callS rfl rfl rfl rfl rfl rfl rfl rfl rfl (c_266 σ0 hσ0 a) (by decide) (by decide) (fun v2 σ3 h1 => ?_)
  obtain ⟨h4, h5, z7, rfl, h6⟩ := h1
  have h8 := Fr_trans hF0 h5 (by decide +kernel)
  refine En_iEq _ rfl rfl (fun h9 => ?_) (fun h9 => ?_)
  · refine En_Ps 1 (pc' := 27) (lv' := [(0, .ref 159), (1, .int a), (2, .int b), (3, .int c)]) (st' := [.int (((Int8.ofInt (-2)).toInt32))]) rfl ?_
    refine En_top (by decide : ((Int8.ofInt (-2)).toInt32).toInt = -2) (fun z10 h11 => ?_)
    exact En_ret (v := some (.int z10)) rfl rfl rfl ⟨h4, h8, z10, rfl, ⟨by first | exact q_65b477db59 h11 | omega, by first | exact q_bbb39ffa1e h11 | omega, fun _ => by omega, fun _ => by omega, fun hh => by first | exact ⟨q_535bc65891 h11, q_f35c5d346c h11⟩ | omega, fun hh => by first | exact ⟨q_535bc65891 h11, q_f35c5d346c h11⟩ | omega, fun hh => by first | exact ⟨q_535bc65891 h11, q_f35c5d346c h11⟩ | omega, fun hh => by first | exact ⟨q_535bc65891 h11, q_f35c5d346c h11⟩ | omega, fun hh => by first | exact ⟨q_535bc65891 h11, q_f35c5d346c h11⟩ | omega⟩⟩
  · refine En_Ps 4 (pc' := 13) (lv' := [(0, .ref 159), (1, .int a), (2, .int b), (3, .int c)]) (st' := [.long ((3 : Int64)), .long ((Int64.ofNat 0)), .long b.toInt64]) rfl ?_
    have : b.toInt64.toInt = b.toInt := (i2lI rfl)
    have := (by decide : ((Int64.ofNat 0)).toInt = 0)
    have := (by decide : ((3 : Int64)).toInt = 3)
    refine En_callS rfl rfl rfl rfl rfl rfl rfl rfl rfl (c_249 σ3 h4 b.toInt64 ((Int64.ofNat 0)) ((3 : Int64))) (by decide) (by decide) (fun v13 σ14 h12 => ?_)
    obtain ⟨h15, h16, z18, rfl, h17⟩ := h12
    have h19 := Fr_trans h8 h16 (by decide +kernel)
    refine En_iEq _ rfl rfl (fun h20 => ?_) (fun h20 => ?_)
    · refine En_Ps 1 (pc' := 27) (lv' := [(0, .ref 159), (1, .int a), (2, .int b), (3, .int c)]) (st' := [.int (((Int8.ofInt (-2)).toInt32))]) rfl ?_
      refine En_top (by decide : ((Int8.ofInt (-2)).toInt32).toInt = -2) (fun z21 h22 => ?_)
      exact En_ret (v := some (.int z21)) rfl rfl rfl ⟨h15, h19, z21, rfl, ⟨by first | exact q_65b477db59 h22 | omega, by first | exact q_bbb39ffa1e h22 | omega, fun _ => by omega, fun _ => by omega, fun hh => by first | exact ⟨q_535bc65891 h22, q_f35c5d346c h22⟩ | omega, fun hh => by first | exact ⟨q_535bc65891 h22, q_f35c5d346c h22⟩ | omega, fun hh => by first | exact ⟨q_535bc65891 h22, q_f35c5d346c h22⟩ | omega, fun hh => by first | exact ⟨q_535bc65891 h22, q_f35c5d346c h22⟩ | omega, fun hh => by first | exact ⟨q_535bc65891 h22, q_f35c5d346c h22⟩ | omega⟩⟩
    · refine En_Ps 2 (pc' := 22) (lv' := [(0, .ref 159), (1, .int a), (2, .int b), (3, .int c)]) (st' := [.int (((Int8.ofInt 60).toInt32)), .int c]) rfl ?_
      refine En_icLe _ rfl (by decide : ((Int8.ofInt 60).toInt32).toInt = 60) rfl (fun h23 => ?_) (fun h23 => ?_)
      · refine En_Ps 1 (pc' := 29) (lv' := [(0, .ref 159), (1, .int a), (2, .int b), (3, .int c)]) (st' := [.int c]) rfl ?_
        refine En_iGe _ rfl rfl (fun h24 => ?_) (fun h24 => ?_)
        · refine En_Ps 1 (pc' := 36) (lv' := [(0, .ref 159), (1, .int a), (2, .int b), (3, .int c)]) (st' := [.ref 159]) rfl ?_
          refine En_getU (j := 32) (u := 177) (g' := 53) (q := 0) rfl rfl rfl tgz_159 (by decide +kernel) h15 (by decide +kernel) (by decide +kernel) (fun h25 => ?_)
          refine En_Ps 2 (pc' := 41) (lv' := [(0, .ref 159), (1, .int a), (2, .int b), (3, .int c)]) (st' := [.int c, .int a, .ref 177]) rfl ?_
          refine En_iast (l := (-1)) (u := 60) rfl rfl tgz_177 (by decide +kernel) (by omega) (lnI (by decide +kernel : LN _ = 4) (by omega)) (FTsgl (by decide +kernel)) (rngI rfl (by first | exact q_5b439548fc h24 | omega) (by first | exact q_d3912a5755 h23 | omega)) h15 h19 (by decide +kernel) (fun σ27 h28 h29 h30 h31 => ?_)
          refine En_Ps 1 (pc' := 43) (lv' := [(0, .ref 159), (1, .int a), (2, .int b), (3, .int c)]) (st' := [.ref 159]) rfl ?_
          refine En_getU (j := 33) (u := 178) (g' := 54) (q := 0) rfl rfl rfl tgz_159 (by decide +kernel) h28 (by decide +kernel) (by decide +kernel) (fun h32 => ?_)
          refine En_Ps 2 (pc' := 48) (lv' := [(0, .ref 159), (1, .int a), (2, .int b), (3, .int c)]) (st' := [.int b, .int a, .ref 178]) rfl ?_
          refine En_iast (l := 0) (u := 3) rfl rfl tgz_178 (by decide +kernel) (by omega) (lnI (by decide +kernel : LN _ = 4) (by omega)) (FTsgl (by decide +kernel)) (rngI rfl (by omega) (by omega)) h28 h29 (by decide +kernel) (fun σ34 h35 h36 h37 h38 => ?_)
          refine En_Ps 2 (pc' := 52) (lv' := [(4, .int ((Int32.ofInt 0))), (0, .ref 159), (1, .int a), (2, .int b), (3, .int c)]) (st' := []) rfl ?_
          have key52 : ∀ (n52 : Nat) (σ40 : SG) (y39 : Int32), WT σ40 → Fr [(53, 0), (54, 0), (55, 0)] σ0 σ40 → (σ40 159)[32]? = some (.ref 177) → (σ40 159)[33]? = some (.ref 178) → 0 ≤ y39.toInt → y39.toInt ≤ 60 → -y39.toInt + 60 < (n52 : Int) → En 2 45 none mr_308 (P_308x σ0 a b c) 52 [(0, .ref 159), (1, .int a), (2, .int b), (3, .int c), (4, .int y39)] [] σ40 := by
            intro n52
            induction n52 with
            | zero =>
              intro σ40 y39 h41 h42 h43 h44 h45 h46 h47
              first | exact (q_98ae87e5bf h47 h46).elim | (exfalso; omega)
            | succ n52 ih52 =>
              intro σ40 y39 h41 h42 h43 h44 h45 h46 h47
              refine En_Ps 2 (pc' := 56) (lv' := [(0, .ref 159), (1, .int a), (2, .int b), (3, .int c), (4, .int y39)]) (st' := [.int (((Int8.ofInt 60).toInt32)), .int y39]) rfl ?_
              refine En_icGe _ rfl (by decide : ((Int8.ofInt 60).toInt32).toInt = 60) rfl (fun h48 => ?_) (fun h48 => ?_)
              · refine En_Ps 1 (pc' := 79) (lv' := [(0, .ref 159), (1, .int a), (2, .int b), (3, .int c), (4, .int y39)]) (st' := [.int ((Int32.ofInt 0))]) rfl ?_
                refine En_top (by decide : (Int32.ofInt 0).toInt = 0) (fun z49 h50 => ?_)
                exact En_ret (v := some (.int z49)) rfl rfl rfl ⟨h41, h42, z49, rfl, ⟨by first | exact q_fe9485f41f h50 | omega, by first | exact q_c5d285f1b9 h50 | omega, fun hh => by first | exact ⟨q_c5d285f1b9 h50, q_097a37c2ae h50⟩ | omega, fun _ => by omega, fun _ => by omega, fun _ => by omega, fun _ => by omega, fun _ => by omega, fun _ => by omega⟩⟩
              · refine En_Ps 1 (pc' := 60) (lv' := [(0, .ref 159), (1, .int a), (2, .int b), (3, .int c), (4, .int y39)]) (st' := [.ref 159]) rfl ?_
                refine En_getU (j := 34) (u := 179) (g' := 55) (q := 0) rfl rfl rfl tgz_159 (by decide +kernel) h41 (by decide +kernel) (by decide +kernel) (fun h51 => ?_)
                refine En_Ps 3 (pc' := 67) (lv' := [(0, .ref 159), (1, .int a), (2, .int b), (3, .int c), (4, .int y39)]) (st' := [.int (((((Int8.ofInt 60).toInt32)) * a)), .ref 179]) rfl ?_
                refine En_top (mulI (by decide : ((Int8.ofInt 60).toInt32).toInt = 60) rfl (Z := 60 * a.toInt) (by first | exact q_7a16b37b72 | omega) (by omega) (by omega)) (fun z53 h54 => ?_)
                refine En_Ps 2 (pc' := 70) (lv' := [(0, .ref 159), (1, .int a), (2, .int b), (3, .int c), (4, .int y39)]) (st' := [.int ((z53 + y39)), .ref 179]) rfl ?_
                refine En_top (addI rfl rfl (by omega) (by omega)) (fun z55 h56 => ?_)
                refine En_Ps 1 (pc' := 71) (lv' := [(0, .ref 159), (1, .int a), (2, .int b), (3, .int c), (4, .int y39)]) (st' := [.long ((Int64.ofNat 0)), .int z55, .ref 179]) rfl ?_
                refine En_last (l := (-9223372036854775808)) (u := 9223372036854775807) rfl rfl tgz_179 (by decide +kernel) (by omega) (lnI (by decide +kernel : LN _ = 240) (by omega)) (FTsgl (by decide +kernel)) (fullL _) h41 h42 (by decide +kernel) (fun σ57 h58 h59 h60 h61 => ?_)
                refine En_Ps 1 (pc' := 75) (lv' := [(4, .int ((y39 + Int32.ofInt 1))), (0, .ref 159), (1, .int a), (2, .int b), (3, .int c)]) (st' := []) rfl ?_
                refine En_lv1 (addI rfl (by decide : (Int32.ofInt 1).toInt = 1) (by first | exact q_465ab79ac1 h45 | omega) (by first | exact q_5aee3ad0d6 h48 | omega)) (fun z62 h63 => ?_)
                refine En_Ps 1 (pc' := 52) (lv' := [(4, .int z62), (0, .ref 159), (1, .int a), (2, .int b), (3, .int c)]) (st' := []) rfl ?_
                refine En_lv (lv := [(0, .ref 159), (1, .int a), (2, .int b), (3, .int c), (4, .int z62)]) ⟨rfl, rfl, rfl, rfl, rfl, trivial⟩ ?_
                exact ih52 σ57 z62 h58 h59 ((h61 _ _ (Or.inl (neTG tgz_159 tgz_179 (by decide)))).trans h43) ((h61 _ _ (Or.inl (neTG tgz_159 tgz_179 (by decide)))).trans h44) (by first | exact q_35104ce9d3 h63 h45 | omega) (by first | exact q_7e37767ea5 h63 h48 | omega) (by first | exact q_45947d8f83 h63 h47 | omega)
          have := (by decide : (Int32.ofInt 0).toInt = 0)
          refine En_lv (lv := [(0, .ref 159), (1, .int a), (2, .int b), (3, .int c), (4, .int ((Int32.ofInt 0)))]) ⟨rfl, rfl, rfl, rfl, rfl, trivial⟩ ?_
          exact key52 (Int.toNat (60) + 1) σ34 ((Int32.ofInt 0)) h35 h36 ((h38 _ _ (Or.inl (neTG tgz_159 tgz_178 (by decide)))).trans ((h31 _ _ (Or.inl (neTG tgz_159 tgz_177 (by decide)))).trans h25)) ((h38 _ _ (Or.inl (neTG tgz_159 tgz_178 (by decide)))).trans h32) (by decide) (by decide) (by first | exact toN_lt _ | omega)
        · refine En_Ps 1 (pc' := 34) (lv' := [(0, .ref 159), (1, .int a), (2, .int b), (3, .int c)]) (st' := [.int (((Int8.ofInt (-3)).toInt32))]) rfl ?_
          refine En_top (by decide : ((Int8.ofInt (-3)).toInt32).toInt = -3) (fun z64 h65 => ?_)
          exact En_ret (v := some (.int z64)) rfl rfl rfl ⟨h15, h19, z64, rfl, ⟨by first | exact q_3ed35d91e6 h65 | omega, by first | exact q_16f03d2a2f h65 | omega, fun _ => by omega, fun hh => by first | exact ⟨q_3a751255ef h65, q_3ed35d91e6 h65⟩ | omega, fun _ => by omega, fun _ => by omega, fun _ => by omega, fun _ => by omega, fun _ => by omega⟩⟩
      · refine En_Ps 1 (pc' := 27) (lv' := [(0, .ref 159), (1, .int a), (2, .int b), (3, .int c)]) (st' := [.int (((Int8.ofInt (-2)).toInt32))]) rfl ?_
        refine En_top (by decide : ((Int8.ofInt (-2)).toInt32).toInt = -2) (fun z66 h67 => ?_)
        exact En_ret (v := some (.int z66)) rfl rfl rfl ⟨h15, h19, z66, rfl, ⟨by first | exact q_65b477db59 h67 | omega, by first | exact q_bbb39ffa1e h67 | omega, fun _ => by omega, fun _ => by omega, fun hh => by first | exact ⟨q_535bc65891 h67, q_f35c5d346c h67⟩ | omega, fun hh => by first | exact ⟨q_535bc65891 h67, q_f35c5d346c h67⟩ | omega, fun hh => by first | exact ⟨q_535bc65891 h67, q_f35c5d346c h67⟩ | omega, fun hh => by first | exact ⟨q_535bc65891 h67, q_f35c5d346c h67⟩ | omega, fun hh => by first | exact ⟨q_535bc65891 h67, q_f35c5d346c h67⟩ | omega⟩⟩
/-- DoorSchoolModel.school()I -/
abbrev P_312x (σ0 : SG) (By : Int → Int) (Nb : Int) : PO := fun v σ => WT σ ∧ Fr [(35, 5), (35, 7), (35, 8), (35, 9), (35, 10), (35, 11), (35, 12), (35, 13), (36, 0), (41, 0)] σ0 σ ∧ ∃ m1 : Int32, (σ 159)[5]? = some (.int m1) ∧ ∃ ret : Int32, v = some (.int ret) ∧ -ret.toInt - 4 ≤ 0 ∧ ret.toInt - 1600 ≤ 0 ∧ -m1.toInt ≤ 0 ∧ m1.toInt ≤ 0 ∧ m1.toInt ≤ 0 ∧ -m1.toInt ≤ 0 ∧ ((WI σ ∧ MSC By Nb σ0 σ ret.toInt) ∧ ((fRead By Nb 1601 S00).1 = 0 → TW6 (fRead By Nb 1601 S00).2.2.2))
set_option maxRecDepth 10000 in
set_option maxHeartbeats 4000000 in
theorem c_312x {By : Int → Int} {Nb : Int} (σ0 : SG) (hσ0 : WT σ0) (hI : WI σ0) (hB : TBm By Nb σ0) : En 11 243 none mr_312 (P_312x σ0 By Nb) 0 [(0, .ref 159)] [] σ0 := by
  have hF0 : Fr [(35, 5), (35, 7), (35, 8), (35, 9), (35, 10), (35, 11), (35, 12), (35, 13), (36, 0), (41, 0)] σ0 σ0 := Fr_rfl
  refine En_Ps 2 (pc' := 2) (lv' := [(0, .ref 159)]) (st' := [.ref 159, .ref 159]) rfl ?_
  refine En_getI (j := 5) (l := 0) (u := 1600) rfl rfl rfl tgz_159 (by decide +kernel) hσ0 (by decide +kernel) (fun z2 h1 h3 h4 => ?_)
  refine En_put (j := 7) rfl rfl rfl tgz_159 (by decide +kernel) rfl (vI (l := 0) (u := 1600) (by decide +kernel) rfl (by first | exact q_58e6e51dcc h3 | omega) (by first | exact q_246f9048f8 h4 | omega)) hσ0 hF0 (by decide +kernel) (fun σ5 h6 h7 h8 h9 => ?_)
  have h10 : SWd σ0 σ5 := SWd_tr (fun _ => rfl : SWd σ0 σ0) (fun i => ci_ne h9 (by decide) i)
  refine En_Ps 2 (pc' := 10) (lv' := [(0, .ref 159)]) (st' := [.int ((Int32.ofInt 0)), .ref 159]) rfl ?_
  refine En_put (j := 5) rfl rfl rfl tgz_159 (by decide +kernel) rfl (vI (l := 0) (u := 1600) (by decide +kernel) (by decide : (Int32.ofInt 0).toInt = 0) (by decide) (by decide)) h6 h7 (by decide +kernel) (fun σ11 h12 h13 h14 h15 => ?_)
  have h16 : SWd σ0 σ11 := SWd_tr h10 (fun i => ci_ne h15 (by decide) i)
  refine En_Ps 2 (pc' := 15) (lv' := [(0, .ref 159)]) (st' := [.int ((Int32.ofInt 0)), .ref 159]) rfl ?_
  refine En_put (j := 8) rfl rfl rfl tgz_159 (by decide +kernel) rfl (vI (l := 0) (u := 1600) (by decide +kernel) (by decide : (Int32.ofInt 0).toInt = 0) (by decide) (by decide)) h12 h13 (by decide +kernel) (fun σ17 h18 h19 h20 h21 => ?_)
  have h22 : SWd σ0 σ17 := SWd_tr h16 (fun i => ci_ne h21 (by decide) i)
  refine En_Ps 2 (pc' := 20) (lv' := [(0, .ref 159)]) (st' := [.int ((Int32.ofInt 0)), .ref 159]) rfl ?_
  refine En_put (j := 12) rfl rfl rfl tgz_159 (by decide +kernel) rfl (vI (l := 0) (u := 3) (by decide +kernel) (by decide : (Int32.ofInt 0).toInt = 0) (by decide) (by decide)) h18 h19 (by decide +kernel) (fun σ23 h24 h25 h26 h27 => ?_)
  have h28 : SWd σ0 σ23 := SWd_tr h22 (fun i => ci_ne h27 (by decide) i)
  refine En_Ps 2 (pc' := 25) (lv' := [(0, .ref 159)]) (st' := [.int ((Int32.ofInt (-1))), .ref 159]) rfl ?_
  refine En_put (j := 13) rfl rfl rfl tgz_159 (by decide +kernel) rfl (vI (l := (-1)) (u := 1600) (by decide +kernel) (by decide : (Int32.ofInt (-1)).toInt = -1) (by decide) (by decide)) h24 h25 (by decide +kernel) (fun σ29 h30 h31 h32 h33 => ?_)
  have h34 : SWd σ0 σ29 := SWd_tr h28 (fun i => ci_ne h33 (by decide) i)
  refine En_Ps 2 (pc' := 30) (lv' := [(1, .int ((Int32.ofInt 0))), (0, .ref 159)]) (st' := []) rfl ?_
  have key30 : ∀ (n30 : Nat) (σ36 : SG) (y35 : Int32), WT σ36 → Fr [(35, 5), (35, 7), (35, 8), (35, 9), (35, 10), (35, 11), (35, 12), (35, 13), (36, 0), (41, 0)] σ0 σ36 → (σ36 159)[7]? = some (.int z2) → (σ36 159)[5]? = some (.int ((Int32.ofInt 0))) → (σ36 159)[8]? = some (.int ((Int32.ofInt 0))) → (σ36 159)[12]? = some (.int ((Int32.ofInt 0))) → (σ36 159)[13]? = some (.int ((Int32.ofInt (-1)))) → 0 ≤ y35.toInt → y35.toInt ≤ 226 → -y35.toInt + 226 < (n30 : Int) → CLF σ36 y35.toInt → SWd σ0 σ36 → En 11 243 none mr_312 (P_312x σ0 By Nb) 30 [(0, .ref 159), (1, .int y35)] [] σ36 := by
    intro n30
    induction n30 with
    | zero =>
      intro σ36 y35 h37 h38 h39 h40 h41 h42 h43 h44 h45 h46 h47 h48
      first | exact (q_93df7d31ea h46 h45).elim | (exfalso; omega)
    | succ n30 ih30 =>
      intro σ36 y35 h37 h38 h39 h40 h41 h42 h43 h44 h45 h46 h47 h48
      refine En_Ps 2 (pc' := 34) (lv' := [(0, .ref 159), (1, .int y35)]) (st' := [.int (((Int16.ofInt 226).toInt32)), .int y35]) rfl ?_
      refine En_icGe _ rfl (by decide : ((Int16.ofInt 226).toInt32).toInt = 226) rfl (fun h49 => ?_) (fun h49 => ?_)
      · have h50 := TPm_of hB h38 (by decide +kernel) h1 h39
        refine En_Ps 1 (pc' := 51) (lv' := [(0, .ref 159), (1, .int y35)]) (st' := [.ref 159]) rfl ?_
        refine En_callV rfl rfl rfl rfl rfl rfl rfl rfl tgz_159 (by decide +kernel) rfl (c_189x σ36 h37 ((Int32.ofInt 0)) h41 h50 (by have := (by decide : (Int32.ofInt 0).toInt = 0); have := hB.1; omega)) (by decide) (by decide) (fun v52 σ53 h51 => ?_)
        obtain ⟨h54, h55, z57, h58, z59, h60, rfl, h56⟩ := h51
        have h61 := h56.2.2.2.2.2.2.2
        have h62 := Fr_trans h38 h55 (by decide +kernel)
        have h63 := Imp_m h56.2.2.2.2.2.2.1
        have h64 : SWd σ0 σ53 := SWd_tr h48 (SWd_fr h55 (by decide +kernel))
        have key54 : ∀ (n54 : Nat) (σ84 : SG) (y65 : Int32) (y66 : Int32) (y67 : Int32), WT σ84 → Fr [(35, 5), (35, 7), (35, 8), (35, 9), (35, 10), (35, 11), (35, 12), (35, 13), (36, 0), (41, 0)] σ0 σ84 → (σ84 159)[7]? = some (.int z2) → (σ84 159)[5]? = some (.int ((Int32.ofInt 0))) → (σ84 159)[12]? = some (.int y65) → (σ84 159)[8]? = some (.int y66) → (σ84 159)[10]? = some (.int y67) → 0 ≤ y65.toInt → y65.toInt ≤ 3 → 0 ≤ y66.toInt → y66.toInt ≤ 1600 → 0 ≤ y67.toInt → y67.toInt ≤ 4 → 5 * (1600 - y66.toInt) + y67.toInt + 9000 * (3 - y65.toInt) < (n54 : Int) → FI σ84 y65.toInt → (y65.toInt = 0 → y67.toInt ≠ 0 → ci σ84 165 7 + 1 ≤ y66.toInt) → SWd σ0 σ84 → LPJ By Nb σ84 → En 11 243 none mr_312 (P_312x σ0 By Nb) 54 [(0, .ref 159), (1, .int y35)] [] σ84 := by
          intro n54
          induction n54 with
          | zero =>
            intro σ84 y65 y66 y67 h85 h86 h87 h88 h89 h90 h91 h92 h93 h94 h95 h96 h97 h98 h99 h100 h101 h102
            obtain ⟨S103, f104, h105, h106, h107, h110⟩ := h102
            have h108 := ML_k h105 h89
            have h109 := ML_t h105 h91
            exfalso; omega
          | succ n54 ih54 =>
            intro σ84 y65 y66 y67 h85 h86 h87 h88 h89 h90 h91 h92 h93 h94 h95 h96 h97 h98 h99 h100 h101 h102
            obtain ⟨S127, f128, h129, h130, h131, h134⟩ := h102
            have h132 := ML_k h129 h89
            have h133 := ML_t h129 h91
            refine En_Ps 1 (pc' := 55) (lv' := [(0, .ref 159), (1, .int y35)]) (st' := [.ref 159]) rfl ?_
            refine En_callV rfl rfl rfl rfl rfl rfl rfl rfl tgz_159 (by decide +kernel) rfl (c_237 σ84 h85 y65 h89) (by decide) (by decide) (fun v136 σ137 h135 => ?_)
            obtain ⟨h138, h139, z141, rfl, h140⟩ := h135
            obtain rfl : σ84 = σ137 := Fr_nil h139
            refine En_iEq _ rfl rfl (fun h142 => ?_) (fun h142 => ?_)
            · refine En_Ps 1 (pc' := 76) (lv' := [(0, .ref 159), (1, .int y35)]) (st' := [.ref 159]) rfl ?_
              refine En_callV rfl rfl rfl rfl rfl rfl rfl rfl tgz_159 (by decide +kernel) rfl (c_237 σ84 h85 y65 h89) (by decide) (by decide) (fun v144 σ145 h143 => ?_)
              obtain ⟨h146, h147, z149, rfl, h148⟩ := h143
              obtain rfl : σ84 = σ145 := Fr_nil h147
              refine En_iNe _ rfl rfl (fun hx => by exfalso; omega) (fun h150 => ?_)
              refine En_Ps 1 (pc' := 84) (lv' := [(0, .ref 159), (1, .int y35)]) (st' := [.int (((Int8.ofInt (-4)).toInt32))]) rfl ?_
              have := (by decide : (Int32.ofInt 0).toInt = 0)
              refine En_top (by decide : ((Int8.ofInt (-4)).toInt32).toInt = -4) (fun z151 h152 => ?_)
              exact En_ret (v := some (.int z151)) rfl rfl rfl ⟨h85, h86, (Int32.ofInt 0), h88, z151, rfl, ⟨by first | exact q_3a4f36f5dd h152 | omega, by first | exact q_f5f5c736c4 h152 | omega, by decide, by decide, by decide, by decide, ⟨⟨WI_sw h101 h86 (by decide +kernel) hI, MSC_bad h129 h130 (by omega) (by omega) h101⟩, fun zz => by exfalso; rw [← h130, fRead_x (Or.inl (by omega))] at zz; omega⟩⟩⟩
            · refine En_Ps 1 (pc' := 62) (lv' := [(0, .ref 159), (1, .int y35)]) (st' := [.ref 159]) rfl ?_
              refine En_getK (j := 10) h91 rfl rfl rfl tgz_159 (by decide +kernel) ?_
              refine En_iEq _ rfl rfl (fun h153 => ?_) (fun h153 => ?_)
              · refine En_Ps 1 (pc' := 76) (lv' := [(0, .ref 159), (1, .int y35)]) (st' := [.ref 159]) rfl ?_
                refine En_callV rfl rfl rfl rfl rfl rfl rfl rfl tgz_159 (by decide +kernel) rfl (c_237 σ84 h85 y65 h89) (by decide) (by decide) (fun v155 σ156 h154 => ?_)
                obtain ⟨h157, h158, z160, rfl, h159⟩ := h154
                obtain rfl : σ84 = σ156 := Fr_nil h158
                refine En_iNe _ rfl rfl (fun h161 => ?_) (fun hx => by exfalso; omega)
                refine En_Ps 2 (pc' := 87) (lv' := [(1, .int ((Int32.ofInt 0))), (0, .ref 159)]) (st' := []) rfl ?_
                have key87 : ∀ (n87 : Nat) (σ163 : SG) (y162 : Int32), WT σ163 → Fr [(35, 5), (35, 7), (35, 8), (35, 9), (35, 10), (35, 11), (35, 12), (35, 13), (36, 0), (41, 0)] σ0 σ163 → (σ163 159)[7]? = some (.int z2) → (σ163 159)[5]? = some (.int ((Int32.ofInt 0))) → (σ163 159)[12]? = some (.int y65) → (σ163 159)[8]? = some (.int y66) → (σ163 159)[10]? = some (.int y67) → 0 ≤ y162.toInt → y162.toInt ≤ 226 → -y162.toInt + 226 < (n87 : Int) → CPY (ff σ163) (wf σ163) y162.toInt → FI σ163 0 → ML By Nb σ163 S127 → En 11 243 none mr_312 (P_312x σ0 By Nb) 87 [(0, .ref 159), (1, .int y162)] [] σ163 := by
                  intro n87
                  induction n87 with
                  | zero =>
                    intro σ163 y162 h164 h165 h166 h167 h168 h169 h170 h171 h172 h173 h174 h175 h176
                    first | exact (q_93df7d31ea h173 h172).elim | (exfalso; omega)
                  | succ n87 ih87 =>
                    intro σ163 y162 h164 h165 h166 h167 h168 h169 h170 h171 h172 h173 h174 h175 h176
                    refine En_Ps 2 (pc' := 91) (lv' := [(0, .ref 159), (1, .int y162)]) (st' := [.int (((Int16.ofInt 226).toInt32)), .int y162]) rfl ?_
                    refine En_icGe _ rfl (by decide : ((Int16.ofInt 226).toInt32).toInt = 226) rfl (fun h177 => ?_) (fun h177 => ?_)
                    · refine En_Ps 1 (pc' := 113) (lv' := [(0, .ref 159), (1, .int y162)]) (st' := [.ref 159]) rfl ?_
                      refine En_getU (j := 1) (u := 160) (g' := 36) (q := 0) rfl rfl rfl tgz_159 (by decide +kernel) h164 (by decide +kernel) (by decide +kernel) (fun h178 => ?_)
                      refine En_Ps 1 (pc' := 118) (lv' := [(0, .ref 159), (1, .int y162)]) (st' := [.int (((Int8.ofInt 7).toInt32)), .ref 160]) rfl ?_
                      refine En_iald (l := 0) (u := 1600) rfl (by decide : ((Int8.ofInt 7).toInt32).toInt = 7) tgz_160 (by decide +kernel) h164 (by decide) (lnI (by decide +kernel : LN _ = 226) (by decide)) (by decide +kernel) (fun z181 h180 h182 h183 => ?_)
                      have := (by decide : (Int32.ofInt 0).toInt = 0)
                      exact En_ret (v := some (.int z181)) rfl rfl rfl ⟨h164, h165, (Int32.ofInt 0), h167, z181, rfl, ⟨by first | exact q_3b4a8cfc23 h182 | omega, by first | exact q_5a08281576 h183 | omega, by decide, by decide, by decide, by decide, ⟨⟨FI_x h164 h175 rfl h174 (by omega) h165 (by decide +kernel) hI, MSC_ok h176 h130 (by omega) (by omega) h174 (by omega) h180⟩, fun _ => TW6_x h130 (by omega) (by omega) h134⟩⟩⟩
                    · refine En_Ps 1 (pc' := 95) (lv' := [(0, .ref 159), (1, .int y162)]) (st' := [.ref 159]) rfl ?_
                      refine En_getU (j := 1) (u := 160) (g' := 36) (q := 0) rfl rfl rfl tgz_159 (by decide +kernel) h164 (by decide +kernel) (by decide +kernel) (fun h184 => ?_)
                      refine En_Ps 2 (pc' := 100) (lv' := [(0, .ref 159), (1, .int y162)]) (st' := [.ref 159, .int y162, .ref 160]) rfl ?_
                      refine En_getU (j := 14) (u := 165) (g' := 41) (q := 0) rfl rfl rfl tgz_159 (by decide +kernel) h164 (by decide +kernel) (by decide +kernel) (fun h186 => ?_)
                      refine En_Ps 1 (pc' := 104) (lv' := [(0, .ref 159), (1, .int y162)]) (st' := [.int y162, .ref 165, .int y162, .ref 160]) rfl ?_
                      refine En_ialdW (n := 226) rfl rfl tgz_165 (by decide +kernel) h164 (by omega) (by decide +kernel) (by omega) (by decide +kernel) (fun z188 h189 h190 => ?_)
                      refine En_iastW (n := 226) rfl rfl tgz_160 (by decide +kernel) (by omega) (by decide +kernel) (by omega) (ft_fw h190 (by omega) (by omega) (by omega)) h164 h165 (by decide +kernel) (fun σ191 h192 h193 h194 h195 => ?_)
                      refine En_Ps 1 (pc' := 109) (lv' := [(1, .int ((y162 + Int32.ofInt 1))), (0, .ref 159)]) (st' := []) rfl ?_
                      refine En_lv1 (addI rfl (by decide : (Int32.ofInt 1).toInt = 1) (by first | exact q_465ab79ac1 h171 | omega) (by first | exact q_00ca1b1d9b h177 | omega)) (fun z196 h197 => ?_)
                      refine En_Ps 1 (pc' := 87) (lv' := [(1, .int z196), (0, .ref 159)]) (st' := []) rfl ?_
                      refine En_lv (lv := [(0, .ref 159), (1, .int z196)]) ⟨rfl, rfl, trivial⟩ ?_
                      exact ih87 σ191 z196 h192 h193 ((h195 _ _ (Or.inl (neTG tgz_159 tgz_160 (by decide)))).trans h166) ((h195 _ _ (Or.inl (neTG tgz_159 tgz_160 (by decide)))).trans h167) ((h195 _ _ (Or.inl (neTG tgz_159 tgz_160 (by decide)))).trans h168) ((h195 _ _ (Or.inl (neTG tgz_159 tgz_160 (by decide)))).trans h169) ((h195 _ _ (Or.inl (neTG tgz_159 tgz_160 (by decide)))).trans h170) (by first | exact q_35104ce9d3 h197 h171 | omega) (by first | exact q_5bd245720d h197 h177 | omega) (by first | exact q_6929b92474 h197 h173 | omega) (CPY_fw h174 h189 h194 h195 (by omega) (by omega)) (FI_ne h175 h195 (by decide)) (ML_ne h176 h195 (by decide))
                have := (by decide : (Int32.ofInt 0).toInt = 0)
                refine En_lv (lv := [(0, .ref 159), (1, .int ((Int32.ofInt 0)))]) ⟨rfl, rfl, trivial⟩ ?_
                exact key87 (Int.toNat (226) + 1) σ84 ((Int32.ofInt 0)) h85 h86 h87 h88 h89 h90 h91 (by decide) (by decide) (by first | exact toN_lt _ | omega) (CPY_0 (by decide)) (FI_z h99 (by omega)) (h129)
              · refine En_Ps 1 (pc' := 69) (lv' := [(0, .ref 159), (1, .int y35)]) (st' := [.ref 159]) rfl ?_
                obtain ⟨z199, h198, h200, h201⟩ := WT_peekI h85 tgz_165 (by decide +kernel : FT 41 (7 : Int).toNat = (0, 0, 1600)) (by decide +kernel)
                have h202 := ci_at h198 (rfl : (7 : Int) = 7)
                have h203 := h100 (by omega) (by omega)
                refine En_callV rfl rfl rfl rfl rfl rfl rfl rfl tgz_159 (by decide +kernel) rfl (c_301x σ84 h85 y66 h90 y65 h89 z199 h198 (by omega) (by omega) h99 h129 (by omega)) (by decide) (by decide) (fun v205 σ206 h204 => ?_)
                obtain ⟨h207, h208, z210, h211, z212, h213, z214, h215, z216, h217, rfl, h209⟩ := h204
                have h218 := h209.2.2.2.2.2.2.2.2.2.2.2.2.2.2.2
                have h219 := Fr_trans h86 h208 (by decide +kernel)
                have h220 := Imp_m h209.2.2.2.2.2.2.2.2.2.2.2.2.1
                have h221 : SWd σ0 σ206 := SWd_tr h101 (SWd_fr h208 (by decide +kernel))
                refine En_Ps 1 (pc' := 54) (lv' := [(0, .ref 159), (1, .int y35)]) (st' := []) rfl ?_
                have h222 := ci_at h217 (rfl : (7 : Int) = 7)
                exact ih54 σ206 z214 z210 z212 h207 h219 ((h208 _ _ (inW tgz_159 (by decide +kernel))).trans h87) ((h208 _ _ (inW tgz_159 (by decide +kernel))).trans h88) h215 h211 h213 (by first | exact q_ef1e8e38bf h209.2.2.2.2.2.1 | omega) (by first | exact q_87d9217d84 h209.2.2.2.2.2.2.1 | omega) (by first | exact q_996aa4c518 h209.1 | omega) (by first | exact q_70de3c5e42 h209.2.1 | omega) (by first | exact q_ef1e8e38bf h209.2.2.2.1 | omega) (by first | exact q_3b0dd79e8e h209.2.2.2.2.1 | omega) (by omega) (h218.1 _ rfl) (fun _ _ => (by omega)) (h221) (LPJ_s h129 h85 (by omega) (by omega) h130 h131 h134 h218.2)
        have := (by decide : (Int32.ofInt 0).toInt = 0)
        have h223 := FI_0 (k := (Int32.ofInt 0).toInt) (CLF_fr (CLF_226 h47 (by omega)) h55 (by decide +kernel))
        have h224 := CLF_fr (CLF_226 h47 (by omega)) h55 (by decide +kernel) 7 (by omega) (by omega)
        exact key54 (Int.toNat (5 * (1600 - z57.toInt) + z59.toInt + 9000 * (3 - 0)) + 1) σ53 ((Int32.ofInt 0)) z57 z59 h54 h62 ((h55 _ _ (inW tgz_159 (by decide +kernel))).trans h39) ((h55 _ _ (inW tgz_159 (by decide +kernel))).trans h40) ((h55 _ _ (inW tgz_159 (by decide +kernel))).trans h42) h58 h60 (by decide) (by decide) (by first | exact q_ef1e8e38bf h56.1 | omega) (by first | exact q_70de3c5e42 h56.2.1 | omega) (by first | exact q_ef1e8e38bf h56.2.2.2.1 | omega) (by first | exact q_3b0dd79e8e h56.2.2.2.2.1 | omega) (by omega) (h223) (fun _ _ => (by omega)) (h64) (LPJ_0 h61 (by decide) ((h55 _ _ (inW tgz_159 (by decide +kernel))).trans h42) (by decide) ((h55 _ _ (inW tgz_159 (by decide +kernel))).trans h43) (by decide) (CLF_fr (CLF_226 h47 (by omega)) h55 (by decide +kernel)))
      · refine En_Ps 1 (pc' := 38) (lv' := [(0, .ref 159), (1, .int y35)]) (st' := [.ref 159]) rfl ?_
        refine En_getU (j := 14) (u := 165) (g' := 41) (q := 0) rfl rfl rfl tgz_159 (by decide +kernel) h37 (by decide +kernel) (by decide +kernel) (fun h225 => ?_)
        refine En_Ps 2 (pc' := 43) (lv' := [(0, .ref 159), (1, .int y35)]) (st' := [.int ((Int32.ofInt 0)), .int y35, .ref 165]) rfl ?_
        refine En_iastW (n := 226) rfl rfl tgz_165 (by decide +kernel) (by omega) (by decide +kernel) (by omega) (ft_zero (by omega) (by omega) (by decide)) h37 h38 (by decide +kernel) (fun σ227 h228 h229 h230 h231 => ?_)
        have h232 : SWd σ0 σ227 := SWd_tr h48 (fun i => ci_ne h231 (by decide) i)
        refine En_Ps 1 (pc' := 47) (lv' := [(1, .int ((y35 + Int32.ofInt 1))), (0, .ref 159)]) (st' := []) rfl ?_
        refine En_lv1 (addI rfl (by decide : (Int32.ofInt 1).toInt = 1) (by first | exact q_465ab79ac1 h44 | omega) (by first | exact q_00ca1b1d9b h49 | omega)) (fun z233 h234 => ?_)
        refine En_Ps 1 (pc' := 30) (lv' := [(1, .int z233), (0, .ref 159)]) (st' := []) rfl ?_
        refine En_lv (lv := [(0, .ref 159), (1, .int z233)]) ⟨rfl, rfl, trivial⟩ ?_
        exact ih30 σ227 z233 h228 h229 ((h231 _ _ (Or.inl (neTG tgz_159 tgz_165 (by decide)))).trans h39) ((h231 _ _ (Or.inl (neTG tgz_159 tgz_165 (by decide)))).trans h40) ((h231 _ _ (Or.inl (neTG tgz_159 tgz_165 (by decide)))).trans h41) ((h231 _ _ (Or.inl (neTG tgz_159 tgz_165 (by decide)))).trans h42) ((h231 _ _ (Or.inl (neTG tgz_159 tgz_165 (by decide)))).trans h43) (by first | exact q_35104ce9d3 h234 h44 | omega) (by first | exact q_5bd245720d h234 h49 | omega) (by first | exact q_6929b92474 h234 h46 | omega) (CLF_s h47 h230 h231 (by decide) (by omega) (by omega)) (h232)
  have := (by decide : (Int32.ofInt 0).toInt = 0)
  refine En_lv (lv := [(0, .ref 159), (1, .int ((Int32.ofInt 0)))]) ⟨rfl, rfl, trivial⟩ ?_
  exact key30 (Int.toNat (226) + 1) σ29 ((Int32.ofInt 0)) h30 h31 ((h33 _ _ (Or.inr (by decide))).trans ((h27 _ _ (Or.inr (by decide))).trans ((h21 _ _ (Or.inr (by decide))).trans ((h15 _ _ (Or.inr (by decide))).trans h8)))) ((h33 _ _ (Or.inr (by decide))).trans ((h27 _ _ (Or.inr (by decide))).trans ((h21 _ _ (Or.inr (by decide))).trans h14))) ((h33 _ _ (Or.inr (by decide))).trans ((h27 _ _ (Or.inr (by decide))).trans h20)) ((h33 _ _ (Or.inr (by decide))).trans h26) h32 (by decide) (by decide) (by first | exact toN_lt _ | omega) (CLF_0 (by decide)) (h34)

