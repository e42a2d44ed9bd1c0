set_option maxRecDepth 10000 in
set_option maxHeartbeats 4000000 in
theorem c_302x {By : Int → Int} {Nb : Int} {Sp : PS} (σ0 : SG) (hσ0 : WT σ0) (f : Int32) (h_f : (σ0 159)[8]? = some (.int f)) (k : Int32) (h_k : (σ0 159)[12]? = some (.int k)) (hM : ML By Nb σ0 Sp) (hg : Sp.1 = 0) : En 9 200 none mr_302 (P_302x σ0 By Nb Sp f k) 0 [(0, .ref 159)] [] σ0 := by
  obtain ⟨hl_f, hu_f⟩ := WT_int hσ0 (g := 35) (by decide +kernel) (by decide +kernel) (l := 0) (u := 1600) (by decide +kernel) h_f
  obtain ⟨hl_k, hu_k⟩ := WT_int hσ0 (g := 35) (by decide +kernel) (by decide +kernel) (l := 0) (u := 3) (by decide +kernel) h_k
  have hF0 : Fr [(35, 8), (35, 9), (35, 10), (35, 11), (35, 12), (35, 13), (41, 0)] σ0 σ0 := Fr_rfl
  have keyj87 := k_302x_87 σ0 hσ0 f h_f k h_k hM hg
  have h1473 := ML_k hM h_k
  refine En_Ps 1 (pc' := 1) (lv' := [(0, .ref 159)]) (st' := [.ref 159]) rfl ?_
  refine En_ldcS (i := 2) rfl rfl rfl ?_
  refine En_callV rfl rfl rfl rfl rfl rfl rfl rfl (by decide +kernel : TG 159 = 35) (by decide +kernel) rfl (c_251s2x σ0 hσ0 hM) (by decide) (by decide) (fun v1475 σ1476 h1474 => ?_)
  obtain ⟨h1477, h1478, z1480, rfl, h1479⟩ := h1474
  have h1481 := h1479.2.2
  obtain rfl : σ0 = σ1476 := Fr_nil h1478
  refine En_iNe _ rfl rfl (fun h1482 => ?_) (fun h1482 => ?_)
  · refine En_Ps 4 (pc' := 79) (lv' := [(1, .int ((Int32.ofInt 1))), (0, .ref 159)]) (st' := [.int ((Int32.ofInt 1))]) rfl ?_
    refine En_iNe _ (by decide : (Int32.ofInt 1).toInt = 1) rfl (fun h1483 => ?_) (fun hx => by exfalso; omega)
    refine En_lv (lv := [(0, .ref 159)]) ⟨rfl, trivial⟩ ?_
    exact keyj87 σ0 k f hσ0 hF0 h_k (by omega) (by omega) h_f (by omega) (by omega) (by omega) (fun _ => by omega) ((KF_0 (σ := σ0))) (ML_eq hM (gN1_pos 2 (by omega) (by omega)).symm)
  · refine En_Ps 1 (pc' := 10) (lv' := [(0, .ref 159)]) (st' := [.ref 159]) rfl ?_
    refine En_ldcS (i := 6) rfl rfl rfl ?_
    refine En_callV rfl rfl rfl rfl rfl rfl rfl rfl (by decide +kernel : TG 159 = 35) (by decide +kernel) rfl (c_251s6x σ0 hσ0 hM) (by decide) (by decide) (fun v1485 σ1486 h1484 => ?_)
    obtain ⟨h1487, h1488, z1490, rfl, h1489⟩ := h1484
    have h1491 := h1489.2.2
    obtain rfl : σ0 = σ1486 := Fr_nil h1488
    refine En_iNe _ rfl rfl (fun h1492 => ?_) (fun h1492 => ?_)
    · refine En_Ps 4 (pc' := 79) (lv' := [(1, .int ((Int32.ofInt 1))), (0, .ref 159)]) (st' := [.int ((Int32.ofInt 1))]) rfl ?_
      refine En_iNe _ (by decide : (Int32.ofInt 1).toInt = 1) rfl (fun h1493 => ?_) (fun hx => by exfalso; omega)
      refine En_lv (lv := [(0, .ref 159)]) ⟨rfl, trivial⟩ ?_
      exact keyj87 σ0 k f hσ0 hF0 h_k (by omega) (by omega) h_f (by omega) (by omega) (by omega) (fun _ => by omega) ((KF_0 (σ := σ0))) (ML_eq hM (gN1_pos 6 (by omega) (by omega)).symm)
    · refine En_Ps 1 (pc' := 19) (lv' := [(0, .ref 159)]) (st' := [.ref 159]) rfl ?_
      refine En_ldcS (i := 3) rfl rfl rfl ?_
      refine En_callV rfl rfl rfl rfl rfl rfl rfl rfl (by decide +kernel : TG 159 = 35) (by decide +kernel) rfl (c_251s3x σ0 hσ0 hM) (by decide) (by decide) (fun v1495 σ1496 h1494 => ?_)
      obtain ⟨h1497, h1498, z1500, rfl, h1499⟩ := h1494
      have h1501 := h1499.2.2
      obtain rfl : σ0 = σ1496 := Fr_nil h1498
      refine En_iNe _ rfl rfl (fun h1502 => ?_) (fun h1502 => ?_)
      · refine En_Ps 4 (pc' := 79) (lv' := [(1, .int ((Int32.ofInt 1))), (0, .ref 159)]) (st' := [.int ((Int32.ofInt 1))]) rfl ?_
        refine En_iNe _ (by decide : (Int32.ofInt 1).toInt = 1) rfl (fun h1503 => ?_) (fun hx => by exfalso; omega)
        refine En_lv (lv := [(0, .ref 159)]) ⟨rfl, trivial⟩ ?_
        exact keyj87 σ0 k f hσ0 hF0 h_k (by omega) (by omega) h_f (by omega) (by omega) (by omega) (fun _ => by omega) ((KF_0 (σ := σ0))) (ML_eq hM (gN1_pos 3 (by omega) (by omega)).symm)
      · refine En_Ps 1 (pc' := 28) (lv' := [(0, .ref 159)]) (st' := [.ref 159]) rfl ?_
        refine En_ldcS (i := 17) rfl rfl rfl ?_
        refine En_callV rfl rfl rfl rfl rfl rfl rfl rfl (by decide +kernel : TG 159 = 35) (by decide +kernel) rfl (c_251s17x σ0 hσ0 hM) (by decide) (by decide) (fun v1505 σ1506 h1504 => ?_)
        obtain ⟨h1507, h1508, z1510, rfl, h1509⟩ := h1504
        have h1511 := h1509.2.2
        obtain rfl : σ0 = σ1506 := Fr_nil h1508
        refine En_iNe _ rfl rfl (fun h1512 => ?_) (fun h1512 => ?_)
        · refine En_Ps 4 (pc' := 79) (lv' := [(1, .int ((Int32.ofInt 1))), (0, .ref 159)]) (st' := [.int ((Int32.ofInt 1))]) rfl ?_
          refine En_iNe _ (by decide : (Int32.ofInt 1).toInt = 1) rfl (fun h1513 => ?_) (fun hx => by exfalso; omega)
          refine En_lv (lv := [(0, .ref 159)]) ⟨rfl, trivial⟩ ?_
          exact keyj87 σ0 k f hσ0 hF0 h_k (by omega) (by omega) h_f (by omega) (by omega) (by omega) (fun _ => by omega) ((KF_0 (σ := σ0))) (ML_eq hM (gN1_pos 17 (by omega) (by omega)).symm)
        · refine En_Ps 1 (pc' := 37) (lv' := [(0, .ref 159)]) (st' := [.ref 159]) rfl ?_
          refine En_ldcS (i := 9) rfl rfl rfl ?_
          refine En_callV rfl rfl rfl rfl rfl rfl rfl rfl (by decide +kernel : TG 159 = 35) (by decide +kernel) rfl (c_251s9x σ0 hσ0 hM) (by decide) (by decide) (fun v1515 σ1516 h1514 => ?_)
          obtain ⟨h1517, h1518, z1520, rfl, h1519⟩ := h1514
          have h1521 := h1519.2.2
          obtain rfl : σ0 = σ1516 := Fr_nil h1518
          refine En_iNe _ rfl rfl (fun h1522 => ?_) (fun h1522 => ?_)
          · refine En_Ps 4 (pc' := 79) (lv' := [(1, .int ((Int32.ofInt 1))), (0, .ref 159)]) (st' := [.int ((Int32.ofInt 1))]) rfl ?_
            refine En_iNe _ (by decide : (Int32.ofInt 1).toInt = 1) rfl (fun h1523 => ?_) (fun hx => by exfalso; omega)
            refine En_lv (lv := [(0, .ref 159)]) ⟨rfl, trivial⟩ ?_
            exact keyj87 σ0 k f hσ0 hF0 h_k (by omega) (by omega) h_f (by omega) (by omega) (by omega) (fun _ => by omega) ((KF_0 (σ := σ0))) (ML_eq hM (gN1_pos 9 (by omega) (by omega)).symm)
          · refine En_Ps 1 (pc' := 46) (lv' := [(0, .ref 159)]) (st' := [.ref 159]) rfl ?_
            refine En_ldcS (i := 5) rfl rfl rfl ?_
            refine En_callV rfl rfl rfl rfl rfl rfl rfl rfl (by decide +kernel : TG 159 = 35) (by decide +kernel) rfl (c_251s5x σ0 hσ0 hM) (by decide) (by decide) (fun v1525 σ1526 h1524 => ?_)
            obtain ⟨h1527, h1528, z1530, rfl, h1529⟩ := h1524
            have h1531 := h1529.2.2
            obtain rfl : σ0 = σ1526 := Fr_nil h1528
            refine En_iNe _ rfl rfl (fun h1532 => ?_) (fun h1532 => ?_)
            · refine En_Ps 4 (pc' := 79) (lv' := [(1, .int ((Int32.ofInt 1))), (0, .ref 159)]) (st' := [.int ((Int32.ofInt 1))]) rfl ?_
              refine En_iNe _ (by decide : (Int32.ofInt 1).toInt = 1) rfl (fun h1533 => ?_) (fun hx => by exfalso; omega)
              refine En_lv (lv := [(0, .ref 159)]) ⟨rfl, trivial⟩ ?_
              exact keyj87 σ0 k f hσ0 hF0 h_k (by omega) (by omega) h_f (by omega) (by omega) (by omega) (fun _ => by omega) ((KF_0 (σ := σ0))) (ML_eq hM (gN1_pos 5 (by omega) (by omega)).symm)
            · refine En_Ps 1 (pc' := 55) (lv' := [(0, .ref 159)]) (st' := [.ref 159]) rfl ?_
              refine En_ldcS (i := 1) rfl rfl rfl ?_
              refine En_callV rfl rfl rfl rfl rfl rfl rfl rfl (by decide +kernel : TG 159 = 35) (by decide +kernel) rfl (c_251s1x σ0 hσ0 hM) (by decide) (by decide) (fun v1535 σ1536 h1534 => ?_)
              obtain ⟨h1537, h1538, z1540, rfl, h1539⟩ := h1534
              have h1541 := h1539.2.2
              obtain rfl : σ0 = σ1536 := Fr_nil h1538
              refine En_iNe _ rfl rfl (fun h1542 => ?_) (fun h1542 => ?_)
              · refine En_Ps 4 (pc' := 79) (lv' := [(1, .int ((Int32.ofInt 1))), (0, .ref 159)]) (st' := [.int ((Int32.ofInt 1))]) rfl ?_
                refine En_iNe _ (by decide : (Int32.ofInt 1).toInt = 1) rfl (fun h1543 => ?_) (fun hx => by exfalso; omega)
                refine En_lv (lv := [(0, .ref 159)]) ⟨rfl, trivial⟩ ?_
                exact keyj87 σ0 k f hσ0 hF0 h_k (by omega) (by omega) h_f (by omega) (by omega) (by omega) (fun _ => by omega) ((KF_0 (σ := σ0))) (ML_eq hM (gN1_pos 1 (by omega) (by omega)).symm)
              · refine En_Ps 1 (pc' := 64) (lv' := [(0, .ref 159)]) (st' := [.ref 159]) rfl ?_
                refine En_ldcS (i := 0) rfl rfl rfl ?_
                refine En_callV rfl rfl rfl rfl rfl rfl rfl rfl (by decide +kernel : TG 159 = 35) (by decide +kernel) rfl (c_251s0x σ0 hσ0 hM) (by decide) (by decide) (fun v1545 σ1546 h1544 => ?_)
                obtain ⟨h1547, h1548, z1550, rfl, h1549⟩ := h1544
                have h1551 := h1549.2.2
                obtain rfl : σ0 = σ1546 := Fr_nil h1548
                refine En_iEq _ rfl rfl (fun h1552 => ?_) (fun h1552 => ?_)
                · refine En_Ps 3 (pc' := 79) (lv' := [(1, .int ((Int32.ofInt 0))), (0, .ref 159)]) (st' := [.int ((Int32.ofInt 0))]) rfl ?_
                  refine En_iNe _ (by decide : (Int32.ofInt 0).toInt = 0) rfl (fun hx => by exfalso; omega) (fun h1553 => ?_)
                  refine En_Ps 2 (pc' := 84) (lv' := [(1, .int ((Int32.ofInt 0))), (0, .ref 159)]) (st' := [.int ((Int32.ofInt 1)), .ref 159]) rfl ?_
                  have := (by decide : ((Int32.ofInt 1)).toInt = 1)
                  refine En_callV rfl rfl rfl rfl rfl rfl rfl rfl (by decide +kernel : TG 159 = 35) (by decide +kernel) rfl (c_223x σ0 hσ0 ((Int32.ofInt 1)) (geI (by decide : (Int32.ofInt 1).toInt = 1) (by omega)) (leI (by decide : (Int32.ofInt 1).toInt = 1) (by omega)) k h_k hM) (by decide) (by decide) (fun v1555 σ1556 h1554 => ?_)
                  obtain ⟨h1557, h1558, z1560, h1561, rfl, h1559⟩ := h1554
                  have h1562 := h1559.2.2.2.2.2
                  have h1563 := Fr_trans hF0 h1558 (by decide +kernel)
                  have h1564 := KF_fr (KF_0 (σ := σ0)) h1558 (by decide +kernel)
                  obtain ⟨S1565, h1566⟩ : ∃ q : PS, q = err By Nb 1 Sp := ⟨_, rfl⟩
                  have h1567 : ML By Nb σ1556 S1565 := by rw [h1566]; exact (ML_eq h1562 (err_cg (by omega)))
                  have h1568 := ML_k h1567 h1561
                  have h1569 : S1565.2.2.2 = Sp.2.2.2 := by rw [h1566]; exact err_w
                  refine En_lv (lv := [(0, .ref 159)]) ⟨rfl, trivial⟩ ?_
                  exact keyj87 σ1556 z1560 f h1557 h1563 h1561 (by omega) (by omega) ((h1558 _ _ (inW (by decide +kernel : TG 159 = 35) (by decide +kernel))).trans h_f) (by omega) (by omega) (by omega) (fun _ => by omega) (h1564) (ML_eq h1567 (by subst h1566; exact (gN1_neg (by omega) (by omega) (by omega) (by omega) (by omega) (by omega) (by omega) (by omega)).symm))
                · refine En_Ps 4 (pc' := 79) (lv' := [(1, .int ((Int32.ofInt 1))), (0, .ref 159)]) (st' := [.int ((Int32.ofInt 1))]) rfl ?_
                  refine En_iNe _ (by decide : (Int32.ofInt 1).toInt = 1) rfl (fun h1570 => ?_) (fun hx => by exfalso; omega)
                  refine En_lv (lv := [(0, .ref 159)]) ⟨rfl, trivial⟩ ?_
                  exact keyj87 σ0 k f hσ0 hF0 h_k (by omega) (by omega) h_f (by omega) (by omega) (by omega) (fun _ => by omega) ((KF_0 (σ := σ0))) (ML_eq hM (gN1_pos 0 (by omega) (by omega)).symm)
