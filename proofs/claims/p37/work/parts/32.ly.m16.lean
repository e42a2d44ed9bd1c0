/-- DoorSchoolModel.same(I)I -/
abbrev P_311 (σ0 : SG) (a : Int32) : PO := fun v σ => WT σ ∧ Fr [(35, 18), (35, 21), (42, 0), (43, 0), (44, 0), (45, 0), (46, 0)] σ0 σ ∧ ∃ ret : Int32, v = some (.int ret) ∧ -ret.toInt - 6 ≤ 0 ∧ ret.toInt - 15 ≤ 0
set_option maxRecDepth 10000 in
set_option maxHeartbeats 4000000 in
theorem c_311 (σ0 : SG) (hσ0 : WT σ0) (a : Int32) : En 5 112 none mr_311 (P_311 σ0 a) 0 [(0, .ref 159), (1, .int a)] [] σ0 := by
  have hF0 : Fr [(35, 18), (35, 21), (42, 0), (43, 0), (44, 0), (45, 0), (46, 0)] σ0 σ0 := Fr_rfl
  refine En_Ps 3 (pc' := 3) (lv' := [(0, .ref 159), (1, .int a)]) (st' := [.int ((Int32.ofInt 1)), .int a, .ref 159]) rfl ?_
  have := (by decide : ((Int32.ofInt 1)).toInt = 1)
  refine En_callV rfl rfl rfl rfl rfl rfl rfl rfl (by decide +kernel : TG 159 = 35) (by decide +kernel) rfl (c_198 σ0 hσ0 a ((Int32.ofInt 1)) (geI (by decide : (Int32.ofInt 1).toInt = 1) (by omega)) (leI (by decide : (Int32.ofInt 1).toInt = 1) (by omega))) (by decide) (by decide) (fun v2 σ3 h1 => ?_)
  obtain ⟨h4, h5, z7, rfl, h6⟩ := h1
  have h8 := Fr_trans hF0 h5 (by decide +kernel)
  refine En_Ps 2 (pc' := 8) (lv' := [(2, .int z7), (0, .ref 159), (1, .int a)]) (st' := [.int z7]) rfl ?_
  refine En_iGe _ rfl rfl (fun h9 => ?_) (fun h9 => ?_)
  · refine En_Ps 4 (pc' := 18) (lv' := [(4, .int ((Int32.ofInt 0))), (3, .int ((Int32.ofInt 0))), (2, .int z7), (0, .ref 159), (1, .int a)]) (st' := []) rfl ?_
    have key18 : ∀ (n18 : Nat) (σ12 : SG) (y10 : Int32) (y11 : Int32), WT σ12 → Fr [(35, 18), (35, 21), (42, 0), (43, 0), (44, 0), (45, 0), (46, 0)] σ0 σ12 → 0 ≤ y10.toInt → y10.toInt ≤ 15 → 0 ≤ y11.toInt → y11.toInt ≤ 4 → -y11.toInt + 4 < (n18 : Int) → En 5 112 none mr_311 (P_311 σ0 a) 18 [(0, .ref 159), (1, .int a), (2, .int z7), (3, .int y10), (4, .int y11)] [] σ12 := by
      intro n18
      induction n18 with
      | zero =>
        intro σ12 y10 y11 h13 h14 h15 h16 h17 h18 h19
        exfalso; omega
      | succ n18 ih18 =>
        intro σ12 y10 y11 h13 h14 h15 h16 h17 h18 h19
        refine En_Ps 2 (pc' := 21) (lv' := [(0, .ref 159), (1, .int a), (2, .int z7), (3, .int y10), (4, .int y11)]) (st' := [.ref 159, .int y11]) rfl ?_
        refine En_getU (j := 1) (u := 160) (g' := 36) (q := 0) rfl rfl rfl (by decide +kernel : TG 159 = 35) (by decide +kernel) h13 (by decide +kernel) (by decide +kernel) (fun h20 => ?_)
        refine En_Ps 1 (pc' := 25) (lv' := [(0, .ref 159), (1, .int a), (2, .int z7), (3, .int y10), (4, .int y11)]) (st' := [.int ((Int32.ofInt 2)), .ref 160, .int y11]) rfl ?_
        refine En_iald (l := 0) (u := 4) rfl (by decide : (Int32.ofInt 2).toInt = 2) (by decide +kernel : TG 160 = 36) (by decide +kernel) h13 (by omega) (lnI (by decide +kernel : LN _ = 226) (by omega)) (by decide +kernel) (fun z23 h22 h24 h25 => ?_)
        refine En_icGe _ rfl rfl rfl (fun h26 => ?_) (fun h26 => ?_)
        · refine En_Ps 1 (pc' := 61) (lv' := [(0, .ref 159), (1, .int a), (2, .int z7), (3, .int y10), (4, .int y11)]) (st' := [.int y10]) rfl ?_
          exact En_ret (v := some (.int y10)) rfl rfl rfl ⟨h13, h14, y10, rfl, (by omega)⟩
        · refine En_Ps 5 (pc' := 35) (lv' := [(0, .ref 159), (1, .int a), (2, .int z7), (3, .int y10), (4, .int y11)]) (st' := [.int y11, .ref 159, .int a, .ref 159, .int y10]) rfl ?_
          refine En_callV rfl rfl rfl rfl rfl rfl rfl rfl (by decide +kernel : TG 159 = 35) (by decide +kernel) rfl (c_213 σ12 h13 y11 (geI rfl (by omega)) (leI rfl (by omega))) (by decide) (by decide) (fun v28 σ29 h27 => ?_)
          obtain ⟨h30, h31, z33, h34, z35, rfl, h32⟩ := h27
          have h36 := Fr_trans h14 h31 (by decide +kernel)
          refine En_callV rfl rfl rfl rfl rfl rfl rfl rfl (by decide +kernel : TG 159 = 35) (by decide +kernel) rfl (c_218 σ29 h30 a z35 (geI rfl (by omega)) (leI rfl (by omega))) (by decide) (by decide) (fun v38 σ39 h37 => ?_)
          obtain ⟨h40, h41, z43, rfl, h42⟩ := h37
          have h44 := Fr_trans h36 h41 (by decide +kernel)
          refine En_iEq _ rfl rfl (fun h45 => ?_) (fun h45 => ?_)
          · refine En_Ps 2 (pc' := 53) (lv' := [(0, .ref 159), (1, .int a), (2, .int z7), (3, .int y10), (4, .int y11)]) (st' := [.int ((y10 ||| ((Int32.ofInt 0))))]) rfl ?_
            refine En_rng (l := 0) (u := 15) (or_rng 4 rfl (by decide : (Int32.ofInt 0).toInt = 0) (by omega) (by omega) (by omega) (by omega) (by decide)) (fun z46 h47 h48 => ?_)
            refine En_Ps 2 (pc' := 57) (lv' := [(4, .int ((y11 + Int32.ofInt 1))), (3, .int z46), (0, .ref 159), (1, .int a), (2, .int z7)]) (st' := []) rfl ?_
            refine En_lv1 (addI rfl (by decide : (Int32.ofInt 1).toInt = 1) (by omega) (by omega)) (fun z49 h50 => ?_)
            refine En_Ps 1 (pc' := 18) (lv' := [(4, .int z49), (3, .int z46), (0, .ref 159), (1, .int a), (2, .int z7)]) (st' := []) rfl ?_
            refine En_lv (lv := [(0, .ref 159), (1, .int a), (2, .int z7), (3, .int z46), (4, .int z49)]) ⟨rfl, rfl, rfl, rfl, rfl, trivial⟩ ?_
            exact ih18 σ39 z46 z49 h40 h44 (by omega) (by omega) (by omega) (by omega) (by omega)
          · refine En_Ps 3 (pc' := 48) (lv' := [(0, .ref 159), (1, .int a), (2, .int z7), (3, .int y10), (4, .int y11)]) (st' := [.int ((((Int32.ofInt 1)) <<< (y11 &&& 31))), .int y10]) rfl ?_
            refine En_rng (shl1_p 3 rfl (by omega) (by omega) (by decide)) (fun z51 h52 h53 => ?_)
            refine En_Ps 2 (pc' := 53) (lv' := [(0, .ref 159), (1, .int a), (2, .int z7), (3, .int y10), (4, .int y11)]) (st' := [.int ((y10 ||| z51))]) rfl ?_
            refine En_rng (l := 0) (u := 15) (or_rng 4 rfl rfl (by omega) (by omega) (by omega) (by omega) (by decide)) (fun z54 h55 h56 => ?_)
            refine En_Ps 2 (pc' := 57) (lv' := [(4, .int ((y11 + Int32.ofInt 1))), (3, .int z54), (0, .ref 159), (1, .int a), (2, .int z7)]) (st' := []) rfl ?_
            refine En_lv1 (addI rfl (by decide : (Int32.ofInt 1).toInt = 1) (by omega) (by omega)) (fun z57 h58 => ?_)
            refine En_Ps 1 (pc' := 18) (lv' := [(4, .int z57), (3, .int z54), (0, .ref 159), (1, .int a), (2, .int z7)]) (st' := []) rfl ?_
            refine En_lv (lv := [(0, .ref 159), (1, .int a), (2, .int z7), (3, .int z54), (4, .int z57)]) ⟨rfl, rfl, rfl, rfl, rfl, trivial⟩ ?_
            exact ih18 σ39 z54 z57 h40 h44 (by omega) (by omega) (by omega) (by omega) (by omega)
    have := (by decide : (Int32.ofInt 0).toInt = 0)
    have := (by decide : (Int32.ofInt 0).toInt = 0)
    refine En_lv (lv := [(0, .ref 159), (1, .int a), (2, .int z7), (3, .int ((Int32.ofInt 0))), (4, .int ((Int32.ofInt 0)))]) ⟨rfl, rfl, rfl, rfl, rfl, trivial⟩ ?_
    exact key18 (Int.toNat (4) + 1) σ3 ((Int32.ofInt 0)) ((Int32.ofInt 0)) h4 h8 (by omega) (by omega) (by omega) (by omega) (by omega)
  · refine En_Ps 1 (pc' := 12) (lv' := [(2, .int z7), (0, .ref 159), (1, .int a)]) (st' := [.int z7]) rfl ?_
    exact En_ret (v := some (.int z7)) rfl rfl rfl ⟨h4, h8, z7, rfl, (by omega)⟩

