/-- DoorSchool$Rules.deedsOf(II)I -/
abbrev P_77 (σ0 : SG) (a : Int32) (b : Int32) : PO := fun v σ => WT σ ∧ Fr [] σ0 σ ∧ ∃ ret : Int32, v = some (.int ret) ∧ -ret.toInt ≤ 0 ∧ ret.toInt - 65535 ≤ 0
set_option maxRecDepth 10000 in
set_option maxHeartbeats 4000000 in
theorem c_77 (σ0 : SG) (hσ0 : WT σ0) (a : Int32) (b : Int32) : En 0 0 none mr_77 (P_77 σ0 a b) 0 [(0, .ref 4), (1, .int a), (2, .int b)] [] σ0 := by
  have hF0 : Fr [] σ0 σ0 := Fr_rfl
  refine En_Ps 4 (pc' := 5) (lv' := [(4, .int ((Int32.ofInt 0))), (3, .int ((Int32.ofInt 0))), (0, .ref 4), (1, .int a), (2, .int b)]) (st' := []) rfl ?_
  have key5 : ∀ (n5 : Nat) (σ3 : SG) (y1 : Int32) (y2 : Int32), WT σ3 → Fr [] σ0 σ3 → 0 ≤ y1.toInt → y1.toInt ≤ 65535 → 0 ≤ y2.toInt → y2.toInt ≤ 16 → -y2.toInt + 16 < (n5 : Int) → En 0 0 none mr_77 (P_77 σ0 a b) 5 [(0, .ref 4), (1, .int a), (2, .int b), (3, .int y1), (4, .int y2)] [] σ3 := by
    intro n5
    induction n5 with
    | zero =>
      intro σ3 y1 y2 h4 h5 h6 h7 h8 h9 h10
      exfalso; omega
    | succ n5 ih5 =>
      intro σ3 y1 y2 h4 h5 h6 h7 h8 h9 h10
      refine En_Ps 2 (pc' := 8) (lv' := [(0, .ref 4), (1, .int a), (2, .int b), (3, .int y1), (4, .int y2)]) (st' := [.ref 4, .int y2]) rfl ?_
      refine En_getI (j := 0) (l := 0) (u := 16) rfl rfl rfl tgz_4 (by decide +kernel) h4 (by decide +kernel) (fun z12 h11 h13 h14 => ?_)
      refine En_icGe _ rfl rfl rfl (fun h15 => ?_) (fun h15 => ?_)
      · refine En_Ps 1 (pc' := 36) (lv' := [(0, .ref 4), (1, .int a), (2, .int b), (3, .int y1), (4, .int y2)]) (st' := [.int y1]) rfl ?_
        exact En_ret (v := some (.int y1)) rfl rfl rfl ⟨h4, h5, y1, rfl, (by omega)⟩
      · refine En_Ps 3 (pc' := 18) (lv' := [(0, .ref 4), (1, .int a), (2, .int b), (3, .int y1), (4, .int y2)]) (st' := [.int ((y2 &&& a))]) rfl ?_
        refine En_rng (l := 0) (u := 15) (andx_rng rfl (by omega) (by omega)) (fun z16 h17 h18 => ?_)
        refine En_Ps 1 (pc' := 19) (lv' := [(0, .ref 4), (1, .int a), (2, .int b), (3, .int y1), (4, .int y2)]) (st' := [.int b, .int z16]) rfl ?_
        refine En_icNe _ rfl rfl rfl (fun h19 => ?_) (fun h19 => ?_)
        · refine En_Ps 1 (pc' := 32) (lv' := [(4, .int ((y2 + Int32.ofInt 1))), (0, .ref 4), (1, .int a), (2, .int b), (3, .int y1)]) (st' := []) rfl ?_
          refine En_lv1 (addI rfl (by decide : (Int32.ofInt 1).toInt = 1) (by omega) (by omega)) (fun z20 h21 => ?_)
          refine En_Ps 1 (pc' := 5) (lv' := [(4, .int z20), (0, .ref 4), (1, .int a), (2, .int b), (3, .int y1)]) (st' := []) rfl ?_
          refine En_lv (lv := [(0, .ref 4), (1, .int a), (2, .int b), (3, .int y1), (4, .int z20)]) ⟨rfl, rfl, rfl, rfl, rfl, trivial⟩ ?_
          exact ih5 σ3 y1 z20 h4 h5 (by omega) (by omega) (by omega) (by omega) (by omega)
        · refine En_Ps 4 (pc' := 27) (lv' := [(0, .ref 4), (1, .int a), (2, .int b), (3, .int y1), (4, .int y2)]) (st' := [.int ((((Int32.ofInt 1)) <<< (y2 &&& 31))), .int y1]) rfl ?_
          refine En_rng (shl1_p 15 rfl (by omega) (by omega) (by decide)) (fun z22 h23 h24 => ?_)
          refine En_Ps 1 (pc' := 28) (lv' := [(0, .ref 4), (1, .int a), (2, .int b), (3, .int y1), (4, .int y2)]) (st' := [.int ((y1 ||| z22))]) rfl ?_
          refine En_rng (l := 0) (u := 65535) (or_rng 16 rfl rfl (by omega) (by omega) (by omega) (by omega) (by decide)) (fun z25 h26 h27 => ?_)
          refine En_Ps 2 (pc' := 32) (lv' := [(4, .int ((y2 + Int32.ofInt 1))), (3, .int z25), (0, .ref 4), (1, .int a), (2, .int b)]) (st' := []) rfl ?_
          refine En_lv1 (addI rfl (by decide : (Int32.ofInt 1).toInt = 1) (by omega) (by omega)) (fun z28 h29 => ?_)
          refine En_Ps 1 (pc' := 5) (lv' := [(4, .int z28), (3, .int z25), (0, .ref 4), (1, .int a), (2, .int b)]) (st' := []) rfl ?_
          refine En_lv (lv := [(0, .ref 4), (1, .int a), (2, .int b), (3, .int z25), (4, .int z28)]) ⟨rfl, rfl, rfl, rfl, rfl, trivial⟩ ?_
          exact ih5 σ3 z25 z28 h4 h5 (by omega) (by omega) (by omega) (by omega) (by omega)
  have := (by decide : (Int32.ofInt 0).toInt = 0)
  have := (by decide : (Int32.ofInt 0).toInt = 0)
  refine En_lv (lv := [(0, .ref 4), (1, .int a), (2, .int b), (3, .int ((Int32.ofInt 0))), (4, .int ((Int32.ofInt 0)))]) ⟨rfl, rfl, rfl, rfl, rfl, trivial⟩ ?_
  exact key5 (Int.toNat (16) + 1) σ0 ((Int32.ofInt 0)) ((Int32.ofInt 0)) hσ0 hF0 (by omega) (by omega) (by omega) (by omega) (by omega)
/-- DoorSchool$Rules.howMany(II)I -/
abbrev P_79 (σ0 : SG) (a : Int32) (b : Int32) : PO := fun v σ => WT σ ∧ Fr [] σ0 σ ∧ ∃ ret : Int32, v = some (.int ret) ∧ -ret.toInt ≤ 0 ∧ ret.toInt - 81 ≤ 0
set_option maxRecDepth 10000 in
set_option maxHeartbeats 4000000 in
theorem c_79 (σ0 : SG) (hσ0 : WT σ0) (a : Int32) (b : Int32) : En 1 22 none mr_79 (P_79 σ0 a b) 0 [(0, .ref 4), (1, .int a), (2, .int b)] [] σ0 := by
  have hF0 : Fr [] σ0 σ0 := Fr_rfl
  refine En_Ps 4 (pc' := 5) (lv' := [(4, .int ((Int32.ofInt 0))), (3, .int ((Int32.ofInt 0))), (0, .ref 4), (1, .int a), (2, .int b)]) (st' := []) rfl ?_
  have key5 : ∀ (n5 : Nat) (σ3 : SG) (y1 : Int32) (y2 : Int32), WT σ3 → Fr [] σ0 σ3 → 0 ≤ y1.toInt → y1.toInt ≤ 81 → 0 ≤ y2.toInt → y2.toInt ≤ 81 → y1.toInt - y2.toInt ≤ 0 → -y2.toInt + 81 < (n5 : Int) → En 1 22 none mr_79 (P_79 σ0 a b) 5 [(0, .ref 4), (1, .int a), (2, .int b), (3, .int y1), (4, .int y2)] [] σ3 := by
    intro n5
    induction n5 with
    | zero =>
      intro σ3 y1 y2 h4 h5 h6 h7 h8 h9 h10 h11
      exfalso; omega
    | succ n5 ih5 =>
      intro σ3 y1 y2 h4 h5 h6 h7 h8 h9 h10 h11
      refine En_Ps 2 (pc' := 8) (lv' := [(0, .ref 4), (1, .int a), (2, .int b), (3, .int y1), (4, .int y2)]) (st' := [.ref 4, .int y2]) rfl ?_
      refine En_getI (j := 1) (l := 0) (u := 81) rfl rfl rfl tgz_4 (by decide +kernel) h4 (by decide +kernel) (fun z13 h12 h14 h15 => ?_)
      refine En_icGe _ rfl rfl rfl (fun h16 => ?_) (fun h16 => ?_)
      · refine En_Ps 1 (pc' := 39) (lv' := [(0, .ref 4), (1, .int a), (2, .int b), (3, .int y1), (4, .int y2)]) (st' := [.int y1]) rfl ?_
        exact En_ret (v := some (.int y1)) rfl rfl rfl ⟨h4, h5, y1, rfl, (by omega)⟩
      · refine En_Ps 1 (pc' := 15) (lv' := [(0, .ref 4), (1, .int a), (2, .int b), (3, .int y1), (4, .int y2)]) (st' := [.ref 4]) rfl ?_
        refine En_getU (j := 4) (u := 7) (g' := 7) (q := 0) rfl rfl rfl tgz_4 (by decide +kernel) h4 (by decide +kernel) (by decide +kernel) (fun h17 => ?_)
        refine En_Ps 1 (pc' := 20) (lv' := [(0, .ref 4), (1, .int a), (2, .int b), (3, .int y1), (4, .int y2)]) (st' := [.int y2, .ref 7]) rfl ?_
        refine En_iald (l := (-2147483648)) (u := 2147483647) rfl rfl tgz_7 (by decide +kernel) h4 (by omega) (lnI (by decide +kernel : LN _ = 81) (by omega)) (FTsgl (by decide +kernel)) (fun z20 h19 h21 h22 => ?_)
        refine En_Ps 2 (pc' := 23) (lv' := [(0, .ref 4), (1, .int a), (2, .int b), (3, .int y1), (4, .int y2)]) (st' := [.int b, .int a, .int z20]) rfl ?_
        refine En_callS rfl rfl rfl rfl rfl rfl rfl rfl rfl (c_100 σ3 h4 z20 a b) (by decide) (by decide) (fun v24 σ25 h23 => ?_)
        obtain ⟨h26, h27, z29, rfl, h28⟩ := h23
        have h30 := Fr_trans h5 h27 (by decide +kernel)
        refine En_iEq _ rfl rfl (fun h31 => ?_) (fun h31 => ?_)
        · refine En_Ps 1 (pc' := 35) (lv' := [(4, .int ((y2 + Int32.ofInt 1))), (0, .ref 4), (1, .int a), (2, .int b), (3, .int y1)]) (st' := []) rfl ?_
          refine En_lv1 (addI rfl (by decide : (Int32.ofInt 1).toInt = 1) (by omega) (by omega)) (fun z32 h33 => ?_)
          refine En_Ps 1 (pc' := 5) (lv' := [(4, .int z32), (0, .ref 4), (1, .int a), (2, .int b), (3, .int y1)]) (st' := []) rfl ?_
          refine En_lv (lv := [(0, .ref 4), (1, .int a), (2, .int b), (3, .int y1), (4, .int z32)]) ⟨rfl, rfl, rfl, rfl, rfl, trivial⟩ ?_
          exact ih5 σ25 y1 z32 h26 h30 (by omega) (by omega) (by omega) (by omega) (by omega) (by omega)
        · refine En_Ps 1 (pc' := 32) (lv' := [(3, .int ((y1 + Int32.ofInt 1))), (0, .ref 4), (1, .int a), (2, .int b), (4, .int y2)]) (st' := []) rfl ?_
          refine En_lv1 (addI rfl (by decide : (Int32.ofInt 1).toInt = 1) (by omega) (by omega)) (fun z34 h35 => ?_)
          refine En_Ps 1 (pc' := 35) (lv' := [(4, .int ((y2 + Int32.ofInt 1))), (3, .int z34), (0, .ref 4), (1, .int a), (2, .int b)]) (st' := []) rfl ?_
          refine En_lv1 (addI rfl (by decide : (Int32.ofInt 1).toInt = 1) (by omega) (by omega)) (fun z36 h37 => ?_)
          refine En_Ps 1 (pc' := 5) (lv' := [(4, .int z36), (3, .int z34), (0, .ref 4), (1, .int a), (2, .int b)]) (st' := []) rfl ?_
          refine En_lv (lv := [(0, .ref 4), (1, .int a), (2, .int b), (3, .int z34), (4, .int z36)]) ⟨rfl, rfl, rfl, rfl, rfl, trivial⟩ ?_
          exact ih5 σ25 z34 z36 h26 h30 (by omega) (by omega) (by omega) (by omega) (by omega) (by omega)
  have := (by decide : (Int32.ofInt 0).toInt = 0)
  have := (by decide : (Int32.ofInt 0).toInt = 0)
  refine En_lv (lv := [(0, .ref 4), (1, .int a), (2, .int b), (3, .int ((Int32.ofInt 0))), (4, .int ((Int32.ofInt 0)))]) ⟨rfl, rfl, rfl, rfl, rfl, trivial⟩ ?_
  exact key5 (Int.toNat (81) + 1) σ0 ((Int32.ofInt 0)) ((Int32.ofInt 0)) hσ0 hF0 (by omega) (by omega) (by omega) (by omega) (by omega) (by omega)
