/-- DoorSchool$Rules.deedsOf(II)I -/
abbrev P_77 (σ0 : SG) (a : Int32) (b : Int32) : PO := fun v σ => WT σ ∧ Fr [] σ0 σ ∧ ∃ ret : Int32, v = some (.int ret) ∧ -ret.toInt ≤ 0 ∧ ret.toInt - 65535 ≤ 0
set_option maxRecDepth 10000 in
set_option maxHeartbeats 4000000 in
theorem c_77 (σ0 : SG) (hσ0 : WT σ0) (a : Int32) (b : Int32) : En 0 0 none mr_77 (P_77 σ0 a b) 0 [(0, .ref 4), (1, .int a), (2, .int b)] [] σ0 := by
  have hF0 : Fr [] σ0 σ0 := Fr_rfl
  refine En_Ps 4 (pc' := 5) (lv' := [(4, .int ((Int32.ofInt 0))), (3, .int ((Int32.ofInt 0))), (0, .ref 4), (1, .int a), (2, .int b)]) (st' := []) rfl ?_
  have key5 : ∀ (n5 : Nat) (σ3 : SG) (y1 : Int32) (y2 : Int32), WT σ3 → Fr [] σ0 σ3 → 0 ≤ y1.toInt → y1.toInt ≤ 65535 → 0 ≤ y2.toInt → y2.toInt ≤ 16 → -y2.toInt + 16 < (n5 : Int) → En 0 0 none mr_77 (P_77 σ0 a b) 5 [(0, .ref 4), (1, .int a), (2, .int b), (3, .int y1), (4, .int y2)] [] σ3 := by
    intro n5
    induction n5 with
    | zero =>
      intro σ3 y1 y2 h4 h5 h6 h7 h8 h9 h10
      first | exact (q_511f6d33ac h10 h9).elim | (exfalso; omega)
    | succ n5 ih5 =>
      intro σ3 y1 y2 h4 h5 h6 h7 h8 h9 h10
      refine En_Ps 2 (pc' := 8) (lv' := [(0, .ref 4), (1, .int a), (2, .int b), (3, .int y1), (4, .int y2)]) (st' := [.ref 4, .int y2]) rfl ?_
      refine En_getI (j := 0) (l := 0) (u := 16) rfl rfl rfl tgz_4 (by decide +kernel) h4 (by decide +kernel) (fun z12 h11 h13 h14 => ?_)
      refine En_icGe _ rfl rfl rfl (fun h15 => ?_) (fun h15 => ?_)
      · refine En_Ps 1 (pc' := 36) (lv' := [(0, .ref 4), (1, .int a), (2, .int b), (3, .int y1), (4, .int y2)]) (st' := [.int y1]) rfl ?_
        exact En_ret (v := some (.int y1)) rfl rfl rfl ⟨h4, h5, y1, rfl, ⟨by first | exact q_c803b490ef h6 | omega, by first | exact q_e7edf0f95a h7 | omega⟩⟩
      · refine En_Ps 3 (pc' := 18) (lv' := [(0, .ref 4), (1, .int a), (2, .int b), (3, .int y1), (4, .int y2)]) (st' := [.int ((y2 &&& a))]) rfl ?_
        refine En_rng (l := 0) (u := 15) (andx_rng rfl (by omega) (by omega)) (fun z16 h17 h18 => ?_)
        refine En_Ps 1 (pc' := 19) (lv' := [(0, .ref 4), (1, .int a), (2, .int b), (3, .int y1), (4, .int y2)]) (st' := [.int b, .int z16]) rfl ?_
        refine En_icNe _ rfl rfl rfl (fun h19 => ?_) (fun h19 => ?_)
        · refine En_Ps 1 (pc' := 32) (lv' := [(4, .int ((y2 + Int32.ofInt 1))), (0, .ref 4), (1, .int a), (2, .int b), (3, .int y1)]) (st' := []) rfl ?_
          refine En_lv1 (addI rfl (by decide : (Int32.ofInt 1).toInt = 1) (by first | exact q_465ab79ac1 h8 | omega) (by first | exact q_f3f8e04381 h9 | omega)) (fun z20 h21 => ?_)
          refine En_Ps 1 (pc' := 5) (lv' := [(4, .int z20), (0, .ref 4), (1, .int a), (2, .int b), (3, .int y1)]) (st' := []) rfl ?_
          refine En_lv (lv := [(0, .ref 4), (1, .int a), (2, .int b), (3, .int y1), (4, .int z20)]) ⟨rfl, rfl, rfl, rfl, rfl, trivial⟩ ?_
          exact ih5 σ3 y1 z20 h4 h5 (by first | exact q_58e6e51dcc h6 | omega) (by first | exact q_36eb0a70bf h7 | omega) (by first | exact q_35104ce9d3 h21 h8 | omega) (by first | exact q_eba8fd3b5f h21 h15 h14 | omega) (by first | exact q_c5d740bdff h21 h10 | omega)
        · refine En_Ps 4 (pc' := 27) (lv' := [(0, .ref 4), (1, .int a), (2, .int b), (3, .int y1), (4, .int y2)]) (st' := [.int ((((Int32.ofInt 1)) <<< (y2 &&& 31))), .int y1]) rfl ?_
          refine En_rng (shl1_p 15 rfl (by omega) (by omega) (by decide)) (fun z22 h23 h24 => ?_)
          refine En_Ps 1 (pc' := 28) (lv' := [(0, .ref 4), (1, .int a), (2, .int b), (3, .int y1), (4, .int y2)]) (st' := [.int ((y1 ||| z22))]) rfl ?_
          refine En_rng (l := 0) (u := 65535) (or_rng 16 rfl rfl (by omega) (by omega) (by omega) (by omega) (by decide)) (fun z25 h26 h27 => ?_)
          refine En_Ps 2 (pc' := 32) (lv' := [(4, .int ((y2 + Int32.ofInt 1))), (3, .int z25), (0, .ref 4), (1, .int a), (2, .int b)]) (st' := []) rfl ?_
          refine En_lv1 (addI rfl (by decide : (Int32.ofInt 1).toInt = 1) (by first | exact q_465ab79ac1 h8 | omega) (by first | exact q_f3f8e04381 h9 | omega)) (fun z28 h29 => ?_)
          refine En_Ps 1 (pc' := 5) (lv' := [(4, .int z28), (3, .int z25), (0, .ref 4), (1, .int a), (2, .int b)]) (st' := []) rfl ?_
          refine En_lv (lv := [(0, .ref 4), (1, .int a), (2, .int b), (3, .int z25), (4, .int z28)]) ⟨rfl, rfl, rfl, rfl, rfl, trivial⟩ ?_
          exact ih5 σ3 z25 z28 h4 h5 (by first | exact q_58e6e51dcc h26 | omega) (by first | exact q_36eb0a70bf h27 | omega) (by first | exact q_35104ce9d3 h29 h8 | omega) (by first | exact q_eba8fd3b5f h29 h15 h14 | omega) (by first | exact q_c5d740bdff h29 h10 | omega)
  have := (by decide : (Int32.ofInt 0).toInt = 0)
  have := (by decide : (Int32.ofInt 0).toInt = 0)
  refine En_lv (lv := [(0, .ref 4), (1, .int a), (2, .int b), (3, .int ((Int32.ofInt 0))), (4, .int ((Int32.ofInt 0)))]) ⟨rfl, rfl, rfl, rfl, rfl, trivial⟩ ?_
  exact key5 (Int.toNat (16) + 1) σ0 ((Int32.ofInt 0)) ((Int32.ofInt 0)) hσ0 hF0 (by decide) (by decide) (by decide) (by decide) (by first | exact toN_lt _ | omega)
/-- DoorSchool$Rules.howMany(II)I -/
abbrev P_79 (σ0 : SG) (a : Int32) (b : Int32) : PO := fun v σ => WT σ ∧ Fr [] σ0 σ ∧ ∃ ret : Int32, v = some (.int ret) ∧ -ret.toInt ≤ 0 ∧ ret.toInt - 81 ≤ 0
set_option maxRecDepth 10000 in
set_option maxHeartbeats 4000000 in
theorem c_79 (σ0 : SG) (hσ0 : WT σ0) (a : Int32) (b : Int32) : En 1 22 none mr_79 (P_79 σ0 a b) 0 [(0, .ref 4), (1, .int a), (2, .int b)] [] σ0 := by
  have hF0 : Fr [] σ0 σ0 := Fr_rfl
  refine En_Ps 4 (pc' := 5) (lv' := [(4, .int ((Int32.ofInt 0))), (3, .int ((Int32.ofInt 0))), (0, .ref 4), (1, .int a), (2, .int b)]) (st' := []) rfl ?_
  have key5 : ∀ (n5 : Nat) (σ3 : SG) (y1 : Int32) (y2 : Int32), WT σ3 → Fr [] σ0 σ3 → 0 ≤ y1.toInt → y1.toInt ≤ 81 → 0 ≤ y2.toInt → y2.toInt ≤ 81 → y1.toInt - y2.toInt ≤ 0 → -y2.toInt + 81 < (n5 : Int) → En 1 22 none mr_79 (P_79 σ0 a b) 5 [(0, .ref 4), (1, .int a), (2, .int b), (3, .int y1), (4, .int y2)] [] σ3 := by
    intro n5
    induction n5 with
    | zero =>
      intro σ3 y1 y2 h4 h5 h6 h7 h8 h9 h10 h11
      first | exact (q_ffef14d449 h11 h9).elim | (exfalso; omega)
    | succ n5 ih5 =>
      intro σ3 y1 y2 h4 h5 h6 h7 h8 h9 h10 h11
      refine En_Ps 2 (pc' := 8) (lv' := [(0, .ref 4), (1, .int a), (2, .int b), (3, .int y1), (4, .int y2)]) (st' := [.ref 4, .int y2]) rfl ?_
      refine En_getI (j := 1) (l := 0) (u := 81) rfl rfl rfl tgz_4 (by decide +kernel) h4 (by decide +kernel) (fun z13 h12 h14 h15 => ?_)
      refine En_icGe _ rfl rfl rfl (fun h16 => ?_) (fun h16 => ?_)
      · refine En_Ps 1 (pc' := 39) (lv' := [(0, .ref 4), (1, .int a), (2, .int b), (3, .int y1), (4, .int y2)]) (st' := [.int y1]) rfl ?_
        exact En_ret (v := some (.int y1)) rfl rfl rfl ⟨h4, h5, y1, rfl, ⟨by first | exact q_c803b490ef h6 | omega, by first | exact q_96a57adcaf h7 | omega⟩⟩
      · refine En_Ps 1 (pc' := 15) (lv' := [(0, .ref 4), (1, .int a), (2, .int b), (3, .int y1), (4, .int y2)]) (st' := [.ref 4]) rfl ?_
        refine En_getU (j := 4) (u := 7) (g' := 7) (q := 0) rfl rfl rfl tgz_4 (by decide +kernel) h4 (by decide +kernel) (by decide +kernel) (fun h17 => ?_)
        refine En_Ps 1 (pc' := 20) (lv' := [(0, .ref 4), (1, .int a), (2, .int b), (3, .int y1), (4, .int y2)]) (st' := [.int y2, .ref 7]) rfl ?_
        refine En_iald (l := (-2147483648)) (u := 2147483647) rfl rfl tgz_7 (by decide +kernel) h4 (by first | exact q_58e6e51dcc h8 | omega) (lnI (by decide +kernel : LN _ = 81) (by first | exact q_a0e855914a h16 h15 | omega)) (FTsgl (by decide +kernel)) (fun z20 h19 h21 h22 => ?_)
        refine En_Ps 2 (pc' := 23) (lv' := [(0, .ref 4), (1, .int a), (2, .int b), (3, .int y1), (4, .int y2)]) (st' := [.int b, .int a, .int z20]) rfl ?_
        refine En_callS rfl rfl rfl rfl rfl rfl rfl rfl rfl (c_100 σ3 h4 z20 a b) (by decide) (by decide) (fun v24 σ25 h23 => ?_)
        obtain ⟨h26, h27, z29, rfl, h28⟩ := h23
        have h30 := Fr_trans h5 h27 (by decide +kernel)
        refine En_iEq _ rfl rfl (fun h31 => ?_) (fun h31 => ?_)
        · refine En_Ps 1 (pc' := 35) (lv' := [(4, .int ((y2 + Int32.ofInt 1))), (0, .ref 4), (1, .int a), (2, .int b), (3, .int y1)]) (st' := []) rfl ?_
          refine En_lv1 (addI rfl (by decide : (Int32.ofInt 1).toInt = 1) (by first | exact q_465ab79ac1 h8 | omega) (by first | exact q_d778ff18c8 h9 | omega)) (fun z32 h33 => ?_)
          refine En_Ps 1 (pc' := 5) (lv' := [(4, .int z32), (0, .ref 4), (1, .int a), (2, .int b), (3, .int y1)]) (st' := []) rfl ?_
          refine En_lv (lv := [(0, .ref 4), (1, .int a), (2, .int b), (3, .int y1), (4, .int z32)]) ⟨rfl, rfl, rfl, rfl, rfl, trivial⟩ ?_
          exact ih5 σ25 y1 z32 h26 h30 (by first | exact q_58e6e51dcc h6 | omega) (by first | exact q_938d18a0b8 h7 | omega) (by first | exact q_35104ce9d3 h33 h8 | omega) (by first | exact q_798b104d48 h33 h16 h15 | omega) (by first | exact q_3a5e225620 h10 h33 | omega) (by first | exact q_4ff790945b h33 h11 | omega)
        · refine En_Ps 1 (pc' := 32) (lv' := [(3, .int ((y1 + Int32.ofInt 1))), (0, .ref 4), (1, .int a), (2, .int b), (4, .int y2)]) (st' := []) rfl ?_
          refine En_lv1 (addI rfl (by decide : (Int32.ofInt 1).toInt = 1) (by first | exact q_465ab79ac1 h6 | omega) (by first | exact q_d778ff18c8 h7 | omega)) (fun z34 h35 => ?_)
          refine En_Ps 1 (pc' := 35) (lv' := [(4, .int ((y2 + Int32.ofInt 1))), (3, .int z34), (0, .ref 4), (1, .int a), (2, .int b)]) (st' := []) rfl ?_
          refine En_lv1 (addI rfl (by decide : (Int32.ofInt 1).toInt = 1) (by first | exact q_465ab79ac1 h8 | omega) (by first | exact q_d778ff18c8 h9 | omega)) (fun z36 h37 => ?_)
          refine En_Ps 1 (pc' := 5) (lv' := [(4, .int z36), (3, .int z34), (0, .ref 4), (1, .int a), (2, .int b)]) (st' := []) rfl ?_
          refine En_lv (lv := [(0, .ref 4), (1, .int a), (2, .int b), (3, .int z34), (4, .int z36)]) ⟨rfl, rfl, rfl, rfl, rfl, trivial⟩ ?_
          exact ih5 σ25 z34 z36 h26 h30 (by first | exact q_35104ce9d3 h35 h6 | omega) (by first | exact q_d53ed2728c h35 h10 h16 h15 | omega) (by first | exact q_35104ce9d3 h37 h8 | omega) (by first | exact q_798b104d48 h37 h16 h15 | omega) (by first | exact q_1ff421e7a2 h35 h37 h10 | omega) (by first | exact q_4ff790945b h37 h11 | omega)
  have := (by decide : (Int32.ofInt 0).toInt = 0)
  have := (by decide : (Int32.ofInt 0).toInt = 0)
  refine En_lv (lv := [(0, .ref 4), (1, .int a), (2, .int b), (3, .int ((Int32.ofInt 0))), (4, .int ((Int32.ofInt 0)))]) ⟨rfl, rfl, rfl, rfl, rfl, trivial⟩ ?_
  exact key5 (Int.toNat (81) + 1) σ0 ((Int32.ofInt 0)) ((Int32.ofInt 0)) hσ0 hF0 (by decide) (by decide) (by decide) (by decide) (by omega) (by first | exact toN_lt _ | omega)
/-- DoorSchool$Rules.placeOf(I)I -/
abbrev P_81 (σ0 : SG) (a : Int32) : PO := fun v σ => WT σ ∧ Fr [] σ0 σ ∧ ∃ ret : Int32, v = some (.int ret) ∧ -ret.toInt - 1 ≤ 0 ∧ ret.toInt - 80 ≤ 0
set_option maxRecDepth 10000 in
set_option maxHeartbeats 4000000 in
theorem c_81 (σ0 : SG) (hσ0 : WT σ0) (a : Int32) : En 0 0 none mr_81 (P_81 σ0 a) 0 [(0, .ref 4), (1, .int a)] [] σ0 := by
  have hF0 : Fr [] σ0 σ0 := Fr_rfl
  refine En_Ps 2 (pc' := 2) (lv' := [(2, .int ((Int32.ofInt 0))), (0, .ref 4), (1, .int a)]) (st' := []) rfl ?_
  have key2 : ∀ (n2 : Nat) (σ2 : SG) (y1 : Int32), WT σ2 → Fr [] σ0 σ2 → 0 ≤ y1.toInt → y1.toInt ≤ 81 → -y1.toInt + 81 < (n2 : Int) → En 0 0 none mr_81 (P_81 σ0 a) 2 [(0, .ref 4), (1, .int a), (2, .int y1)] [] σ2 := by
    intro n2
    induction n2 with
    | zero =>
      intro σ2 y1 h3 h4 h5 h6 h7
      first | exact (q_ffef14d449 h7 h6).elim | (exfalso; omega)
    | succ n2 ih2 =>
      intro σ2 y1 h3 h4 h5 h6 h7
      refine En_Ps 2 (pc' := 4) (lv' := [(0, .ref 4), (1, .int a), (2, .int y1)]) (st' := [.ref 4, .int y1]) rfl ?_
      refine En_getI (j := 1) (l := 0) (u := 81) rfl rfl rfl tgz_4 (by decide +kernel) h3 (by decide +kernel) (fun z9 h8 h10 h11 => ?_)
      refine En_icGe _ rfl rfl rfl (fun h12 => ?_) (fun h12 => ?_)
      · refine En_Ps 1 (pc' := 29) (lv' := [(0, .ref 4), (1, .int a), (2, .int y1)]) (st' := [.int ((Int32.ofInt (-1)))]) rfl ?_
        refine En_top (by decide : (Int32.ofInt (-1)).toInt = -1) (fun z13 h14 => ?_)
        exact En_ret (v := some (.int z13)) rfl rfl rfl ⟨h3, h4, z13, rfl, ⟨by first | exact q_6ba54b61e9 h14 | omega, by first | exact q_ed1bd306dd h14 | omega⟩⟩
      · refine En_Ps 1 (pc' := 11) (lv' := [(0, .ref 4), (1, .int a), (2, .int y1)]) (st' := [.ref 4]) rfl ?_
        refine En_getU (j := 4) (u := 7) (g' := 7) (q := 0) rfl rfl rfl tgz_4 (by decide +kernel) h3 (by decide +kernel) (by decide +kernel) (fun h15 => ?_)
        refine En_Ps 1 (pc' := 15) (lv' := [(0, .ref 4), (1, .int a), (2, .int y1)]) (st' := [.int y1, .ref 7]) rfl ?_
        refine En_iald (l := (-2147483648)) (u := 2147483647) rfl rfl tgz_7 (by decide +kernel) h3 (by first | exact q_58e6e51dcc h5 | omega) (lnI (by decide +kernel : LN _ = 81) (by first | exact q_a0e855914a h12 h11 | omega)) (FTsgl (by decide +kernel)) (fun z18 h17 h19 h20 => ?_)
        refine En_Ps 1 (pc' := 17) (lv' := [(0, .ref 4), (1, .int a), (2, .int y1)]) (st' := [.int a, .int z18]) rfl ?_
        refine En_icNe _ rfl rfl rfl (fun h21 => ?_) (fun h21 => ?_)
        · refine En_Ps 1 (pc' := 25) (lv' := [(2, .int ((y1 + Int32.ofInt 1))), (0, .ref 4), (1, .int a)]) (st' := []) rfl ?_
          refine En_lv1 (addI rfl (by decide : (Int32.ofInt 1).toInt = 1) (by first | exact q_465ab79ac1 h5 | omega) (by first | exact q_d778ff18c8 h6 | omega)) (fun z22 h23 => ?_)
          refine En_Ps 1 (pc' := 2) (lv' := [(2, .int z22), (0, .ref 4), (1, .int a)]) (st' := []) rfl ?_
          refine En_lv (lv := [(0, .ref 4), (1, .int a), (2, .int z22)]) ⟨rfl, rfl, rfl, trivial⟩ ?_
          exact ih2 σ2 z22 h3 h4 (by first | exact q_35104ce9d3 h23 h5 | omega) (by first | exact q_798b104d48 h23 h12 h11 | omega) (by first | exact q_4ff790945b h23 h7 | omega)
        · refine En_Ps 1 (pc' := 21) (lv' := [(0, .ref 4), (1, .int a), (2, .int y1)]) (st' := [.int y1]) rfl ?_
          exact En_ret (v := some (.int y1)) rfl rfl rfl ⟨h3, h4, y1, rfl, ⟨by first | exact q_565e7b05df h5 | omega, by first | exact q_6b56ae27a7 h12 h11 | omega⟩⟩
  have := (by decide : (Int32.ofInt 0).toInt = 0)
  refine En_lv (lv := [(0, .ref 4), (1, .int a), (2, .int ((Int32.ofInt 0)))]) ⟨rfl, rfl, rfl, trivial⟩ ?_
  exact key2 (Int.toNat (81) + 1) σ0 ((Int32.ofInt 0)) hσ0 hF0 (by decide) (by decide) (by first | exact toN_lt _ | omega)

