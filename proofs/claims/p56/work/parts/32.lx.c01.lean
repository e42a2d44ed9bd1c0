/-- DoorSchool$Learner.errorsBy(II)I -/
abbrev P_20 (σ0 : SG) (a : Int32) (b : Int32) : PO := fun v σ => WT σ ∧ Fr [] σ0 σ ∧ ∃ ret : Int32, v = some (.int ret) ∧ True
set_option maxRecDepth 10000 in
set_option maxHeartbeats 4000000 in
theorem c_20 (σ0 : SG) (hσ0 : WT σ0) (a : Int32) (b : Int32) : En 3 70 none mr_20 (P_20 σ0 a b) 0 [(0, .ref 8), (1, .int a), (2, .int b)] [] σ0 := by
  have hF0 : Fr [] σ0 σ0 := Fr_rfl
  refine En_Ps 4 (pc' := 5) (lv' := [(4, .int ((Int32.ofInt 0))), (3, .int ((Int32.ofInt 0))), (0, .ref 8), (1, .int a), (2, .int b)]) (st' := []) rfl ?_
  have key5 : ∀ (n5 : Nat) (σ3 : SG) (y1 : Int32) (y2 : Int32), WT σ3 → Fr [] σ0 σ3 → 0 ≤ y2.toInt → y2.toInt ≤ 81 → -y2.toInt + 81 < (n5 : Int) → En 3 70 none mr_20 (P_20 σ0 a b) 5 [(0, .ref 8), (1, .int a), (2, .int b), (3, .int y1), (4, .int y2)] [] σ3 := by
    intro n5
    induction n5 with
    | zero =>
      intro σ3 y1 y2 h4 h5 h6 h7 h8
      first | exact (q_ffef14d449 h8 h7).elim | (exfalso; omega)
    | succ n5 ih5 =>
      intro σ3 y1 y2 h4 h5 h6 h7 h8
      refine En_Ps 2 (pc' := 8) (lv' := [(0, .ref 8), (1, .int a), (2, .int b), (3, .int y1), (4, .int y2)]) (st' := [.ref 8, .int y2]) rfl ?_
      refine En_getU (j := 0) (u := 4) (g' := 4) (q := 0) rfl rfl rfl tgz_8 (by decide +kernel) h4 (by decide +kernel) (by decide +kernel) (fun h9 => ?_)
      refine En_getI (j := 1) (l := 0) (u := 81) rfl rfl rfl tgz_4 (by decide +kernel) h4 (by decide +kernel) (fun z12 h11 h13 h14 => ?_)
      refine En_icGe _ rfl rfl rfl (fun h15 => ?_) (fun h15 => ?_)
      · refine En_Ps 1 (pc' := 57) (lv' := [(0, .ref 8), (1, .int a), (2, .int b), (3, .int y1), (4, .int y2)]) (st' := [.int y1]) rfl ?_
        exact En_ret (v := some (.int y1)) rfl rfl rfl ⟨h4, h5, y1, rfl, trivial⟩
      · refine En_Ps 5 (pc' := 22) (lv' := [(0, .ref 8), (1, .int a), (2, .int b), (3, .int y1), (4, .int y2)]) (st' := [.ref 8, .int b, .int a, .ref 8, .int y1]) rfl ?_
        refine En_getK (j := 0) h9 rfl rfl rfl tgz_8 (by decide +kernel) ?_
        refine En_getU (j := 4) (u := 7) (g' := 7) (q := 0) rfl rfl rfl tgz_4 (by decide +kernel) h4 (by decide +kernel) (by decide +kernel) (fun h16 => ?_)
        refine En_Ps 1 (pc' := 30) (lv' := [(0, .ref 8), (1, .int a), (2, .int b), (3, .int y1), (4, .int y2)]) (st' := [.int y2, .ref 7, .int b, .int a, .ref 8, .int y1]) rfl ?_
        refine En_iald (l := (-2147483648)) (u := 2147483647) rfl rfl tgz_7 (by decide +kernel) h4 (by first | exact q_58e6e51dcc h6 | omega) (lnI (by decide +kernel : LN _ = 81) (by first | exact q_a0e855914a h15 h14 | omega)) (FTsgl (by decide +kernel)) (fun z19 h18 h20 h21 => ?_)
        refine En_callV rfl rfl rfl rfl rfl rfl rfl rfl tgz_8 (by decide +kernel) rfl (c_23 σ3 h4 a b z19) (by decide) (by decide) (fun v23 σ24 h22 => ?_)
        obtain ⟨h25, h26, z28, rfl, h27⟩ := h22
        have h29 := Fr_trans h5 h26 (by decide +kernel)
        refine En_Ps 1 (pc' := 35) (lv' := [(0, .ref 8), (1, .int a), (2, .int b), (3, .int y1), (4, .int y2)]) (st' := [.ref 8, .int z28, .int y1]) rfl ?_
        refine En_getK (j := 0) ((h26 _ _ (inW tgz_8 (by decide +kernel))).trans h9) rfl rfl rfl tgz_8 (by decide +kernel) ?_
        refine En_getK (j := 4) ((h26 _ _ (inW tgz_4 (by decide +kernel))).trans h16) rfl rfl rfl tgz_4 (by decide +kernel) ?_
        refine En_Ps 1 (pc' := 43) (lv' := [(0, .ref 8), (1, .int a), (2, .int b), (3, .int y1), (4, .int y2)]) (st' := [.int y2, .ref 7, .int z28, .int y1]) rfl ?_
        refine En_ialdK ((h26 _ _ (inWa tgz_7 (by decide +kernel))).trans h18) rfl rfl tgz_7 (by decide +kernel) h25 (by first | exact q_58e6e51dcc h6 | omega) (lnI (by decide +kernel : LN _ = 81) (by first | exact q_a0e855914a h15 h14 | omega)) ?_
        refine En_Ps 1 (pc' := 45) (lv' := [(0, .ref 8), (1, .int a), (2, .int b), (3, .int y1), (4, .int y2)]) (st' := [.int ((z28 ^^^ z19)), .int y1]) rfl ?_
        refine En_hav (fun z31 => ?_)
        refine En_callS rfl rfl rfl rfl rfl rfl rfl rfl rfl (c_7 σ24 h25 z31) (by decide) (by decide) (fun v33 σ34 h32 => ?_)
        obtain ⟨h35, h36, z38, rfl, h37⟩ := h32
        have h39 := Fr_trans h29 h36 (by decide +kernel)
        refine En_Ps 1 (pc' := 49) (lv' := [(0, .ref 8), (1, .int a), (2, .int b), (3, .int y1), (4, .int y2)]) (st' := [.int ((y1 + z38))]) rfl ?_
        refine En_hav (fun z40 => ?_)
        refine En_Ps 2 (pc' := 53) (lv' := [(4, .int ((y2 + Int32.ofInt 1))), (3, .int z40), (0, .ref 8), (1, .int a), (2, .int b)]) (st' := []) rfl ?_
        refine En_lv1 (addI rfl (by decide : (Int32.ofInt 1).toInt = 1) (by first | exact q_465ab79ac1 h6 | omega) (by first | exact q_d778ff18c8 h7 | omega)) (fun z41 h42 => ?_)
        refine En_Ps 1 (pc' := 5) (lv' := [(4, .int z41), (3, .int z40), (0, .ref 8), (1, .int a), (2, .int b)]) (st' := []) rfl ?_
        refine En_lv (lv := [(0, .ref 8), (1, .int a), (2, .int b), (3, .int z40), (4, .int z41)]) ⟨rfl, rfl, rfl, rfl, rfl, trivial⟩ ?_
        exact ih5 σ34 z40 z41 h35 h39 (by first | exact q_35104ce9d3 h42 h6 | omega) (by first | exact q_798b104d48 h42 h15 h14 | omega) (by first | exact q_4ff790945b h42 h8 | omega)
  have := (by decide : (Int32.ofInt 0).toInt = 0)
  have := (by decide : (Int32.ofInt 0).toInt = 0)
  refine En_lv (lv := [(0, .ref 8), (1, .int a), (2, .int b), (3, .int ((Int32.ofInt 0))), (4, .int ((Int32.ofInt 0)))]) ⟨rfl, rfl, rfl, rfl, rfl, trivial⟩ ?_
  exact key5 (Int.toNat (81) + 1) σ0 ((Int32.ofInt 0)) ((Int32.ofInt 0)) hσ0 hF0 (by decide) (by decide) (by first | exact toN_lt _ | omega)
/-- DoorSchool$Lessons.said(I)I -/
abbrev P_39 (σ0 : SG) (s : Nat) (a : Int32) : PO := fun v σ => WT σ ∧ Fr [] σ0 σ ∧ ∃ ret : Int32, v = some (.int ret) ∧ -ret.toInt ≤ 0 ∧ ret.toInt - 65535 ≤ 0
set_option maxRecDepth 10000 in
set_option maxHeartbeats 4000000 in
theorem c_39 (σ0 : SG) (hσ0 : WT σ0) (s : Nat) (hs : TG s = 20) (a : Int32) : En 0 0 none mr_39 (P_39 σ0 s a) 0 [(0, .ref s), (1, .int a)] [] σ0 := by
  have hF0 : Fr [] σ0 σ0 := Fr_rfl
  refine En_Ps 4 (pc' := 4) (lv' := [(3, .int ((Int32.ofInt 0))), (2, .int ((Int32.ofInt 0))), (0, .ref s), (1, .int a)]) (st' := []) rfl ?_
  have key4 : ∀ (n4 : Nat) (σ3 : SG) (y1 : Int32) (y2 : Int32), WT σ3 → Fr [] σ0 σ3 → 0 ≤ y1.toInt → y1.toInt ≤ 65535 → 0 ≤ y2.toInt → y2.toInt ≤ 13 → -y2.toInt + 13 < (n4 : Int) → En 0 0 none mr_39 (P_39 σ0 s a) 4 [(0, .ref s), (1, .int a), (2, .int y1), (3, .int y2)] [] σ3 := by
    intro n4
    induction n4 with
    | zero =>
      intro σ3 y1 y2 h4 h5 h6 h7 h8 h9 h10
      first | exact (q_5583ec5aac h10 h9).elim | (exfalso; omega)
    | succ n4 ih4 =>
      intro σ3 y1 y2 h4 h5 h6 h7 h8 h9 h10
      refine En_Ps 2 (pc' := 6) (lv' := [(0, .ref s), (1, .int a), (2, .int y1), (3, .int y2)]) (st' := [.ref s, .int y2]) rfl ?_
      refine En_getI (j := 2) (l := 0) (u := 13) rfl rfl rfl hs (by decide +kernel) h4 (by decide +kernel) (fun z12 h11 h13 h14 => ?_)
      refine En_icGe _ rfl rfl rfl (fun h15 => ?_) (fun h15 => ?_)
      · refine En_Ps 1 (pc' := 40) (lv' := [(0, .ref s), (1, .int a), (2, .int y1), (3, .int y2)]) (st' := [.int y1]) rfl ?_
        exact En_ret (v := some (.int y1)) rfl rfl rfl ⟨h4, h5, y1, rfl, ⟨by first | exact q_c803b490ef h6 | omega, by first | exact q_e7edf0f95a h7 | omega⟩⟩
      · refine En_Ps 1 (pc' := 13) (lv' := [(0, .ref s), (1, .int a), (2, .int y1), (3, .int y2)]) (st' := [.ref s]) rfl ?_
        refine En_getR (j := 1) (g' := 22) (u := 0) rfl rfl rfl hs (by decide +kernel) h4 (by decide +kernel) (fun a17 h16 ha17 => ?_)
        refine En_Ps 1 (pc' := 17) (lv' := [(0, .ref s), (1, .int a), (2, .int y1), (3, .int y2)]) (st' := [.int y2, .ref a17]) rfl ?_
        refine En_iald (l := 0) (u := 1) rfl rfl ha17 (by decide +kernel) h4 (by first | exact q_58e6e51dcc h8 | omega) (lnI (by decide +kernel : LN _ = 13) (by first | exact q_314deb8953 h15 h14 | omega)) (FTsgl (by decide +kernel)) (fun z19 h18 h20 h21 => ?_)
        refine En_Ps 1 (pc' := 19) (lv' := [(0, .ref s), (1, .int a), (2, .int y1), (3, .int y2)]) (st' := [.int a, .int z19]) rfl ?_
        refine En_icNe _ rfl rfl rfl (fun h22 => ?_) (fun h22 => ?_)
        · refine En_Ps 1 (pc' := 36) (lv' := [(3, .int ((y2 + Int32.ofInt 1))), (0, .ref s), (1, .int a), (2, .int y1)]) (st' := []) rfl ?_
          refine En_lv1 (addI rfl (by decide : (Int32.ofInt 1).toInt = 1) (by first | exact q_465ab79ac1 h8 | omega) (by first | exact q_d22f73d43b h9 | omega)) (fun z23 h24 => ?_)
          refine En_Ps 1 (pc' := 4) (lv' := [(3, .int z23), (0, .ref s), (1, .int a), (2, .int y1)]) (st' := []) rfl ?_
          refine En_lv (lv := [(0, .ref s), (1, .int a), (2, .int y1), (3, .int z23)]) ⟨rfl, rfl, rfl, rfl, trivial⟩ ?_
          exact ih4 σ3 y1 z23 h4 h5 (by first | exact q_58e6e51dcc h6 | omega) (by first | exact q_36eb0a70bf h7 | omega) (by first | exact q_35104ce9d3 h24 h8 | omega) (by first | exact q_96e029a9d9 h24 h15 h14 | omega) (by first | exact q_20fedeb4b2 h24 h10 | omega)
        · refine En_Ps 3 (pc' := 25) (lv' := [(0, .ref s), (1, .int a), (2, .int y1), (3, .int y2)]) (st' := [.ref s, .int ((Int32.ofInt 1)), .int y1]) rfl ?_
          refine En_getR (j := 0) (g' := 21) (u := 0) rfl rfl rfl hs (by decide +kernel) h4 (by decide +kernel) (fun a26 h25 ha26 => ?_)
          refine En_Ps 1 (pc' := 29) (lv' := [(0, .ref s), (1, .int a), (2, .int y1), (3, .int y2)]) (st' := [.int y2, .ref a26, .int ((Int32.ofInt 1)), .int y1]) rfl ?_
          refine En_iald (l := 0) (u := 15) rfl rfl ha26 (by decide +kernel) h4 (by first | exact q_58e6e51dcc h8 | omega) (lnI (by decide +kernel : LN _ = 13) (by first | exact q_314deb8953 h15 h14 | omega)) (FTsgl (by decide +kernel)) (fun z28 h27 h29 h30 => ?_)
          refine En_Ps 1 (pc' := 31) (lv' := [(0, .ref s), (1, .int a), (2, .int y1), (3, .int y2)]) (st' := [.int ((((Int32.ofInt 1)) <<< (z28 &&& 31))), .int y1]) rfl ?_
          refine En_rng (shl1_p 15 rfl (by omega) (by omega) (by decide)) (fun z31 h32 h33 => ?_)
          refine En_Ps 1 (pc' := 32) (lv' := [(0, .ref s), (1, .int a), (2, .int y1), (3, .int y2)]) (st' := [.int ((y1 ||| z31))]) rfl ?_
          refine En_rng (l := 0) (u := 65535) (or_rng 16 rfl rfl (by omega) (by omega) (by omega) (by omega) (by decide)) (fun z34 h35 h36 => ?_)
          refine En_Ps 2 (pc' := 36) (lv' := [(3, .int ((y2 + Int32.ofInt 1))), (2, .int z34), (0, .ref s), (1, .int a)]) (st' := []) rfl ?_
          refine En_lv1 (addI rfl (by decide : (Int32.ofInt 1).toInt = 1) (by first | exact q_465ab79ac1 h8 | omega) (by first | exact q_d22f73d43b h9 | omega)) (fun z37 h38 => ?_)
          refine En_Ps 1 (pc' := 4) (lv' := [(3, .int z37), (2, .int z34), (0, .ref s), (1, .int a)]) (st' := []) rfl ?_
          refine En_lv (lv := [(0, .ref s), (1, .int a), (2, .int z34), (3, .int z37)]) ⟨rfl, rfl, rfl, rfl, trivial⟩ ?_
          exact ih4 σ3 z34 z37 h4 h5 (by first | exact q_58e6e51dcc h35 | omega) (by first | exact q_36eb0a70bf h36 | omega) (by first | exact q_35104ce9d3 h38 h8 | omega) (by first | exact q_96e029a9d9 h38 h15 h14 | omega) (by first | exact q_20fedeb4b2 h38 h10 | omega)
  have := (by decide : (Int32.ofInt 0).toInt = 0)
  have := (by decide : (Int32.ofInt 0).toInt = 0)
  refine En_lv (lv := [(0, .ref s), (1, .int a), (2, .int ((Int32.ofInt 0))), (3, .int ((Int32.ofInt 0)))]) ⟨rfl, rfl, rfl, rfl, trivial⟩ ?_
  exact key4 (Int.toNat (13) + 1) σ0 ((Int32.ofInt 0)) ((Int32.ofInt 0)) hσ0 hF0 (by decide) (by decide) (by decide) (by decide) (by first | exact toN_lt _ | omega)
/-- DoorSchool$Lessons.latestOf(I)I -/
abbrev P_36 (σ0 : SG) (s : Nat) (a : Int32) : PO := fun v σ => WT σ ∧ Fr [] σ0 σ ∧ ∃ ret : Int32, v = some (.int ret) ∧ -ret.toInt - 1 ≤ 0 ∧ ret.toInt - 12 ≤ 0
set_option maxRecDepth 10000 in
set_option maxHeartbeats 4000000 in
theorem c_36 (σ0 : SG) (hσ0 : WT σ0) (s : Nat) (hs : TG s = 20) (a : Int32) : En 0 0 none mr_36 (P_36 σ0 s a) 0 [(0, .ref s), (1, .int a)] [] σ0 := by
  have hF0 : Fr [] σ0 σ0 := Fr_rfl
  refine En_Ps 1 (pc' := 1) (lv' := [(0, .ref s), (1, .int a)]) (st' := [.ref s]) rfl ?_
  refine En_getI (j := 2) (l := 0) (u := 13) rfl rfl rfl hs (by decide +kernel) hσ0 (by decide +kernel) (fun z2 h1 h3 h4 => ?_)
  refine En_Ps 2 (pc' := 6) (lv' := [(0, .ref s), (1, .int a)]) (st' := [.int ((z2 - ((Int32.ofInt 1))))]) rfl ?_
  refine En_top (subI rfl (by decide : (Int32.ofInt 1).toInt = 1) (by first | exact q_93f9478bef h3 | omega) (by first | exact q_36ce509e97 h4 | omega)) (fun z5 h6 => ?_)
  refine En_Ps 1 (pc' := 7) (lv' := [(2, .int z5), (0, .ref s), (1, .int a)]) (st' := []) rfl ?_
  have key7 : ∀ (n7 : Nat) (σ8 : SG) (y7 : Int32), WT σ8 → Fr [] σ0 σ8 → (σ8 s)[2]? = some (.int z2) → (-1) ≤ y7.toInt → y7.toInt ≤ 12 → y7.toInt - z2.toInt + 1 ≤ 0 → y7.toInt + 1 < (n7 : Int) → En 0 0 none mr_36 (P_36 σ0 s a) 7 [(0, .ref s), (1, .int a), (2, .int y7)] [] σ8 := by
    intro n7
    induction n7 with
    | zero =>
      intro σ8 y7 h9 h10 h11 h12 h13 h14 h15
      first | exact (q_d30ca37d8c h12 h15).elim | (exfalso; omega)
    | succ n7 ih7 =>
      intro σ8 y7 h9 h10 h11 h12 h13 h14 h15
      refine En_Ps 1 (pc' := 8) (lv' := [(0, .ref s), (1, .int a), (2, .int y7)]) (st' := [.int y7]) rfl ?_
      refine En_iLt _ rfl rfl (fun h16 => ?_) (fun h16 => ?_)
      · refine En_Ps 1 (pc' := 30) (lv' := [(0, .ref s), (1, .int a), (2, .int y7)]) (st' := [.int ((Int32.ofInt (-1)))]) rfl ?_
        refine En_top (by decide : (Int32.ofInt (-1)).toInt = -1) (fun z17 h18 => ?_)
        exact En_ret (v := some (.int z17)) rfl rfl rfl ⟨h9, h10, z17, rfl, ⟨by first | exact q_6ba54b61e9 h18 | omega, by first | exact q_af8bea0708 h18 | omega⟩⟩
      · refine En_Ps 1 (pc' := 12) (lv' := [(0, .ref s), (1, .int a), (2, .int y7)]) (st' := [.ref s]) rfl ?_
        refine En_getR (j := 0) (g' := 21) (u := 0) rfl rfl rfl hs (by decide +kernel) h9 (by decide +kernel) (fun a20 h19 ha20 => ?_)
        refine En_Ps 1 (pc' := 16) (lv' := [(0, .ref s), (1, .int a), (2, .int y7)]) (st' := [.int y7, .ref a20]) rfl ?_
        refine En_iald (l := 0) (u := 15) rfl rfl ha20 (by decide +kernel) h9 (by first | exact q_58e6e51dcc h16 | omega) (lnI (by decide +kernel : LN _ = 13) (by first | exact q_eca5b91a1e h13 | omega)) (FTsgl (by decide +kernel)) (fun z22 h21 h23 h24 => ?_)
        refine En_Ps 1 (pc' := 18) (lv' := [(0, .ref s), (1, .int a), (2, .int y7)]) (st' := [.int a, .int z22]) rfl ?_
        refine En_icNe _ rfl rfl rfl (fun h25 => ?_) (fun h25 => ?_)
        · refine En_Ps 1 (pc' := 26) (lv' := [(2, .int ((y7 + Int32.ofInt (-1)))), (0, .ref s), (1, .int a)]) (st' := []) rfl ?_
          refine En_lv1 (addI rfl (by decide : (Int32.ofInt (-1)).toInt = -1) (by first | exact q_069e58d060 h16 | omega) (by first | exact q_22df3f42b4 h13 | omega)) (fun z26 h27 => ?_)
          refine En_Ps 1 (pc' := 7) (lv' := [(2, .int z26), (0, .ref s), (1, .int a)]) (st' := []) rfl ?_
          refine En_lv (lv := [(0, .ref s), (1, .int a), (2, .int z26)]) ⟨rfl, rfl, rfl, trivial⟩ ?_
          exact ih7 σ8 z26 h9 h10 h11 (by first | exact q_1dc8c15c2b h27 h16 | omega) (by first | exact q_bf87cd541d h27 h13 | omega) (by first | exact q_ad24c9502e h14 h27 | omega) (by first | exact q_03fcbe2dc3 h27 h15 | omega)
        · refine En_Ps 1 (pc' := 22) (lv' := [(0, .ref s), (1, .int a), (2, .int y7)]) (st' := [.int y7]) rfl ?_
          exact En_ret (v := some (.int y7)) rfl rfl rfl ⟨h9, h10, y7, rfl, ⟨by first | exact q_565e7b05df h16 | omega, by first | exact q_16c941e15c h13 | omega⟩⟩
  refine En_lv (lv := [(0, .ref s), (1, .int a), (2, .int z5)]) ⟨rfl, rfl, rfl, trivial⟩ ?_
  exact key7 (Int.toNat (z5.toInt + 1) + 1) σ0 z5 hσ0 hF0 h1 (by first | exact q_e2c277696c h6 h3 | omega) (by first | exact q_c1a695b5f4 h6 h4 | omega) (by first | exact q_8e6f8e4fd9 h6 | omega) (by first | exact toN_lt _ | omega)
/-- DoorSchool$Lessons.nearestTo(I)I -/
abbrev P_37 (σ0 : SG) (s : Nat) (a : Int32) : PO := fun v σ => WT σ ∧ Fr [] σ0 σ ∧ ∃ ret : Int32, v = some (.int ret) ∧ -ret.toInt - 1 ≤ 0 ∧ ret.toInt - 12 ≤ 0
set_option maxRecDepth 10000 in
set_option maxHeartbeats 4000000 in
theorem c_37 (σ0 : SG) (hσ0 : WT σ0) (s : Nat) (hs : TG s = 20) (a : Int32) : En 1 20 none mr_37 (P_37 σ0 s a) 0 [(0, .ref s), (1, .int a)] [] σ0 := by
  have hF0 : Fr [] σ0 σ0 := Fr_rfl
  refine En_Ps 6 (pc' := 7) (lv' := [(4, .int ((Int32.ofInt 0))), (3, .int ((Int32.ofInt 5))), (2, .int ((Int32.ofInt (-1)))), (0, .ref s), (1, .int a)]) (st' := []) rfl ?_
  have key7 : ∀ (n7 : Nat) (σ4 : SG) (y1 : Int32) (y2 : Int32) (y3 : Int32), WT σ4 → Fr [] σ0 σ4 → (-1) ≤ y1.toInt → y1.toInt ≤ 13 → 0 ≤ y2.toInt → y2.toInt ≤ 5 → 0 ≤ y3.toInt → y3.toInt ≤ 13 → y1.toInt - y3.toInt + 1 ≤ 0 → -y3.toInt + 13 < (n7 : Int) → En 1 20 none mr_37 (P_37 σ0 s a) 7 [(0, .ref s), (1, .int a), (2, .int y1), (3, .int y2), (4, .int y3)] [] σ4 := by
    intro n7
    induction n7 with
    | zero =>
      intro σ4 y1 y2 y3 h5 h6 h7 h8 h9 h10 h11 h12 h13 h14
      first | exact (q_5583ec5aac h14 h12).elim | (exfalso; omega)
    | succ n7 ih7 =>
      intro σ4 y1 y2 y3 h5 h6 h7 h8 h9 h10 h11 h12 h13 h14
      refine En_Ps 2 (pc' := 10) (lv' := [(0, .ref s), (1, .int a), (2, .int y1), (3, .int y2), (4, .int y3)]) (st' := [.ref s, .int y3]) rfl ?_
      refine En_getI (j := 2) (l := 0) (u := 13) rfl rfl rfl hs (by decide +kernel) h5 (by decide +kernel) (fun z16 h15 h17 h18 => ?_)
      refine En_icGe _ rfl rfl rfl (fun h19 => ?_) (fun h19 => ?_)
      · refine En_Ps 1 (pc' := 49) (lv' := [(0, .ref s), (1, .int a), (2, .int y1), (3, .int y2), (4, .int y3)]) (st' := [.int y1]) rfl ?_
        exact En_ret (v := some (.int y1)) rfl rfl rfl ⟨h5, h6, y1, rfl, ⟨by first | exact q_909eef6c0e h7 | omega, by first | exact q_e00fafdd26 h13 h12 | omega⟩⟩
      · refine En_Ps 1 (pc' := 17) (lv' := [(0, .ref s), (1, .int a), (2, .int y1), (3, .int y2), (4, .int y3)]) (st' := [.ref s]) rfl ?_
        refine En_getR (j := 0) (g' := 21) (u := 0) rfl rfl rfl hs (by decide +kernel) h5 (by decide +kernel) (fun a21 h20 ha21 => ?_)
        refine En_Ps 1 (pc' := 22) (lv' := [(0, .ref s), (1, .int a), (2, .int y1), (3, .int y2), (4, .int y3)]) (st' := [.int y3, .ref a21]) rfl ?_
        refine En_iald (l := 0) (u := 15) rfl rfl ha21 (by decide +kernel) h5 (by first | exact q_58e6e51dcc h11 | omega) (lnI (by decide +kernel : LN _ = 13) (by first | exact q_314deb8953 h19 h18 | omega)) (FTsgl (by decide +kernel)) (fun z23 h22 h24 h25 => ?_)
        refine En_Ps 2 (pc' := 25) (lv' := [(0, .ref s), (1, .int a), (2, .int y1), (3, .int y2), (4, .int y3)]) (st' := [.int ((z23 ^^^ a))]) rfl ?_
        refine En_hav (fun z26 => ?_)
        refine En_callS rfl rfl rfl rfl rfl rfl rfl rfl rfl (c_7 σ4 h5 z26) (by decide) (by decide) (fun v28 σ29 h27 => ?_)
        obtain ⟨h30, h31, z33, rfl, h32⟩ := h27
        have h34 := Fr_trans h6 h31 (by decide +kernel)
        refine En_Ps 3 (pc' := 33) (lv' := [(5, .int z33), (0, .ref s), (1, .int a), (2, .int y1), (3, .int y2), (4, .int y3)]) (st' := [.int y2, .int z33]) rfl ?_
        refine En_icGe _ rfl rfl rfl (fun h35 => ?_) (fun h35 => ?_)
        · refine En_Ps 1 (pc' := 45) (lv' := [(4, .int ((y3 + Int32.ofInt 1))), (5, .int z33), (0, .ref s), (1, .int a), (2, .int y1), (3, .int y2)]) (st' := []) rfl ?_
          refine En_lv1 (addI rfl (by decide : (Int32.ofInt 1).toInt = 1) (by first | exact q_465ab79ac1 h11 | omega) (by first | exact q_d22f73d43b h12 | omega)) (fun z36 h37 => ?_)
          refine En_Ps 1 (pc' := 7) (lv' := [(4, .int z36), (5, .int z33), (0, .ref s), (1, .int a), (2, .int y1), (3, .int y2)]) (st' := []) rfl ?_
          refine En_lv (lv := [(0, .ref s), (1, .int a), (2, .int y1), (3, .int y2), (4, .int z36)]) ⟨rfl, rfl, rfl, rfl, rfl, trivial⟩ ?_
          exact ih7 σ29 y1 y2 z36 h30 h34 (by first | exact q_77b189e83d h7 | omega) (by first | exact q_7991346fe8 h8 | omega) (by first | exact q_58e6e51dcc h9 | omega) (by first | exact q_d9092b5ca1 h10 | omega) (by first | exact q_35104ce9d3 h37 h11 | omega) (by first | exact q_96e029a9d9 h37 h19 h18 | omega) (by first | exact q_6591527e3e h13 h37 | omega) (by first | exact q_20fedeb4b2 h37 h14 | omega)
        · refine En_Ps 5 (pc' := 45) (lv' := [(4, .int ((y3 + Int32.ofInt 1))), (2, .int y3), (3, .int z33), (5, .int z33), (0, .ref s), (1, .int a)]) (st' := []) rfl ?_
          refine En_lv1 (addI rfl (by decide : (Int32.ofInt 1).toInt = 1) (by first | exact q_465ab79ac1 h11 | omega) (by first | exact q_d22f73d43b h12 | omega)) (fun z38 h39 => ?_)
          refine En_Ps 1 (pc' := 7) (lv' := [(4, .int z38), (2, .int y3), (3, .int z33), (5, .int z33), (0, .ref s), (1, .int a)]) (st' := []) rfl ?_
          refine En_lv (lv := [(0, .ref s), (1, .int a), (2, .int y3), (3, .int z33), (4, .int z38)]) ⟨rfl, rfl, rfl, rfl, rfl, trivial⟩ ?_
          exact ih7 σ29 y3 z33 z38 h30 h34 (by first | exact q_5b439548fc h11 | omega) (by first | exact q_7991346fe8 h12 | omega) (by first | exact q_ef1e8e38bf h32.1 | omega) (by first | exact q_126a3d8de2 h35 h10 | omega) (by first | exact q_35104ce9d3 h39 h11 | omega) (by first | exact q_96e029a9d9 h39 h19 h18 | omega) (by first | exact q_2fedec469a h39 | omega) (by first | exact q_20fedeb4b2 h39 h14 | omega)
  have := (by decide : (Int32.ofInt (-1)).toInt = -1)
  have := (by decide : (Int32.ofInt 5).toInt = 5)
  have := (by decide : (Int32.ofInt 0).toInt = 0)
  refine En_lv (lv := [(0, .ref s), (1, .int a), (2, .int ((Int32.ofInt (-1)))), (3, .int ((Int32.ofInt 5))), (4, .int ((Int32.ofInt 0)))]) ⟨rfl, rfl, rfl, rfl, rfl, trivial⟩ ?_
  exact key7 (Int.toNat (13) + 1) σ0 ((Int32.ofInt (-1))) ((Int32.ofInt 5)) ((Int32.ofInt 0)) hσ0 hF0 (by decide) (by decide) (by decide) (by decide) (by decide) (by decide) (by omega) (by first | exact toN_lt _ | omega)
/-- DoorSchool$Learner.learn(ILDoorSchool$Lessons;)I -/
abbrev P_22 (σ0 : SG) (a : Int32) (b : Nat) : PO := fun v σ => WT σ ∧ Fr [] σ0 σ ∧ ∃ ret : Int32, v = some (.int ret) ∧ True
set_option maxRecDepth 10000 in
set_option maxHeartbeats 4000000 in
theorem c_22 (σ0 : SG) (hσ0 : WT σ0) (a : Int32) (b : Nat) (hb : TG b = 20) : En 2 45 none mr_22 (P_22 σ0 a b) 0 [(0, .ref 8), (1, .int a), (2, .ref b)] [] σ0 := by
  have hF0 : Fr [] σ0 σ0 := Fr_rfl
  refine En_Ps 2 (pc' := 2) (lv' := [(0, .ref 8), (1, .int a), (2, .ref b)]) (st' := [.int ((Int32.ofInt 1)), .int a]) rfl ?_
  refine En_icNe _ rfl (by decide : (Int32.ofInt 1).toInt = 1) rfl (fun h1 => ?_) (fun h1 => ?_)
  · refine En_Ps 4 (pc' := 47) (lv' := [(4, .int ((Int32.ofInt 0))), (3, .int ((Int32.ofInt 0))), (0, .ref 8), (1, .int a), (2, .ref b)]) (st' := []) rfl ?_
    have key47 : ∀ (n47 : Nat) (σ4 : SG) (y2 : Int32) (y3 : Int32), WT σ4 → Fr [] σ0 σ4 → 0 ≤ y2.toInt → y2.toInt ≤ 65535 → 0 ≤ y3.toInt → y3.toInt ≤ 16 → -y3.toInt + 16 < (n47 : Int) → En 2 45 none mr_22 (P_22 σ0 a b) 47 [(0, .ref 8), (1, .int a), (2, .ref b), (3, .int y2), (4, .int y3)] [] σ4 := by
      intro n47
      induction n47 with
      | zero =>
        intro σ4 y2 y3 h5 h6 h7 h8 h9 h10 h11
        first | exact (q_511f6d33ac h11 h10).elim | (exfalso; omega)
      | succ n47 ih47 =>
        intro σ4 y2 y3 h5 h6 h7 h8 h9 h10 h11
        refine En_Ps 2 (pc' := 50) (lv' := [(0, .ref 8), (1, .int a), (2, .ref b), (3, .int y2), (4, .int y3)]) (st' := [.ref 8, .int y3]) rfl ?_
        refine En_getU (j := 0) (u := 4) (g' := 4) (q := 0) rfl rfl rfl tgz_8 (by decide +kernel) h5 (by decide +kernel) (by decide +kernel) (fun h12 => ?_)
        refine En_getI (j := 0) (l := 0) (u := 16) rfl rfl rfl tgz_4 (by decide +kernel) h5 (by decide +kernel) (fun z15 h14 h16 h17 => ?_)
        refine En_icGe _ rfl rfl rfl (fun h18 => ?_) (fun h18 => ?_)
        · refine En_Ps 1 (pc' := 111) (lv' := [(0, .ref 8), (1, .int a), (2, .ref b), (3, .int y2), (4, .int y3)]) (st' := [.int y2]) rfl ?_
          exact En_ret (v := some (.int y2)) rfl rfl rfl ⟨h5, h6, y2, rfl, trivial⟩
        · refine En_Ps 1 (pc' := 60) (lv' := [(0, .ref 8), (1, .int a), (2, .ref b), (3, .int y2), (4, .int y3)]) (st' := [.int a]) rfl ?_
          refine En_iNe _ rfl rfl (fun h19 => ?_) (fun h19 => ?_)
          · refine En_Ps 2 (pc' := 75) (lv' := [(0, .ref 8), (1, .int a), (2, .ref b), (3, .int y2), (4, .int y3)]) (st' := [.int y3, .ref b]) rfl ?_
            refine En_callV rfl rfl rfl rfl rfl rfl rfl rfl hb (by decide +kernel) rfl (c_37 σ4 h5 b hb y3) (by decide) (by decide) (fun v21 σ22 h20 => ?_)
            obtain ⟨h23, h24, z26, rfl, h25⟩ := h20
            have h27 := Fr_trans h6 h24 (by decide +kernel)
            refine En_Ps 3 (pc' := 83) (lv' := [(5, .int z26), (0, .ref 8), (1, .int a), (2, .ref b), (3, .int y2), (4, .int y3)]) (st' := [.int ((Int32.ofInt (-1))), .int z26]) rfl ?_
            refine En_icEq _ rfl (by decide : (Int32.ofInt (-1)).toInt = -1) rfl (fun h28 => ?_) (fun h28 => ?_)
            · refine En_Ps 1 (pc' := 107) (lv' := [(4, .int ((y3 + Int32.ofInt 1))), (5, .int z26), (0, .ref 8), (1, .int a), (2, .ref b), (3, .int y2)]) (st' := []) rfl ?_
              refine En_lv1 (addI rfl (by decide : (Int32.ofInt 1).toInt = 1) (by first | exact q_465ab79ac1 h9 | omega) (by first | exact q_f3f8e04381 h10 | omega)) (fun z29 h30 => ?_)
              refine En_Ps 1 (pc' := 47) (lv' := [(4, .int z29), (5, .int z26), (0, .ref 8), (1, .int a), (2, .ref b), (3, .int y2)]) (st' := []) rfl ?_
              refine En_lv (lv := [(0, .ref 8), (1, .int a), (2, .ref b), (3, .int y2), (4, .int z29)]) ⟨rfl, rfl, rfl, rfl, rfl, trivial⟩ ?_
              exact ih47 σ22 y2 z29 h23 h27 (by first | exact q_58e6e51dcc h7 | omega) (by first | exact q_36eb0a70bf h8 | omega) (by first | exact q_35104ce9d3 h30 h9 | omega) (by first | exact q_eba8fd3b5f h30 h18 h17 | omega) (by first | exact q_c5d740bdff h30 h11 | omega)
            · refine En_Ps 1 (pc' := 87) (lv' := [(5, .int z26), (0, .ref 8), (1, .int a), (2, .ref b), (3, .int y2), (4, .int y3)]) (st' := [.ref b]) rfl ?_
              refine En_getR (j := 1) (g' := 22) (u := 0) rfl rfl rfl hb (by decide +kernel) h23 (by decide +kernel) (fun a32 h31 ha32 => ?_)
              refine En_Ps 1 (pc' := 92) (lv' := [(5, .int z26), (0, .ref 8), (1, .int a), (2, .ref b), (3, .int y2), (4, .int y3)]) (st' := [.int z26, .ref a32]) rfl ?_
              refine En_iald (l := 0) (u := 1) rfl rfl ha32 (by decide +kernel) h23 (by first | exact q_b1cade0df5 h28 h25.1 | omega) (lnI (by decide +kernel : LN _ = 13) (by first | exact q_f3cf35f0f9 h25.2 | omega)) (FTsgl (by decide +kernel)) (fun z34 h33 h35 h36 => ?_)
              refine En_Ps 1 (pc' := 94) (lv' := [(5, .int z26), (0, .ref 8), (1, .int a), (2, .ref b), (3, .int y2), (4, .int y3)]) (st' := [.int ((Int32.ofInt 1)), .int z34]) rfl ?_
              refine En_icNe _ rfl (by decide : (Int32.ofInt 1).toInt = 1) rfl (fun h37 => ?_) (fun h37 => ?_)
              · refine En_Ps 1 (pc' := 107) (lv' := [(4, .int ((y3 + Int32.ofInt 1))), (5, .int z26), (0, .ref 8), (1, .int a), (2, .ref b), (3, .int y2)]) (st' := []) rfl ?_
                refine En_lv1 (addI rfl (by decide : (Int32.ofInt 1).toInt = 1) (by first | exact q_465ab79ac1 h9 | omega) (by first | exact q_f3f8e04381 h10 | omega)) (fun z38 h39 => ?_)
                refine En_Ps 1 (pc' := 47) (lv' := [(4, .int z38), (5, .int z26), (0, .ref 8), (1, .int a), (2, .ref b), (3, .int y2)]) (st' := []) rfl ?_
                refine En_lv (lv := [(0, .ref 8), (1, .int a), (2, .ref b), (3, .int y2), (4, .int z38)]) ⟨rfl, rfl, rfl, rfl, rfl, trivial⟩ ?_
                exact ih47 σ22 y2 z38 h23 h27 (by first | exact q_58e6e51dcc h7 | omega) (by first | exact q_36eb0a70bf h8 | omega) (by first | exact q_35104ce9d3 h39 h9 | omega) (by first | exact q_eba8fd3b5f h39 h18 h17 | omega) (by first | exact q_c5d740bdff h39 h11 | omega)
              · refine En_Ps 4 (pc' := 102) (lv' := [(5, .int z26), (0, .ref 8), (1, .int a), (2, .ref b), (3, .int y2), (4, .int y3)]) (st' := [.int ((((Int32.ofInt 1)) <<< (y3 &&& 31))), .int y2]) rfl ?_
                refine En_rng (shl1_p 15 rfl (by omega) (by omega) (by decide)) (fun z40 h41 h42 => ?_)
                refine En_Ps 1 (pc' := 103) (lv' := [(5, .int z26), (0, .ref 8), (1, .int a), (2, .ref b), (3, .int y2), (4, .int y3)]) (st' := [.int ((y2 ||| z40))]) rfl ?_
                refine En_rng (l := 0) (u := 65535) (or_rng 16 rfl rfl (by omega) (by omega) (by omega) (by omega) (by decide)) (fun z43 h44 h45 => ?_)
                refine En_Ps 2 (pc' := 107) (lv' := [(4, .int ((y3 + Int32.ofInt 1))), (3, .int z43), (5, .int z26), (0, .ref 8), (1, .int a), (2, .ref b)]) (st' := []) rfl ?_
                refine En_lv1 (addI rfl (by decide : (Int32.ofInt 1).toInt = 1) (by first | exact q_465ab79ac1 h9 | omega) (by first | exact q_f3f8e04381 h10 | omega)) (fun z46 h47 => ?_)
                refine En_Ps 1 (pc' := 47) (lv' := [(4, .int z46), (3, .int z43), (5, .int z26), (0, .ref 8), (1, .int a), (2, .ref b)]) (st' := []) rfl ?_
                refine En_lv (lv := [(0, .ref 8), (1, .int a), (2, .ref b), (3, .int z43), (4, .int z46)]) ⟨rfl, rfl, rfl, rfl, rfl, trivial⟩ ?_
                exact ih47 σ22 z43 z46 h23 h27 (by first | exact q_58e6e51dcc h44 | omega) (by first | exact q_36eb0a70bf h45 | omega) (by first | exact q_35104ce9d3 h47 h9 | omega) (by first | exact q_eba8fd3b5f h47 h18 h17 | omega) (by first | exact q_c5d740bdff h47 h11 | omega)
          · refine En_Ps 2 (pc' := 66) (lv' := [(0, .ref 8), (1, .int a), (2, .ref b), (3, .int y2), (4, .int y3)]) (st' := [.int y3, .ref b]) rfl ?_
            refine En_callV rfl rfl rfl rfl rfl rfl rfl rfl hb (by decide +kernel) rfl (c_36 σ4 h5 b hb y3) (by decide) (by decide) (fun v49 σ50 h48 => ?_)
            obtain ⟨h51, h52, z54, rfl, h53⟩ := h48
            have h55 := Fr_trans h6 h52 (by decide +kernel)
            refine En_Ps 4 (pc' := 83) (lv' := [(5, .int z54), (0, .ref 8), (1, .int a), (2, .ref b), (3, .int y2), (4, .int y3)]) (st' := [.int ((Int32.ofInt (-1))), .int z54]) rfl ?_
            refine En_icEq _ rfl (by decide : (Int32.ofInt (-1)).toInt = -1) rfl (fun h56 => ?_) (fun h56 => ?_)
            · refine En_Ps 1 (pc' := 107) (lv' := [(4, .int ((y3 + Int32.ofInt 1))), (5, .int z54), (0, .ref 8), (1, .int a), (2, .ref b), (3, .int y2)]) (st' := []) rfl ?_
              refine En_lv1 (addI rfl (by decide : (Int32.ofInt 1).toInt = 1) (by first | exact q_465ab79ac1 h9 | omega) (by first | exact q_f3f8e04381 h10 | omega)) (fun z57 h58 => ?_)
              refine En_Ps 1 (pc' := 47) (lv' := [(4, .int z57), (5, .int z54), (0, .ref 8), (1, .int a), (2, .ref b), (3, .int y2)]) (st' := []) rfl ?_
              refine En_lv (lv := [(0, .ref 8), (1, .int a), (2, .ref b), (3, .int y2), (4, .int z57)]) ⟨rfl, rfl, rfl, rfl, rfl, trivial⟩ ?_
              exact ih47 σ50 y2 z57 h51 h55 (by first | exact q_58e6e51dcc h7 | omega) (by first | exact q_36eb0a70bf h8 | omega) (by first | exact q_35104ce9d3 h58 h9 | omega) (by first | exact q_eba8fd3b5f h58 h18 h17 | omega) (by first | exact q_c5d740bdff h58 h11 | omega)
            · refine En_Ps 1 (pc' := 87) (lv' := [(5, .int z54), (0, .ref 8), (1, .int a), (2, .ref b), (3, .int y2), (4, .int y3)]) (st' := [.ref b]) rfl ?_
              refine En_getR (j := 1) (g' := 22) (u := 0) rfl rfl rfl hb (by decide +kernel) h51 (by decide +kernel) (fun a60 h59 ha60 => ?_)
              refine En_Ps 1 (pc' := 92) (lv' := [(5, .int z54), (0, .ref 8), (1, .int a), (2, .ref b), (3, .int y2), (4, .int y3)]) (st' := [.int z54, .ref a60]) rfl ?_
              refine En_iald (l := 0) (u := 1) rfl rfl ha60 (by decide +kernel) h51 (by first | exact q_b1cade0df5 h56 h53.1 | omega) (lnI (by decide +kernel : LN _ = 13) (by first | exact q_f3cf35f0f9 h53.2 | omega)) (FTsgl (by decide +kernel)) (fun z62 h61 h63 h64 => ?_)
              refine En_Ps 1 (pc' := 94) (lv' := [(5, .int z54), (0, .ref 8), (1, .int a), (2, .ref b), (3, .int y2), (4, .int y3)]) (st' := [.int ((Int32.ofInt 1)), .int z62]) rfl ?_
              refine En_icNe _ rfl (by decide : (Int32.ofInt 1).toInt = 1) rfl (fun h65 => ?_) (fun h65 => ?_)
              · refine En_Ps 1 (pc' := 107) (lv' := [(4, .int ((y3 + Int32.ofInt 1))), (5, .int z54), (0, .ref 8), (1, .int a), (2, .ref b), (3, .int y2)]) (st' := []) rfl ?_
                refine En_lv1 (addI rfl (by decide : (Int32.ofInt 1).toInt = 1) (by first | exact q_465ab79ac1 h9 | omega) (by first | exact q_f3f8e04381 h10 | omega)) (fun z66 h67 => ?_)
                refine En_Ps 1 (pc' := 47) (lv' := [(4, .int z66), (5, .int z54), (0, .ref 8), (1, .int a), (2, .ref b), (3, .int y2)]) (st' := []) rfl ?_
                refine En_lv (lv := [(0, .ref 8), (1, .int a), (2, .ref b), (3, .int y2), (4, .int z66)]) ⟨rfl, rfl, rfl, rfl, rfl, trivial⟩ ?_
                exact ih47 σ50 y2 z66 h51 h55 (by first | exact q_58e6e51dcc h7 | omega) (by first | exact q_36eb0a70bf h8 | omega) (by first | exact q_35104ce9d3 h67 h9 | omega) (by first | exact q_eba8fd3b5f h67 h18 h17 | omega) (by first | exact q_c5d740bdff h67 h11 | omega)
              · refine En_Ps 4 (pc' := 102) (lv' := [(5, .int z54), (0, .ref 8), (1, .int a), (2, .ref b), (3, .int y2), (4, .int y3)]) (st' := [.int ((((Int32.ofInt 1)) <<< (y3 &&& 31))), .int y2]) rfl ?_
                refine En_rng (shl1_p 15 rfl (by omega) (by omega) (by decide)) (fun z68 h69 h70 => ?_)
                refine En_Ps 1 (pc' := 103) (lv' := [(5, .int z54), (0, .ref 8), (1, .int a), (2, .ref b), (3, .int y2), (4, .int y3)]) (st' := [.int ((y2 ||| z68))]) rfl ?_
                refine En_rng (l := 0) (u := 65535) (or_rng 16 rfl rfl (by omega) (by omega) (by omega) (by omega) (by decide)) (fun z71 h72 h73 => ?_)
                refine En_Ps 2 (pc' := 107) (lv' := [(4, .int ((y3 + Int32.ofInt 1))), (3, .int z71), (5, .int z54), (0, .ref 8), (1, .int a), (2, .ref b)]) (st' := []) rfl ?_
                refine En_lv1 (addI rfl (by decide : (Int32.ofInt 1).toInt = 1) (by first | exact q_465ab79ac1 h9 | omega) (by first | exact q_f3f8e04381 h10 | omega)) (fun z74 h75 => ?_)
                refine En_Ps 1 (pc' := 47) (lv' := [(4, .int z74), (3, .int z71), (5, .int z54), (0, .ref 8), (1, .int a), (2, .ref b)]) (st' := []) rfl ?_
                refine En_lv (lv := [(0, .ref 8), (1, .int a), (2, .ref b), (3, .int z71), (4, .int z74)]) ⟨rfl, rfl, rfl, rfl, rfl, trivial⟩ ?_
                exact ih47 σ50 z71 z74 h51 h55 (by first | exact q_58e6e51dcc h72 | omega) (by first | exact q_36eb0a70bf h73 | omega) (by first | exact q_35104ce9d3 h75 h9 | omega) (by first | exact q_eba8fd3b5f h75 h18 h17 | omega) (by first | exact q_c5d740bdff h75 h11 | omega)
    have := (by decide : (Int32.ofInt 0).toInt = 0)
    have := (by decide : (Int32.ofInt 0).toInt = 0)
    refine En_lv (lv := [(0, .ref 8), (1, .int a), (2, .ref b), (3, .int ((Int32.ofInt 0))), (4, .int ((Int32.ofInt 0)))]) ⟨rfl, rfl, rfl, rfl, rfl, trivial⟩ ?_
    exact key47 (Int.toNat (16) + 1) σ0 ((Int32.ofInt 0)) ((Int32.ofInt 0)) hσ0 hF0 (by decide) (by decide) (by decide) (by decide) (by first | exact toN_lt _ | omega)
  · refine En_Ps 1 (pc' := 6) (lv' := [(0, .ref 8), (1, .int a), (2, .ref b)]) (st' := [.ref 8]) rfl ?_
    refine En_getU (j := 0) (u := 4) (g' := 4) (q := 0) rfl rfl rfl tgz_8 (by decide +kernel) hσ0 (by decide +kernel) (by decide +kernel) (fun h76 => ?_)
    refine En_Ps 2 (pc' := 11) (lv' := [(0, .ref 8), (1, .int a), (2, .ref b)]) (st' := [.int ((Int32.ofInt 1)), .ref b, .ref 4]) rfl ?_
    have := (by decide : ((Int32.ofInt 1)).toInt = 1)
    refine En_callV rfl rfl rfl rfl rfl rfl rfl rfl hb (by decide +kernel) rfl (c_39 σ0 hσ0 b hb ((Int32.ofInt 1))) (by decide) (by decide) (fun v79 σ80 h78 => ?_)
    obtain ⟨h81, h82, z84, rfl, h83⟩ := h78
    have h85 := Fr_trans hF0 h82 (by decide +kernel)
    refine En_Ps 2 (pc' := 16) (lv' := [(0, .ref 8), (1, .int a), (2, .ref b)]) (st' := [.int ((Int32.ofInt 0)), .ref b, .int z84, .ref 4]) rfl ?_
    have := (by decide : ((Int32.ofInt 0)).toInt = 0)
    refine En_callV rfl rfl rfl rfl rfl rfl rfl rfl hb (by decide +kernel) rfl (c_39 σ80 h81 b hb ((Int32.ofInt 0))) (by decide) (by decide) (fun v87 σ88 h86 => ?_)
    obtain ⟨h89, h90, z92, rfl, h91⟩ := h86
    have h93 := Fr_trans h85 h90 (by decide +kernel)
    refine En_callV rfl rfl rfl rfl rfl rfl rfl rfl tgz_4 (by decide +kernel) rfl (c_78 σ88 h89 z84 z92) (by decide) (by decide) (fun v95 σ96 h94 => ?_)
    obtain ⟨h97, h98, z100, rfl, h99⟩ := h94
    have h101 := Fr_trans h93 h98 (by decide +kernel)
    refine En_Ps 3 (pc' := 25) (lv' := [(3, .int z100), (0, .ref 8), (1, .int a), (2, .ref b)]) (st' := [.int ((Int32.ofInt (-1))), .int z100]) rfl ?_
    refine En_icNe _ rfl (by decide : (Int32.ofInt (-1)).toInt = -1) rfl (fun h102 => ?_) (fun h102 => ?_)
    · refine En_Ps 1 (pc' := 33) (lv' := [(3, .int z100), (0, .ref 8), (1, .int a), (2, .ref b)]) (st' := [.ref 8]) rfl ?_
      refine En_getK (j := 0) ((h98 _ _ (inW tgz_8 (by decide +kernel))).trans ((h90 _ _ (inW tgz_8 (by decide +kernel))).trans ((h82 _ _ (inW tgz_8 (by decide +kernel))).trans h76))) rfl rfl rfl tgz_8 (by decide +kernel) ?_
      refine En_getU (j := 4) (u := 7) (g' := 7) (q := 0) rfl rfl rfl tgz_4 (by decide +kernel) h97 (by decide +kernel) (by decide +kernel) (fun h103 => ?_)
      refine En_Ps 1 (pc' := 40) (lv' := [(3, .int z100), (0, .ref 8), (1, .int a), (2, .ref b)]) (st' := [.int z100, .ref 7]) rfl ?_
      refine En_iald (l := (-2147483648)) (u := 2147483647) rfl rfl tgz_7 (by decide +kernel) h97 (by first | exact q_b1cade0df5 h102 h99.1 | omega) (lnI (by decide +kernel : LN _ = 81) (by first | exact q_3ac9ed8367 h99.2 | omega)) (FTsgl (by decide +kernel)) (fun z106 h105 h107 h108 => ?_)
      exact En_ret (v := some (.int z106)) rfl rfl rfl ⟨h97, h101, z106, rfl, trivial⟩
    · refine En_Ps 2 (pc' := 41) (lv' := [(3, .int z100), (0, .ref 8), (1, .int a), (2, .ref b)]) (st' := [.int ((Int32.ofInt 0))]) rfl ?_
      refine En_top (by decide : (Int32.ofInt 0).toInt = 0) (fun z109 h110 => ?_)
      exact En_ret (v := some (.int z109)) rfl rfl rfl ⟨h97, h101, z109, rfl, trivial⟩
/-- DoorSchool$Learner.learntWhole(II)I -/
abbrev P_24 (σ0 : SG) (a : Int32) (b : Int32) : PO := fun v σ => WT σ ∧ Fr [] σ0 σ ∧ ∃ ret : Int32, v = some (.int ret) ∧ -ret.toInt ≤ 0 ∧ ret.toInt - 81 ≤ 0
set_option maxRecDepth 10000 in
set_option maxHeartbeats 4000000 in
theorem c_24 (σ0 : SG) (hσ0 : WT σ0) (a : Int32) (b : Int32) : En 3 70 none mr_24 (P_24 σ0 a b) 0 [(0, .ref 8), (1, .int a), (2, .int b)] [] σ0 := by
  have hF0 : Fr [] σ0 σ0 := Fr_rfl
  refine En_Ps 4 (pc' := 5) (lv' := [(4, .int ((Int32.ofInt 0))), (3, .int ((Int32.ofInt 0))), (0, .ref 8), (1, .int a), (2, .int b)]) (st' := []) rfl ?_
  have key5 : ∀ (n5 : Nat) (σ3 : SG) (y1 : Int32) (y2 : Int32), WT σ3 → Fr [] σ0 σ3 → 0 ≤ y1.toInt → y1.toInt ≤ 81 → 0 ≤ y2.toInt → y2.toInt ≤ 81 → y1.toInt - y2.toInt ≤ 0 → -y2.toInt + 81 < (n5 : Int) → En 3 70 none mr_24 (P_24 σ0 a b) 5 [(0, .ref 8), (1, .int a), (2, .int b), (3, .int y1), (4, .int y2)] [] σ3 := by
    intro n5
    induction n5 with
    | zero =>
      intro σ3 y1 y2 h4 h5 h6 h7 h8 h9 h10 h11
      first | exact (q_ffef14d449 h11 h9).elim | (exfalso; omega)
    | succ n5 ih5 =>
      intro σ3 y1 y2 h4 h5 h6 h7 h8 h9 h10 h11
      refine En_Ps 2 (pc' := 8) (lv' := [(0, .ref 8), (1, .int a), (2, .int b), (3, .int y1), (4, .int y2)]) (st' := [.ref 8, .int y2]) rfl ?_
      refine En_getU (j := 0) (u := 4) (g' := 4) (q := 0) rfl rfl rfl tgz_8 (by decide +kernel) h4 (by decide +kernel) (by decide +kernel) (fun h12 => ?_)
      refine En_getI (j := 1) (l := 0) (u := 81) rfl rfl rfl tgz_4 (by decide +kernel) h4 (by decide +kernel) (fun z15 h14 h16 h17 => ?_)
      refine En_icGe _ rfl rfl rfl (fun h18 => ?_) (fun h18 => ?_)
      · refine En_Ps 1 (pc' := 56) (lv' := [(0, .ref 8), (1, .int a), (2, .int b), (3, .int y1), (4, .int y2)]) (st' := [.int y1]) rfl ?_
        exact En_ret (v := some (.int y1)) rfl rfl rfl ⟨h4, h5, y1, rfl, ⟨by first | exact q_c803b490ef h6 | omega, by first | exact q_96a57adcaf h7 | omega⟩⟩
      · refine En_Ps 4 (pc' := 21) (lv' := [(0, .ref 8), (1, .int a), (2, .int b), (3, .int y1), (4, .int y2)]) (st' := [.ref 8, .int b, .int a, .ref 8]) rfl ?_
        refine En_getK (j := 0) h12 rfl rfl rfl tgz_8 (by decide +kernel) ?_
        refine En_getU (j := 4) (u := 7) (g' := 7) (q := 0) rfl rfl rfl tgz_4 (by decide +kernel) h4 (by decide +kernel) (by decide +kernel) (fun h19 => ?_)
        refine En_Ps 1 (pc' := 29) (lv' := [(0, .ref 8), (1, .int a), (2, .int b), (3, .int y1), (4, .int y2)]) (st' := [.int y2, .ref 7, .int b, .int a, .ref 8]) rfl ?_
        refine En_iald (l := (-2147483648)) (u := 2147483647) rfl rfl tgz_7 (by decide +kernel) h4 (by first | exact q_58e6e51dcc h8 | omega) (lnI (by decide +kernel : LN _ = 81) (by first | exact q_a0e855914a h18 h17 | omega)) (FTsgl (by decide +kernel)) (fun z22 h21 h23 h24 => ?_)
        refine En_callV rfl rfl rfl rfl rfl rfl rfl rfl tgz_8 (by decide +kernel) rfl (c_23 σ3 h4 a b z22) (by decide) (by decide) (fun v26 σ27 h25 => ?_)
        obtain ⟨h28, h29, z31, rfl, h30⟩ := h25
        have h32 := Fr_trans h5 h29 (by decide +kernel)
        refine En_Ps 1 (pc' := 34) (lv' := [(0, .ref 8), (1, .int a), (2, .int b), (3, .int y1), (4, .int y2)]) (st' := [.ref 8, .int z31]) rfl ?_
        refine En_getK (j := 0) ((h29 _ _ (inW tgz_8 (by decide +kernel))).trans h12) rfl rfl rfl tgz_8 (by decide +kernel) ?_
        refine En_getK (j := 4) ((h29 _ _ (inW tgz_4 (by decide +kernel))).trans h19) rfl rfl rfl tgz_4 (by decide +kernel) ?_
        refine En_Ps 1 (pc' := 42) (lv' := [(0, .ref 8), (1, .int a), (2, .int b), (3, .int y1), (4, .int y2)]) (st' := [.int y2, .ref 7, .int z31]) rfl ?_
        refine En_ialdK ((h29 _ _ (inWa tgz_7 (by decide +kernel))).trans h21) rfl rfl tgz_7 (by decide +kernel) h28 (by first | exact q_58e6e51dcc h8 | omega) (lnI (by decide +kernel : LN _ = 81) (by first | exact q_a0e855914a h18 h17 | omega)) ?_
        refine En_icNe _ rfl rfl rfl (fun h34 => ?_) (fun h34 => ?_)
        · refine En_Ps 1 (pc' := 52) (lv' := [(4, .int ((y2 + Int32.ofInt 1))), (0, .ref 8), (1, .int a), (2, .int b), (3, .int y1)]) (st' := []) rfl ?_
          refine En_lv1 (addI rfl (by decide : (Int32.ofInt 1).toInt = 1) (by first | exact q_465ab79ac1 h8 | omega) (by first | exact q_d778ff18c8 h9 | omega)) (fun z35 h36 => ?_)
          refine En_Ps 1 (pc' := 5) (lv' := [(4, .int z35), (0, .ref 8), (1, .int a), (2, .int b), (3, .int y1)]) (st' := []) rfl ?_
          refine En_lv (lv := [(0, .ref 8), (1, .int a), (2, .int b), (3, .int y1), (4, .int z35)]) ⟨rfl, rfl, rfl, rfl, rfl, trivial⟩ ?_
          exact ih5 σ27 y1 z35 h28 h32 (by first | exact q_58e6e51dcc h6 | omega) (by first | exact q_938d18a0b8 h7 | omega) (by first | exact q_35104ce9d3 h36 h8 | omega) (by first | exact q_798b104d48 h36 h18 h17 | omega) (by first | exact q_3a5e225620 h10 h36 | omega) (by first | exact q_4ff790945b h36 h11 | omega)
        · refine En_Ps 1 (pc' := 49) (lv' := [(3, .int ((y1 + Int32.ofInt 1))), (0, .ref 8), (1, .int a), (2, .int b), (4, .int y2)]) (st' := []) rfl ?_
          refine En_lv1 (addI rfl (by decide : (Int32.ofInt 1).toInt = 1) (by first | exact q_465ab79ac1 h6 | omega) (by first | exact q_d778ff18c8 h7 | omega)) (fun z37 h38 => ?_)
          refine En_Ps 1 (pc' := 52) (lv' := [(4, .int ((y2 + Int32.ofInt 1))), (3, .int z37), (0, .ref 8), (1, .int a), (2, .int b)]) (st' := []) rfl ?_
          refine En_lv1 (addI rfl (by decide : (Int32.ofInt 1).toInt = 1) (by first | exact q_465ab79ac1 h8 | omega) (by first | exact q_d778ff18c8 h9 | omega)) (fun z39 h40 => ?_)
          refine En_Ps 1 (pc' := 5) (lv' := [(4, .int z39), (3, .int z37), (0, .ref 8), (1, .int a), (2, .int b)]) (st' := []) rfl ?_
          refine En_lv (lv := [(0, .ref 8), (1, .int a), (2, .int b), (3, .int z37), (4, .int z39)]) ⟨rfl, rfl, rfl, rfl, rfl, trivial⟩ ?_
          exact ih5 σ27 z37 z39 h28 h32 (by first | exact q_35104ce9d3 h38 h6 | omega) (by first | exact q_d53ed2728c h38 h10 h18 h17 | omega) (by first | exact q_35104ce9d3 h40 h8 | omega) (by first | exact q_798b104d48 h40 h18 h17 | omega) (by first | exact q_1ff421e7a2 h38 h40 h10 | omega) (by first | exact q_4ff790945b h40 h11 | omega)
  have := (by decide : (Int32.ofInt 0).toInt = 0)
  have := (by decide : (Int32.ofInt 0).toInt = 0)
  refine En_lv (lv := [(0, .ref 8), (1, .int a), (2, .int b), (3, .int ((Int32.ofInt 0))), (4, .int ((Int32.ofInt 0)))]) ⟨rfl, rfl, rfl, rfl, rfl, trivial⟩ ?_
  exact key5 (Int.toNat (81) + 1) σ0 ((Int32.ofInt 0)) ((Int32.ofInt 0)) hσ0 hF0 (by decide) (by decide) (by decide) (by decide) (by omega) (by first | exact toN_lt _ | omega)
/-- DoorSchool$Learner.teaches(III)Z -/
abbrev P_30 (σ0 : SG) (a : Int32) (b : Int32) (c : Int32) : PO := fun v σ => WT σ ∧ Fr [] σ0 σ ∧ ∃ ret : Int32, v = some (.int ret) ∧ -ret.toInt ≤ 0 ∧ ret.toInt - 1 ≤ 0
set_option maxRecDepth 10000 in
set_option maxHeartbeats 4000000 in
theorem c_30 (σ0 : SG) (hσ0 : WT σ0) (a : Int32) (b : Int32) (c : Int32) : En 3 70 none mr_30 (P_30 σ0 a b c) 0 [(0, .ref 8), (1, .int a), (2, .int b), (3, .int c)] [] σ0 := by
  have hF0 : Fr [] σ0 σ0 := Fr_rfl
  refine En_Ps 2 (pc' := 2) (lv' := [(0, .ref 8), (1, .int a), (2, .int b), (3, .int c)]) (st' := [.int ((Int32.ofInt 2)), .int a]) rfl ?_
  refine En_icEq _ rfl (by decide : (Int32.ofInt 2).toInt = 2) rfl (fun h1 => ?_) (fun h1 => ?_)
  · refine En_Ps 2 (pc' := 25) (lv' := [(4, .int ((Int32.ofInt 0))), (0, .ref 8), (1, .int a), (2, .int b), (3, .int c)]) (st' := []) rfl ?_
    have key25 : ∀ (n25 : Nat) (σ3 : SG) (y2 : Int32), WT σ3 → Fr [] σ0 σ3 → 0 ≤ y2.toInt → y2.toInt ≤ 16 → -y2.toInt + 16 < (n25 : Int) → En 3 70 none mr_30 (P_30 σ0 a b c) 25 [(0, .ref 8), (1, .int a), (2, .int b), (3, .int c), (4, .int y2)] [] σ3 := by
      intro n25
      induction n25 with
      | zero =>
        intro σ3 y2 h4 h5 h6 h7 h8
        first | exact (q_511f6d33ac h8 h7).elim | (exfalso; omega)
      | succ n25 ih25 =>
        intro σ3 y2 h4 h5 h6 h7 h8
        refine En_Ps 2 (pc' := 28) (lv' := [(0, .ref 8), (1, .int a), (2, .int b), (3, .int c), (4, .int y2)]) (st' := [.ref 8, .int y2]) rfl ?_
        refine En_getU (j := 0) (u := 4) (g' := 4) (q := 0) rfl rfl rfl tgz_8 (by decide +kernel) h4 (by decide +kernel) (by decide +kernel) (fun h9 => ?_)
        refine En_getI (j := 0) (l := 0) (u := 16) rfl rfl rfl tgz_4 (by decide +kernel) h4 (by decide +kernel) (fun z12 h11 h13 h14 => ?_)
        refine En_icGe _ rfl rfl rfl (fun h15 => ?_) (fun h15 => ?_)
        · refine En_Ps 1 (pc' := 81) (lv' := [(0, .ref 8), (1, .int a), (2, .int b), (3, .int c), (4, .int y2)]) (st' := [.int ((Int32.ofInt 1))]) rfl ?_
          refine En_top (by decide : (Int32.ofInt 1).toInt = 1) (fun z16 h17 => ?_)
          exact En_ret (v := some (.int z16)) rfl rfl (retZ rfl rfl (by first | exact q_2b07c97645 h17 | omega) (by first | exact q_d9e7cbb253 h17 | omega)) ⟨h4, h5, z16, rfl, ⟨by first | exact q_ad3eee31ca h17 | omega, by first | exact q_81cf297dc4 h17 | omega⟩⟩
        · refine En_Ps 3 (pc' := 41) (lv' := [(0, .ref 8), (1, .int a), (2, .int b), (3, .int c), (4, .int y2)]) (st' := [.int y2, .int b, .ref 8]) rfl ?_
          refine En_callV rfl rfl rfl rfl rfl rfl rfl rfl tgz_8 (by decide +kernel) rfl (c_26 σ3 h4 b y2 (geI rfl (by first | exact q_58e6e51dcc h6 | omega)) (leI rfl (by first | exact q_3f0e495169 h15 h14 | omega))) (by decide) (by decide) (fun v19 σ20 h18 => ?_)
          obtain ⟨h21, h22, z24, rfl, h23⟩ := h18
          have h25 := Fr_trans h5 h22 (by decide +kernel)
          refine En_Ps 2 (pc' := 46) (lv' := [(0, .ref 8), (1, .int a), (2, .int b), (3, .int c), (4, .int y2)]) (st' := [.int ((z24 &&& c))]) rfl ?_
          refine En_hav (fun z26 => ?_)
          refine En_iEq _ rfl rfl (fun h27 => ?_) (fun h27 => ?_)
          · refine En_Ps 3 (pc' := 57) (lv' := [(0, .ref 8), (1, .int a), (2, .int b), (3, .int c), (4, .int y2)]) (st' := [.int y2, .int c, .int ((Int32.ofInt 0))]) rfl ?_
            refine En_callS rfl rfl rfl rfl rfl rfl rfl rfl rfl (c_108 σ20 h21 c y2) (by decide) (by decide) (fun v29 σ30 h28 => ?_)
            obtain ⟨h31, h32, z34, rfl, h33⟩ := h28
            have h35 := Fr_trans h25 h32 (by decide +kernel)
            refine En_Ps 1 (pc' := 61) (lv' := [(0, .ref 8), (1, .int a), (2, .int b), (3, .int c), (4, .int y2)]) (st' := [.int ((Int32.ofInt 1)), .int z34, .int ((Int32.ofInt 0))]) rfl ?_
            refine En_icNe _ rfl (by decide : (Int32.ofInt 1).toInt = 1) rfl (fun h36 => ?_) (fun h36 => ?_)
            · refine En_Ps 1 (pc' := 69) (lv' := [(0, .ref 8), (1, .int a), (2, .int b), (3, .int c), (4, .int y2)]) (st' := [.int ((Int32.ofInt 0)), .int ((Int32.ofInt 0))]) rfl ?_
              refine En_icEq _ (by decide : (Int32.ofInt 0).toInt = 0) (by decide : (Int32.ofInt 0).toInt = 0) rfl (fun h37 => ?_) (fun hx => by first | exact (q_4a39151843 hx).elim | (exfalso; omega))
              refine En_Ps 1 (pc' := 77) (lv' := [(4, .int ((y2 + Int32.ofInt 1))), (0, .ref 8), (1, .int a), (2, .int b), (3, .int c)]) (st' := []) rfl ?_
              refine En_lv1 (addI rfl (by decide : (Int32.ofInt 1).toInt = 1) (by first | exact q_465ab79ac1 h6 | omega) (by first | exact q_f3f8e04381 h7 | omega)) (fun z38 h39 => ?_)
              refine En_Ps 1 (pc' := 25) (lv' := [(4, .int z38), (0, .ref 8), (1, .int a), (2, .int b), (3, .int c)]) (st' := []) rfl ?_
              refine En_lv (lv := [(0, .ref 8), (1, .int a), (2, .int b), (3, .int c), (4, .int z38)]) ⟨rfl, rfl, rfl, rfl, rfl, trivial⟩ ?_
              exact ih25 σ30 z38 h31 h35 (by first | exact q_35104ce9d3 h39 h6 | omega) (by first | exact q_eba8fd3b5f h39 h15 h14 | omega) (by first | exact q_c5d740bdff h39 h8 | omega)
            · refine En_Ps 2 (pc' := 69) (lv' := [(0, .ref 8), (1, .int a), (2, .int b), (3, .int c), (4, .int y2)]) (st' := [.int ((Int32.ofInt 1)), .int ((Int32.ofInt 0))]) rfl ?_
              refine En_icEq _ (by decide : (Int32.ofInt 0).toInt = 0) (by decide : (Int32.ofInt 1).toInt = 1) rfl (fun hx => by first | exact (q_8c5bc2806d hx).elim | (exfalso; omega)) (fun h40 => ?_)
              refine En_Ps 1 (pc' := 73) (lv' := [(0, .ref 8), (1, .int a), (2, .int b), (3, .int c), (4, .int y2)]) (st' := [.int ((Int32.ofInt 0))]) rfl ?_
              refine En_top (by decide : (Int32.ofInt 0).toInt = 0) (fun z41 h42 => ?_)
              exact En_ret (v := some (.int z41)) rfl rfl (retZ rfl rfl (by first | exact q_55451d0a83 h42 | omega) (by first | exact q_87849c3859 h42 | omega)) ⟨h31, h35, z41, rfl, ⟨by first | exact q_097a37c2ae h42 | omega, by first | exact q_e269517bee h42 | omega⟩⟩
          · refine En_Ps 4 (pc' := 57) (lv' := [(0, .ref 8), (1, .int a), (2, .int b), (3, .int c), (4, .int y2)]) (st' := [.int y2, .int c, .int ((Int32.ofInt 1))]) rfl ?_
            refine En_callS rfl rfl rfl rfl rfl rfl rfl rfl rfl (c_108 σ20 h21 c y2) (by decide) (by decide) (fun v44 σ45 h43 => ?_)
            obtain ⟨h46, h47, z49, rfl, h48⟩ := h43
            have h50 := Fr_trans h25 h47 (by decide +kernel)
            refine En_Ps 1 (pc' := 61) (lv' := [(0, .ref 8), (1, .int a), (2, .int b), (3, .int c), (4, .int y2)]) (st' := [.int ((Int32.ofInt 1)), .int z49, .int ((Int32.ofInt 1))]) rfl ?_
            refine En_icNe _ rfl (by decide : (Int32.ofInt 1).toInt = 1) rfl (fun h51 => ?_) (fun h51 => ?_)
            · refine En_Ps 1 (pc' := 69) (lv' := [(0, .ref 8), (1, .int a), (2, .int b), (3, .int c), (4, .int y2)]) (st' := [.int ((Int32.ofInt 0)), .int ((Int32.ofInt 1))]) rfl ?_
              refine En_icEq _ (by decide : (Int32.ofInt 1).toInt = 1) (by decide : (Int32.ofInt 0).toInt = 0) rfl (fun hx => by first | exact (q_0561915bfe hx).elim | (exfalso; omega)) (fun h52 => ?_)
              refine En_Ps 1 (pc' := 73) (lv' := [(0, .ref 8), (1, .int a), (2, .int b), (3, .int c), (4, .int y2)]) (st' := [.int ((Int32.ofInt 0))]) rfl ?_
              refine En_top (by decide : (Int32.ofInt 0).toInt = 0) (fun z53 h54 => ?_)
              exact En_ret (v := some (.int z53)) rfl rfl (retZ rfl rfl (by first | exact q_55451d0a83 h54 | omega) (by first | exact q_87849c3859 h54 | omega)) ⟨h46, h50, z53, rfl, ⟨by first | exact q_097a37c2ae h54 | omega, by first | exact q_e269517bee h54 | omega⟩⟩
            · refine En_Ps 2 (pc' := 69) (lv' := [(0, .ref 8), (1, .int a), (2, .int b), (3, .int c), (4, .int y2)]) (st' := [.int ((Int32.ofInt 1)), .int ((Int32.ofInt 1))]) rfl ?_
              refine En_icEq _ (by decide : (Int32.ofInt 1).toInt = 1) (by decide : (Int32.ofInt 1).toInt = 1) rfl (fun h55 => ?_) (fun hx => by first | exact (q_e060c7ff4b hx).elim | (exfalso; omega))
              refine En_Ps 1 (pc' := 77) (lv' := [(4, .int ((y2 + Int32.ofInt 1))), (0, .ref 8), (1, .int a), (2, .int b), (3, .int c)]) (st' := []) rfl ?_
              refine En_lv1 (addI rfl (by decide : (Int32.ofInt 1).toInt = 1) (by first | exact q_465ab79ac1 h6 | omega) (by first | exact q_f3f8e04381 h7 | omega)) (fun z56 h57 => ?_)
              refine En_Ps 1 (pc' := 25) (lv' := [(4, .int z56), (0, .ref 8), (1, .int a), (2, .int b), (3, .int c)]) (st' := []) rfl ?_
              refine En_lv (lv := [(0, .ref 8), (1, .int a), (2, .int b), (3, .int c), (4, .int z56)]) ⟨rfl, rfl, rfl, rfl, rfl, trivial⟩ ?_
              exact ih25 σ45 z56 h46 h50 (by first | exact q_35104ce9d3 h57 h6 | omega) (by first | exact q_eba8fd3b5f h57 h15 h14 | omega) (by first | exact q_c5d740bdff h57 h8 | omega)
    have := (by decide : (Int32.ofInt 0).toInt = 0)
    refine En_lv (lv := [(0, .ref 8), (1, .int a), (2, .int b), (3, .int c), (4, .int ((Int32.ofInt 0)))]) ⟨rfl, rfl, rfl, rfl, rfl, trivial⟩ ?_
    exact key25 (Int.toNat (16) + 1) σ0 ((Int32.ofInt 0)) hσ0 hF0 (by decide) (by decide) (by first | exact toN_lt _ | omega)
  · refine En_Ps 4 (pc' := 9) (lv' := [(0, .ref 8), (1, .int a), (2, .int b), (3, .int c)]) (st' := [.int c, .int b, .int a, .ref 8]) rfl ?_
    refine En_callV rfl rfl rfl rfl rfl rfl rfl rfl tgz_8 (by decide +kernel) rfl (c_23 σ0 hσ0 a b c) (by decide) (by decide) (fun v59 σ60 h58 => ?_)
    obtain ⟨h61, h62, z64, rfl, h63⟩ := h58
    have h65 := Fr_trans hF0 h62 (by decide +kernel)
    refine En_Ps 1 (pc' := 13) (lv' := [(0, .ref 8), (1, .int a), (2, .int b), (3, .int c)]) (st' := [.int c, .int z64]) rfl ?_
    refine En_icNe _ rfl rfl rfl (fun h66 => ?_) (fun h66 => ?_)
    · refine En_Ps 1 (pc' := 21) (lv' := [(0, .ref 8), (1, .int a), (2, .int b), (3, .int c)]) (st' := [.int ((Int32.ofInt 0))]) rfl ?_
      refine En_top (by decide : (Int32.ofInt 0).toInt = 0) (fun z67 h68 => ?_)
      exact En_ret (v := some (.int z67)) rfl rfl (retZ rfl rfl (by first | exact q_55451d0a83 h68 | omega) (by first | exact q_87849c3859 h68 | omega)) ⟨h61, h65, z67, rfl, ⟨by first | exact q_097a37c2ae h68 | omega, by first | exact q_e269517bee h68 | omega⟩⟩
    · refine En_Ps 2 (pc' := 21) (lv' := [(0, .ref 8), (1, .int a), (2, .int b), (3, .int c)]) (st' := [.int ((Int32.ofInt 1))]) rfl ?_
      refine En_top (by decide : (Int32.ofInt 1).toInt = 1) (fun z69 h70 => ?_)
      exact En_ret (v := some (.int z69)) rfl rfl (retZ rfl rfl (by first | exact q_2b07c97645 h70 | omega) (by first | exact q_d9e7cbb253 h70 | omega)) ⟨h61, h65, z69, rfl, ⟨by first | exact q_ad3eee31ca h70 | omega, by first | exact q_81cf297dc4 h70 | omega⟩⟩
/-- DoorSchool$Learner.needed(II)I -/
abbrev P_27 (σ0 : SG) (a : Int32) (b : Int32) : PO := fun v σ => WT σ ∧ Fr [] σ0 σ ∧ ∃ ret : Int32, v = some (.int ret) ∧ -ret.toInt ≤ 0 ∧ ret.toInt - 65535 ≤ 0
set_option maxRecDepth 10000 in
set_option maxHeartbeats 4000000 in
theorem c_27 (σ0 : SG) (hσ0 : WT σ0) (a : Int32) (b : Int32) : En 4 94 none mr_27 (P_27 σ0 a b) 0 [(0, .ref 8), (1, .int a), (2, .int b)] [] σ0 := by
  have hF0 : Fr [] σ0 σ0 := Fr_rfl
  refine En_Ps 4 (pc' := 5) (lv' := [(4, .int ((Int32.ofInt 0))), (3, .int ((Int32.ofInt 0))), (0, .ref 8), (1, .int a), (2, .int b)]) (st' := []) rfl ?_
  have key5 : ∀ (n5 : Nat) (σ3 : SG) (y1 : Int32) (y2 : Int32), WT σ3 → Fr [] σ0 σ3 → 0 ≤ y1.toInt → y1.toInt ≤ 65535 → 0 ≤ y2.toInt → y2.toInt ≤ 16 → -y2.toInt + 16 < (n5 : Int) → En 4 94 none mr_27 (P_27 σ0 a b) 5 [(0, .ref 8), (1, .int a), (2, .int b), (3, .int y1), (4, .int y2)] [] σ3 := by
    intro n5
    induction n5 with
    | zero =>
      intro σ3 y1 y2 h4 h5 h6 h7 h8 h9 h10
      first | exact (q_511f6d33ac h10 h9).elim | (exfalso; omega)
    | succ n5 ih5 =>
      intro σ3 y1 y2 h4 h5 h6 h7 h8 h9 h10
      refine En_Ps 2 (pc' := 7) (lv' := [(0, .ref 8), (1, .int a), (2, .int b), (3, .int y1), (4, .int y2)]) (st' := [.int ((Int32.ofInt 2)), .int a]) rfl ?_
      refine En_icEq _ rfl (by decide : (Int32.ofInt 2).toInt = 2) rfl (fun h11 => ?_) (fun h11 => ?_)
      · refine En_Ps 1 (pc' := 56) (lv' := [(0, .ref 8), (1, .int a), (2, .int b), (3, .int y1), (4, .int y2)]) (st' := [.int y1]) rfl ?_
        exact En_ret (v := some (.int y1)) rfl rfl rfl ⟨h4, h5, y1, rfl, ⟨by first | exact q_c803b490ef h6 | omega, by first | exact q_e7edf0f95a h7 | omega⟩⟩
      · refine En_Ps 2 (pc' := 13) (lv' := [(0, .ref 8), (1, .int a), (2, .int b), (3, .int y1), (4, .int y2)]) (st' := [.ref 8, .int y2]) rfl ?_
        refine En_getU (j := 0) (u := 4) (g' := 4) (q := 0) rfl rfl rfl tgz_8 (by decide +kernel) h4 (by decide +kernel) (by decide +kernel) (fun h12 => ?_)
        refine En_getI (j := 0) (l := 0) (u := 16) rfl rfl rfl tgz_4 (by decide +kernel) h4 (by decide +kernel) (fun z15 h14 h16 h17 => ?_)
        refine En_icGe _ rfl rfl rfl (fun h18 => ?_) (fun h18 => ?_)
        · refine En_Ps 1 (pc' := 56) (lv' := [(0, .ref 8), (1, .int a), (2, .int b), (3, .int y1), (4, .int y2)]) (st' := [.int y1]) rfl ?_
          exact En_ret (v := some (.int y1)) rfl rfl rfl ⟨h4, h5, y1, rfl, ⟨by first | exact q_c803b490ef h6 | omega, by first | exact q_e7edf0f95a h7 | omega⟩⟩
        · refine En_Ps 3 (pc' := 25) (lv' := [(0, .ref 8), (1, .int a), (2, .int b), (3, .int y1), (4, .int y2)]) (st' := [.ref 8, .int a, .ref 8]) rfl ?_
          refine En_callV rfl rfl rfl rfl rfl rfl rfl rfl tgz_8 (by decide +kernel) rfl (c_19 σ3 h4) (by decide) (by decide) (fun v20 σ21 h19 => ?_)
          obtain ⟨h22, h23, z25, rfl, h24⟩ := h19
          have h26 := Fr_trans h5 h23 (by decide +kernel)
          refine En_Ps 3 (pc' := 32) (lv' := [(0, .ref 8), (1, .int a), (2, .int b), (3, .int y1), (4, .int y2)]) (st' := [.int ((((Int32.ofInt 1)) <<< (y2 &&& 31))), .int z25, .int a, .ref 8]) rfl ?_
          refine En_rng (shl1_p 15 rfl (by omega) (by omega) (by decide)) (fun z27 h28 h29 => ?_)
          refine En_Ps 2 (pc' := 34) (lv' := [(0, .ref 8), (1, .int a), (2, .int b), (3, .int y1), (4, .int y2)]) (st' := [.int ((z27 ^^^ ((Int32.ofInt (-1))))), .int z25, .int a, .ref 8]) rfl ?_
          refine En_nam (fun z30 h31 => ?_)
          refine En_Ps 1 (pc' := 35) (lv' := [(0, .ref 8), (1, .int a), (2, .int b), (3, .int y1), (4, .int y2)]) (st' := [.int ((z25 &&& z30)), .int a, .ref 8]) rfl ?_
          refine En_nam (fun z32 h33 => ?_)
          obtain ⟨h34, h35⟩ := andn_rng h33 rfl (by omega) (by omega : _ ≤ (65535 : Int))
          refine En_Ps 1 (pc' := 36) (lv' := [(0, .ref 8), (1, .int a), (2, .int b), (3, .int y1), (4, .int y2)]) (st' := [.int b, .int z32, .int a, .ref 8]) rfl ?_
          refine En_callV rfl rfl rfl rfl rfl rfl rfl rfl tgz_8 (by decide +kernel) rfl (c_30 σ21 h22 a z32 b) (by decide) (by decide) (fun v37 σ38 h36 => ?_)
          obtain ⟨h39, h40, z42, rfl, h41⟩ := h36
          have h43 := Fr_trans h26 h40 (by decide +kernel)
          refine En_iNe _ rfl rfl (fun h44 => ?_) (fun h44 => ?_)
          · refine En_Ps 1 (pc' := 52) (lv' := [(4, .int ((y2 + Int32.ofInt 1))), (0, .ref 8), (1, .int a), (2, .int b), (3, .int y1)]) (st' := []) rfl ?_
            refine En_lv1 (addI rfl (by decide : (Int32.ofInt 1).toInt = 1) (by first | exact q_465ab79ac1 h8 | omega) (by first | exact q_f3f8e04381 h9 | omega)) (fun z45 h46 => ?_)
            refine En_Ps 1 (pc' := 5) (lv' := [(4, .int z45), (0, .ref 8), (1, .int a), (2, .int b), (3, .int y1)]) (st' := []) rfl ?_
            refine En_lv (lv := [(0, .ref 8), (1, .int a), (2, .int b), (3, .int y1), (4, .int z45)]) ⟨rfl, rfl, rfl, rfl, rfl, trivial⟩ ?_
            exact ih5 σ38 y1 z45 h39 h43 (by first | exact q_58e6e51dcc h6 | omega) (by first | exact q_36eb0a70bf h7 | omega) (by first | exact q_35104ce9d3 h46 h8 | omega) (by first | exact q_eba8fd3b5f h46 h18 h17 | omega) (by first | exact q_c5d740bdff h46 h10 | omega)
          · refine En_Ps 4 (pc' := 47) (lv' := [(0, .ref 8), (1, .int a), (2, .int b), (3, .int y1), (4, .int y2)]) (st' := [.int ((((Int32.ofInt 1)) <<< (y2 &&& 31))), .int y1]) rfl ?_
            refine En_rng (shl1_p 15 rfl (by omega) (by omega) (by decide)) (fun z47 h48 h49 => ?_)
            refine En_Ps 1 (pc' := 48) (lv' := [(0, .ref 8), (1, .int a), (2, .int b), (3, .int y1), (4, .int y2)]) (st' := [.int ((y1 ||| z47))]) rfl ?_
            refine En_rng (l := 0) (u := 65535) (or_rng 16 rfl rfl (by omega) (by omega) (by omega) (by omega) (by decide)) (fun z50 h51 h52 => ?_)
            refine En_Ps 2 (pc' := 52) (lv' := [(4, .int ((y2 + Int32.ofInt 1))), (3, .int z50), (0, .ref 8), (1, .int a), (2, .int b)]) (st' := []) rfl ?_
            refine En_lv1 (addI rfl (by decide : (Int32.ofInt 1).toInt = 1) (by first | exact q_465ab79ac1 h8 | omega) (by first | exact q_f3f8e04381 h9 | omega)) (fun z53 h54 => ?_)
            refine En_Ps 1 (pc' := 5) (lv' := [(4, .int z53), (3, .int z50), (0, .ref 8), (1, .int a), (2, .int b)]) (st' := []) rfl ?_
            refine En_lv (lv := [(0, .ref 8), (1, .int a), (2, .int b), (3, .int z50), (4, .int z53)]) ⟨rfl, rfl, rfl, rfl, rfl, trivial⟩ ?_
            exact ih5 σ38 z50 z53 h39 h43 (by first | exact q_58e6e51dcc h51 | omega) (by first | exact q_36eb0a70bf h52 | omega) (by first | exact q_35104ce9d3 h54 h8 | omega) (by first | exact q_eba8fd3b5f h54 h18 h17 | omega) (by first | exact q_c5d740bdff h54 h10 | omega)
  have := (by decide : (Int32.ofInt 0).toInt = 0)
  have := (by decide : (Int32.ofInt 0).toInt = 0)
  refine En_lv (lv := [(0, .ref 8), (1, .int a), (2, .int b), (3, .int ((Int32.ofInt 0))), (4, .int ((Int32.ofInt 0)))]) ⟨rfl, rfl, rfl, rfl, rfl, trivial⟩ ?_
  exact key5 (Int.toNat (16) + 1) σ0 ((Int32.ofInt 0)) ((Int32.ofInt 0)) hσ0 hF0 (by decide) (by decide) (by decide) (by decide) (by first | exact toN_lt _ | omega)
/-- DoorSchool$Learner.setBehind(I)I -/
abbrev P_28 (σ0 : SG) (a : Int32) : PO := fun v σ => WT σ ∧ Fr [] σ0 σ ∧ ∃ ret : Int32, v = some (.int ret) ∧ True
set_option maxRecDepth 10000 in
set_option maxHeartbeats 4000000 in
theorem c_28 (σ0 : SG) (hσ0 : WT σ0) (a : Int32) : En 1 20 none mr_28 (P_28 σ0 a) 0 [(0, .int a)] [] σ0 := by
  have hF0 : Fr [] σ0 σ0 := Fr_rfl
  refine En_Ps 1 (pc' := 1) (lv' := [(0, .int a)]) (st' := [.int a]) rfl ?_
  refine En_iNe _ rfl rfl (fun h1 => ?_) (fun h1 => ?_)
  · refine En_Ps 4 (pc' := 11) (lv' := [(0, .int a)]) (st' := [.int ((-a)), .int a, .int a]) rfl ?_
    refine En_hav (fun z2 => ?_)
    refine En_Ps 1 (pc' := 12) (lv' := [(0, .int a)]) (st' := [.int ((a &&& z2)), .int a]) rfl ?_
    refine En_hav (fun z3 => ?_)
    refine En_Ps 1 (pc' := 13) (lv' := [(0, .int a)]) (st' := [.int ((a + z3))]) rfl ?_
    refine En_hav (fun z4 => ?_)
    refine En_Ps 6 (pc' := 19) (lv' := [(1, .int z4), (0, .int a)]) (st' := [.int ((a ^^^ z4)), .int ((Int32.ofInt 1)), .int z4]) rfl ?_
    refine En_hav (fun z5 => ?_)
    refine En_callS rfl rfl rfl rfl rfl rfl rfl rfl rfl (c_7 σ0 hσ0 z5) (by decide) (by decide) (fun v7 σ8 h6 => ?_)
    obtain ⟨h9, h10, z12, rfl, h11⟩ := h6
    have h13 := Fr_trans hF0 h10 (by decide +kernel)
    refine En_Ps 2 (pc' := 24) (lv' := [(1, .int z4), (0, .int a)]) (st' := [.int ((z12 - ((Int32.ofInt 2)))), .int ((Int32.ofInt 1)), .int z4]) rfl ?_
    refine En_top (subI rfl (by decide : (Int32.ofInt 2).toInt = 2) (by first | exact q_494a6d6cbd h11.1 | omega) (by first | exact q_1a85466cfe h11.2 | omega)) (fun z14 h15 => ?_)
    refine En_Ps 1 (pc' := 25) (lv' := [(1, .int z4), (0, .int a)]) (st' := [.int ((((Int32.ofInt 1)) <<< (z14 &&& 31))), .int z4]) rfl ?_
    refine En_hav (fun z16 => ?_)
    refine En_Ps 2 (pc' := 27) (lv' := [(1, .int z4), (0, .int a)]) (st' := [.int ((z16 - ((Int32.ofInt 1)))), .int z4]) rfl ?_
    refine En_hav (fun z17 => ?_)
    refine En_Ps 1 (pc' := 28) (lv' := [(1, .int z4), (0, .int a)]) (st' := [.int ((z4 ||| z17))]) rfl ?_
    refine En_hav (fun z18 => ?_)
    exact En_ret (v := some (.int z18)) rfl rfl rfl ⟨h9, h13, z18, rfl, trivial⟩
  · refine En_Ps 1 (pc' := 6) (lv' := [(0, .int a)]) (st' := [.int ((65536 : Int32))]) rfl ?_
    refine En_top (by decide : (65536 : Int32).toInt = 65536) (fun z19 h20 => ?_)
    exact En_ret (v := some (.int z19)) rfl rfl rfl ⟨hσ0, hF0, z19, rfl, trivial⟩
/-- DoorSchool$Learner.leastSet(II)I -/
abbrev P_25 (σ0 : SG) (a : Int32) (b : Int32) : PO := fun v σ => WT σ ∧ Fr [] σ0 σ ∧ ∃ ret : Int32, v = some (.int ret) ∧ ret.toInt - 65535 ≤ 0
set_option maxRecDepth 10000 in
set_option maxHeartbeats 4000000 in
theorem c_25 (σ0 : SG) (hσ0 : WT σ0) (a : Int32) (b : Int32) : En 5 118 none mr_25 (P_25 σ0 a b) 0 [(0, .ref 8), (1, .int a), (2, .int b)] [] σ0 := by
  have hF0 : Fr [] σ0 σ0 := Fr_rfl
  refine En_Ps 3 (pc' := 3) (lv' := [(0, .ref 8), (1, .int a), (2, .int b)]) (st' := [.ref 8, .int a, .ref 8]) rfl ?_
  refine En_callV rfl rfl rfl rfl rfl rfl rfl rfl tgz_8 (by decide +kernel) rfl (c_19 σ0 hσ0) (by decide) (by decide) (fun v2 σ3 h1 => ?_)
  obtain ⟨h4, h5, z7, rfl, h6⟩ := h1
  have h8 := Fr_trans hF0 h5 (by decide +kernel)
  refine En_Ps 1 (pc' := 7) (lv' := [(0, .ref 8), (1, .int a), (2, .int b)]) (st' := [.int b, .int z7, .int a, .ref 8]) rfl ?_
  refine En_callV rfl rfl rfl rfl rfl rfl rfl rfl tgz_8 (by decide +kernel) rfl (c_30 σ3 h4 a z7 b) (by decide) (by decide) (fun v10 σ11 h9 => ?_)
  obtain ⟨h12, h13, z15, rfl, h14⟩ := h9
  have h16 := Fr_trans h8 h13 (by decide +kernel)
  refine En_iNe _ rfl rfl (fun h17 => ?_) (fun h17 => ?_)
  · refine En_Ps 3 (pc' := 18) (lv' := [(0, .ref 8), (1, .int a), (2, .int b)]) (st' := [.int b, .int a, .ref 8]) rfl ?_
    refine En_callV rfl rfl rfl rfl rfl rfl rfl rfl tgz_8 (by decide +kernel) rfl (c_27 σ11 h12 a b) (by decide) (by decide) (fun v19 σ20 h18 => ?_)
    obtain ⟨h21, h22, z24, rfl, h23⟩ := h18
    have h25 := Fr_trans h16 h22 (by decide +kernel)
    refine En_Ps 2 (pc' := 23) (lv' := [(3, .int z24), (0, .ref 8), (1, .int a), (2, .int b)]) (st' := [.int z24]) rfl ?_
    refine En_callS rfl rfl rfl rfl rfl rfl rfl rfl rfl (c_7 σ20 h21 z24) (by decide) (by decide) (fun v27 σ28 h26 => ?_)
    obtain ⟨h29, h30, z32, rfl, h31⟩ := h26
    have h33 := Fr_trans h25 h30 (by decide +kernel)
    refine En_Ps 1 (pc' := 28) (lv' := [(4, .int z32), (3, .int z24), (0, .ref 8), (1, .int a), (2, .int b)]) (st' := []) rfl ?_
    have key28 : ∀ (n28 : Nat) (σ35 : SG) (y34 : Int32), WT σ35 → Fr [] σ0 σ35 → 0 ≤ y34.toInt → y34.toInt ≤ 63 → -y34.toInt + 63 < (n28 : Int) → En 5 118 none mr_25 (P_25 σ0 a b) 28 [(0, .ref 8), (1, .int a), (2, .int b), (3, .int z24), (4, .int y34)] [] σ35 := by
      intro n28
      induction n28 with
      | zero =>
        intro σ35 y34 h36 h37 h38 h39 h40
        first | exact (q_a146501c70 h40 h39).elim | (exfalso; omega)
      | succ n28 ih28 =>
        intro σ35 y34 h36 h37 h38 h39 h40
        refine En_Ps 2 (pc' := 31) (lv' := [(0, .ref 8), (1, .int a), (2, .int b), (3, .int z24), (4, .int y34)]) (st' := [.ref 8, .int y34]) rfl ?_
        refine En_getU (j := 0) (u := 4) (g' := 4) (q := 0) rfl rfl rfl tgz_8 (by decide +kernel) h36 (by decide +kernel) (by decide +kernel) (fun h41 => ?_)
        refine En_getI (j := 0) (l := 0) (u := 16) rfl rfl rfl tgz_4 (by decide +kernel) h36 (by decide +kernel) (fun z44 h43 h45 h46 => ?_)
        refine En_icGt _ rfl rfl rfl (fun h47 => ?_) (fun h47 => ?_)
        · refine En_Ps 1 (pc' := 112) (lv' := [(0, .ref 8), (1, .int a), (2, .int b), (3, .int z24), (4, .int y34)]) (st' := [.int ((Int32.ofInt (-1)))]) rfl ?_
          refine En_top (by decide : (Int32.ofInt (-1)).toInt = -1) (fun z48 h49 => ?_)
          exact En_ret (v := some (.int z48)) rfl rfl rfl ⟨h36, h37, z48, rfl, (by first | exact q_79866c756a h49 | omega)⟩
        · refine En_Ps 3 (pc' := 44) (lv' := [(0, .ref 8), (1, .int a), (2, .int b), (3, .int z24), (4, .int y34)]) (st' := [.int ((((Int32.ofInt 1)) <<< (y34 &&& 31)))]) rfl ?_
          refine En_rng (shl1_p 16 rfl (by omega) (by omega) (by decide)) (fun z50 h51 h52 => ?_)
          refine En_Ps 2 (pc' := 46) (lv' := [(0, .ref 8), (1, .int a), (2, .int b), (3, .int z24), (4, .int y34)]) (st' := [.int ((z50 - ((Int32.ofInt 1))))]) rfl ?_
          refine En_top (subI rfl (by decide : (Int32.ofInt 1).toInt = 1) (by first | exact q_96dadfce4b h51 | omega) (by first | exact q_8661d4233b h52 | omega)) (fun z53 h54 => ?_)
          refine En_Ps 3 (pc' := 51) (lv' := [(6, .int ((Int32.ofInt 0))), (5, .int z53), (0, .ref 8), (1, .int a), (2, .int b), (3, .int z24), (4, .int y34)]) (st' := []) rfl ?_
          have key51 : ∀ (n51 : Nat) (σ57 : SG) (y55 : Int32) (y56 : Int32), WT σ57 → Fr [] σ0 σ57 → (σ57 8)[0]? = some (.ref 4) → (σ57 4)[0]? = some (.int z44) → 0 ≤ y56.toInt → y56.toInt ≤ 65536 → -y56.toInt + 65536 < (n51 : Int) → En 5 118 none mr_25 (P_25 σ0 a b) 51 [(0, .ref 8), (1, .int a), (2, .int b), (3, .int z24), (4, .int y34), (5, .int y55), (6, .int y56)] [] σ57 := by
            intro n51
            induction n51 with
            | zero =>
              intro σ57 y55 y56 h58 h59 h60 h61 h62 h63 h64
              first | exact (q_ec59fb8a68 h64 h63).elim | (exfalso; omega)
            | succ n51 ih51 =>
              intro σ57 y55 y56 h58 h59 h60 h61 h62 h63 h64
              refine En_Ps 2 (pc' := 54) (lv' := [(0, .ref 8), (1, .int a), (2, .int b), (3, .int z24), (4, .int y34), (5, .int y55), (6, .int y56)]) (st' := [.ref 8, .int y56]) rfl ?_
              refine En_callV rfl rfl rfl rfl rfl rfl rfl rfl tgz_8 (by decide +kernel) rfl (c_19 σ57 h58) (by decide) (by decide) (fun v66 σ67 h65 => ?_)
              obtain ⟨h68, h69, z71, rfl, h70⟩ := h65
              have h72 := Fr_trans h59 h69 (by decide +kernel)
              refine En_icGt _ rfl rfl rfl (fun h73 => ?_) (fun h73 => ?_)
              · refine En_Ps 1 (pc' := 108) (lv' := [(4, .int ((y34 + Int32.ofInt 1))), (0, .ref 8), (1, .int a), (2, .int b), (3, .int z24), (5, .int y55), (6, .int y56)]) (st' := []) rfl ?_
                refine En_lv1 (addI rfl (by decide : (Int32.ofInt 1).toInt = 1) (by first | exact q_465ab79ac1 h38 | omega) (by first | exact q_d7c9db3423 h39 | omega)) (fun z74 h75 => ?_)
                refine En_Ps 1 (pc' := 28) (lv' := [(4, .int z74), (0, .ref 8), (1, .int a), (2, .int b), (3, .int z24), (5, .int y55), (6, .int y56)]) (st' := []) rfl ?_
                refine En_lv (lv := [(0, .ref 8), (1, .int a), (2, .int b), (3, .int z24), (4, .int z74)]) ⟨rfl, rfl, rfl, rfl, rfl, trivial⟩ ?_
                exact ih28 σ67 z74 h68 h72 (by first | exact q_35104ce9d3 h75 h38 | omega) (by first | exact q_13f3a24566 h75 h47 h46 | omega) (by first | exact q_46521c46ca h75 h40 | omega)
              · refine En_Ps 2 (pc' := 63) (lv' := [(0, .ref 8), (1, .int a), (2, .int b), (3, .int z24), (4, .int y34), (5, .int y55), (6, .int y56)]) (st' := [.ref 8, .int y55]) rfl ?_
                refine En_callV rfl rfl rfl rfl rfl rfl rfl rfl tgz_8 (by decide +kernel) rfl (c_19 σ67 h68) (by decide) (by decide) (fun v77 σ78 h76 => ?_)
                obtain ⟨h79, h80, z82, rfl, h81⟩ := h76
                have h83 := Fr_trans h72 h80 (by decide +kernel)
                refine En_icGt _ rfl rfl rfl (fun h84 => ?_) (fun h84 => ?_)
                · refine En_Ps 1 (pc' := 108) (lv' := [(4, .int ((y34 + Int32.ofInt 1))), (0, .ref 8), (1, .int a), (2, .int b), (3, .int z24), (5, .int y55), (6, .int y56)]) (st' := []) rfl ?_
                  refine En_lv1 (addI rfl (by decide : (Int32.ofInt 1).toInt = 1) (by first | exact q_465ab79ac1 h38 | omega) (by first | exact q_d7c9db3423 h39 | omega)) (fun z85 h86 => ?_)
                  refine En_Ps 1 (pc' := 28) (lv' := [(4, .int z85), (0, .ref 8), (1, .int a), (2, .int b), (3, .int z24), (5, .int y55), (6, .int y56)]) (st' := []) rfl ?_
                  refine En_lv (lv := [(0, .ref 8), (1, .int a), (2, .int b), (3, .int z24), (4, .int z85)]) ⟨rfl, rfl, rfl, rfl, rfl, trivial⟩ ?_
                  exact ih28 σ78 z85 h79 h83 (by first | exact q_35104ce9d3 h86 h38 | omega) (by first | exact q_13f3a24566 h86 h47 h46 | omega) (by first | exact q_46521c46ca h86 h40 | omega)
                · refine En_Ps 4 (pc' := 74) (lv' := [(0, .ref 8), (1, .int a), (2, .int b), (3, .int z24), (4, .int y34), (5, .int y55), (6, .int y56)]) (st' := [.int ((y55 ^^^ ((Int32.ofInt (-1))))), .int z24]) rfl ?_
                  refine En_nam (fun z87 h88 => ?_)
                  refine En_Ps 1 (pc' := 75) (lv' := [(0, .ref 8), (1, .int a), (2, .int b), (3, .int z24), (4, .int y34), (5, .int y55), (6, .int y56)]) (st' := [.int ((z24 &&& z87))]) rfl ?_
                  refine En_nam (fun z89 h90 => ?_)
                  obtain ⟨h91, h92⟩ := andn_rng h90 rfl (by omega) (by omega : _ ≤ (65535 : Int))
                  refine En_iNe _ rfl rfl (fun h93 => ?_) (fun h93 => ?_)
                  · refine En_Ps 1 (pc' := 94) (lv' := [(0, .ref 8), (1, .int a), (2, .int b), (3, .int z24), (4, .int y34), (5, .int y55), (6, .int y56)]) (st' := [.int y55]) rfl ?_
                    refine En_callS rfl rfl rfl rfl rfl rfl rfl rfl rfl (c_28 σ78 h79 y55) (by decide) (by decide) (fun v95 σ96 h94 => ?_)
                    obtain ⟨h97, h98, z100, rfl, h99⟩ := h94
                    have h101 := Fr_trans h83 h98 (by decide +kernel)
                    refine En_Ps 2 (pc' := 102) (lv' := [(6, .int ((y56 + Int32.ofInt 1))), (5, .int z100), (0, .ref 8), (1, .int a), (2, .int b), (3, .int z24), (4, .int y34)]) (st' := []) rfl ?_
                    refine En_lv1 (addI rfl (by decide : (Int32.ofInt 1).toInt = 1) (by first | exact q_465ab79ac1 h62 | omega) (by first | exact q_1d2cffc2f0 h63 | omega)) (fun z102 h103 => ?_)
                    refine En_Ps 1 (pc' := 51) (lv' := [(6, .int z102), (5, .int z100), (0, .ref 8), (1, .int a), (2, .int b), (3, .int z24), (4, .int y34)]) (st' := []) rfl ?_
                    refine En_lv (lv := [(0, .ref 8), (1, .int a), (2, .int b), (3, .int z24), (4, .int y34), (5, .int z100), (6, .int z102)]) ⟨rfl, rfl, rfl, rfl, rfl, rfl, rfl, trivial⟩ ?_
                    exact ih51 σ96 z100 z102 h97 h101 ((h98 _ _ (inW tgz_8 (by decide +kernel))).trans ((h80 _ _ (inW tgz_8 (by decide +kernel))).trans ((h69 _ _ (inW tgz_8 (by decide +kernel))).trans h60))) ((h98 _ _ (inW tgz_4 (by decide +kernel))).trans ((h80 _ _ (inW tgz_4 (by decide +kernel))).trans ((h69 _ _ (inW tgz_4 (by decide +kernel))).trans h61))) (by first | exact q_35104ce9d3 h103 h62 | omega) (by first | exact q_14f3993466 h103 h73 h70.2 | omega) (by first | exact q_baf82f6f45 h103 h64 | omega)
                  · refine En_Ps 4 (pc' := 83) (lv' := [(0, .ref 8), (1, .int a), (2, .int b), (3, .int z24), (4, .int y34), (5, .int y55), (6, .int y56)]) (st' := [.int b, .int y55, .int a, .ref 8]) rfl ?_
                    refine En_callV rfl rfl rfl rfl rfl rfl rfl rfl tgz_8 (by decide +kernel) rfl (c_30 σ78 h79 a y55 b) (by decide) (by decide) (fun v105 σ106 h104 => ?_)
                    obtain ⟨h107, h108, z110, rfl, h109⟩ := h104
                    have h111 := Fr_trans h83 h108 (by decide +kernel)
                    refine En_iEq _ rfl rfl (fun h112 => ?_) (fun h112 => ?_)
                    · refine En_Ps 1 (pc' := 94) (lv' := [(0, .ref 8), (1, .int a), (2, .int b), (3, .int z24), (4, .int y34), (5, .int y55), (6, .int y56)]) (st' := [.int y55]) rfl ?_
                      refine En_callS rfl rfl rfl rfl rfl rfl rfl rfl rfl (c_28 σ106 h107 y55) (by decide) (by decide) (fun v114 σ115 h113 => ?_)
                      obtain ⟨h116, h117, z119, rfl, h118⟩ := h113
                      have h120 := Fr_trans h111 h117 (by decide +kernel)
                      refine En_Ps 2 (pc' := 102) (lv' := [(6, .int ((y56 + Int32.ofInt 1))), (5, .int z119), (0, .ref 8), (1, .int a), (2, .int b), (3, .int z24), (4, .int y34)]) (st' := []) rfl ?_
                      refine En_lv1 (addI rfl (by decide : (Int32.ofInt 1).toInt = 1) (by first | exact q_465ab79ac1 h62 | omega) (by first | exact q_1d2cffc2f0 h63 | omega)) (fun z121 h122 => ?_)
                      refine En_Ps 1 (pc' := 51) (lv' := [(6, .int z121), (5, .int z119), (0, .ref 8), (1, .int a), (2, .int b), (3, .int z24), (4, .int y34)]) (st' := []) rfl ?_
                      refine En_lv (lv := [(0, .ref 8), (1, .int a), (2, .int b), (3, .int z24), (4, .int y34), (5, .int z119), (6, .int z121)]) ⟨rfl, rfl, rfl, rfl, rfl, rfl, rfl, trivial⟩ ?_
                      exact ih51 σ115 z119 z121 h116 h120 ((h117 _ _ (inW tgz_8 (by decide +kernel))).trans ((h108 _ _ (inW tgz_8 (by decide +kernel))).trans ((h80 _ _ (inW tgz_8 (by decide +kernel))).trans ((h69 _ _ (inW tgz_8 (by decide +kernel))).trans h60)))) ((h117 _ _ (inW tgz_4 (by decide +kernel))).trans ((h108 _ _ (inW tgz_4 (by decide +kernel))).trans ((h80 _ _ (inW tgz_4 (by decide +kernel))).trans ((h69 _ _ (inW tgz_4 (by decide +kernel))).trans h61)))) (by first | exact q_35104ce9d3 h122 h62 | omega) (by first | exact q_14f3993466 h122 h73 h70.2 | omega) (by first | exact q_baf82f6f45 h122 h64 | omega)
                    · refine En_Ps 1 (pc' := 91) (lv' := [(0, .ref 8), (1, .int a), (2, .int b), (3, .int z24), (4, .int y34), (5, .int y55), (6, .int y56)]) (st' := [.int y55]) rfl ?_
                      exact En_ret (v := some (.int y55)) rfl rfl rfl ⟨h107, h111, y55, rfl, (by first | exact q_71cd3a7d22 h84 h81.2 | omega)⟩
          have := (by decide : (Int32.ofInt 0).toInt = 0)
          refine En_lv (lv := [(0, .ref 8), (1, .int a), (2, .int b), (3, .int z24), (4, .int y34), (5, .int z53), (6, .int ((Int32.ofInt 0)))]) ⟨rfl, rfl, rfl, rfl, rfl, rfl, rfl, trivial⟩ ?_
          exact key51 (Int.toNat (65536) + 1) σ35 z53 ((Int32.ofInt 0)) h36 h37 h41 h43 (by decide) (by decide) (by first | exact toN_lt _ | omega)
    refine En_lv (lv := [(0, .ref 8), (1, .int a), (2, .int b), (3, .int z24), (4, .int z32)]) ⟨rfl, rfl, rfl, rfl, rfl, trivial⟩ ?_
    exact key28 (Int.toNat (-z32.toInt + 63) + 1) σ28 z32 h29 h33 (by first | exact q_ef1e8e38bf h31.1 | omega) (by first | exact q_3ea7e55eca h31.2 | omega) (by first | exact toN_lt _ | omega)
  · refine En_Ps 1 (pc' := 14) (lv' := [(0, .ref 8), (1, .int a), (2, .int b)]) (st' := [.int ((Int32.ofInt (-1)))]) rfl ?_
    refine En_top (by decide : (Int32.ofInt (-1)).toInt = -1) (fun z123 h124 => ?_)
    exact En_ret (v := some (.int z123)) rfl rfl rfl ⟨h12, h16, z123, rfl, (by first | exact q_79866c756a h124 | omega)⟩
/-- DoorSchool$Learner.setsOf(III)I -/
abbrev P_29 (σ0 : SG) (a : Int32) (b : Int32) (c : Int32) : PO := fun v σ => WT σ ∧ Fr [] σ0 σ ∧ ∃ ret : Int32, v = some (.int ret) ∧ -ret.toInt ≤ 0 ∧ ret.toInt - 65536 ≤ 0
set_option maxRecDepth 10000 in
set_option maxHeartbeats 4000000 in
theorem c_29 (σ0 : SG) (hσ0 : WT σ0) (a : Int32) (b : Int32) (c : Int32) : En 5 118 none mr_29 (P_29 σ0 a b c) 0 [(0, .ref 8), (1, .int a), (2, .int b), (3, .int c)] [] σ0 := by
  have hF0 : Fr [] σ0 σ0 := Fr_rfl
  refine En_Ps 3 (pc' := 3) (lv' := [(0, .ref 8), (1, .int a), (2, .int b), (3, .int c)]) (st' := [.ref 8, .int a, .ref 8]) rfl ?_
  refine En_callV rfl rfl rfl rfl rfl rfl rfl rfl tgz_8 (by decide +kernel) rfl (c_19 σ0 hσ0) (by decide) (by decide) (fun v2 σ3 h1 => ?_)
  obtain ⟨h4, h5, z7, rfl, h6⟩ := h1
  have h8 := Fr_trans hF0 h5 (by decide +kernel)
  refine En_Ps 1 (pc' := 7) (lv' := [(0, .ref 8), (1, .int a), (2, .int b), (3, .int c)]) (st' := [.int b, .int z7, .int a, .ref 8]) rfl ?_
  refine En_callV rfl rfl rfl rfl rfl rfl rfl rfl tgz_8 (by decide +kernel) rfl (c_30 σ3 h4 a z7 b) (by decide) (by decide) (fun v10 σ11 h9 => ?_)
  obtain ⟨h12, h13, z15, rfl, h14⟩ := h9
  have h16 := Fr_trans h8 h13 (by decide +kernel)
  refine En_iNe _ rfl rfl (fun h17 => ?_) (fun h17 => ?_)
  · refine En_Ps 3 (pc' := 18) (lv' := [(0, .ref 8), (1, .int a), (2, .int b), (3, .int c)]) (st' := [.int b, .int a, .ref 8]) rfl ?_
    refine En_callV rfl rfl rfl rfl rfl rfl rfl rfl tgz_8 (by decide +kernel) rfl (c_27 σ11 h12 a b) (by decide) (by decide) (fun v19 σ20 h18 => ?_)
    obtain ⟨h21, h22, z24, rfl, h23⟩ := h18
    have h25 := Fr_trans h16 h22 (by decide +kernel)
    refine En_Ps 6 (pc' := 29) (lv' := [(5, .int ((Int32.ofInt 0))), (4, .int z24), (0, .ref 8), (1, .int a), (2, .int b), (3, .int c)]) (st' := [.int ((((Int32.ofInt 1)) <<< (c &&& 31)))]) rfl ?_
    refine En_hav (fun z26 => ?_)
    refine En_Ps 2 (pc' := 31) (lv' := [(5, .int ((Int32.ofInt 0))), (4, .int z24), (0, .ref 8), (1, .int a), (2, .int b), (3, .int c)]) (st' := [.int ((z26 - ((Int32.ofInt 1))))]) rfl ?_
    refine En_hav (fun z27 => ?_)
    refine En_Ps 3 (pc' := 36) (lv' := [(7, .int ((Int32.ofInt 0))), (6, .int z27), (5, .int ((Int32.ofInt 0))), (4, .int z24), (0, .ref 8), (1, .int a), (2, .int b), (3, .int c)]) (st' := []) rfl ?_
    have key36 : ∀ (n36 : Nat) (σ31 : SG) (y28 : Int32) (y29 : Int32) (y30 : Int32), WT σ31 → Fr [] σ0 σ31 → 0 ≤ y28.toInt → y28.toInt ≤ 65536 → 0 ≤ y30.toInt → y30.toInt ≤ 65536 → y28.toInt - y30.toInt ≤ 0 → -y30.toInt + 65536 < (n36 : Int) → En 5 118 none mr_29 (P_29 σ0 a b c) 36 [(0, .ref 8), (1, .int a), (2, .int b), (3, .int c), (4, .int z24), (5, .int y28), (6, .int y29), (7, .int y30)] [] σ31 := by
      intro n36
      induction n36 with
      | zero =>
        intro σ31 y28 y29 y30 h32 h33 h34 h35 h36 h37 h38 h39
        first | exact (q_ec59fb8a68 h39 h37).elim | (exfalso; omega)
      | succ n36 ih36 =>
        intro σ31 y28 y29 y30 h32 h33 h34 h35 h36 h37 h38 h39
        refine En_Ps 2 (pc' := 39) (lv' := [(0, .ref 8), (1, .int a), (2, .int b), (3, .int c), (4, .int z24), (5, .int y28), (6, .int y29), (7, .int y30)]) (st' := [.ref 8, .int y30]) rfl ?_
        refine En_callV rfl rfl rfl rfl rfl rfl rfl rfl tgz_8 (by decide +kernel) rfl (c_19 σ31 h32) (by decide) (by decide) (fun v41 σ42 h40 => ?_)
        obtain ⟨h43, h44, z46, rfl, h45⟩ := h40
        have h47 := Fr_trans h33 h44 (by decide +kernel)
        refine En_icGt _ rfl rfl rfl (fun h48 => ?_) (fun h48 => ?_)
        · refine En_Ps 1 (pc' := 93) (lv' := [(0, .ref 8), (1, .int a), (2, .int b), (3, .int c), (4, .int z24), (5, .int y28), (6, .int y29), (7, .int y30)]) (st' := [.int y28]) rfl ?_
          exact En_ret (v := some (.int y28)) rfl rfl rfl ⟨h43, h47, y28, rfl, ⟨by first | exact q_c803b490ef h34 | omega, by first | exact q_9e830a46d8 h35 | omega⟩⟩
        · refine En_Ps 2 (pc' := 48) (lv' := [(0, .ref 8), (1, .int a), (2, .int b), (3, .int c), (4, .int z24), (5, .int y28), (6, .int y29), (7, .int y30)]) (st' := [.ref 8, .int y29]) rfl ?_
          refine En_callV rfl rfl rfl rfl rfl rfl rfl rfl tgz_8 (by decide +kernel) rfl (c_19 σ42 h43) (by decide) (by decide) (fun v50 σ51 h49 => ?_)
          obtain ⟨h52, h53, z55, rfl, h54⟩ := h49
          have h56 := Fr_trans h47 h53 (by decide +kernel)
          refine En_icGt _ rfl rfl rfl (fun h57 => ?_) (fun h57 => ?_)
          · refine En_Ps 1 (pc' := 93) (lv' := [(0, .ref 8), (1, .int a), (2, .int b), (3, .int c), (4, .int z24), (5, .int y28), (6, .int y29), (7, .int y30)]) (st' := [.int y28]) rfl ?_
            exact En_ret (v := some (.int y28)) rfl rfl rfl ⟨h52, h56, y28, rfl, ⟨by first | exact q_c803b490ef h34 | omega, by first | exact q_9e830a46d8 h35 | omega⟩⟩
          · refine En_Ps 4 (pc' := 60) (lv' := [(0, .ref 8), (1, .int a), (2, .int b), (3, .int c), (4, .int z24), (5, .int y28), (6, .int y29), (7, .int y30)]) (st' := [.int ((y29 ^^^ ((Int32.ofInt (-1))))), .int z24]) rfl ?_
            refine En_nam (fun z58 h59 => ?_)
            refine En_Ps 1 (pc' := 61) (lv' := [(0, .ref 8), (1, .int a), (2, .int b), (3, .int c), (4, .int z24), (5, .int y28), (6, .int y29), (7, .int y30)]) (st' := [.int ((z24 &&& z58))]) rfl ?_
            refine En_nam (fun z60 h61 => ?_)
            obtain ⟨h62, h63⟩ := andn_rng h61 rfl (by omega) (by omega : _ ≤ (65535 : Int))
            refine En_iNe _ rfl rfl (fun h64 => ?_) (fun h64 => ?_)
            · refine En_Ps 1 (pc' := 80) (lv' := [(0, .ref 8), (1, .int a), (2, .int b), (3, .int c), (4, .int z24), (5, .int y28), (6, .int y29), (7, .int y30)]) (st' := [.int y29]) rfl ?_
              refine En_callS rfl rfl rfl rfl rfl rfl rfl rfl rfl (c_28 σ51 h52 y29) (by decide) (by decide) (fun v66 σ67 h65 => ?_)
              obtain ⟨h68, h69, z71, rfl, h70⟩ := h65
              have h72 := Fr_trans h56 h69 (by decide +kernel)
              refine En_Ps 2 (pc' := 88) (lv' := [(7, .int ((y30 + Int32.ofInt 1))), (6, .int z71), (0, .ref 8), (1, .int a), (2, .int b), (3, .int c), (4, .int z24), (5, .int y28)]) (st' := []) rfl ?_
              refine En_lv1 (addI rfl (by decide : (Int32.ofInt 1).toInt = 1) (by first | exact q_465ab79ac1 h36 | omega) (by first | exact q_1d2cffc2f0 h37 | omega)) (fun z73 h74 => ?_)
              refine En_Ps 1 (pc' := 36) (lv' := [(7, .int z73), (6, .int z71), (0, .ref 8), (1, .int a), (2, .int b), (3, .int c), (4, .int z24), (5, .int y28)]) (st' := []) rfl ?_
              refine En_lv (lv := [(0, .ref 8), (1, .int a), (2, .int b), (3, .int c), (4, .int z24), (5, .int y28), (6, .int z71), (7, .int z73)]) ⟨rfl, rfl, rfl, rfl, rfl, rfl, rfl, rfl, trivial⟩ ?_
              exact ih36 σ67 y28 z71 z73 h68 h72 (by first | exact q_58e6e51dcc h34 | omega) (by first | exact q_85cee82ad3 h35 | omega) (by first | exact q_35104ce9d3 h74 h36 | omega) (by first | exact q_14f3993466 h74 h48 h45.2 | omega) (by first | exact q_3a5e225620 h38 h74 | omega) (by first | exact q_baf82f6f45 h74 h39 | omega)
            · refine En_Ps 4 (pc' := 69) (lv' := [(0, .ref 8), (1, .int a), (2, .int b), (3, .int c), (4, .int z24), (5, .int y28), (6, .int y29), (7, .int y30)]) (st' := [.int b, .int y29, .int a, .ref 8]) rfl ?_
              refine En_callV rfl rfl rfl rfl rfl rfl rfl rfl tgz_8 (by decide +kernel) rfl (c_30 σ51 h52 a y29 b) (by decide) (by decide) (fun v76 σ77 h75 => ?_)
              obtain ⟨h78, h79, z81, rfl, h80⟩ := h75
              have h82 := Fr_trans h56 h79 (by decide +kernel)
              refine En_iEq _ rfl rfl (fun h83 => ?_) (fun h83 => ?_)
              · refine En_Ps 1 (pc' := 80) (lv' := [(0, .ref 8), (1, .int a), (2, .int b), (3, .int c), (4, .int z24), (5, .int y28), (6, .int y29), (7, .int y30)]) (st' := [.int y29]) rfl ?_
                refine En_callS rfl rfl rfl rfl rfl rfl rfl rfl rfl (c_28 σ77 h78 y29) (by decide) (by decide) (fun v85 σ86 h84 => ?_)
                obtain ⟨h87, h88, z90, rfl, h89⟩ := h84
                have h91 := Fr_trans h82 h88 (by decide +kernel)
                refine En_Ps 2 (pc' := 88) (lv' := [(7, .int ((y30 + Int32.ofInt 1))), (6, .int z90), (0, .ref 8), (1, .int a), (2, .int b), (3, .int c), (4, .int z24), (5, .int y28)]) (st' := []) rfl ?_
                refine En_lv1 (addI rfl (by decide : (Int32.ofInt 1).toInt = 1) (by first | exact q_465ab79ac1 h36 | omega) (by first | exact q_1d2cffc2f0 h37 | omega)) (fun z92 h93 => ?_)
                refine En_Ps 1 (pc' := 36) (lv' := [(7, .int z92), (6, .int z90), (0, .ref 8), (1, .int a), (2, .int b), (3, .int c), (4, .int z24), (5, .int y28)]) (st' := []) rfl ?_
                refine En_lv (lv := [(0, .ref 8), (1, .int a), (2, .int b), (3, .int c), (4, .int z24), (5, .int y28), (6, .int z90), (7, .int z92)]) ⟨rfl, rfl, rfl, rfl, rfl, rfl, rfl, rfl, trivial⟩ ?_
                exact ih36 σ86 y28 z90 z92 h87 h91 (by first | exact q_58e6e51dcc h34 | omega) (by first | exact q_85cee82ad3 h35 | omega) (by first | exact q_35104ce9d3 h93 h36 | omega) (by first | exact q_14f3993466 h93 h48 h45.2 | omega) (by first | exact q_3a5e225620 h38 h93 | omega) (by first | exact q_baf82f6f45 h93 h39 | omega)
              · refine En_Ps 1 (pc' := 78) (lv' := [(5, .int ((y28 + Int32.ofInt 1))), (0, .ref 8), (1, .int a), (2, .int b), (3, .int c), (4, .int z24), (6, .int y29), (7, .int y30)]) (st' := []) rfl ?_
                refine En_lv1 (addI rfl (by decide : (Int32.ofInt 1).toInt = 1) (by first | exact q_465ab79ac1 h34 | omega) (by first | exact q_1d2cffc2f0 h35 | omega)) (fun z94 h95 => ?_)
                refine En_Ps 1 (pc' := 80) (lv' := [(5, .int z94), (0, .ref 8), (1, .int a), (2, .int b), (3, .int c), (4, .int z24), (6, .int y29), (7, .int y30)]) (st' := [.int y29]) rfl ?_
                refine En_callS rfl rfl rfl rfl rfl rfl rfl rfl rfl (c_28 σ77 h78 y29) (by decide) (by decide) (fun v97 σ98 h96 => ?_)
                obtain ⟨h99, h100, z102, rfl, h101⟩ := h96
                have h103 := Fr_trans h82 h100 (by decide +kernel)
                refine En_Ps 2 (pc' := 88) (lv' := [(7, .int ((y30 + Int32.ofInt 1))), (6, .int z102), (5, .int z94), (0, .ref 8), (1, .int a), (2, .int b), (3, .int c), (4, .int z24)]) (st' := []) rfl ?_
                refine En_lv1 (addI rfl (by decide : (Int32.ofInt 1).toInt = 1) (by first | exact q_465ab79ac1 h36 | omega) (by first | exact q_1d2cffc2f0 h37 | omega)) (fun z104 h105 => ?_)
                refine En_Ps 1 (pc' := 36) (lv' := [(7, .int z104), (6, .int z102), (5, .int z94), (0, .ref 8), (1, .int a), (2, .int b), (3, .int c), (4, .int z24)]) (st' := []) rfl ?_
                refine En_lv (lv := [(0, .ref 8), (1, .int a), (2, .int b), (3, .int c), (4, .int z24), (5, .int z94), (6, .int z102), (7, .int z104)]) ⟨rfl, rfl, rfl, rfl, rfl, rfl, rfl, rfl, trivial⟩ ?_
                exact ih36 σ98 z94 z102 z104 h99 h103 (by first | exact q_35104ce9d3 h95 h34 | omega) (by first | exact q_9fadb21f72 h95 h38 h48 h45.2 | omega) (by first | exact q_35104ce9d3 h105 h36 | omega) (by first | exact q_14f3993466 h105 h48 h45.2 | omega) (by first | exact q_1ff421e7a2 h95 h105 h38 | omega) (by first | exact q_baf82f6f45 h105 h39 | omega)
    have := (by decide : (Int32.ofInt 0).toInt = 0)
    have := (by decide : (Int32.ofInt 0).toInt = 0)
    refine En_lv (lv := [(0, .ref 8), (1, .int a), (2, .int b), (3, .int c), (4, .int z24), (5, .int ((Int32.ofInt 0))), (6, .int z27), (7, .int ((Int32.ofInt 0)))]) ⟨rfl, rfl, rfl, rfl, rfl, rfl, rfl, rfl, trivial⟩ ?_
    exact key36 (Int.toNat (65536) + 1) σ20 ((Int32.ofInt 0)) z27 ((Int32.ofInt 0)) h21 h25 (by decide) (by decide) (by decide) (by decide) (by omega) (by first | exact toN_lt _ | omega)
  · refine En_Ps 1 (pc' := 14) (lv' := [(0, .ref 8), (1, .int a), (2, .int b), (3, .int c)]) (st' := [.int ((Int32.ofInt 0))]) rfl ?_
    refine En_top (by decide : (Int32.ofInt 0).toInt = 0) (fun z106 h107 => ?_)
    exact En_ret (v := some (.int z106)) rfl rfl rfl ⟨h12, h16, z106, rfl, ⟨by first | exact q_097a37c2ae h107 | omega, by first | exact q_7cc8f582df h107 | omega⟩⟩

