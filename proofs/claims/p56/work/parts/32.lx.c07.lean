/-- DoorSchool$Rules.surely(IIZ)I -/
abbrev P_83 (σ0 : SG) (a : Int32) (b : Int32) (c : Int32) : PO := fun v σ => WT σ ∧ Fr [] σ0 σ ∧ ∃ ret : Int32, v = some (.int ret) ∧ -ret.toInt ≤ 0 ∧ ret.toInt - 65535 ≤ 0
set_option maxRecDepth 10000 in
set_option maxHeartbeats 4000000 in
theorem c_83 (σ0 : SG) (hσ0 : WT σ0) (a : Int32) (b : Int32) (c : Int32) (hl_c : 0 ≤ c.toInt) (hu_c : c.toInt ≤ 1) : En 1 22 none mr_83 (P_83 σ0 a b c) 0 [(0, .ref 4), (1, .int a), (2, .int b), (3, .int c)] [] σ0 := by
  have hF0 : Fr [] σ0 σ0 := Fr_rfl
  refine En_Ps 2 (pc' := 2) (lv' := [(0, .ref 4), (1, .int a), (2, .int b), (3, .int c)]) (st' := [.ref 4, .int ((Int32.ofInt 1))]) rfl ?_
  refine En_getI (j := 0) (l := 0) (u := 16) rfl rfl rfl tgz_4 (by decide +kernel) hσ0 (by decide +kernel) (fun z2 h1 h3 h4 => ?_)
  refine En_Ps 1 (pc' := 6) (lv' := [(0, .ref 4), (1, .int a), (2, .int b), (3, .int c)]) (st' := [.int ((((Int32.ofInt 1)) <<< (z2 &&& 31)))]) rfl ?_
  refine En_rng (shl1_p 16 rfl (by omega) (by omega) (by decide)) (fun z5 h6 h7 => ?_)
  refine En_Ps 2 (pc' := 8) (lv' := [(0, .ref 4), (1, .int a), (2, .int b), (3, .int c)]) (st' := [.int ((z5 - ((Int32.ofInt 1))))]) rfl ?_
  refine En_top (subI rfl (by decide : (Int32.ofInt 1).toInt = 1) (by first | exact q_96dadfce4b h6 | omega) (by first | exact q_8661d4233b h7 | omega)) (fun z8 h9 => ?_)
  refine En_Ps 3 (pc' := 13) (lv' := [(5, .int ((Int32.ofInt 0))), (4, .int z8), (0, .ref 4), (1, .int a), (2, .int b), (3, .int c)]) (st' := []) rfl ?_
  have key13 : ∀ (n13 : Nat) (σ12 : SG) (y10 : Int32) (y11 : Int32), WT σ12 → Fr [] σ0 σ12 → (σ12 4)[0]? = some (.int z2) → 0 ≤ y10.toInt → y10.toInt ≤ 65535 → 0 ≤ y11.toInt → y11.toInt ≤ 81 → -y11.toInt + 81 < (n13 : Int) → En 1 22 none mr_83 (P_83 σ0 a b c) 13 [(0, .ref 4), (1, .int a), (2, .int b), (3, .int c), (4, .int y10), (5, .int y11)] [] σ12 := by
    intro n13
    induction n13 with
    | zero =>
      intro σ12 y10 y11 h13 h14 h15 h16 h17 h18 h19 h20
      first | exact (q_ffef14d449 h20 h19).elim | (exfalso; omega)
    | succ n13 ih13 =>
      intro σ12 y10 y11 h13 h14 h15 h16 h17 h18 h19 h20
      refine En_Ps 2 (pc' := 16) (lv' := [(0, .ref 4), (1, .int a), (2, .int b), (3, .int c), (4, .int y10), (5, .int y11)]) (st' := [.ref 4, .int y11]) rfl ?_
      refine En_getI (j := 1) (l := 0) (u := 81) rfl rfl rfl tgz_4 (by decide +kernel) h13 (by decide +kernel) (fun z22 h21 h23 h24 => ?_)
      refine En_icGe _ rfl rfl rfl (fun h25 => ?_) (fun h25 => ?_)
      · refine En_Ps 1 (pc' := 73) (lv' := [(0, .ref 4), (1, .int a), (2, .int b), (3, .int c), (4, .int y10), (5, .int y11)]) (st' := [.int y10]) rfl ?_
        exact En_ret (v := some (.int y10)) rfl rfl rfl ⟨h13, h14, y10, rfl, ⟨by first | exact q_c803b490ef h16 | omega, by first | exact q_e7edf0f95a h17 | omega⟩⟩
      · refine En_Ps 1 (pc' := 23) (lv' := [(0, .ref 4), (1, .int a), (2, .int b), (3, .int c), (4, .int y10), (5, .int y11)]) (st' := [.ref 4]) rfl ?_
        refine En_getU (j := 4) (u := 7) (g' := 7) (q := 0) rfl rfl rfl tgz_4 (by decide +kernel) h13 (by decide +kernel) (by decide +kernel) (fun h26 => ?_)
        refine En_Ps 1 (pc' := 28) (lv' := [(0, .ref 4), (1, .int a), (2, .int b), (3, .int c), (4, .int y10), (5, .int y11)]) (st' := [.int y11, .ref 7]) rfl ?_
        refine En_iald (l := (-2147483648)) (u := 2147483647) rfl rfl tgz_7 (by decide +kernel) h13 (by first | exact q_58e6e51dcc h18 | omega) (lnI (by decide +kernel : LN _ = 81) (by first | exact q_a0e855914a h25 h24 | omega)) (FTsgl (by decide +kernel)) (fun z29 h28 h30 h31 => ?_)
        refine En_Ps 2 (pc' := 31) (lv' := [(0, .ref 4), (1, .int a), (2, .int b), (3, .int c), (4, .int y10), (5, .int y11)]) (st' := [.int b, .int a, .int z29]) rfl ?_
        refine En_callS rfl rfl rfl rfl rfl rfl rfl rfl rfl (c_100 σ12 h13 z29 a b) (by decide) (by decide) (fun v33 σ34 h32 => ?_)
        obtain ⟨h35, h36, z38, rfl, h37⟩ := h32
        have h39 := Fr_trans h14 h36 (by decide +kernel)
        refine En_iEq _ rfl rfl (fun h40 => ?_) (fun h40 => ?_)
        · refine En_Ps 1 (pc' := 68) (lv' := [(5, .int ((y11 + Int32.ofInt 1))), (0, .ref 4), (1, .int a), (2, .int b), (3, .int c), (4, .int y10)]) (st' := []) rfl ?_
          refine En_lv1 (addI rfl (by decide : (Int32.ofInt 1).toInt = 1) (by first | exact q_465ab79ac1 h18 | omega) (by first | exact q_d778ff18c8 h19 | omega)) (fun z41 h42 => ?_)
          refine En_Ps 1 (pc' := 13) (lv' := [(5, .int z41), (0, .ref 4), (1, .int a), (2, .int b), (3, .int c), (4, .int y10)]) (st' := []) rfl ?_
          refine En_lv (lv := [(0, .ref 4), (1, .int a), (2, .int b), (3, .int c), (4, .int y10), (5, .int z41)]) ⟨rfl, rfl, rfl, rfl, rfl, rfl, trivial⟩ ?_
          exact ih13 σ34 y10 z41 h35 h39 ((h36 _ _ (inW tgz_4 (by decide +kernel))).trans h15) (by first | exact q_58e6e51dcc h16 | omega) (by first | exact q_36eb0a70bf h17 | omega) (by first | exact q_35104ce9d3 h42 h18 | omega) (by first | exact q_798b104d48 h42 h25 h24 | omega) (by first | exact q_4ff790945b h42 h20 | omega)
        · refine En_Ps 2 (pc' := 40) (lv' := [(0, .ref 4), (1, .int a), (2, .int b), (3, .int c), (4, .int y10), (5, .int y11)]) (st' := [.int c, .int y10]) rfl ?_
          refine En_iEq _ rfl rfl (fun h43 => ?_) (fun h43 => ?_)
          · refine En_Ps 1 (pc' := 54) (lv' := [(0, .ref 4), (1, .int a), (2, .int b), (3, .int c), (4, .int y10), (5, .int y11)]) (st' := [.ref 4, .int y10]) rfl ?_
            refine En_getK (j := 4) ((h36 _ _ (inW tgz_4 (by decide +kernel))).trans h26) rfl rfl rfl tgz_4 (by decide +kernel) ?_
            refine En_Ps 1 (pc' := 59) (lv' := [(0, .ref 4), (1, .int a), (2, .int b), (3, .int c), (4, .int y10), (5, .int y11)]) (st' := [.int y11, .ref 7, .int y10]) rfl ?_
            refine En_ialdK ((h36 _ _ (inWa tgz_7 (by decide +kernel))).trans h28) rfl rfl tgz_7 (by decide +kernel) h35 (by first | exact q_58e6e51dcc h18 | omega) (lnI (by decide +kernel : LN _ = 81) (by first | exact q_a0e855914a h25 h24 | omega)) ?_
            refine En_Ps 2 (pc' := 62) (lv' := [(0, .ref 4), (1, .int a), (2, .int b), (3, .int c), (4, .int y10), (5, .int y11)]) (st' := [.int ((z29 ^^^ ((Int32.ofInt (-1))))), .int y10]) rfl ?_
            refine En_nam (fun z45 h46 => ?_)
            refine En_Ps 1 (pc' := 63) (lv' := [(0, .ref 4), (1, .int a), (2, .int b), (3, .int c), (4, .int y10), (5, .int y11)]) (st' := [.int ((y10 &&& z45))]) rfl ?_
            refine En_nam (fun z47 h48 => ?_)
            obtain ⟨h49, h50⟩ := andn_rng h48 rfl (by omega) (by omega : _ ≤ (65535 : Int))
            refine En_Ps 2 (pc' := 68) (lv' := [(5, .int ((y11 + Int32.ofInt 1))), (4, .int z47), (0, .ref 4), (1, .int a), (2, .int b), (3, .int c)]) (st' := []) rfl ?_
            refine En_lv1 (addI rfl (by decide : (Int32.ofInt 1).toInt = 1) (by first | exact q_465ab79ac1 h18 | omega) (by first | exact q_d778ff18c8 h19 | omega)) (fun z51 h52 => ?_)
            refine En_Ps 1 (pc' := 13) (lv' := [(5, .int z51), (4, .int z47), (0, .ref 4), (1, .int a), (2, .int b), (3, .int c)]) (st' := []) rfl ?_
            refine En_lv (lv := [(0, .ref 4), (1, .int a), (2, .int b), (3, .int c), (4, .int z47), (5, .int z51)]) ⟨rfl, rfl, rfl, rfl, rfl, rfl, trivial⟩ ?_
            exact ih13 σ34 z47 z51 h35 h39 ((h36 _ _ (inW tgz_4 (by decide +kernel))).trans h15) (by omega) (by omega) (by first | exact q_35104ce9d3 h52 h18 | omega) (by first | exact q_798b104d48 h52 h25 h24 | omega) (by first | exact q_4ff790945b h52 h20 | omega)
          · refine En_Ps 1 (pc' := 44) (lv' := [(0, .ref 4), (1, .int a), (2, .int b), (3, .int c), (4, .int y10), (5, .int y11)]) (st' := [.ref 4, .int y10]) rfl ?_
            refine En_getK (j := 4) ((h36 _ _ (inW tgz_4 (by decide +kernel))).trans h26) rfl rfl rfl tgz_4 (by decide +kernel) ?_
            refine En_Ps 1 (pc' := 49) (lv' := [(0, .ref 4), (1, .int a), (2, .int b), (3, .int c), (4, .int y10), (5, .int y11)]) (st' := [.int y11, .ref 7, .int y10]) rfl ?_
            refine En_ialdK ((h36 _ _ (inWa tgz_7 (by decide +kernel))).trans h28) rfl rfl tgz_7 (by decide +kernel) h35 (by first | exact q_58e6e51dcc h18 | omega) (lnI (by decide +kernel : LN _ = 81) (by first | exact q_a0e855914a h25 h24 | omega)) ?_
            refine En_Ps 2 (pc' := 63) (lv' := [(0, .ref 4), (1, .int a), (2, .int b), (3, .int c), (4, .int y10), (5, .int y11)]) (st' := [.int ((y10 &&& z29))]) rfl ?_
            refine En_rng (l := 0) (u := 65535) (andx_rng rfl (by omega) (by omega)) (fun z54 h55 h56 => ?_)
            refine En_Ps 2 (pc' := 68) (lv' := [(5, .int ((y11 + Int32.ofInt 1))), (4, .int z54), (0, .ref 4), (1, .int a), (2, .int b), (3, .int c)]) (st' := []) rfl ?_
            refine En_lv1 (addI rfl (by decide : (Int32.ofInt 1).toInt = 1) (by first | exact q_465ab79ac1 h18 | omega) (by first | exact q_d778ff18c8 h19 | omega)) (fun z57 h58 => ?_)
            refine En_Ps 1 (pc' := 13) (lv' := [(5, .int z57), (4, .int z54), (0, .ref 4), (1, .int a), (2, .int b), (3, .int c)]) (st' := []) rfl ?_
            refine En_lv (lv := [(0, .ref 4), (1, .int a), (2, .int b), (3, .int c), (4, .int z54), (5, .int z57)]) ⟨rfl, rfl, rfl, rfl, rfl, rfl, trivial⟩ ?_
            exact ih13 σ34 z54 z57 h35 h39 ((h36 _ _ (inW tgz_4 (by decide +kernel))).trans h15) (by first | exact q_58e6e51dcc h55 | omega) (by first | exact q_36eb0a70bf h56 | omega) (by first | exact q_35104ce9d3 h58 h18 | omega) (by first | exact q_798b104d48 h58 h25 h24 | omega) (by first | exact q_4ff790945b h58 h20 | omega)
  have := (by decide : (Int32.ofInt 0).toInt = 0)
  refine En_lv (lv := [(0, .ref 4), (1, .int a), (2, .int b), (3, .int c), (4, .int z8), (5, .int ((Int32.ofInt 0)))]) ⟨rfl, rfl, rfl, rfl, rfl, rfl, trivial⟩ ?_
  exact key13 (Int.toNat (81) + 1) σ0 z8 ((Int32.ofInt 0)) hσ0 hF0 h1 (by first | exact q_00529e3716 h9 h6 | omega) (by first | exact q_4255f5efe7 h9 h7 | omega) (by decide) (by decide) (by first | exact toN_lt _ | omega)
/-- DoorSchool$Slot.begin(II)V -/
abbrev P_84 (σ0 : SG) (s : Nat) (a : Int32) (b : Int32) : PO := fun v σ => WT σ ∧ Fr [(33, 1), (33, 2), (33, 3), (34, 0)] σ0 σ ∧ v = none ∧ True
set_option maxRecDepth 10000 in
set_option maxHeartbeats 4000000 in
theorem c_84 (σ0 : SG) (hσ0 : WT σ0) (s : Nat) (hs : TG s = 33) (a : Int32) (b : Int32) (hl_a : 0 ≤ a.toInt) (hu_a : a.toInt ≤ 3) (hl_b : 0 ≤ b.toInt) (hu_b : b.toInt ≤ 60) : En 1 24 none mr_84 (P_84 σ0 s a b) 0 [(0, .ref s), (1, .int a), (2, .int b)] [] σ0 := by
  have hF0 : Fr [(33, 1), (33, 2), (33, 3), (34, 0)] σ0 σ0 := Fr_rfl
  refine En_Ps 2 (pc' := 2) (lv' := [(0, .ref s), (1, .int a), (2, .int b)]) (st' := [.int ((Int32.ofInt 1)), .ref s]) rfl ?_
  refine En_put (j := 1) rfl rfl rfl hs (by decide +kernel) (okZ (by decide : (Int32.ofInt 1).toInt = 1) (by decide) (by decide)) (vI (l := 0) (u := 1) (by decide +kernel) (by decide : (Int32.ofInt 1).toInt = 1) (by decide) (by decide)) hσ0 hF0 (by decide +kernel) (fun σ1 h2 h3 h4 h5 => ?_)
  refine En_Ps 2 (pc' := 7) (lv' := [(0, .ref s), (1, .int a), (2, .int b)]) (st' := [.int a, .ref s]) rfl ?_
  refine En_put (j := 2) rfl rfl rfl hs (by decide +kernel) rfl (vI (l := 0) (u := 3) (by decide +kernel) rfl (by first | exact q_58e6e51dcc hl_a | omega) (by first | exact q_da5e9b976f hu_a | omega)) h2 h3 (by decide +kernel) (fun σ6 h7 h8 h9 h10 => ?_)
  refine En_Ps 2 (pc' := 12) (lv' := [(0, .ref s), (1, .int a), (2, .int b)]) (st' := [.int b, .ref s]) rfl ?_
  refine En_put (j := 3) rfl rfl rfl hs (by decide +kernel) rfl (vI (l := 0) (u := 60) (by decide +kernel) rfl (by first | exact q_58e6e51dcc hl_b | omega) (by first | exact q_d3912a5755 hu_b | omega)) h7 h8 (by decide +kernel) (fun σ11 h12 h13 h14 h15 => ?_)
  refine En_Ps 1 (pc' := 16) (lv' := [(0, .ref s), (1, .int a), (2, .int b)]) (st' := [.ref s]) rfl ?_
  refine En_getR (j := 0) (g' := 34) (u := 0) rfl rfl rfl hs (by decide +kernel) h12 (by decide +kernel) (fun a17 h16 ha17 => ?_)
  refine En_Ps 1 (pc' := 20) (lv' := [(0, .ref s), (1, .int a), (2, .int b)]) (st' := [.long ((Int64.ofNat 0)), .ref a17]) rfl ?_
  have := (by decide : ((Int64.ofNat 0)).toInt = 0)
  refine En_callS rfl rfl rfl rfl rfl rfl rfl rfl rfl (c_9a σ11 h12 a17 ha17 ((Int64.ofNat 0))) (by decide) (by decide) (fun v19 σ20 h18 => ?_)
  obtain ⟨h21, h22, rfl, h23⟩ := h18
  have h24 := Fr_trans h13 h22 (by decide +kernel)
  exact En_ret (v := none) rfl rfl rfl ⟨h21, h24, rfl, trivial⟩
/-- DoorSchool$Slot.has(II)Z -/
abbrev P_85 (σ0 : SG) (s : Nat) (a : Int32) (b : Int32) (sz : Int32) : PO := fun v σ => WT σ ∧ Fr [] σ0 σ ∧ ∃ ret : Int32, v = some (.int ret) ∧ -ret.toInt ≤ 0 ∧ ret.toInt - 1 ≤ 0 ∧ (-ret.toInt + 1 ≤ 0 → -b.toInt ≤ 0 ∧ -a.toInt ≤ 0 ∧ a.toInt + b.toInt - sz.toInt ≤ 0) ∧ (ret.toInt ≤ 0 ∧ -ret.toInt ≤ 0 → -b.toInt - 2147483648 ≤ 0 ∧ b.toInt - 2147483647 ≤ 0) ∧ (ret.toInt - 1 ≤ 0 ∧ -ret.toInt + 1 ≤ 0 → -a.toInt ≤ 0 ∧ a.toInt - 60 ≤ 0 ∧ -b.toInt ≤ 0 ∧ b.toInt - 60 ≤ 0)
set_option maxRecDepth 10000 in
set_option maxHeartbeats 4000000 in
theorem c_85 (σ0 : SG) (hσ0 : WT σ0) (s : Nat) (hs : TG s = 33) (a : Int32) (b : Int32) (sz : Int32) (h_sz : (σ0 s)[3]? = some (.int sz)) : En 0 0 none mr_85 (P_85 σ0 s a b sz) 0 [(0, .ref s), (1, .int a), (2, .int b)] [] σ0 := by
  obtain ⟨hl_sz, hu_sz⟩ := WT_int hσ0 (g := 33) hs (by decide +kernel) (l := 0) (u := 60) (by decide +kernel) h_sz
  have := Int32.le_toInt b
  have := Int32.toInt_lt b
  have hF0 : Fr [] σ0 σ0 := Fr_rfl
  refine En_Ps 1 (pc' := 1) (lv' := [(0, .ref s), (1, .int a), (2, .int b)]) (st' := [.int b]) rfl ?_
  refine En_iLt _ rfl rfl (fun h1 => ?_) (fun h1 => ?_)
  · refine En_Ps 1 (pc' := 23) (lv' := [(0, .ref s), (1, .int a), (2, .int b)]) (st' := [.int ((Int32.ofInt 0))]) rfl ?_
    refine En_top (by decide : (Int32.ofInt 0).toInt = 0) (fun z2 h3 => ?_)
    exact En_ret (v := some (.int z2)) rfl rfl (retZ rfl rfl (by first | exact q_55451d0a83 h3 | omega) (by first | exact q_87849c3859 h3 | omega)) ⟨hσ0, hF0, z2, rfl, ⟨by first | exact q_097a37c2ae h3 | omega, by first | exact q_e269517bee h3 | omega, fun _ => by omega, fun _ => by omega, fun _ => by omega⟩⟩
  · refine En_Ps 1 (pc' := 5) (lv' := [(0, .ref s), (1, .int a), (2, .int b)]) (st' := [.int a]) rfl ?_
    refine En_iLt _ rfl rfl (fun h4 => ?_) (fun h4 => ?_)
    · refine En_Ps 1 (pc' := 23) (lv' := [(0, .ref s), (1, .int a), (2, .int b)]) (st' := [.int ((Int32.ofInt 0))]) rfl ?_
      refine En_top (by decide : (Int32.ofInt 0).toInt = 0) (fun z5 h6 => ?_)
      exact En_ret (v := some (.int z5)) rfl rfl (retZ rfl rfl (by first | exact q_55451d0a83 h6 | omega) (by first | exact q_87849c3859 h6 | omega)) ⟨hσ0, hF0, z5, rfl, ⟨by first | exact q_097a37c2ae h6 | omega, by first | exact q_e269517bee h6 | omega, fun _ => by omega, fun _ => by omega, fun _ => by omega⟩⟩
    · refine En_Ps 2 (pc' := 10) (lv' := [(0, .ref s), (1, .int a), (2, .int b)]) (st' := [.ref s, .int a]) rfl ?_
      refine En_getK (j := 3) h_sz rfl rfl rfl hs (by decide +kernel) ?_
      refine En_Ps 2 (pc' := 15) (lv' := [(0, .ref s), (1, .int a), (2, .int b)]) (st' := [.int ((sz - b)), .int a]) rfl ?_
      refine En_top (subI rfl rfl (by omega) (by first | exact q_335971d0af hu_sz h1 | omega)) (fun z7 h8 => ?_)
      refine En_icGt _ rfl rfl rfl (fun h9 => ?_) (fun h9 => ?_)
      · refine En_Ps 1 (pc' := 23) (lv' := [(0, .ref s), (1, .int a), (2, .int b)]) (st' := [.int ((Int32.ofInt 0))]) rfl ?_
        refine En_top (by decide : (Int32.ofInt 0).toInt = 0) (fun z10 h11 => ?_)
        exact En_ret (v := some (.int z10)) rfl rfl (retZ rfl rfl (by first | exact q_55451d0a83 h11 | omega) (by first | exact q_87849c3859 h11 | omega)) ⟨hσ0, hF0, z10, rfl, ⟨by first | exact q_097a37c2ae h11 | omega, by first | exact q_e269517bee h11 | omega, fun _ => by omega, fun _ => by omega, fun _ => by omega⟩⟩
      · refine En_Ps 2 (pc' := 23) (lv' := [(0, .ref s), (1, .int a), (2, .int b)]) (st' := [.int ((Int32.ofInt 1))]) rfl ?_
        refine En_top (by decide : (Int32.ofInt 1).toInt = 1) (fun z12 h13 => ?_)
        exact En_ret (v := some (.int z12)) rfl rfl (retZ rfl rfl (by first | exact q_2b07c97645 h13 | omega) (by first | exact q_d9e7cbb253 h13 | omega)) ⟨hσ0, hF0, z12, rfl, ⟨by first | exact q_ad3eee31ca h13 | omega, by first | exact q_81cf297dc4 h13 | omega, fun _ => by omega, fun _ => by omega, fun _ => by omega⟩⟩
/-- DoorSchool$Slot.isPairs(I)Z -/
abbrev P_87 (σ0 : SG) (s : Nat) (a : Int32) : PO := fun v σ => WT σ ∧ Fr [] σ0 σ ∧ ∃ ret : Int32, v = some (.int ret) ∧ -ret.toInt ≤ 0 ∧ ret.toInt - 1 ≤ 0
set_option maxRecDepth 10000 in
set_option maxHeartbeats 4000000 in
theorem c_87 (σ0 : SG) (hσ0 : WT σ0) (s : Nat) (hs : TG s = 33) (a : Int32) : En 0 0 none mr_87 (P_87 σ0 s a) 0 [(0, .ref s), (1, .int a)] [] σ0 := by
  have hF0 : Fr [] σ0 σ0 := Fr_rfl
  refine En_Ps 2 (pc' := 2) (lv' := [(2, .int ((Int32.ofInt 0))), (0, .ref s), (1, .int a)]) (st' := []) rfl ?_
  have key2 : ∀ (n2 : Nat) (σ2 : SG) (y1 : Int32), WT σ2 → Fr [] σ0 σ2 → 0 ≤ y1.toInt → y1.toInt ≤ 60 → -y1.toInt + 60 < (n2 : Int) → En 0 0 none mr_87 (P_87 σ0 s a) 2 [(0, .ref s), (1, .int a), (2, .int y1)] [] σ2 := by
    intro n2
    induction n2 with
    | zero =>
      intro σ2 y1 h3 h4 h5 h6 h7
      first | exact (q_98ae87e5bf h7 h6).elim | (exfalso; omega)
    | succ n2 ih2 =>
      intro σ2 y1 h3 h4 h5 h6 h7
      refine En_Ps 3 (pc' := 5) (lv' := [(0, .ref s), (1, .int a), (2, .int y1)]) (st' := [.int ((y1 + ((Int32.ofInt 1))))]) rfl ?_
      refine En_top (addI rfl (by decide : (Int32.ofInt 1).toInt = 1) (by first | exact q_465ab79ac1 h5 | omega) (by first | exact q_232407ab69 h6 | omega)) (fun z8 h9 => ?_)
      refine En_Ps 1 (pc' := 6) (lv' := [(0, .ref s), (1, .int a), (2, .int y1)]) (st' := [.ref s, .int z8]) rfl ?_
      refine En_getI (j := 3) (l := 0) (u := 60) rfl rfl rfl hs (by decide +kernel) h3 (by decide +kernel) (fun z11 h10 h12 h13 => ?_)
      refine En_icGe _ rfl rfl rfl (fun h14 => ?_) (fun h14 => ?_)
      · refine En_Ps 1 (pc' := 65) (lv' := [(0, .ref s), (1, .int a), (2, .int y1)]) (st' := [.ref s]) rfl ?_
        refine En_getK (j := 3) h10 rfl rfl rfl hs (by decide +kernel) ?_
        refine En_Ps 1 (pc' := 69) (lv' := [(0, .ref s), (1, .int a), (2, .int y1)]) (st' := [.int ((Int32.ofInt 2)), .int z11]) rfl ?_
        refine En_irem (c := 2) rfl rfl (by decide : (Int32.ofInt 2).toInt = 2) (by omega) (by decide) (fun z15 h16 => ?_)
        refine En_iNe _ rfl rfl (fun h17 => ?_) (fun h17 => ?_)
        · refine En_Ps 1 (pc' := 78) (lv' := [(0, .ref s), (1, .int a), (2, .int y1)]) (st' := [.int ((Int32.ofInt 0))]) rfl ?_
          refine En_top (by decide : (Int32.ofInt 0).toInt = 0) (fun z18 h19 => ?_)
          exact En_ret (v := some (.int z18)) rfl rfl (retZ rfl rfl (by first | exact q_55451d0a83 h19 | omega) (by first | exact q_87849c3859 h19 | omega)) ⟨h3, h4, z18, rfl, ⟨by first | exact q_097a37c2ae h19 | omega, by first | exact q_e269517bee h19 | omega⟩⟩
        · refine En_Ps 2 (pc' := 78) (lv' := [(0, .ref s), (1, .int a), (2, .int y1)]) (st' := [.int ((Int32.ofInt 1))]) rfl ?_
          refine En_top (by decide : (Int32.ofInt 1).toInt = 1) (fun z20 h21 => ?_)
          exact En_ret (v := some (.int z20)) rfl rfl (retZ rfl rfl (by first | exact q_2b07c97645 h21 | omega) (by first | exact q_d9e7cbb253 h21 | omega)) ⟨h3, h4, z20, rfl, ⟨by first | exact q_ad3eee31ca h21 | omega, by first | exact q_81cf297dc4 h21 | omega⟩⟩
      · refine En_Ps 1 (pc' := 13) (lv' := [(0, .ref s), (1, .int a), (2, .int y1)]) (st' := [.ref s]) rfl ?_
        refine En_getR (j := 0) (g' := 34) (u := 0) rfl rfl rfl hs (by decide +kernel) h3 (by decide +kernel) (fun a23 h22 ha23 => ?_)
        refine En_Ps 1 (pc' := 17) (lv' := [(0, .ref s), (1, .int a), (2, .int y1)]) (st' := [.int y1, .ref a23]) rfl ?_
        refine En_lald (l := (-9223372036854775808)) (u := 9223372036854775807) rfl rfl ha23 (by decide +kernel) h3 (by first | exact q_58e6e51dcc h5 | omega) (lnI (by decide +kernel : LN _ = 60) (by first | exact q_1f992a1ee2 h9 h14 h13 | omega)) (FTsgl (by decide +kernel)) (fun z25 h24 h26 h27 => ?_)
        refine En_Ps 2 (pc' := 20) (lv' := [(3, .long z25), (0, .ref s), (1, .int a), (2, .int y1)]) (st' := [.ref s]) rfl ?_
        refine En_getK (j := 0) h22 rfl rfl rfl hs (by decide +kernel) ?_
        refine En_Ps 3 (pc' := 26) (lv' := [(3, .long z25), (0, .ref s), (1, .int a), (2, .int y1)]) (st' := [.int ((y1 + ((Int32.ofInt 1)))), .ref a23]) rfl ?_
        refine En_top (addI rfl (by decide : (Int32.ofInt 1).toInt = 1) (by first | exact q_465ab79ac1 h5 | omega) (by first | exact q_232407ab69 h6 | omega)) (fun z28 h29 => ?_)
        refine En_lald (l := (-9223372036854775808)) (u := 9223372036854775807) rfl rfl ha23 (by decide +kernel) h3 (by first | exact q_35104ce9d3 h29 h5 | omega) (lnI (by decide +kernel : LN _ = 60) (by first | exact q_5b68d032b0 h29 h9 h14 h13 | omega)) (FTsgl (by decide +kernel)) (fun z31 h30 h32 h33 => ?_)
        refine En_Ps 4 (pc' := 32) (lv' := [(5, .long z31), (3, .long z25), (0, .ref s), (1, .int a), (2, .int y1)]) (st' := [.int (lg_cmp z25 ((Int64.ofNat 0)))]) rfl ?_
        refine En_lgLt _ rfl (by decide : (Int64.ofNat 0).toInt = 0) rfl (fun h34 => ?_) (fun h34 => ?_)
        · refine En_Ps 1 (pc' := 57) (lv' := [(5, .long z31), (3, .long z25), (0, .ref s), (1, .int a), (2, .int y1)]) (st' := [.int ((Int32.ofInt 0))]) rfl ?_
          refine En_top (by decide : (Int32.ofInt 0).toInt = 0) (fun z35 h36 => ?_)
          exact En_ret (v := some (.int z35)) rfl rfl (retZ rfl rfl (by first | exact q_55451d0a83 h36 | omega) (by first | exact q_87849c3859 h36 | omega)) ⟨h3, h4, z35, rfl, ⟨by first | exact q_097a37c2ae h36 | omega, by first | exact q_e269517bee h36 | omega⟩⟩
        · refine En_Ps 4 (pc' := 39) (lv' := [(5, .long z31), (3, .long z25), (0, .ref s), (1, .int a), (2, .int y1)]) (st' := [.int (lg_cmp z25 a.toInt64)]) rfl ?_
          refine En_lgGe _ rfl (i2lI rfl) rfl (fun h37 => ?_) (fun h37 => ?_)
          · refine En_Ps 1 (pc' := 57) (lv' := [(5, .long z31), (3, .long z25), (0, .ref s), (1, .int a), (2, .int y1)]) (st' := [.int ((Int32.ofInt 0))]) rfl ?_
            refine En_top (by decide : (Int32.ofInt 0).toInt = 0) (fun z38 h39 => ?_)
            exact En_ret (v := some (.int z38)) rfl rfl (retZ rfl rfl (by first | exact q_55451d0a83 h39 | omega) (by first | exact q_87849c3859 h39 | omega)) ⟨h3, h4, z38, rfl, ⟨by first | exact q_097a37c2ae h39 | omega, by first | exact q_e269517bee h39 | omega⟩⟩
          · refine En_Ps 3 (pc' := 46) (lv' := [(5, .long z31), (3, .long z25), (0, .ref s), (1, .int a), (2, .int y1)]) (st' := [.int (lg_cmp z31 ((Int64.ofNat 0)))]) rfl ?_
            refine En_lgLt _ rfl (by decide : (Int64.ofNat 0).toInt = 0) rfl (fun h40 => ?_) (fun h40 => ?_)
            · refine En_Ps 1 (pc' := 57) (lv' := [(5, .long z31), (3, .long z25), (0, .ref s), (1, .int a), (2, .int y1)]) (st' := [.int ((Int32.ofInt 0))]) rfl ?_
              refine En_top (by decide : (Int32.ofInt 0).toInt = 0) (fun z41 h42 => ?_)
              exact En_ret (v := some (.int z41)) rfl rfl (retZ rfl rfl (by first | exact q_55451d0a83 h42 | omega) (by first | exact q_87849c3859 h42 | omega)) ⟨h3, h4, z41, rfl, ⟨by first | exact q_097a37c2ae h42 | omega, by first | exact q_e269517bee h42 | omega⟩⟩
            · refine En_Ps 3 (pc' := 53) (lv' := [(5, .long z31), (3, .long z25), (0, .ref s), (1, .int a), (2, .int y1)]) (st' := [.int (lg_cmp z31 ((Int64.ofNat 1)))]) rfl ?_
              refine En_lgLe _ rfl (by decide : (Int64.ofNat 1).toInt = 1) rfl (fun h43 => ?_) (fun h43 => ?_)
              · refine En_Ps 1 (pc' := 61) (lv' := [(2, .int ((y1 + Int32.ofInt 2))), (5, .long z31), (3, .long z25), (0, .ref s), (1, .int a)]) (st' := []) rfl ?_
                refine En_lv1 (addI rfl (by decide : (Int32.ofInt 2).toInt = 2) (by first | exact q_f7bbb7a326 h5 | omega) (by first | exact q_f6c848b1e9 h6 | omega)) (fun z44 h45 => ?_)
                refine En_Ps 1 (pc' := 2) (lv' := [(2, .int z44), (5, .long z31), (3, .long z25), (0, .ref s), (1, .int a)]) (st' := []) rfl ?_
                refine En_lv (lv := [(0, .ref s), (1, .int a), (2, .int z44)]) ⟨rfl, rfl, rfl, trivial⟩ ?_
                exact ih2 σ2 z44 h3 h4 (by first | exact q_8f6627763a h45 h5 | omega) (by first | exact q_1b7405be80 h45 h9 h14 h13 | omega) (by first | exact q_84b996d9f0 h45 h7 | omega)
              · refine En_Ps 1 (pc' := 57) (lv' := [(5, .long z31), (3, .long z25), (0, .ref s), (1, .int a), (2, .int y1)]) (st' := [.int ((Int32.ofInt 0))]) rfl ?_
                refine En_top (by decide : (Int32.ofInt 0).toInt = 0) (fun z46 h47 => ?_)
                exact En_ret (v := some (.int z46)) rfl rfl (retZ rfl rfl (by first | exact q_55451d0a83 h47 | omega) (by first | exact q_87849c3859 h47 | omega)) ⟨h3, h4, z46, rfl, ⟨by first | exact q_097a37c2ae h47 | omega, by first | exact q_e269517bee h47 | omega⟩⟩
  have := (by decide : (Int32.ofInt 0).toInt = 0)
  refine En_lv (lv := [(0, .ref s), (1, .int a), (2, .int ((Int32.ofInt 0)))]) ⟨rfl, rfl, rfl, trivial⟩ ?_
  exact key2 (Int.toNat (60) + 1) σ0 ((Int32.ofInt 0)) hσ0 hF0 (by decide) (by decide) (by first | exact toN_lt _ | omega)
/-- DoorSchool$Slot.put(IJ)V -/
abbrev P_88 (σ0 : SG) (s : Nat) (a : Int32) (b : Int64) : PO := fun v σ => WT σ ∧ Fr [(34, 0)] σ0 σ ∧ v = none ∧ True
set_option maxRecDepth 10000 in
set_option maxHeartbeats 4000000 in
theorem c_88 (σ0 : SG) (hσ0 : WT σ0) (s : Nat) (hs : TG s = 33) (a : Int32) (b : Int64) (hl_a : 0 ≤ a.toInt) (hu_a : a.toInt ≤ 59) : En 0 0 none mr_88 (P_88 σ0 s a b) 0 [(0, .ref s), (1, .int a), (2, .long b)] [] σ0 := by
  have hF0 : Fr [(34, 0)] σ0 σ0 := Fr_rfl
  refine En_Ps 3 (pc' := 5) (lv' := [(0, .ref s), (1, .int a), (2, .long b)]) (st' := [.ref s, .int (((Int8.ofInt 8).toInt32)), .int (((Int8.ofInt 64).toInt32))]) rfl ?_
  refine En_getI (j := 2) (l := 0) (u := 3) rfl rfl rfl hs (by decide +kernel) hσ0 (by decide +kernel) (fun z2 h1 h3 h4 => ?_)
  refine En_Ps 1 (pc' := 9) (lv' := [(0, .ref s), (1, .int a), (2, .long b)]) (st' := [.int (((((Int8.ofInt 8).toInt32)) <<< (z2 &&& 31))), .int (((Int8.ofInt 64).toInt32))]) rfl ?_
  refine En_hav (fun z5 => ?_)
  refine En_Ps 1 (pc' := 10) (lv' := [(0, .ref s), (1, .int a), (2, .long b)]) (st' := [.int (((((Int8.ofInt 64).toInt32)) - z5))]) rfl ?_
  refine En_hav (fun z6 => ?_)
  refine En_Ps 2 (pc' := 13) (lv' := [(4, .int z6), (0, .ref s), (1, .int a), (2, .long b)]) (st' := [.ref s]) rfl ?_
  refine En_getR (j := 0) (g' := 34) (u := 0) rfl rfl rfl hs (by decide +kernel) hσ0 (by decide +kernel) (fun a8 h7 ha8 => ?_)
  refine En_Ps 4 (pc' := 21) (lv' := [(4, .int z6), (0, .ref s), (1, .int a), (2, .long b)]) (st' := [.long ((b <<< (z6.toInt64 &&& 63))), .int a, .ref a8]) rfl ?_
  refine En_havL (fun z9 => ?_)
  refine En_Ps 2 (pc' := 24) (lv' := [(4, .int z6), (0, .ref s), (1, .int a), (2, .long b)]) (st' := [.long ((z9 >>> (z6.toInt64 &&& 63))), .int a, .ref a8]) rfl ?_
  refine En_havL (fun z10 => ?_)
  refine En_last (l := (-9223372036854775808)) (u := 9223372036854775807) rfl rfl ha8 (by decide +kernel) (by first | exact q_58e6e51dcc hl_a | omega) (lnI (by decide +kernel : LN _ = 60) (by first | exact q_060ff3ca01 hu_a | omega)) (FTsgl (by decide +kernel)) (fullL _) hσ0 hF0 (by decide +kernel) (fun σ11 h12 h13 h14 h15 => ?_)
  exact En_ret (v := none) rfl rfl rfl ⟨h12, h13, rfl, trivial⟩
/-- DoorSchool$Slot.said(I)I -/
abbrev P_89 (σ0 : SG) (s : Nat) (a : Int32) : PO := fun v σ => WT σ ∧ Fr [] σ0 σ ∧ ∃ ret : Int32, v = some (.int ret) ∧ True
set_option maxRecDepth 10000 in
set_option maxHeartbeats 4000000 in
theorem c_89 (σ0 : SG) (hσ0 : WT σ0) (s : Nat) (hs : TG s = 33) (a : Int32) : En 0 0 none mr_89 (P_89 σ0 s a) 0 [(0, .ref s), (1, .int a)] [] σ0 := by
  have hF0 : Fr [] σ0 σ0 := Fr_rfl
  refine En_Ps 4 (pc' := 4) (lv' := [(3, .int ((Int32.ofInt 0))), (2, .int ((Int32.ofInt 0))), (0, .ref s), (1, .int a)]) (st' := []) rfl ?_
  have key4 : ∀ (n4 : Nat) (σ3 : SG) (y1 : Int32) (y2 : Int32), WT σ3 → Fr [] σ0 σ3 → 0 ≤ y2.toInt → y2.toInt ≤ 60 → -y2.toInt + 60 < (n4 : Int) → En 0 0 none mr_89 (P_89 σ0 s a) 4 [(0, .ref s), (1, .int a), (2, .int y1), (3, .int y2)] [] σ3 := by
    intro n4
    induction n4 with
    | zero =>
      intro σ3 y1 y2 h4 h5 h6 h7 h8
      first | exact (q_98ae87e5bf h8 h7).elim | (exfalso; omega)
    | succ n4 ih4 =>
      intro σ3 y1 y2 h4 h5 h6 h7 h8
      refine En_Ps 3 (pc' := 7) (lv' := [(0, .ref s), (1, .int a), (2, .int y1), (3, .int y2)]) (st' := [.int ((y2 + ((Int32.ofInt 1))))]) rfl ?_
      refine En_top (addI rfl (by decide : (Int32.ofInt 1).toInt = 1) (by first | exact q_465ab79ac1 h6 | omega) (by first | exact q_232407ab69 h7 | omega)) (fun z9 h10 => ?_)
      refine En_Ps 1 (pc' := 8) (lv' := [(0, .ref s), (1, .int a), (2, .int y1), (3, .int y2)]) (st' := [.ref s, .int z9]) rfl ?_
      refine En_getI (j := 3) (l := 0) (u := 60) rfl rfl rfl hs (by decide +kernel) h4 (by decide +kernel) (fun z12 h11 h13 h14 => ?_)
      refine En_icGe _ rfl rfl rfl (fun h15 => ?_) (fun h15 => ?_)
      · refine En_Ps 1 (pc' := 47) (lv' := [(0, .ref s), (1, .int a), (2, .int y1), (3, .int y2)]) (st' := [.int y1]) rfl ?_
        exact En_ret (v := some (.int y1)) rfl rfl rfl ⟨h4, h5, y1, rfl, trivial⟩
      · refine En_Ps 1 (pc' := 15) (lv' := [(0, .ref s), (1, .int a), (2, .int y1), (3, .int y2)]) (st' := [.ref s]) rfl ?_
        refine En_getR (j := 0) (g' := 34) (u := 0) rfl rfl rfl hs (by decide +kernel) h4 (by decide +kernel) (fun a17 h16 ha17 => ?_)
        refine En_Ps 3 (pc' := 21) (lv' := [(0, .ref s), (1, .int a), (2, .int y1), (3, .int y2)]) (st' := [.int ((y2 + ((Int32.ofInt 1)))), .ref a17]) rfl ?_
        refine En_top (addI rfl (by decide : (Int32.ofInt 1).toInt = 1) (by first | exact q_465ab79ac1 h6 | omega) (by first | exact q_232407ab69 h7 | omega)) (fun z18 h19 => ?_)
        refine En_lald (l := (-9223372036854775808)) (u := 9223372036854775807) rfl rfl ha17 (by decide +kernel) h4 (by first | exact q_35104ce9d3 h19 h6 | omega) (lnI (by decide +kernel : LN _ = 60) (by first | exact q_5b68d032b0 h19 h10 h15 h14 | omega)) (FTsgl (by decide +kernel)) (fun z21 h20 h22 h23 => ?_)
        refine En_Ps 3 (pc' := 25) (lv' := [(0, .ref s), (1, .int a), (2, .int y1), (3, .int y2)]) (st' := [.int (lg_cmp z21 a.toInt64)]) rfl ?_
        refine En_lgNe _ rfl (i2lI rfl) rfl (fun h24 => ?_) (fun h24 => ?_)
        · refine En_Ps 1 (pc' := 43) (lv' := [(3, .int ((y2 + Int32.ofInt 2))), (0, .ref s), (1, .int a), (2, .int y1)]) (st' := []) rfl ?_
          refine En_lv1 (addI rfl (by decide : (Int32.ofInt 2).toInt = 2) (by first | exact q_f7bbb7a326 h6 | omega) (by first | exact q_f6c848b1e9 h7 | omega)) (fun z25 h26 => ?_)
          refine En_Ps 1 (pc' := 4) (lv' := [(3, .int z25), (0, .ref s), (1, .int a), (2, .int y1)]) (st' := []) rfl ?_
          refine En_lv (lv := [(0, .ref s), (1, .int a), (2, .int y1), (3, .int z25)]) ⟨rfl, rfl, rfl, rfl, trivial⟩ ?_
          exact ih4 σ3 y1 z25 h4 h5 (by first | exact q_8f6627763a h26 h6 | omega) (by first | exact q_1b7405be80 h26 h10 h15 h14 | omega) (by first | exact q_84b996d9f0 h26 h8 | omega)
        · refine En_Ps 3 (pc' := 31) (lv' := [(0, .ref s), (1, .int a), (2, .int y1), (3, .int y2)]) (st' := [.ref s, .int ((Int32.ofInt 1)), .int y1]) rfl ?_
          refine En_getK (j := 0) h16 rfl rfl rfl hs (by decide +kernel) ?_
          refine En_Ps 1 (pc' := 35) (lv' := [(0, .ref s), (1, .int a), (2, .int y1), (3, .int y2)]) (st' := [.int y2, .ref a17, .int ((Int32.ofInt 1)), .int y1]) rfl ?_
          refine En_lald (l := (-9223372036854775808)) (u := 9223372036854775807) rfl rfl ha17 (by decide +kernel) h4 (by first | exact q_58e6e51dcc h6 | omega) (lnI (by decide +kernel : LN _ = 60) (by first | exact q_1f992a1ee2 h10 h15 h14 | omega)) (FTsgl (by decide +kernel)) (fun z28 h27 h29 h30 => ?_)
          refine En_Ps 1 (pc' := 37) (lv' := [(0, .ref s), (1, .int a), (2, .int y1), (3, .int y2)]) (st' := [.int ((z28.toInt32)), .int ((Int32.ofInt 1)), .int y1]) rfl ?_
          refine En_hav (fun z31 => ?_)
          refine En_Ps 1 (pc' := 38) (lv' := [(0, .ref s), (1, .int a), (2, .int y1), (3, .int y2)]) (st' := [.int ((((Int32.ofInt 1)) <<< (z31 &&& 31))), .int y1]) rfl ?_
          refine En_hav (fun z32 => ?_)
          refine En_Ps 1 (pc' := 39) (lv' := [(0, .ref s), (1, .int a), (2, .int y1), (3, .int y2)]) (st' := [.int ((y1 ||| z32))]) rfl ?_
          refine En_hav (fun z33 => ?_)
          refine En_Ps 2 (pc' := 43) (lv' := [(3, .int ((y2 + Int32.ofInt 2))), (2, .int z33), (0, .ref s), (1, .int a)]) (st' := []) rfl ?_
          refine En_lv1 (addI rfl (by decide : (Int32.ofInt 2).toInt = 2) (by first | exact q_f7bbb7a326 h6 | omega) (by first | exact q_f6c848b1e9 h7 | omega)) (fun z34 h35 => ?_)
          refine En_Ps 1 (pc' := 4) (lv' := [(3, .int z34), (2, .int z33), (0, .ref s), (1, .int a)]) (st' := []) rfl ?_
          refine En_lv (lv := [(0, .ref s), (1, .int a), (2, .int z33), (3, .int z34)]) ⟨rfl, rfl, rfl, rfl, trivial⟩ ?_
          exact ih4 σ3 z33 z34 h4 h5 (by first | exact q_8f6627763a h35 h6 | omega) (by first | exact q_1b7405be80 h35 h10 h15 h14 | omega) (by first | exact q_84b996d9f0 h35 h8 | omega)
  have := (by decide : (Int32.ofInt 0).toInt = 0)
  have := (by decide : (Int32.ofInt 0).toInt = 0)
  refine En_lv (lv := [(0, .ref s), (1, .int a), (2, .int ((Int32.ofInt 0))), (3, .int ((Int32.ofInt 0)))]) ⟨rfl, rfl, rfl, rfl, trivial⟩ ?_
  exact key4 (Int.toNat (60) + 1) σ0 ((Int32.ofInt 0)) ((Int32.ofInt 0)) hσ0 hF0 (by decide) (by decide) (by first | exact toN_lt _ | omega)
/-- DoorSchool$Timetable.readyAt(LDoorSchool$Plan;I)I -/
abbrev P_97 (σ0 : SG) (a : Nat) (b : Int32) : PO := fun v σ => WT σ ∧ Fr [] σ0 σ ∧ ∃ ret : Int32, v = some (.int ret) ∧ -ret.toInt ≤ 0 ∧ ret.toInt - 63 ≤ 0
set_option maxRecDepth 10000 in
set_option maxHeartbeats 4000000 in
theorem c_97 (σ0 : SG) (hσ0 : WT σ0) (a : Nat) (ha : TG a = 18) (b : Int32) (hl_b : 0 ≤ b.toInt) (hu_b : b.toInt ≤ 5) : En 1 21 none mr_97 (P_97 σ0 a b) 0 [(0, .ref 14), (1, .ref a), (2, .int b)] [] σ0 := by
  have hF0 : Fr [] σ0 σ0 := Fr_rfl
  refine En_Ps 4 (pc' := 5) (lv' := [(4, .int ((Int32.ofInt 0))), (3, .int ((Int32.ofInt 0))), (0, .ref 14), (1, .ref a), (2, .int b)]) (st' := []) rfl ?_
  have key5 : ∀ (n5 : Nat) (σ3 : SG) (y1 : Int32) (y2 : Int32), WT σ3 → Fr [] σ0 σ3 → 0 ≤ y1.toInt → y1.toInt ≤ 63 → 0 ≤ y2.toInt → y2.toInt ≤ 5 → y2.toInt - b.toInt ≤ 0 → b.toInt - y2.toInt < (n5 : Int) → En 1 21 none mr_97 (P_97 σ0 a b) 5 [(0, .ref 14), (1, .ref a), (2, .int b), (3, .int y1), (4, .int y2)] [] σ3 := by
    intro n5
    induction n5 with
    | zero =>
      intro σ3 y1 y2 h4 h5 h6 h7 h8 h9 h10 h11
      first | exact (q_14257feae7 h10 h11).elim | (exfalso; omega)
    | succ n5 ih5 =>
      intro σ3 y1 y2 h4 h5 h6 h7 h8 h9 h10 h11
      refine En_Ps 2 (pc' := 8) (lv' := [(0, .ref 14), (1, .ref a), (2, .int b), (3, .int y1), (4, .int y2)]) (st' := [.int b, .int y2]) rfl ?_
      refine En_icGe _ rfl rfl rfl (fun h12 => ?_) (fun h12 => ?_)
      · refine En_Ps 1 (pc' := 53) (lv' := [(0, .ref 14), (1, .ref a), (2, .int b), (3, .int y1), (4, .int y2)]) (st' := [.int y1]) rfl ?_
        exact En_ret (v := some (.int y1)) rfl rfl rfl ⟨h4, h5, y1, rfl, ⟨by first | exact q_c803b490ef h6 | omega, by first | exact q_ac3306975b h7 | omega⟩⟩
      · refine En_Ps 1 (pc' := 12) (lv' := [(0, .ref 14), (1, .ref a), (2, .int b), (3, .int y1), (4, .int y2)]) (st' := [.ref a]) rfl ?_
        refine En_getR (j := 13) (g' := 26) (u := 0) rfl rfl rfl ha (by decide +kernel) h4 (by decide +kernel) (fun a14 h13 ha14 => ?_)
        refine En_Ps 1 (pc' := 16) (lv' := [(0, .ref 14), (1, .ref a), (2, .int b), (3, .int y1), (4, .int y2)]) (st' := [.int b, .ref a14]) rfl ?_
        refine En_iald (l := 0) (u := 63) rfl rfl ha14 (by decide +kernel) h4 (by first | exact q_58e6e51dcc hl_b | omega) (lnI (by decide +kernel : LN _ = 6) (by first | exact q_f6226e27c9 hu_b | omega)) (FTsgl (by decide +kernel)) (fun z16 h15 h17 h18 => ?_)
        refine En_Ps 1 (pc' := 19) (lv' := [(0, .ref 14), (1, .ref a), (2, .int b), (3, .int y1), (4, .int y2)]) (st' := [.int y2, .int z16]) rfl ?_
        refine En_callS rfl rfl rfl rfl rfl rfl rfl rfl rfl (c_108 σ3 h4 z16 y2) (by decide) (by decide) (fun v20 σ21 h19 => ?_)
        obtain ⟨h22, h23, z25, rfl, h24⟩ := h19
        have h26 := Fr_trans h5 h23 (by decide +kernel)
        refine En_Ps 1 (pc' := 23) (lv' := [(0, .ref 14), (1, .ref a), (2, .int b), (3, .int y1), (4, .int y2)]) (st' := [.int ((Int32.ofInt 1)), .int z25]) rfl ?_
        refine En_icNe _ rfl (by decide : (Int32.ofInt 1).toInt = 1) rfl (fun h27 => ?_) (fun h27 => ?_)
        · refine En_Ps 1 (pc' := 49) (lv' := [(4, .int ((y2 + Int32.ofInt 1))), (0, .ref 14), (1, .ref a), (2, .int b), (3, .int y1)]) (st' := []) rfl ?_
          refine En_lv1 (addI rfl (by decide : (Int32.ofInt 1).toInt = 1) (by first | exact q_465ab79ac1 h8 | omega) (by first | exact q_aeda34609f h9 | omega)) (fun z28 h29 => ?_)
          refine En_Ps 1 (pc' := 5) (lv' := [(4, .int z28), (0, .ref 14), (1, .ref a), (2, .int b), (3, .int y1)]) (st' := []) rfl ?_
          refine En_lv (lv := [(0, .ref 14), (1, .ref a), (2, .int b), (3, .int y1), (4, .int z28)]) ⟨rfl, rfl, rfl, rfl, rfl, trivial⟩ ?_
          exact ih5 σ21 y1 z28 h22 h26 (by first | exact q_58e6e51dcc h6 | omega) (by first | exact q_8bf848900a h7 | omega) (by first | exact q_35104ce9d3 h29 h8 | omega) (by first | exact q_b880857b86 h29 h12 hu_b | omega) (by first | exact q_ae2dbf4292 h12 h29 | omega) (by first | exact q_8d03a5a7cb h29 h11 | omega)
        · refine En_Ps 2 (pc' := 28) (lv' := [(0, .ref 14), (1, .ref a), (2, .int b), (3, .int y1), (4, .int y2)]) (st' := [.ref 14, .int y1]) rfl ?_
          refine En_getU (j := 1) (u := 16) (g' := 16) (q := 0) rfl rfl rfl tgz_14 (by decide +kernel) h22 (by decide +kernel) (by decide +kernel) (fun h30 => ?_)
          refine En_Ps 1 (pc' := 33) (lv' := [(0, .ref 14), (1, .ref a), (2, .int b), (3, .int y1), (4, .int y2)]) (st' := [.int y2, .ref 16, .int y1]) rfl ?_
          refine En_iald (l := 0) (u := 54) rfl rfl tgz_16 (by decide +kernel) h22 (by first | exact q_58e6e51dcc h8 | omega) (lnI (by decide +kernel : LN _ = 6) (by first | exact q_f6226e27c9 h9 | omega)) (FTsgl (by decide +kernel)) (fun z33 h32 h34 h35 => ?_)
          refine En_Ps 1 (pc' := 35) (lv' := [(0, .ref 14), (1, .ref a), (2, .int b), (3, .int y1), (4, .int y2)]) (st' := [.ref a, .int z33, .int y1]) rfl ?_
          refine En_getR (j := 12) (g' := 25) (u := 0) rfl rfl rfl ha (by decide +kernel) h22 (by decide +kernel) (fun a37 h36 ha37 => ?_)
          refine En_Ps 1 (pc' := 40) (lv' := [(0, .ref 14), (1, .ref a), (2, .int b), (3, .int y1), (4, .int y2)]) (st' := [.int y2, .ref a37, .int z33, .int y1]) rfl ?_
          refine En_iald (l := 0) (u := 9) rfl rfl ha37 (by decide +kernel) h22 (by first | exact q_58e6e51dcc h8 | omega) (lnI (by decide +kernel : LN _ = 6) (by first | exact q_f6226e27c9 h9 | omega)) (FTsgl (by decide +kernel)) (fun z39 h38 h40 h41 => ?_)
          refine En_Ps 1 (pc' := 42) (lv' := [(0, .ref 14), (1, .ref a), (2, .int b), (3, .int y1), (4, .int y2)]) (st' := [.int ((z33 + z39)), .int y1]) rfl ?_
          refine En_top (addI rfl rfl (by first | exact q_3bb374bebc h34 h40 | omega) (by first | exact q_3df52fe59d h35 h41 | omega)) (fun z42 h43 => ?_)
          refine En_callS rfl rfl rfl rfl rfl rfl rfl rfl rfl (c_10 σ21 h22 y1 z42) (by decide) (by decide) (fun v45 σ46 h44 => ?_)
          obtain ⟨h47, h48, z50, rfl, h49⟩ := h44
          have h51 := Fr_trans h26 h48 (by decide +kernel)
          refine En_Ps 2 (pc' := 49) (lv' := [(4, .int ((y2 + Int32.ofInt 1))), (3, .int z50), (0, .ref 14), (1, .ref a), (2, .int b)]) (st' := []) rfl ?_
          refine En_lv1 (addI rfl (by decide : (Int32.ofInt 1).toInt = 1) (by first | exact q_465ab79ac1 h8 | omega) (by first | exact q_aeda34609f h9 | omega)) (fun z52 h53 => ?_)
          refine En_Ps 1 (pc' := 5) (lv' := [(4, .int z52), (3, .int z50), (0, .ref 14), (1, .ref a), (2, .int b)]) (st' := []) rfl ?_
          refine En_lv (lv := [(0, .ref 14), (1, .ref a), (2, .int b), (3, .int z50), (4, .int z52)]) ⟨rfl, rfl, rfl, rfl, rfl, trivial⟩ ?_
          exact ih5 σ46 z50 z52 h47 h51 (by first | exact q_f062bc8aa8 h49.1 h6 | omega) (by omega) (by first | exact q_35104ce9d3 h53 h8 | omega) (by first | exact q_b880857b86 h53 h12 hu_b | omega) (by first | exact q_ae2dbf4292 h12 h53 | omega) (by first | exact q_8d03a5a7cb h53 h11 | omega)
  have := (by decide : (Int32.ofInt 0).toInt = 0)
  have := (by decide : (Int32.ofInt 0).toInt = 0)
  refine En_lv (lv := [(0, .ref 14), (1, .ref a), (2, .int b), (3, .int ((Int32.ofInt 0))), (4, .int ((Int32.ofInt 0)))]) ⟨rfl, rfl, rfl, rfl, rfl, trivial⟩ ?_
  exact key5 (Int.toNat (b.toInt) + 1) σ0 ((Int32.ofInt 0)) ((Int32.ofInt 0)) hσ0 hF0 (by decide) (by decide) (by decide) (by decide) (by omega) (by first | exact toN_lt _ | omega)
/-- DoorSchool$Timetable.earliest(LDoorSchool$Plan;I)I -/
abbrev P_92 (σ0 : SG) (a : Nat) (b : Int32) : PO := fun v σ => WT σ ∧ Fr [] σ0 σ ∧ ∃ ret : Int32, v = some (.int ret) ∧ -ret.toInt ≤ 0 ∧ ret.toInt - 54 ≤ 0
set_option maxRecDepth 10000 in
set_option maxHeartbeats 4000000 in
theorem c_92 (σ0 : SG) (hσ0 : WT σ0) (a : Nat) (ha : TG a = 18) (b : Int32) (hl_b : 0 ≤ b.toInt) (hu_b : b.toInt ≤ 5) : En 2 45 none mr_92 (P_92 σ0 a b) 0 [(0, .ref 14), (1, .ref a), (2, .int b)] [] σ0 := by
  have hF0 : Fr [] σ0 σ0 := Fr_rfl
  refine En_Ps 5 (pc' := 5) (lv' := [(3, .int ((Int32.ofInt 0))), (0, .ref 14), (1, .ref a), (2, .int b)]) (st' := [.int b, .ref a, .ref 14]) rfl ?_
  refine En_callV rfl rfl rfl rfl rfl rfl rfl rfl tgz_14 (by decide +kernel) rfl (c_97 σ0 hσ0 a ha b (geI rfl (by first | exact q_58e6e51dcc hl_b | omega)) (leI rfl (by first | exact q_d9092b5ca1 hu_b | omega))) (by decide) (by decide) (fun v2 σ3 h1 => ?_)
  obtain ⟨h4, h5, z7, rfl, h6⟩ := h1
  have h8 := Fr_trans hF0 h5 (by decide +kernel)
  refine En_Ps 1 (pc' := 10) (lv' := [(4, .int z7), (3, .int ((Int32.ofInt 0))), (0, .ref 14), (1, .ref a), (2, .int b)]) (st' := []) rfl ?_
  have key10 : ∀ (n10 : Nat) (σ11 : SG) (y9 : Int32) (y10 : Int32), WT σ11 → Fr [] σ0 σ11 → 0 ≤ y9.toInt → y9.toInt ≤ 54 → 0 ≤ y10.toInt → y10.toInt ≤ 63 → y9.toInt - y10.toInt ≤ 0 → -y10.toInt + 63 < (n10 : Int) → En 2 45 none mr_92 (P_92 σ0 a b) 10 [(0, .ref 14), (1, .ref a), (2, .int b), (3, .int y9), (4, .int y10)] [] σ11 := by
    intro n10
    induction n10 with
    | zero =>
      intro σ11 y9 y10 h12 h13 h14 h15 h16 h17 h18 h19
      first | exact (q_a146501c70 h19 h17).elim | (exfalso; omega)
    | succ n10 ih10 =>
      intro σ11 y9 y10 h12 h13 h14 h15 h16 h17 h18 h19
      refine En_Ps 2 (pc' := 14) (lv' := [(0, .ref 14), (1, .ref a), (2, .int b), (3, .int y9), (4, .int y10)]) (st' := [.int (((Int8.ofInt 54).toInt32)), .int y10]) rfl ?_
      refine En_icGe _ rfl (by decide : ((Int8.ofInt 54).toInt32).toInt = 54) rfl (fun h20 => ?_) (fun h20 => ?_)
      · refine En_Ps 1 (pc' := 64) (lv' := [(0, .ref 14), (1, .ref a), (2, .int b), (3, .int y9), (4, .int y10)]) (st' := [.int (((Int8.ofInt 54).toInt32))]) rfl ?_
        refine En_top (by decide : ((Int8.ofInt 54).toInt32).toInt = 54) (fun z21 h22 => ?_)
        exact En_ret (v := some (.int z21)) rfl rfl rfl ⟨h12, h13, z21, rfl, ⟨by first | exact q_2edcb5af22 h22 | omega, by first | exact q_3ab2471794 h22 | omega⟩⟩
      · refine En_Ps 1 (pc' := 18) (lv' := [(0, .ref 14), (1, .ref a), (2, .int b), (3, .int y9), (4, .int y10)]) (st' := [.ref 14]) rfl ?_
        refine En_getU (j := 0) (u := 15) (g' := 15) (q := 0) rfl rfl rfl tgz_14 (by decide +kernel) h12 (by decide +kernel) (by decide +kernel) (fun h23 => ?_)
        refine En_Ps 1 (pc' := 23) (lv' := [(0, .ref 14), (1, .ref a), (2, .int b), (3, .int y9), (4, .int y10)]) (st' := [.int y10, .ref 15]) rfl ?_
        refine En_iald (l := (-2147483648)) (u := 2147483647) rfl rfl tgz_15 (by decide +kernel) h12 (by first | exact q_58e6e51dcc h16 | omega) (lnI (by decide +kernel : LN _ = 54) (by first | exact q_0242c386f2 h20 | omega)) (FTsgl (by decide +kernel)) (fun z26 h25 h27 h28 => ?_)
        refine En_Ps 1 (pc' := 25) (lv' := [(0, .ref 14), (1, .ref a), (2, .int b), (3, .int y9), (4, .int y10)]) (st' := [.ref 14, .int z26]) rfl ?_
        refine En_getI (j := 3) (l := (-1)) (u := 4) rfl rfl rfl tgz_14 (by decide +kernel) h12 (by decide +kernel) (fun z30 h29 h31 h32 => ?_)
        refine En_icGe _ rfl rfl rfl (fun h33 => ?_) (fun h33 => ?_)
        · refine En_Ps 4 (pc' := 41) (lv' := [(3, .int ((Int32.ofInt 0))), (0, .ref 14), (1, .ref a), (2, .int b), (4, .int y10)]) (st' := [.ref a, .int ((Int32.ofInt 0))]) rfl ?_
          refine En_getR (j := 12) (g' := 25) (u := 0) rfl rfl rfl ha (by decide +kernel) h12 (by decide +kernel) (fun a35 h34 ha35 => ?_)
          refine En_Ps 1 (pc' := 45) (lv' := [(3, .int ((Int32.ofInt 0))), (0, .ref 14), (1, .ref a), (2, .int b), (4, .int y10)]) (st' := [.int b, .ref a35, .int ((Int32.ofInt 0))]) rfl ?_
          refine En_iald (l := 0) (u := 9) rfl rfl ha35 (by decide +kernel) h12 (by first | exact q_58e6e51dcc hl_b | omega) (lnI (by decide +kernel : LN _ = 6) (by first | exact q_f6226e27c9 hu_b | omega)) (FTsgl (by decide +kernel)) (fun z37 h36 h38 h39 => ?_)
          refine En_icNe _ (by decide : (Int32.ofInt 0).toInt = 0) rfl rfl (fun h40 => ?_) (fun h40 => ?_)
          · refine En_Ps 1 (pc' := 59) (lv' := [(4, .int ((y10 + Int32.ofInt 1))), (3, .int ((Int32.ofInt 0))), (0, .ref 14), (1, .ref a), (2, .int b)]) (st' := []) rfl ?_
            refine En_lv1 (addI rfl (by decide : (Int32.ofInt 1).toInt = 1) (by first | exact q_465ab79ac1 h16 | omega) (by first | exact q_e95318b4b5 h20 | omega)) (fun z41 h42 => ?_)
            refine En_Ps 1 (pc' := 10) (lv' := [(4, .int z41), (3, .int ((Int32.ofInt 0))), (0, .ref 14), (1, .ref a), (2, .int b)]) (st' := []) rfl ?_
            have := (by decide : (Int32.ofInt 0).toInt = 0)
            refine En_lv (lv := [(0, .ref 14), (1, .ref a), (2, .int b), (3, .int ((Int32.ofInt 0))), (4, .int z41)]) ⟨rfl, rfl, rfl, rfl, rfl, trivial⟩ ?_
            exact ih10 σ11 ((Int32.ofInt 0)) z41 h12 h13 (by decide) (by decide) (by first | exact q_35104ce9d3 h42 h16 | omega) (by first | exact q_0165bec008 h42 h20 | omega) (by omega) (by first | exact q_46521c46ca h42 h19 | omega)
          · refine En_Ps 3 (pc' := 53) (lv' := [(3, .int ((Int32.ofInt 0))), (0, .ref 14), (1, .ref a), (2, .int b), (4, .int y10)]) (st' := [.int ((y10 + ((Int32.ofInt 1))))]) rfl ?_
            refine En_top (addI rfl (by decide : (Int32.ofInt 1).toInt = 1) (by first | exact q_465ab79ac1 h16 | omega) (by first | exact q_e95318b4b5 h20 | omega)) (fun z43 h44 => ?_)
            refine En_Ps 2 (pc' := 55) (lv' := [(3, .int ((Int32.ofInt 0))), (0, .ref 14), (1, .ref a), (2, .int b), (4, .int y10)]) (st' := [.int ((z43 - ((Int32.ofInt 0))))]) rfl ?_
            refine En_top (subI rfl (by decide : (Int32.ofInt 0).toInt = 0) (by first | exact q_8a18253124 h44 h16 | omega) (by first | exact q_9e728f4c98 h44 h20 | omega)) (fun z45 h46 => ?_)
            exact En_ret (v := some (.int z45)) rfl rfl rfl ⟨h12, h13, z45, rfl, ⟨by first | exact q_36380c92cd h46 h44 h16 | omega, by first | exact q_7f16ea5b5d h46 h44 h20 | omega⟩⟩
        · refine En_Ps 3 (pc' := 34) (lv' := [(0, .ref 14), (1, .ref a), (2, .int b), (3, .int y9), (4, .int y10)]) (st' := [.int ((y9 + ((Int32.ofInt 1))))]) rfl ?_
          refine En_top (addI rfl (by decide : (Int32.ofInt 1).toInt = 1) (by first | exact q_465ab79ac1 h14 | omega) (by first | exact q_6f39cb8ea5 h15 | omega)) (fun z47 h48 => ?_)
          refine En_Ps 4 (pc' := 41) (lv' := [(3, .int z47), (0, .ref 14), (1, .ref a), (2, .int b), (4, .int y10)]) (st' := [.ref a, .int z47]) rfl ?_
          refine En_getR (j := 12) (g' := 25) (u := 0) rfl rfl rfl ha (by decide +kernel) h12 (by decide +kernel) (fun a50 h49 ha50 => ?_)
          refine En_Ps 1 (pc' := 45) (lv' := [(3, .int z47), (0, .ref 14), (1, .ref a), (2, .int b), (4, .int y10)]) (st' := [.int b, .ref a50, .int z47]) rfl ?_
          refine En_iald (l := 0) (u := 9) rfl rfl ha50 (by decide +kernel) h12 (by first | exact q_58e6e51dcc hl_b | omega) (lnI (by decide +kernel : LN _ = 6) (by first | exact q_f6226e27c9 hu_b | omega)) (FTsgl (by decide +kernel)) (fun z52 h51 h53 h54 => ?_)
          refine En_icNe _ rfl rfl rfl (fun h55 => ?_) (fun h55 => ?_)
          · refine En_Ps 1 (pc' := 59) (lv' := [(4, .int ((y10 + Int32.ofInt 1))), (3, .int z47), (0, .ref 14), (1, .ref a), (2, .int b)]) (st' := []) rfl ?_
            refine En_lv1 (addI rfl (by decide : (Int32.ofInt 1).toInt = 1) (by first | exact q_465ab79ac1 h16 | omega) (by first | exact q_e95318b4b5 h20 | omega)) (fun z56 h57 => ?_)
            refine En_Ps 1 (pc' := 10) (lv' := [(4, .int z56), (3, .int z47), (0, .ref 14), (1, .ref a), (2, .int b)]) (st' := []) rfl ?_
            refine En_lv (lv := [(0, .ref 14), (1, .ref a), (2, .int b), (3, .int z47), (4, .int z56)]) ⟨rfl, rfl, rfl, rfl, rfl, trivial⟩ ?_
            exact ih10 σ11 z47 z56 h12 h13 (by first | exact q_35104ce9d3 h48 h14 | omega) (by first | exact q_f6ca810411 h48 h18 h20 | omega) (by first | exact q_35104ce9d3 h57 h16 | omega) (by first | exact q_0165bec008 h57 h20 | omega) (by first | exact q_1ff421e7a2 h48 h57 h18 | omega) (by first | exact q_46521c46ca h57 h19 | omega)
          · refine En_Ps 3 (pc' := 53) (lv' := [(3, .int z47), (0, .ref 14), (1, .ref a), (2, .int b), (4, .int y10)]) (st' := [.int ((y10 + ((Int32.ofInt 1))))]) rfl ?_
            refine En_top (addI rfl (by decide : (Int32.ofInt 1).toInt = 1) (by first | exact q_465ab79ac1 h16 | omega) (by first | exact q_e95318b4b5 h20 | omega)) (fun z58 h59 => ?_)
            refine En_Ps 2 (pc' := 55) (lv' := [(3, .int z47), (0, .ref 14), (1, .ref a), (2, .int b), (4, .int y10)]) (st' := [.int ((z58 - z47))]) rfl ?_
            refine En_top (subI rfl rfl (by first | exact q_ab015180c8 h48 h59 h18 | omega) (by first | exact q_916b6f8bc5 h48 h59 h14 h20 | omega)) (fun z60 h61 => ?_)
            exact En_ret (v := some (.int z60)) rfl rfl rfl ⟨h12, h13, z60, rfl, ⟨by first | exact q_7fc46aa87a h61 h48 h59 h18 | omega, by first | exact q_8b0265cdc1 h61 h48 h59 h14 h20 | omega⟩⟩
  have := (by decide : (Int32.ofInt 0).toInt = 0)
  refine En_lv (lv := [(0, .ref 14), (1, .ref a), (2, .int b), (3, .int ((Int32.ofInt 0))), (4, .int z7)]) ⟨rfl, rfl, rfl, rfl, rfl, trivial⟩ ?_
  exact key10 (Int.toNat (-z7.toInt + 63) + 1) σ3 ((Int32.ofInt 0)) z7 h4 h8 (by decide) (by decide) (by first | exact q_ef1e8e38bf h6.1 | omega) (by first | exact q_3ea7e55eca h6.2 | omega) (by omega) (by first | exact toN_lt _ | omega)
/-- DoorSchool$Timetable.isEarlier()Z -/
abbrev P_94 (σ0 : SG) : PO := fun v σ => WT σ ∧ Fr [] σ0 σ ∧ ∃ ret : Int32, v = some (.int ret) ∧ -ret.toInt ≤ 0 ∧ ret.toInt - 1 ≤ 0
set_option maxRecDepth 10000 in
set_option maxHeartbeats 4000000 in
theorem c_94 (σ0 : SG) (hσ0 : WT σ0) : En 0 0 none mr_94 (P_94 σ0) 0 [(0, .ref 14)] [] σ0 := by
  have hF0 : Fr [] σ0 σ0 := Fr_rfl
  refine En_Ps 2 (pc' := 2) (lv' := [(1, .int ((Int32.ofInt 0))), (0, .ref 14)]) (st' := []) rfl ?_
  have key2 : ∀ (n2 : Nat) (σ2 : SG) (y1 : Int32), WT σ2 → Fr [] σ0 σ2 → 0 ≤ y1.toInt → y1.toInt ≤ 6 → -y1.toInt + 6 < (n2 : Int) → En 0 0 none mr_94 (P_94 σ0) 2 [(0, .ref 14), (1, .int y1)] [] σ2 := by
    intro n2
    induction n2 with
    | zero =>
      intro σ2 y1 h3 h4 h5 h6 h7
      first | exact (q_1c67ffb2e6 h7 h6).elim | (exfalso; omega)
    | succ n2 ih2 =>
      intro σ2 y1 h3 h4 h5 h6 h7
      refine En_Ps 2 (pc' := 5) (lv' := [(0, .ref 14), (1, .int y1)]) (st' := [.int (((Int8.ofInt 6).toInt32)), .int y1]) rfl ?_
      refine En_icGe _ rfl (by decide : ((Int8.ofInt 6).toInt32).toInt = 6) rfl (fun h8 => ?_) (fun h8 => ?_)
      · refine En_Ps 1 (pc' := 51) (lv' := [(0, .ref 14), (1, .int y1)]) (st' := [.int ((Int32.ofInt 0))]) rfl ?_
        refine En_top (by decide : (Int32.ofInt 0).toInt = 0) (fun z9 h10 => ?_)
        exact En_ret (v := some (.int z9)) rfl rfl (retZ rfl rfl (by first | exact q_55451d0a83 h10 | omega) (by first | exact q_87849c3859 h10 | omega)) ⟨h3, h4, z9, rfl, ⟨by first | exact q_097a37c2ae h10 | omega, by first | exact q_e269517bee h10 | omega⟩⟩
      · refine En_Ps 1 (pc' := 9) (lv' := [(0, .ref 14), (1, .int y1)]) (st' := [.ref 14]) rfl ?_
        refine En_getU (j := 1) (u := 16) (g' := 16) (q := 0) rfl rfl rfl tgz_14 (by decide +kernel) h3 (by decide +kernel) (by decide +kernel) (fun h11 => ?_)
        refine En_Ps 1 (pc' := 13) (lv' := [(0, .ref 14), (1, .int y1)]) (st' := [.int y1, .ref 16]) rfl ?_
        refine En_iald (l := 0) (u := 54) rfl rfl tgz_16 (by decide +kernel) h3 (by first | exact q_58e6e51dcc h5 | omega) (lnI (by decide +kernel : LN _ = 6) (by first | exact q_ab9991d2ad h8 | omega)) (FTsgl (by decide +kernel)) (fun z14 h13 h15 h16 => ?_)
        refine En_Ps 1 (pc' := 15) (lv' := [(0, .ref 14), (1, .int y1)]) (st' := [.ref 14, .int z14]) rfl ?_
        refine En_getU (j := 2) (u := 17) (g' := 17) (q := 0) rfl rfl rfl tgz_14 (by decide +kernel) h3 (by decide +kernel) (by decide +kernel) (fun h17 => ?_)
        refine En_Ps 1 (pc' := 19) (lv' := [(0, .ref 14), (1, .int y1)]) (st' := [.int y1, .ref 17, .int z14]) rfl ?_
        refine En_iald (l := 0) (u := 54) rfl rfl tgz_17 (by decide +kernel) h3 (by first | exact q_58e6e51dcc h5 | omega) (lnI (by decide +kernel : LN _ = 6) (by first | exact q_ab9991d2ad h8 | omega)) (FTsgl (by decide +kernel)) (fun z20 h19 h21 h22 => ?_)
        refine En_icEq _ rfl rfl rfl (fun h23 => ?_) (fun h23 => ?_)
        · refine En_Ps 1 (pc' := 47) (lv' := [(1, .int ((y1 + Int32.ofInt 1))), (0, .ref 14)]) (st' := []) rfl ?_
          refine En_lv1 (addI rfl (by decide : (Int32.ofInt 1).toInt = 1) (by first | exact q_465ab79ac1 h5 | omega) (by first | exact q_2918abfa70 h8 | omega)) (fun z24 h25 => ?_)
          refine En_Ps 1 (pc' := 2) (lv' := [(1, .int z24), (0, .ref 14)]) (st' := []) rfl ?_
          refine En_lv (lv := [(0, .ref 14), (1, .int z24)]) ⟨rfl, rfl, trivial⟩ ?_
          exact ih2 σ2 z24 h3 h4 (by first | exact q_35104ce9d3 h25 h5 | omega) (by first | exact q_13d1e79bb8 h25 h8 | omega) (by first | exact q_18a3ecfd63 h25 h7 | omega)
        · refine En_Ps 1 (pc' := 24) (lv' := [(0, .ref 14), (1, .int y1)]) (st' := [.ref 14]) rfl ?_
          refine En_getK (j := 1) h11 rfl rfl rfl tgz_14 (by decide +kernel) ?_
          refine En_Ps 1 (pc' := 28) (lv' := [(0, .ref 14), (1, .int y1)]) (st' := [.int y1, .ref 16]) rfl ?_
          refine En_ialdK h13 rfl rfl tgz_16 (by decide +kernel) h3 (by first | exact q_58e6e51dcc h5 | omega) (lnI (by decide +kernel : LN _ = 6) (by first | exact q_ab9991d2ad h8 | omega)) ?_
          refine En_Ps 1 (pc' := 30) (lv' := [(0, .ref 14), (1, .int y1)]) (st' := [.ref 14, .int z14]) rfl ?_
          refine En_getK (j := 2) h17 rfl rfl rfl tgz_14 (by decide +kernel) ?_
          refine En_Ps 1 (pc' := 34) (lv' := [(0, .ref 14), (1, .int y1)]) (st' := [.int y1, .ref 17, .int z14]) rfl ?_
          refine En_ialdK h19 rfl rfl tgz_17 (by decide +kernel) h3 (by first | exact q_58e6e51dcc h5 | omega) (lnI (by decide +kernel : LN _ = 6) (by first | exact q_ab9991d2ad h8 | omega)) ?_
          refine En_icGe _ rfl rfl rfl (fun h28 => ?_) (fun h28 => ?_)
          · refine En_Ps 1 (pc' := 43) (lv' := [(0, .ref 14), (1, .int y1)]) (st' := [.int ((Int32.ofInt 0))]) rfl ?_
            refine En_top (by decide : (Int32.ofInt 0).toInt = 0) (fun z29 h30 => ?_)
            exact En_ret (v := some (.int z29)) rfl rfl (retZ rfl rfl (by first | exact q_55451d0a83 h30 | omega) (by first | exact q_87849c3859 h30 | omega)) ⟨h3, h4, z29, rfl, ⟨by first | exact q_097a37c2ae h30 | omega, by first | exact q_e269517bee h30 | omega⟩⟩
          · refine En_Ps 2 (pc' := 43) (lv' := [(0, .ref 14), (1, .int y1)]) (st' := [.int ((Int32.ofInt 1))]) rfl ?_
            refine En_top (by decide : (Int32.ofInt 1).toInt = 1) (fun z31 h32 => ?_)
            exact En_ret (v := some (.int z31)) rfl rfl (retZ rfl rfl (by first | exact q_2b07c97645 h32 | omega) (by first | exact q_d9e7cbb253 h32 | omega)) ⟨h3, h4, z31, rfl, ⟨by first | exact q_ad3eee31ca h32 | omega, by first | exact q_81cf297dc4 h32 | omega⟩⟩
  have := (by decide : (Int32.ofInt 0).toInt = 0)
  refine En_lv (lv := [(0, .ref 14), (1, .int ((Int32.ofInt 0)))]) ⟨rfl, rfl, trivial⟩ ?_
  exact key2 (Int.toNat (6) + 1) σ0 ((Int32.ofInt 0)) hσ0 hF0 (by decide) (by decide) (by first | exact toN_lt _ | omega)
/-- DoorSchool$Timetable.keepIfFirst(I)V -/
abbrev P_95 (σ0 : SG) (a : Int32) : PO := fun v σ => WT σ ∧ Fr [(14, 4), (17, 0)] σ0 σ ∧ v = none ∧ True
set_option maxRecDepth 10000 in
set_option maxHeartbeats 4000000 in
theorem c_95 (σ0 : SG) (hσ0 : WT σ0) (a : Int32) (hl_a : 0 ≤ a.toInt) (hu_a : a.toInt ≤ 1000) : En 1 60 none mr_95 (P_95 σ0 a) 0 [(0, .ref 14), (1, .int a)] [] σ0 := by
  have hF0 : Fr [(14, 4), (17, 0)] σ0 σ0 := Fr_rfl
  refine En_Ps 2 (pc' := 2) (lv' := [(0, .ref 14), (1, .int a)]) (st' := [.ref 14, .int a]) rfl ?_
  refine En_getI (j := 4) (l := 0) (u := 1000) rfl rfl rfl tgz_14 (by decide +kernel) hσ0 (by decide +kernel) (fun z2 h1 h3 h4 => ?_)
  refine En_icGt _ rfl rfl rfl (fun h5 => ?_) (fun h5 => ?_)
  · exact En_ret (v := none) rfl rfl rfl ⟨hσ0, hF0, rfl, trivial⟩
  · refine En_Ps 2 (pc' := 10) (lv' := [(0, .ref 14), (1, .int a)]) (st' := [.ref 14, .int a]) rfl ?_
    refine En_getK (j := 4) h1 rfl rfl rfl tgz_14 (by decide +kernel) ?_
    refine En_icNe _ rfl rfl rfl (fun h6 => ?_) (fun h6 => ?_)
    · refine En_Ps 2 (pc' := 26) (lv' := [(0, .ref 14), (1, .int a)]) (st' := [.int a, .ref 14]) rfl ?_
      refine En_put (j := 4) rfl rfl rfl tgz_14 (by decide +kernel) rfl (vI (l := 0) (u := 1000) (by decide +kernel) rfl (by first | exact q_58e6e51dcc hl_a | omega) (by first | exact q_2a7c2c8d7c hu_a | omega)) hσ0 hF0 (by decide +kernel) (fun σ7 h8 h9 h10 h11 => ?_)
      refine En_Ps 1 (pc' := 30) (lv' := [(0, .ref 14), (1, .int a)]) (st' := [.ref 14]) rfl ?_
      refine En_getU (j := 1) (u := 16) (g' := 16) (q := 0) rfl rfl rfl tgz_14 (by decide +kernel) h8 (by decide +kernel) (by decide +kernel) (fun h12 => ?_)
      refine En_Ps 2 (pc' := 35) (lv' := [(0, .ref 14), (1, .int a)]) (st' := [.ref 14, .int ((Int32.ofInt 0)), .ref 16]) rfl ?_
      refine En_getU (j := 2) (u := 17) (g' := 17) (q := 0) rfl rfl rfl tgz_14 (by decide +kernel) h8 (by decide +kernel) (by decide +kernel) (fun h14 => ?_)
      refine En_Ps 2 (pc' := 41) (lv' := [(0, .ref 14), (1, .int a)]) (st' := [.int (((Int8.ofInt 6).toInt32)), .int ((Int32.ofInt 0)), .ref 17, .int ((Int32.ofInt 0)), .ref 16]) rfl ?_
      refine En_copy (n0 := 6) (n1 := 6) (by decide : ((Int8.ofInt 6).toInt32).toInt = 6) (by decide : (Int32.ofInt 0).toInt = 0) (by decide : (Int32.ofInt 0).toInt = 0) rfl rfl rfl rfl tgz_16 tgz_17 (by decide +kernel) (by decide +kernel) (by decide +kernel) (by decide +kernel) (by decide +kernel) (by omega) (by omega) (by omega) (by omega) (by omega) h8 h9 (by decide +kernel) (fun σ16 h17 h18 h19 => ?_)
      exact En_ret (v := none) rfl rfl rfl ⟨h17, h18, rfl, trivial⟩
    · refine En_Ps 1 (pc' := 17) (lv' := [(0, .ref 14), (1, .int a)]) (st' := [.ref 14]) rfl ?_
      refine En_callV rfl rfl rfl rfl rfl rfl rfl rfl tgz_14 (by decide +kernel) rfl (c_94 σ0 hσ0) (by decide) (by decide) (fun v21 σ22 h20 => ?_)
      obtain ⟨h23, h24, z26, rfl, h25⟩ := h20
      have h27 := Fr_trans hF0 h24 (by decide +kernel)
      refine En_iNe _ rfl rfl (fun h28 => ?_) (fun h28 => ?_)
      · refine En_Ps 2 (pc' := 26) (lv' := [(0, .ref 14), (1, .int a)]) (st' := [.int a, .ref 14]) rfl ?_
        refine En_put (j := 4) rfl rfl rfl tgz_14 (by decide +kernel) rfl (vI (l := 0) (u := 1000) (by decide +kernel) rfl (by first | exact q_58e6e51dcc hl_a | omega) (by first | exact q_2a7c2c8d7c hu_a | omega)) h23 h27 (by decide +kernel) (fun σ29 h30 h31 h32 h33 => ?_)
        refine En_Ps 1 (pc' := 30) (lv' := [(0, .ref 14), (1, .int a)]) (st' := [.ref 14]) rfl ?_
        refine En_getU (j := 1) (u := 16) (g' := 16) (q := 0) rfl rfl rfl tgz_14 (by decide +kernel) h30 (by decide +kernel) (by decide +kernel) (fun h34 => ?_)
        refine En_Ps 2 (pc' := 35) (lv' := [(0, .ref 14), (1, .int a)]) (st' := [.ref 14, .int ((Int32.ofInt 0)), .ref 16]) rfl ?_
        refine En_getU (j := 2) (u := 17) (g' := 17) (q := 0) rfl rfl rfl tgz_14 (by decide +kernel) h30 (by decide +kernel) (by decide +kernel) (fun h36 => ?_)
        refine En_Ps 2 (pc' := 41) (lv' := [(0, .ref 14), (1, .int a)]) (st' := [.int (((Int8.ofInt 6).toInt32)), .int ((Int32.ofInt 0)), .ref 17, .int ((Int32.ofInt 0)), .ref 16]) rfl ?_
        refine En_copy (n0 := 6) (n1 := 6) (by decide : ((Int8.ofInt 6).toInt32).toInt = 6) (by decide : (Int32.ofInt 0).toInt = 0) (by decide : (Int32.ofInt 0).toInt = 0) rfl rfl rfl rfl tgz_16 tgz_17 (by decide +kernel) (by decide +kernel) (by decide +kernel) (by decide +kernel) (by decide +kernel) (by omega) (by omega) (by omega) (by omega) (by omega) h30 h31 (by decide +kernel) (fun σ38 h39 h40 h41 => ?_)
        exact En_ret (v := none) rfl rfl rfl ⟨h39, h40, rfl, trivial⟩
      · exact En_ret (v := none) rfl rfl rfl ⟨h23, h27, rfl, trivial⟩
/-- DoorSchool$Timetable.work(III)V -/
abbrev P_99 (σ0 : SG) (a : Int32) (b : Int32) (c : Int32) : PO := fun v σ => WT σ ∧ Fr [(15, 0)] σ0 σ ∧ v = none ∧ True
set_option maxRecDepth 10000 in
set_option maxHeartbeats 4000000 in
theorem c_99 (σ0 : SG) (hσ0 : WT σ0) (a : Int32) (b : Int32) (c : Int32) (hl_a : 0 ≤ a.toInt) (hu_a : a.toInt ≤ 54) : En 0 0 none mr_99 (P_99 σ0 a b c) 0 [(0, .ref 14), (1, .int a), (2, .int b), (3, .int c)] [] σ0 := by
  have hF0 : Fr [(15, 0)] σ0 σ0 := Fr_rfl
  refine En_Ps 2 (pc' := 3) (lv' := [(4, .int a), (0, .ref 14), (1, .int a), (2, .int b), (3, .int c)]) (st' := []) rfl ?_
  have key3 : ∀ (n3 : Nat) (σ2 : SG) (y1 : Int32), WT σ2 → Fr [(15, 0)] σ0 σ2 → 0 ≤ y1.toInt → y1.toInt ≤ 54 → a.toInt - y1.toInt ≤ 0 → -y1.toInt + 54 < (n3 : Int) → En 0 0 none mr_99 (P_99 σ0 a b c) 3 [(0, .ref 14), (1, .int a), (2, .int b), (3, .int c), (4, .int y1)] [] σ2 := by
    intro n3
    induction n3 with
    | zero =>
      intro σ2 y1 h3 h4 h5 h6 h7 h8
      first | exact (q_73036d2669 h8 h6).elim | (exfalso; omega)
    | succ n3 ih3 =>
      intro σ2 y1 h3 h4 h5 h6 h7 h8
      refine En_Ps 2 (pc' := 6) (lv' := [(0, .ref 14), (1, .int a), (2, .int b), (3, .int c), (4, .int y1)]) (st' := [.int b, .int y1]) rfl ?_
      refine En_icGe _ rfl rfl rfl (fun h9 => ?_) (fun h9 => ?_)
      · exact En_ret (v := none) rfl rfl rfl ⟨h3, h4, rfl, trivial⟩
      · refine En_Ps 2 (pc' := 13) (lv' := [(0, .ref 14), (1, .int a), (2, .int b), (3, .int c), (4, .int y1)]) (st' := [.int (((Int8.ofInt 54).toInt32)), .int y1]) rfl ?_
        refine En_icGe _ rfl (by decide : ((Int8.ofInt 54).toInt32).toInt = 54) rfl (fun h10 => ?_) (fun h10 => ?_)
        · exact En_ret (v := none) rfl rfl rfl ⟨h3, h4, rfl, trivial⟩
        · refine En_Ps 1 (pc' := 17) (lv' := [(0, .ref 14), (1, .int a), (2, .int b), (3, .int c), (4, .int y1)]) (st' := [.ref 14]) rfl ?_
          refine En_getU (j := 0) (u := 15) (g' := 15) (q := 0) rfl rfl rfl tgz_14 (by decide +kernel) h3 (by decide +kernel) (by decide +kernel) (fun h11 => ?_)
          refine En_Ps 2 (pc' := 23) (lv' := [(0, .ref 14), (1, .int a), (2, .int b), (3, .int c), (4, .int y1)]) (st' := [.int y1, .ref 15, .int y1, .ref 15]) rfl ?_
          refine En_iald (l := (-2147483648)) (u := 2147483647) rfl rfl tgz_15 (by decide +kernel) h3 (by first | exact q_58e6e51dcc h5 | omega) (lnI (by decide +kernel : LN _ = 54) (by first | exact q_0242c386f2 h10 | omega)) (FTsgl (by decide +kernel)) (fun z14 h13 h15 h16 => ?_)
          refine En_Ps 2 (pc' := 26) (lv' := [(0, .ref 14), (1, .int a), (2, .int b), (3, .int c), (4, .int y1)]) (st' := [.int ((z14 + c)), .int y1, .ref 15]) rfl ?_
          refine En_hav (fun z17 => ?_)
          refine En_iast (l := (-2147483648)) (u := 2147483647) rfl rfl tgz_15 (by decide +kernel) (by first | exact q_58e6e51dcc h5 | omega) (lnI (by decide +kernel : LN _ = 54) (by first | exact q_0242c386f2 h10 | omega)) (FTsgl (by decide +kernel)) (fullI _) h3 h4 (by decide +kernel) (fun σ18 h19 h20 h21 h22 => ?_)
          refine En_Ps 1 (pc' := 30) (lv' := [(4, .int ((y1 + Int32.ofInt 1))), (0, .ref 14), (1, .int a), (2, .int b), (3, .int c)]) (st' := []) rfl ?_
          refine En_lv1 (addI rfl (by decide : (Int32.ofInt 1).toInt = 1) (by first | exact q_465ab79ac1 h5 | omega) (by first | exact q_e95318b4b5 h10 | omega)) (fun z23 h24 => ?_)
          refine En_Ps 1 (pc' := 3) (lv' := [(4, .int z23), (0, .ref 14), (1, .int a), (2, .int b), (3, .int c)]) (st' := []) rfl ?_
          refine En_lv (lv := [(0, .ref 14), (1, .int a), (2, .int b), (3, .int c), (4, .int z23)]) ⟨rfl, rfl, rfl, rfl, rfl, trivial⟩ ?_
          exact ih3 σ18 z23 h19 h20 (by first | exact q_35104ce9d3 h24 h5 | omega) (by first | exact q_d421e1eb08 h24 h10 | omega) (by first | exact q_3a5e225620 h7 h24 | omega) (by first | exact q_356d0c0a02 h24 h8 | omega)
  refine En_lv (lv := [(0, .ref 14), (1, .int a), (2, .int b), (3, .int c), (4, .int a)]) ⟨rfl, rfl, rfl, rfl, rfl, trivial⟩ ?_
  exact key3 (Int.toNat (-a.toInt + 54) + 1) σ0 a hσ0 hF0 (by first | exact q_58e6e51dcc hl_a | omega) (by first | exact q_badf304c6d hu_a | omega) (by first | exact q_1bb76abeaf | omega) (by first | exact toN_lt _ | omega)
/-- DoorSchool$Timetable.placeFrom(LDoorSchool$Timetable;LDoorSchool$Plan;III)V -/
abbrev P_96a (σ0 : SG) (p : Nat) (a : Int32) (b : Int32) (c : Int32) : PO := fun v σ => WT σ ∧ Fr [(14, 4), (17, 0)] σ0 σ ∧ v = none ∧ True
set_option maxRecDepth 10000 in
set_option maxHeartbeats 4000000 in
theorem c_96a (σ0 : SG) (hσ0 : WT σ0) (p : Nat) (hp : TG p = 18) (a : Int32) (b : Int32) (c : Int32) (hl_a : 6 ≤ a.toInt) (hu_a : a.toInt ≤ 6) (hl_c : 0 ≤ c.toInt) (hu_c : c.toInt ≤ 1000) : En 3 81 none mr_96 (P_96a σ0 p a b c) 0 [(0, .ref 14), (1, .ref p), (2, .int a), (3, .int b), (4, .int c)] [] σ0 := by
  have hF0 : Fr [(14, 4), (17, 0)] σ0 σ0 := Fr_rfl
  refine En_Ps 2 (pc' := 2) (lv' := [(0, .ref 14), (1, .ref p), (2, .int a), (3, .int b), (4, .int c)]) (st' := [.ref p, .int a]) rfl ?_
  refine En_getI (j := 11) (l := 0) (u := 6) rfl rfl rfl hp (by decide +kernel) hσ0 (by decide +kernel) (fun z2 h1 h3 h4 => ?_)
  refine En_icGe _ rfl rfl rfl (fun h5 => ?_) (fun hx => by first | exact (q_071bc28013 hl_a h4 hx).elim | (exfalso; omega))
  refine En_Ps 2 (pc' := 17) (lv' := [(0, .ref 14), (1, .ref p), (2, .int a), (3, .int b), (4, .int c)]) (st' := [.int c, .ref 14]) rfl ?_
  refine En_callV rfl rfl rfl rfl rfl rfl rfl rfl tgz_14 (by decide +kernel) rfl (c_95 σ0 hσ0 c (geI rfl (by first | exact q_58e6e51dcc hl_c | omega)) (leI rfl (by first | exact q_2a7c2c8d7c hu_c | omega))) (by decide) (by decide) (fun v7 σ8 h6 => ?_)
  obtain ⟨h9, h10, rfl, h11⟩ := h6
  have h12 := Fr_trans hF0 h10 (by decide +kernel)
  exact En_ret (v := none) rfl rfl rfl ⟨h9, h12, rfl, trivial⟩
/-- DoorSchool$Timetable.placeFrom(LDoorSchool$Timetable;LDoorSchool$Plan;III)V -/
abbrev P_96b (σ0 : SG) (p : Nat) (a : Int32) (b : Int32) (c : Int32) : PO := fun v σ => WT σ ∧ Fr [(14, 4), (15, 0), (16, 0), (17, 0)] σ0 σ ∧ v = none ∧ True
set_option maxRecDepth 10000 in
set_option maxHeartbeats 4000000 in
theorem c_96b (σ0 : SG) (hσ0 : WT σ0) (p : Nat) (hp : TG p = 18) (a : Int32) (b : Int32) (c : Int32) (hl_a : 5 ≤ a.toInt) (hu_a : a.toInt ≤ 6) (hl_c : 0 ≤ c.toInt) (hu_c : c.toInt ≤ 1000) : En 4 108 none mr_96 (P_96b σ0 p a b c) 0 [(0, .ref 14), (1, .ref p), (2, .int a), (3, .int b), (4, .int c)] [] σ0 := by
  have hF0 : Fr [(14, 4), (15, 0), (16, 0), (17, 0)] σ0 σ0 := Fr_rfl
  refine En_Ps 2 (pc' := 2) (lv' := [(0, .ref 14), (1, .ref p), (2, .int a), (3, .int b), (4, .int c)]) (st' := [.ref p, .int a]) rfl ?_
  refine En_getI (j := 11) (l := 0) (u := 6) rfl rfl rfl hp (by decide +kernel) hσ0 (by decide +kernel) (fun z2 h1 h3 h4 => ?_)
  refine En_icGe _ rfl rfl rfl (fun h5 => ?_) (fun h5 => ?_)
  · refine En_Ps 2 (pc' := 17) (lv' := [(0, .ref 14), (1, .ref p), (2, .int a), (3, .int b), (4, .int c)]) (st' := [.int c, .ref 14]) rfl ?_
    refine En_callV rfl rfl rfl rfl rfl rfl rfl rfl tgz_14 (by decide +kernel) rfl (c_95 σ0 hσ0 c (geI rfl (by first | exact q_58e6e51dcc hl_c | omega)) (leI rfl (by first | exact q_2a7c2c8d7c hu_c | omega))) (by decide) (by decide) (fun v7 σ8 h6 => ?_)
    obtain ⟨h9, h10, rfl, h11⟩ := h6
    have h12 := Fr_trans hF0 h10 (by decide +kernel)
    exact En_ret (v := none) rfl rfl rfl ⟨h9, h12, rfl, trivial⟩
  · refine En_Ps 2 (pc' := 11) (lv' := [(0, .ref 14), (1, .ref p), (2, .int a), (3, .int b), (4, .int c)]) (st' := [.int (((Int8.ofInt 6).toInt32)), .int a]) rfl ?_
    refine En_icLt _ rfl (by decide : ((Int8.ofInt 6).toInt32).toInt = 6) rfl (fun h13 => ?_) (fun hx => by first | exact (q_071bc28013 hx h4 h5).elim | (exfalso; omega))
    refine En_Ps 2 (pc' := 24) (lv' := [(5, .int ((Int32.ofInt 0))), (0, .ref 14), (1, .ref p), (2, .int a), (3, .int b), (4, .int c)]) (st' := []) rfl ?_
    have key24 : ∀ (n24 : Nat) (σ15 : SG) (y14 : Int32), WT σ15 → Fr [(14, 4), (15, 0), (16, 0), (17, 0)] σ0 σ15 → (σ15 p)[11]? = some (.int z2) → 0 ≤ y14.toInt → y14.toInt ≤ 6 → z2.toInt - y14.toInt < (n24 : Int) → En 4 108 none mr_96 (P_96b σ0 p a b c) 24 [(0, .ref 14), (1, .ref p), (2, .int a), (3, .int b), (4, .int c), (5, .int y14)] [] σ15 := by
      intro n24
      induction n24 with
      | zero =>
        intro σ15 y14 h16 h17 h18 h19 h20 h21
        first | exact (q_8174e62746 hl_a h5 h20 h21).elim | (exfalso; omega)
      | succ n24 ih24 =>
        intro σ15 y14 h16 h17 h18 h19 h20 h21
        refine En_Ps 2 (pc' := 27) (lv' := [(0, .ref 14), (1, .ref p), (2, .int a), (3, .int b), (4, .int c), (5, .int y14)]) (st' := [.ref p, .int y14]) rfl ?_
        refine En_getK (j := 11) h18 rfl rfl rfl hp (by decide +kernel) ?_
        refine En_icGe _ rfl rfl rfl (fun h22 => ?_) (fun h22 => ?_)
        · exact En_ret (v := none) rfl rfl rfl ⟨h16, h17, rfl, trivial⟩
        · refine En_Ps 2 (pc' := 36) (lv' := [(0, .ref 14), (1, .ref p), (2, .int a), (3, .int b), (4, .int c), (5, .int y14)]) (st' := [.int y14, .int b]) rfl ?_
          refine En_callS rfl rfl rfl rfl rfl rfl rfl rfl rfl (c_108 σ15 h16 b y14) (by decide) (by decide) (fun v24 σ25 h23 => ?_)
          obtain ⟨h26, h27, z29, rfl, h28⟩ := h23
          have h30 := Fr_trans h17 h27 (by decide +kernel)
          refine En_iNe _ rfl rfl (fun h31 => ?_) (fun h31 => ?_)
          · refine En_Ps 1 (pc' := 144) (lv' := [(5, .int ((y14 + Int32.ofInt 1))), (0, .ref 14), (1, .ref p), (2, .int a), (3, .int b), (4, .int c)]) (st' := []) rfl ?_
            refine En_lv1 (addI rfl (by decide : (Int32.ofInt 1).toInt = 1) (by first | exact q_465ab79ac1 h19 | omega) (by first | exact q_9a865ca0e4 h20 | omega)) (fun z32 h33 => ?_)
            refine En_Ps 1 (pc' := 24) (lv' := [(5, .int z32), (0, .ref 14), (1, .ref p), (2, .int a), (3, .int b), (4, .int c)]) (st' := []) rfl ?_
            refine En_lv (lv := [(0, .ref 14), (1, .ref p), (2, .int a), (3, .int b), (4, .int c), (5, .int z32)]) ⟨rfl, rfl, rfl, rfl, rfl, rfl, trivial⟩ ?_
            exact ih24 σ25 z32 h26 h30 ((h27 _ _ (inW hp (by decide +kernel))).trans h18) (by first | exact q_35104ce9d3 h33 h19 | omega) (by first | exact q_c76cfd8d15 h33 h22 h4 | omega) (by first | exact q_8d03a5a7cb h33 h21 | omega)
          · refine En_Ps 1 (pc' := 43) (lv' := [(0, .ref 14), (1, .ref p), (2, .int a), (3, .int b), (4, .int c), (5, .int y14)]) (st' := [.ref p]) rfl ?_
            refine En_getR (j := 13) (g' := 26) (u := 0) rfl rfl rfl hp (by decide +kernel) h26 (by decide +kernel) (fun a35 h34 ha35 => ?_)
            refine En_Ps 1 (pc' := 48) (lv' := [(0, .ref 14), (1, .ref p), (2, .int a), (3, .int b), (4, .int c), (5, .int y14)]) (st' := [.int y14, .ref a35]) rfl ?_
            refine En_iald (l := 0) (u := 63) rfl rfl ha35 (by decide +kernel) h26 (by first | exact q_58e6e51dcc h19 | omega) (lnI (by decide +kernel : LN _ = 6) (by first | exact q_f252e21553 h22 h4 | omega)) (FTsgl (by decide +kernel)) (fun z37 h36 h38 h39 => ?_)
            refine En_Ps 3 (pc' := 52) (lv' := [(0, .ref 14), (1, .ref p), (2, .int a), (3, .int b), (4, .int c), (5, .int y14)]) (st' := [.int ((b ^^^ ((Int32.ofInt (-1))))), .int z37]) rfl ?_
            refine En_nam (fun z40 h41 => ?_)
            refine En_Ps 1 (pc' := 53) (lv' := [(0, .ref 14), (1, .ref p), (2, .int a), (3, .int b), (4, .int c), (5, .int y14)]) (st' := [.int ((z37 &&& z40))]) rfl ?_
            refine En_nam (fun z42 h43 => ?_)
            obtain ⟨h44, h45⟩ := andn_rng h43 rfl (by omega) (by omega : _ ≤ (63 : Int))
            refine En_iNe _ rfl rfl (fun h46 => ?_) (fun h46 => ?_)
            · refine En_Ps 1 (pc' := 144) (lv' := [(5, .int ((y14 + Int32.ofInt 1))), (0, .ref 14), (1, .ref p), (2, .int a), (3, .int b), (4, .int c)]) (st' := []) rfl ?_
              refine En_lv1 (addI rfl (by decide : (Int32.ofInt 1).toInt = 1) (by first | exact q_465ab79ac1 h19 | omega) (by first | exact q_9a865ca0e4 h20 | omega)) (fun z47 h48 => ?_)
              refine En_Ps 1 (pc' := 24) (lv' := [(5, .int z47), (0, .ref 14), (1, .ref p), (2, .int a), (3, .int b), (4, .int c)]) (st' := []) rfl ?_
              refine En_lv (lv := [(0, .ref 14), (1, .ref p), (2, .int a), (3, .int b), (4, .int c), (5, .int z47)]) ⟨rfl, rfl, rfl, rfl, rfl, rfl, trivial⟩ ?_
              exact ih24 σ25 z47 h26 h30 ((h27 _ _ (inW hp (by decide +kernel))).trans h18) (by first | exact q_35104ce9d3 h48 h19 | omega) (by first | exact q_c76cfd8d15 h48 h22 h4 | omega) (by first | exact q_8d03a5a7cb h48 h21 | omega)
            · refine En_Ps 3 (pc' := 60) (lv' := [(0, .ref 14), (1, .ref p), (2, .int a), (3, .int b), (4, .int c), (5, .int y14)]) (st' := [.int y14, .ref p, .ref 14]) rfl ?_
              refine En_callV rfl rfl rfl rfl rfl rfl rfl rfl tgz_14 (by decide +kernel) rfl (c_92 σ25 h26 p hp y14 (geI rfl (by first | exact q_58e6e51dcc h19 | omega)) (leI rfl (by first | exact q_2c6b8d4bd3 h22 h4 | omega))) (by decide) (by decide) (fun v50 σ51 h49 => ?_)
              obtain ⟨h52, h53, z55, rfl, h54⟩ := h49
              have h56 := Fr_trans h30 h53 (by decide +kernel)
              refine En_Ps 3 (pc' := 68) (lv' := [(6, .int z55), (0, .ref 14), (1, .ref p), (2, .int a), (3, .int b), (4, .int c), (5, .int y14)]) (st' := [.ref p, .int z55]) rfl ?_
              refine En_getR (j := 12) (g' := 25) (u := 0) rfl rfl rfl hp (by decide +kernel) h52 (by decide +kernel) (fun a58 h57 ha58 => ?_)
              refine En_Ps 1 (pc' := 73) (lv' := [(6, .int z55), (0, .ref 14), (1, .ref p), (2, .int a), (3, .int b), (4, .int c), (5, .int y14)]) (st' := [.int y14, .ref a58, .int z55]) rfl ?_
              refine En_iald (l := 0) (u := 9) rfl rfl ha58 (by decide +kernel) h52 (by first | exact q_58e6e51dcc h19 | omega) (lnI (by decide +kernel : LN _ = 6) (by first | exact q_f252e21553 h22 h4 | omega)) (FTsgl (by decide +kernel)) (fun z60 h59 h61 h62 => ?_)
              refine En_Ps 1 (pc' := 75) (lv' := [(6, .int z55), (0, .ref 14), (1, .ref p), (2, .int a), (3, .int b), (4, .int c), (5, .int y14)]) (st' := [.int ((z55 + z60))]) rfl ?_
              refine En_top (addI rfl rfl (by first | exact q_2027e39019 h54.1 h61 | omega) (by first | exact q_66d03a076a h54.2 h62 | omega)) (fun z63 h64 => ?_)
              refine En_Ps 3 (pc' := 80) (lv' := [(7, .int z63), (6, .int z55), (0, .ref 14), (1, .ref p), (2, .int a), (3, .int b), (4, .int c), (5, .int y14)]) (st' := [.ref 14, .int z63]) rfl ?_
              refine En_getI (j := 4) (l := 0) (u := 1000) rfl rfl rfl tgz_14 (by decide +kernel) h52 (by decide +kernel) (fun z66 h65 h67 h68 => ?_)
              refine En_icGt _ rfl rfl rfl (fun h69 => ?_) (fun h69 => ?_)
              · refine En_Ps 1 (pc' := 144) (lv' := [(5, .int ((y14 + Int32.ofInt 1))), (7, .int z63), (6, .int z55), (0, .ref 14), (1, .ref p), (2, .int a), (3, .int b), (4, .int c)]) (st' := []) rfl ?_
                refine En_lv1 (addI rfl (by decide : (Int32.ofInt 1).toInt = 1) (by first | exact q_465ab79ac1 h19 | omega) (by first | exact q_9a865ca0e4 h20 | omega)) (fun z70 h71 => ?_)
                refine En_Ps 1 (pc' := 24) (lv' := [(5, .int z70), (7, .int z63), (6, .int z55), (0, .ref 14), (1, .ref p), (2, .int a), (3, .int b), (4, .int c)]) (st' := []) rfl ?_
                refine En_lv (lv := [(0, .ref 14), (1, .ref p), (2, .int a), (3, .int b), (4, .int c), (5, .int z70)]) ⟨rfl, rfl, rfl, rfl, rfl, rfl, trivial⟩ ?_
                exact ih24 σ51 z70 h52 h56 ((h53 _ _ (inW hp (by decide +kernel))).trans ((h27 _ _ (inW hp (by decide +kernel))).trans h18)) (by first | exact q_35104ce9d3 h71 h19 | omega) (by first | exact q_c76cfd8d15 h71 h22 h4 | omega) (by first | exact q_8d03a5a7cb h71 h21 | omega)
              · refine En_Ps 2 (pc' := 90) (lv' := [(7, .int z63), (6, .int z55), (0, .ref 14), (1, .ref p), (2, .int a), (3, .int b), (4, .int c), (5, .int y14)]) (st' := [.int (((Int8.ofInt 54).toInt32)), .int z63]) rfl ?_
                refine En_icGt _ rfl (by decide : ((Int8.ofInt 54).toInt32).toInt = 54) rfl (fun h72 => ?_) (fun h72 => ?_)
                · refine En_Ps 1 (pc' := 144) (lv' := [(5, .int ((y14 + Int32.ofInt 1))), (7, .int z63), (6, .int z55), (0, .ref 14), (1, .ref p), (2, .int a), (3, .int b), (4, .int c)]) (st' := []) rfl ?_
                  refine En_lv1 (addI rfl (by decide : (Int32.ofInt 1).toInt = 1) (by first | exact q_465ab79ac1 h19 | omega) (by first | exact q_9a865ca0e4 h20 | omega)) (fun z73 h74 => ?_)
                  refine En_Ps 1 (pc' := 24) (lv' := [(5, .int z73), (7, .int z63), (6, .int z55), (0, .ref 14), (1, .ref p), (2, .int a), (3, .int b), (4, .int c)]) (st' := []) rfl ?_
                  refine En_lv (lv := [(0, .ref 14), (1, .ref p), (2, .int a), (3, .int b), (4, .int c), (5, .int z73)]) ⟨rfl, rfl, rfl, rfl, rfl, rfl, trivial⟩ ?_
                  exact ih24 σ51 z73 h52 h56 ((h53 _ _ (inW hp (by decide +kernel))).trans ((h27 _ _ (inW hp (by decide +kernel))).trans h18)) (by first | exact q_35104ce9d3 h74 h19 | omega) (by first | exact q_c76cfd8d15 h74 h22 h4 | omega) (by first | exact q_8d03a5a7cb h74 h21 | omega)
                · refine En_Ps 1 (pc' := 94) (lv' := [(7, .int z63), (6, .int z55), (0, .ref 14), (1, .ref p), (2, .int a), (3, .int b), (4, .int c), (5, .int y14)]) (st' := [.ref 14]) rfl ?_
                  refine En_getU (j := 1) (u := 16) (g' := 16) (q := 0) rfl rfl rfl tgz_14 (by decide +kernel) h52 (by decide +kernel) (by decide +kernel) (fun h75 => ?_)
                  refine En_Ps 2 (pc' := 101) (lv' := [(7, .int z63), (6, .int z55), (0, .ref 14), (1, .ref p), (2, .int a), (3, .int b), (4, .int c), (5, .int y14)]) (st' := [.int z55, .int y14, .ref 16]) rfl ?_
                  refine En_iast (l := 0) (u := 54) rfl rfl tgz_16 (by decide +kernel) (by first | exact q_58e6e51dcc h19 | omega) (lnI (by decide +kernel : LN _ = 6) (by first | exact q_f252e21553 h22 h4 | omega)) (FTsgl (by decide +kernel)) (rngI rfl (by first | exact q_ef1e8e38bf h54.1 | omega) (by first | exact q_f1c8c7c399 h54.2 | omega)) h52 h56 (by decide +kernel) (fun σ77 h78 h79 h80 h81 => ?_)
                  refine En_Ps 4 (pc' := 108) (lv' := [(7, .int z63), (6, .int z55), (0, .ref 14), (1, .ref p), (2, .int a), (3, .int b), (4, .int c), (5, .int y14)]) (st' := [.int ((Int32.ofInt 1)), .int z63, .int z55, .ref 14]) rfl ?_
                  have := (by decide : ((Int32.ofInt 1)).toInt = 1)
                  refine En_callV rfl rfl rfl rfl rfl rfl rfl rfl tgz_14 (by decide +kernel) rfl (c_99 σ77 h78 z55 z63 ((Int32.ofInt 1)) (geI rfl (by first | exact q_ef1e8e38bf h54.1 | omega)) (leI rfl (by first | exact q_f1c8c7c399 h54.2 | omega))) (by decide) (by decide) (fun v83 σ84 h82 => ?_)
                  obtain ⟨h85, h86, rfl, h87⟩ := h82
                  have h88 := Fr_trans h79 h86 (by decide +kernel)
                  refine En_Ps 5 (pc' := 116) (lv' := [(7, .int z63), (6, .int z55), (0, .ref 14), (1, .ref p), (2, .int a), (3, .int b), (4, .int c), (5, .int y14)]) (st' := [.int ((a + ((Int32.ofInt 1)))), .ref p, .ref 14]) rfl ?_
                  refine En_top (addI rfl (by decide : (Int32.ofInt 1).toInt = 1) (by first | exact q_4737848389 hl_a | omega) (by first | exact q_2918abfa70 h13 | omega)) (fun z89 h90 => ?_)
                  refine En_Ps 4 (pc' := 121) (lv' := [(7, .int z63), (6, .int z55), (0, .ref 14), (1, .ref p), (2, .int a), (3, .int b), (4, .int c), (5, .int y14)]) (st' := [.int ((((Int32.ofInt 1)) <<< (y14 &&& 31))), .int b, .int z89, .ref p, .ref 14]) rfl ?_
                  refine En_rng (shl1_p 5 rfl (by omega) (by omega) (by decide)) (fun z91 h92 h93 => ?_)
                  refine En_Ps 1 (pc' := 122) (lv' := [(7, .int z63), (6, .int z55), (0, .ref 14), (1, .ref p), (2, .int a), (3, .int b), (4, .int c), (5, .int y14)]) (st' := [.int ((b ||| z91)), .int z89, .ref p, .ref 14]) rfl ?_
                  refine En_hav (fun z94 => ?_)
                  refine En_Ps 2 (pc' := 126) (lv' := [(7, .int z63), (6, .int z55), (0, .ref 14), (1, .ref p), (2, .int a), (3, .int b), (4, .int c), (5, .int y14)]) (st' := [.int z63, .int c, .int z94, .int z89, .ref p, .ref 14]) rfl ?_
                  refine En_callS rfl rfl rfl rfl rfl rfl rfl rfl rfl (c_10 σ84 h85 c z63) (by decide) (by decide) (fun v96 σ97 h95 => ?_)
                  obtain ⟨h98, h99, z101, rfl, h100⟩ := h95
                  have h102 := Fr_trans h88 h99 (by decide +kernel)
                  refine En_callS rfl rfl rfl rfl rfl rfl rfl rfl rfl (c_96a σ97 h98 p hp z89 z94 z101 (geI rfl (by first | exact q_dd9d8c1961 h90 hl_a | omega)) (leI rfl (by first | exact q_13d1e79bb8 h90 h13 | omega)) (geI rfl (by first | exact q_f062bc8aa8 h100.1 hl_c | omega)) (leI rfl (by omega))) (by decide) (by decide) (fun v104 σ105 h103 => ?_)
                  obtain ⟨h106, h107, rfl, h108⟩ := h103
                  have h109 := Fr_trans h102 h107 (by decide +kernel)
                  refine En_Ps 4 (pc' := 138) (lv' := [(7, .int z63), (6, .int z55), (0, .ref 14), (1, .ref p), (2, .int a), (3, .int b), (4, .int c), (5, .int y14)]) (st' := [.int ((Int32.ofInt (-1))), .int z63, .int z55, .ref 14]) rfl ?_
                  have := (by decide : ((Int32.ofInt (-1))).toInt = -1)
                  refine En_callV rfl rfl rfl rfl rfl rfl rfl rfl tgz_14 (by decide +kernel) rfl (c_99 σ105 h106 z55 z63 ((Int32.ofInt (-1))) (geI rfl (by first | exact q_ef1e8e38bf h54.1 | omega)) (leI rfl (by first | exact q_f1c8c7c399 h54.2 | omega))) (by decide) (by decide) (fun v111 σ112 h110 => ?_)
                  obtain ⟨h113, h114, rfl, h115⟩ := h110
                  have h116 := Fr_trans h109 h114 (by decide +kernel)
                  refine En_Ps 1 (pc' := 144) (lv' := [(5, .int ((y14 + Int32.ofInt 1))), (7, .int z63), (6, .int z55), (0, .ref 14), (1, .ref p), (2, .int a), (3, .int b), (4, .int c)]) (st' := []) rfl ?_
                  refine En_lv1 (addI rfl (by decide : (Int32.ofInt 1).toInt = 1) (by first | exact q_465ab79ac1 h19 | omega) (by first | exact q_9a865ca0e4 h20 | omega)) (fun z117 h118 => ?_)
                  refine En_Ps 1 (pc' := 24) (lv' := [(5, .int z117), (7, .int z63), (6, .int z55), (0, .ref 14), (1, .ref p), (2, .int a), (3, .int b), (4, .int c)]) (st' := []) rfl ?_
                  refine En_lv (lv := [(0, .ref 14), (1, .ref p), (2, .int a), (3, .int b), (4, .int c), (5, .int z117)]) ⟨rfl, rfl, rfl, rfl, rfl, rfl, trivial⟩ ?_
                  exact ih24 σ112 z117 h113 h116 ((h114 _ _ (inW hp (by decide +kernel))).trans ((h107 _ _ (inW hp (by decide +kernel))).trans ((h99 _ _ (inW hp (by decide +kernel))).trans ((h86 _ _ (inW hp (by decide +kernel))).trans ((h81 _ _ (Or.inl (neTG hp tgz_16 (by decide)))).trans ((h53 _ _ (inW hp (by decide +kernel))).trans ((h27 _ _ (inW hp (by decide +kernel))).trans h18))))))) (by first | exact q_35104ce9d3 h118 h19 | omega) (by first | exact q_c76cfd8d15 h118 h22 h4 | omega) (by first | exact q_8d03a5a7cb h118 h21 | omega)
    have := (by decide : (Int32.ofInt 0).toInt = 0)
    refine En_lv (lv := [(0, .ref 14), (1, .ref p), (2, .int a), (3, .int b), (4, .int c), (5, .int ((Int32.ofInt 0)))]) ⟨rfl, rfl, rfl, rfl, rfl, rfl, trivial⟩ ?_
    exact key24 (Int.toNat (z2.toInt) + 1) σ0 ((Int32.ofInt 0)) hσ0 hF0 h1 (by decide) (by decide) (by first | exact toN_lt _ | omega)

