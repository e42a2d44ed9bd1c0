/-! 32.n07 -/
section
/-- DoorSchool.end(I)I -/
abbrev P_118x (σ0 : SG) (a : Int32) (p : Nat) (sg : Int32) (m : Int32) : PO := fun v σ => WT σ ∧ Fr [(1, 1)] σ0 σ ∧ ∃ m1 : Int32, (σ 1)[1]? = some (Value.int m1) ∧ ∃ ret : Int32, v = some (Value.int ret) ∧ -ret.toInt - 1 ≤ 0 ∧ ret.toInt - 1600 ≤ 0 ∧ -m1.toInt ≤ 0 ∧ m1.toInt - 1600 ≤ 0 ∧ m1.toInt - m.toInt ≤ 0 ∧ Imp (-a.toInt ≤ 0 ∧ a.toInt - m.toInt ≤ 0) (m1.toInt - a.toInt ≤ 0 ∧ -m1.toInt + a.toInt ≤ 0 ∧ ret.toInt - a.toInt ≤ 0 ∧ -ret.toInt + a.toInt ≤ 0) ∧ Imp (a.toInt + 1 ≤ 0) (m1.toInt - m.toInt ≤ 0 ∧ -m1.toInt + m.toInt ≤ 0 ∧ ret.toInt + 1 ≤ 0 ∧ -ret.toInt - 1 ≤ 0) ∧ Imp (m.toInt - a.toInt + 1 ≤ 0) (m1.toInt - m.toInt ≤ 0 ∧ -m1.toInt + m.toInt ≤ 0 ∧ ret.toInt + 1 ≤ 0 ∧ -ret.toInt - 1 ≤ 0)
set_option maxRecDepth 10000 in
set_option maxHeartbeats 4000000 in
theorem c_118x (σ0 : SG) (hσ0 : WT σ0) (a : Int32) (p : Nat) (hp : TG p = 18) (h_p : (σ0 0)[9]? = some (Value.ref p)) (sg : Int32) (h_sg : (σ0 p)[1]? = some (Value.int sg)) (m : Int32) (h_m : (σ0 1)[1]? = some (Value.int m)) (hp0 : -sg.toInt ≤ 0) : En 0 0 none mr_118 (P_118x σ0 a p sg m) 0 [(0, .ref 0), (1, .int a)] [] σ0 := by
  obtain ⟨hl_sg, hu_sg⟩ := WT_int hσ0 (g := 18) hp (by decide +kernel) (l := (-1)) (u := 4) (by decide +kernel) h_sg
  obtain ⟨hl_m, hu_m⟩ := WT_int hσ0 (g := 1) (by decide +kernel) (by decide +kernel) (l := 0) (u := 1600) (by decide +kernel) h_m
  have hF0 : Fr [(1, 1)] σ0 σ0 := Fr_rfl
  refine En_Ps 1 (pc' := 1) (lv' := [(0, .ref 0), (1, .int a)]) (st' := [.int a]) rfl ?_
  refine En_iLt _ rfl rfl (fun h1 => ?_) (fun h1 => ?_)
  · refine En_Ps 1 (pc' := 16) (lv' := [(0, .ref 0), (1, .int a)]) (st' := [.int ((Int32.ofInt (-1)))]) rfl ?_
    refine En_top (by decide : (Int32.ofInt (-1)).toInt = -1) (fun z2 h3 => ?_)
    exact En_ret (v := some (Value.int z2)) rfl rfl rfl ⟨hσ0, hF0, m, h_m, z2, rfl, ⟨by first | exact q_6ba54b61e9 h3 | omega, by first | exact q_99664cbdae h3 | omega, by first | exact q_c803b490ef hl_m | omega, by first | exact q_5a08281576 hu_m | omega, by first | exact q_1bb76abeaf | omega, fun hh => by first | exact ⟨q_1108b6a118 h1 hh.1, q_10d278d690 hh.2, q_7d292a1c2b h3 hh.1, q_da50bdb728 h1 h3⟩ | omega, fun hh => by first | exact ⟨q_1bb76abeaf, q_857069189f, q_4eb6dac66d h3, q_6ba54b61e9 h3⟩ | omega, fun hh => by first | exact ⟨q_1bb76abeaf, q_857069189f, q_4eb6dac66d h3, q_6ba54b61e9 h3⟩ | omega⟩⟩
  · refine En_Ps 2 (pc' := 6) (lv' := [(0, .ref 0), (1, .int a)]) (st' := [.ref 0, .int a]) rfl ?_
    refine En_getU (j := 0) (u := 1) (g' := 1) (q := 0) rfl rfl rfl tgz_0 (by decide +kernel) hσ0 (by decide +kernel) un_1_1 (fun h4 => ?_)
    refine En_getK (j := 1) h_m rfl rfl rfl tgz_1 (by decide +kernel) ?_
    refine En_icLe _ rfl rfl rfl (fun h6 => ?_) (fun h6 => ?_)
    · refine En_Ps 1 (pc' := 18) (lv' := [(0, .ref 0), (1, .int a)]) (st' := [.ref 0]) rfl ?_
      refine En_getK (j := 0) h4 rfl rfl rfl tgz_0 (by decide +kernel) ?_
      refine En_Ps 1 (pc' := 22) (lv' := [(0, .ref 0), (1, .int a)]) (st' := [.int a, .ref 1]) rfl ?_
      refine En_put (j := 1) rfl rfl rfl tgz_1 (by decide +kernel) rfl (vI (l := 0) (u := 1600) (by decide +kernel) rfl (by first | exact q_58e6e51dcc h1 | omega) (by first | exact q_eeb85c3030 h6 hu_m | omega)) hσ0 hF0 (by decide +kernel) (fun σ7 h8 h9 h10 h11 => ?_)
      refine En_Ps 1 (pc' := 26) (lv' := [(0, .ref 0), (1, .int a)]) (st' := [.int a]) rfl ?_
      exact En_ret (v := some (Value.int a)) rfl rfl rfl ⟨h8, h9, a, h10, a, rfl, ⟨by first | exact q_565e7b05df h1 | omega, by first | exact q_50cb7dcfb3 h6 hu_m | omega, by first | exact q_c803b490ef h1 | omega, by first | exact q_50cb7dcfb3 h6 hu_m | omega, by first | exact q_15b82e7ad8 h6 | omega, fun hh => by first | exact ⟨q_1bb76abeaf, q_857069189f, q_1bb76abeaf, q_857069189f⟩ | omega, fun hh => by first | exact ⟨q_15b82e7ad8 h6, q_9ac42d151c h1 hh, q_b60e76ae01 hh, q_565e7b05df h1⟩ | omega, fun hh => by first | exact ⟨q_15b82e7ad8 h6, q_29611673d2 hh, q_63ad617a29 h6 hh, q_565e7b05df h1⟩ | omega⟩⟩
    · refine En_Ps 1 (pc' := 16) (lv' := [(0, .ref 0), (1, .int a)]) (st' := [.int ((Int32.ofInt (-1)))]) rfl ?_
      refine En_top (by decide : (Int32.ofInt (-1)).toInt = -1) (fun z12 h13 => ?_)
      exact En_ret (v := some (Value.int z12)) rfl rfl rfl ⟨hσ0, hF0, m, h_m, z12, rfl, ⟨by first | exact q_6ba54b61e9 h13 | omega, by first | exact q_99664cbdae h13 | omega, by first | exact q_c803b490ef hl_m | omega, by first | exact q_5a08281576 hu_m | omega, by first | exact q_1bb76abeaf | omega, fun hh => by first | exact ⟨q_74322ff71d h6, q_10d278d690 hh.2, q_59265d2827 h1 h13, q_5ed5f7434d h6 hh.2⟩ | omega, fun hh => by first | exact ⟨q_1bb76abeaf, q_857069189f, q_4eb6dac66d h13, q_6ba54b61e9 h13⟩ | omega, fun hh => by first | exact ⟨q_1bb76abeaf, q_857069189f, q_4eb6dac66d h13, q_6ba54b61e9 h13⟩ | omega⟩⟩
/-- DoorSchool.isZeroOrOne(I)Z -/
abbrev P_149x (σ0 : SG) (a : Int32) : PO := fun v σ => WT σ ∧ Fr [] σ0 σ ∧ ∃ ret : Int32, v = some (Value.int ret) ∧ -ret.toInt ≤ 0 ∧ ret.toInt - 1 ≤ 0 ∧ Imp (ret.toInt - 1 ≤ 0 ∧ -ret.toInt + 1 ≤ 0) (-a.toInt ≤ 0 ∧ a.toInt - 1 ≤ 0) ∧ ((ret.toInt = 1 ∧ (a.toInt = 0 ∨ a.toInt = 1)) ∨ (ret.toInt = 0 ∧ a.toInt ≠ 0 ∧ a.toInt ≠ 1))
set_option maxRecDepth 10000 in
set_option maxHeartbeats 4000000 in
theorem c_149x (σ0 : SG) (hσ0 : WT σ0) (a : Int32) : En 0 0 none mr_149 (P_149x σ0 a) 0 [(0, .int a)] [] σ0 := by
  have hF0 : Fr [] σ0 σ0 := Fr_rfl
  refine En_Ps 1 (pc' := 1) (lv' := [(0, .int a)]) (st' := [.int a]) rfl ?_
  refine En_iEq _ rfl rfl (fun h1 => ?_) (fun h1 => ?_)
  · refine En_Ps 2 (pc' := 14) (lv' := [(0, .int a)]) (st' := [.int ((Int32.ofInt 1))]) rfl ?_
    refine En_top (by decide : (Int32.ofInt 1).toInt = 1) (fun z2 h3 => ?_)
    exact En_ret (v := some (Value.int z2)) rfl rfl (retZ rfl rfl (by first | exact q_2b07c97645 h3 | omega) (by first | exact q_d9e7cbb253 h3 | omega)) ⟨hσ0, hF0, z2, rfl, ⟨by first | exact q_ad3eee31ca h3 | omega, by first | exact q_81cf297dc4 h3 | omega, fun hh => by first | exact ⟨q_097a37c2ae h1, q_e269517bee h1⟩ | omega, (by (first | exact q_7be328e355 h3 h1 | omega))⟩⟩
  · refine En_Ps 2 (pc' := 6) (lv' := [(0, .int a)]) (st' := [.int ((Int32.ofInt 1)), .int a]) rfl ?_
    refine En_icNe _ rfl (by decide : (Int32.ofInt 1).toInt = 1) rfl (fun h4 => ?_) (fun h4 => ?_)
    · refine En_Ps 1 (pc' := 14) (lv' := [(0, .int a)]) (st' := [.int ((Int32.ofInt 0))]) rfl ?_
      refine En_top (by decide : (Int32.ofInt 0).toInt = 0) (fun z5 h6 => ?_)
      exact En_ret (v := some (Value.int z5)) rfl rfl (retZ rfl rfl (by first | exact q_55451d0a83 h6 | omega) (by first | exact q_87849c3859 h6 | omega)) ⟨hσ0, hF0, z5, rfl, ⟨by first | exact q_097a37c2ae h6 | omega, by first | exact q_e269517bee h6 | omega, fun _ => by omega, (by (first | exact q_c19f7ca08b h6 h1 h4 | omega))⟩⟩
    · refine En_Ps 2 (pc' := 14) (lv' := [(0, .int a)]) (st' := [.int ((Int32.ofInt 1))]) rfl ?_
      refine En_top (by decide : (Int32.ofInt 1).toInt = 1) (fun z7 h8 => ?_)
      exact En_ret (v := some (Value.int z7)) rfl rfl (retZ rfl rfl (by first | exact q_2b07c97645 h8 | omega) (by first | exact q_d9e7cbb253 h8 | omega)) ⟨hσ0, hF0, z7, rfl, ⟨by first | exact q_ad3eee31ca h8 | omega, by first | exact q_81cf297dc4 h8 | omega, fun hh => by first | exact ⟨q_ad3eee31ca h4, q_81cf297dc4 h4⟩ | omega, (by (first | exact q_bd9a409a27 h8 h4 | omega))⟩⟩
/-- DoorSchool.fault(I)I -/
abbrev P_121x (σ0 : SG) (a : Int32) (p : Nat) (sg : Int32) (fk : Int32) (fp : Int32) : PO := fun v σ => WT σ ∧ Fr [] σ0 σ ∧ ∃ ret : Int32, v = some (Value.int ret) ∧ -ret.toInt - 1 ≤ 0 ∧ ret.toInt - 1600 ≤ 0 ∧ Imp (a.toInt ≤ 0 ∧ -a.toInt ≤ 0) (ret.toInt - fk.toInt ≤ 0 ∧ -ret.toInt + fk.toInt ≤ 0) ∧ Imp (a.toInt - 1 ≤ 0 ∧ -a.toInt + 1 ≤ 0) (ret.toInt - fp.toInt ≤ 0 ∧ -ret.toInt + fp.toInt ≤ 0) ∧ Imp (a.toInt + 1 ≤ 0) (ret.toInt + 1 ≤ 0 ∧ -ret.toInt - 1 ≤ 0) ∧ Imp (-a.toInt + 2 ≤ 0) (ret.toInt + 1 ≤ 0 ∧ -ret.toInt - 1 ≤ 0)
set_option maxRecDepth 10000 in
set_option maxHeartbeats 4000000 in
theorem c_121x (σ0 : SG) (hσ0 : WT σ0) (a : Int32) (p : Nat) (hp : TG p = 18) (h_p : (σ0 0)[9]? = some (Value.ref p)) (sg : Int32) (h_sg : (σ0 p)[1]? = some (Value.int sg)) (fk : Int32) (h_fk : (σ0 3)[5]? = some (Value.int fk)) (fp : Int32) (h_fp : (σ0 3)[6]? = some (Value.int fp)) (hp0 : -sg.toInt ≤ 0) : En 0 0 none mr_121 (P_121x σ0 a p sg fk fp) 0 [(0, .ref 0), (1, .int a)] [] σ0 := by
  obtain ⟨hl_sg, hu_sg⟩ := WT_int hσ0 (g := 18) hp (by decide +kernel) (l := (-1)) (u := 4) (by decide +kernel) h_sg
  obtain ⟨hl_fk, hu_fk⟩ := WT_int hσ0 (g := 3) (by decide +kernel) (by decide +kernel) (l := 0) (u := 3) (by decide +kernel) h_fk
  obtain ⟨hl_fp, hu_fp⟩ := WT_int hσ0 (g := 3) (by decide +kernel) (by decide +kernel) (l := (-1)) (u := 1600) (by decide +kernel) h_fp
  have hF0 : Fr [] σ0 σ0 := Fr_rfl
  refine En_Ps 1 (pc' := 1) (lv' := [(0, .ref 0), (1, .int a)]) (st' := [.int a]) rfl ?_
  refine En_iNe _ rfl rfl (fun h1 => ?_) (fun h1 => ?_)
  · refine En_Ps 2 (pc' := 14) (lv' := [(0, .ref 0), (1, .int a)]) (st' := [.int ((Int32.ofInt 1)), .int a]) rfl ?_
    refine En_icNe _ rfl (by decide : (Int32.ofInt 1).toInt = 1) rfl (fun h2 => ?_) (fun h2 => ?_)
    · refine En_Ps 1 (pc' := 28) (lv' := [(0, .ref 0), (1, .int a)]) (st' := [.int ((Int32.ofInt (-1)))]) rfl ?_
      refine En_top (by decide : (Int32.ofInt (-1)).toInt = -1) (fun z3 h4 => ?_)
      exact En_ret (v := some (Value.int z3)) rfl rfl rfl ⟨hσ0, hF0, z3, rfl, ⟨by first | exact q_6ba54b61e9 h4 | omega, by first | exact q_99664cbdae h4 | omega, fun _ => by omega, fun _ => by omega, fun hh => by first | exact ⟨q_4eb6dac66d h4, q_6ba54b61e9 h4⟩ | omega, fun hh => by first | exact ⟨q_4eb6dac66d h4, q_6ba54b61e9 h4⟩ | omega⟩⟩
    · refine En_Ps 1 (pc' := 18) (lv' := [(0, .ref 0), (1, .int a)]) (st' := [.ref 0]) rfl ?_
      refine En_getU (j := 1) (u := 3) (g' := 3) (q := 0) rfl rfl rfl tgz_0 (by decide +kernel) hσ0 (by decide +kernel) un_3_3 (fun h5 => ?_)
      refine En_getK (j := 6) h_fp rfl rfl rfl tgz_3 (by decide +kernel) ?_
      refine En_Ps 1 (pc' := 28) (lv' := [(0, .ref 0), (1, .int a)]) (st' := [.int fp]) rfl ?_
      exact En_ret (v := some (Value.int fp)) rfl rfl rfl ⟨hσ0, hF0, fp, rfl, ⟨by first | exact q_909eef6c0e hl_fp | omega, by first | exact q_5a08281576 hu_fp | omega, fun _ => by omega, fun hh => by first | exact ⟨q_1bb76abeaf, q_857069189f⟩ | omega, fun _ => by omega, fun _ => by omega⟩⟩
  · refine En_Ps 1 (pc' := 5) (lv' := [(0, .ref 0), (1, .int a)]) (st' := [.ref 0]) rfl ?_
    refine En_getU (j := 1) (u := 3) (g' := 3) (q := 0) rfl rfl rfl tgz_0 (by decide +kernel) hσ0 (by decide +kernel) un_3_3 (fun h7 => ?_)
    refine En_getK (j := 5) h_fk rfl rfl rfl tgz_3 (by decide +kernel) ?_
    exact En_ret (v := some (Value.int fk)) rfl rfl rfl ⟨hσ0, hF0, fk, rfl, ⟨by first | exact q_565e7b05df hl_fk | omega, by first | exact q_d82ac32af9 hu_fk | omega, fun hh => by first | exact ⟨q_1bb76abeaf, q_857069189f⟩ | omega, fun _ => by omega, fun _ => by omega, fun _ => by omega⟩⟩
/-- DoorSchool.feed(IIIII)I -/
abbrev P_122x (σ0 : SG) (a : Int32) (b : Int32) (c : Int32) (d : Int32) (e : Int32) (p : Nat) (sg : Int32) (m : Int32) : PO := fun v σ => WT σ ∧ Fr [(1, 1), (2, 0)] σ0 σ ∧ ∃ m1 : Int32, (σ 1)[1]? = some (Value.int m1) ∧ ∃ ret : Int32, v = some (Value.int ret) ∧ -ret.toInt - 1 ≤ 0 ∧ ret.toInt - 1600 ≤ 0 ∧ -m1.toInt + 20 ≤ 0 ∧ m1.toInt - 1600 ≤ 0 ∧ -m1.toInt + m.toInt ≤ 0 ∧ m1.toInt - m.toInt - 20 ≤ 0 ∧ Imp (m.toInt - 1580 ≤ 0) (m1.toInt - m.toInt - 20 ≤ 0 ∧ -m1.toInt + m.toInt + 20 ≤ 0 ∧ ret.toInt - m1.toInt ≤ 0 ∧ -ret.toInt + m1.toInt ≤ 0) ∧ Imp (-m.toInt + 1581 ≤ 0) (m1.toInt - m.toInt ≤ 0 ∧ -m1.toInt + m.toInt ≤ 0 ∧ ret.toInt + 1 ≤ 0 ∧ -ret.toInt - 1 ≤ 0) ∧ ((m.toInt ≤ 1580 → FDP σ0 σ 2 m.toInt 20 a b c d e) ∧ (1580 < m.toInt → ∀ i : Int, ci σ 2 i = ci σ0 2 i))
set_option maxRecDepth 10000 in
set_option maxHeartbeats 4000000 in
theorem c_122x (σ0 : SG) (hσ0 : WT σ0) (a : Int32) (b : Int32) (c : Int32) (d : Int32) (e : Int32) (p : Nat) (hp : TG p = 18) (h_p : (σ0 0)[9]? = some (Value.ref p)) (sg : Int32) (h_sg : (σ0 p)[1]? = some (Value.int sg)) (m : Int32) (h_m : (σ0 1)[1]? = some (Value.int m)) (hp0 : -sg.toInt ≤ 0) : En 1 22 none mr_122 (P_122x σ0 a b c d e p sg m) 0 [(0, .ref 0), (1, .int a), (2, .int b), (3, .int c), (4, .int d), (5, .int e)] [] σ0 := by
  obtain ⟨hl_sg, hu_sg⟩ := WT_int hσ0 (g := 18) hp (by decide +kernel) (l := (-1)) (u := 4) (by decide +kernel) h_sg
  obtain ⟨hl_m, hu_m⟩ := WT_int hσ0 (g := 1) (by decide +kernel) (by decide +kernel) (l := 0) (u := 1600) (by decide +kernel) h_m
  have hF0 : Fr [(1, 1), (2, 0)] σ0 σ0 := Fr_rfl
  refine En_Ps 1 (pc' := 1) (lv' := [(0, .ref 0), (1, .int a), (2, .int b), (3, .int c), (4, .int d), (5, .int e)]) (st' := [.ref 0]) rfl ?_
  refine En_getU (j := 0) (u := 1) (g' := 1) (q := 0) rfl rfl rfl tgz_0 (by decide +kernel) hσ0 (by decide +kernel) un_1_1 (fun h1 => ?_)
  refine En_getK (j := 1) h_m rfl rfl rfl tgz_1 (by decide +kernel) ?_
  refine En_Ps 2 (pc' := 10) (lv' := [(0, .ref 0), (1, .int a), (2, .int b), (3, .int c), (4, .int d), (5, .int e)]) (st' := [.int ((m + (((Int8.ofInt 20).toInt32))))]) rfl ?_
  refine En_top (addI rfl (by decide : ((Int8.ofInt 20).toInt32).toInt = 20) (by first | exact q_b317acd289 hl_m | omega) (by first | exact q_3065489387 hu_m | omega)) (fun z3 h4 => ?_)
  refine En_Ps 1 (pc' := 13) (lv' := [(0, .ref 0), (1, .int a), (2, .int b), (3, .int c), (4, .int d), (5, .int e)]) (st' := [.int (((Int16.ofInt 1600).toInt32)), .int z3]) rfl ?_
  refine En_icLe _ rfl (by decide : ((Int16.ofInt 1600).toInt32).toInt = 1600) rfl (fun h5 => ?_) (fun h5 => ?_)
  · refine En_Ps 1 (pc' := 19) (lv' := [(0, .ref 0), (1, .int a), (2, .int b), (3, .int c), (4, .int d), (5, .int e)]) (st' := [.ref 0]) rfl ?_
    refine En_getK (j := 0) h1 rfl rfl rfl tgz_0 (by decide +kernel) ?_
    refine En_Ps 1 (pc' := 23) (lv' := [(0, .ref 0), (1, .int a), (2, .int b), (3, .int c), (4, .int d), (5, .int e)]) (st' := [.int a, .ref 1]) rfl ?_
    refine En_callV rfl rfl rfl rfl rfl rfl rfl rfl tgz_1 (by decide +kernel) rfl (c_90x σ0 hσ0 a m h_m) (by decide) (by decide) (fun v7 σ8 h6 => ?_)
    obtain ⟨h9, h10, z12, h13, rfl, h11⟩ := h6
    have h14 := h11.2.2.2.2.2
    have h15 := Fr_trans hF0 h10 (by decide +kernel)
    have h16 := Imp_m h11.2.2.2.2.1 (by first | exact q_549c8401b7 h4 h5 | omega)
    refine En_Ps 1 (pc' := 27) (lv' := [(0, .ref 0), (1, .int a), (2, .int b), (3, .int c), (4, .int d), (5, .int e)]) (st' := [.ref 0]) rfl ?_
    refine En_getK (j := 0) ((h10 _ _ (inW tgz_0 (by decide +kernel))).trans h1) rfl rfl rfl tgz_0 (by decide +kernel) ?_
    refine En_Ps 1 (pc' := 31) (lv' := [(0, .ref 0), (1, .int a), (2, .int b), (3, .int c), (4, .int d), (5, .int e)]) (st' := [.int b, .ref 1]) rfl ?_
    refine En_callV rfl rfl rfl rfl rfl rfl rfl rfl tgz_1 (by decide +kernel) rfl (c_90x σ8 h9 b z12 h13) (by decide) (by decide) (fun v18 σ19 h17 => ?_)
    obtain ⟨h20, h21, z23, h24, rfl, h22⟩ := h17
    have h25 := h22.2.2.2.2.2
    have h26 := Fr_trans h15 h21 (by decide +kernel)
    have h27 := Imp_m h22.2.2.2.2.1 (by first | exact q_737f66ec9d h11.2.2.2.1 h4 h5 | omega)
    refine En_Ps 1 (pc' := 35) (lv' := [(0, .ref 0), (1, .int a), (2, .int b), (3, .int c), (4, .int d), (5, .int e)]) (st' := [.ref 0]) rfl ?_
    refine En_getK (j := 0) ((h21 _ _ (inW tgz_0 (by decide +kernel))).trans ((h10 _ _ (inW tgz_0 (by decide +kernel))).trans h1)) rfl rfl rfl tgz_0 (by decide +kernel) ?_
    refine En_Ps 1 (pc' := 39) (lv' := [(0, .ref 0), (1, .int a), (2, .int b), (3, .int c), (4, .int d), (5, .int e)]) (st' := [.int c, .ref 1]) rfl ?_
    refine En_callV rfl rfl rfl rfl rfl rfl rfl rfl tgz_1 (by decide +kernel) rfl (c_90x σ19 h20 c z23 h24) (by decide) (by decide) (fun v29 σ30 h28 => ?_)
    obtain ⟨h31, h32, z34, h35, rfl, h33⟩ := h28
    have h36 := h33.2.2.2.2.2
    have h37 := Fr_trans h26 h32 (by decide +kernel)
    have h38 := Imp_m h33.2.2.2.2.1 (by first | exact q_63199bf400 h22.2.2.2.1 h11.2.2.2.1 h4 h5 | omega)
    refine En_Ps 1 (pc' := 43) (lv' := [(0, .ref 0), (1, .int a), (2, .int b), (3, .int c), (4, .int d), (5, .int e)]) (st' := [.ref 0]) rfl ?_
    refine En_getK (j := 0) ((h32 _ _ (inW tgz_0 (by decide +kernel))).trans ((h21 _ _ (inW tgz_0 (by decide +kernel))).trans ((h10 _ _ (inW tgz_0 (by decide +kernel))).trans h1))) rfl rfl rfl tgz_0 (by decide +kernel) ?_
    refine En_Ps 1 (pc' := 48) (lv' := [(0, .ref 0), (1, .int a), (2, .int b), (3, .int c), (4, .int d), (5, .int e)]) (st' := [.int d, .ref 1]) rfl ?_
    refine En_callV rfl rfl rfl rfl rfl rfl rfl rfl tgz_1 (by decide +kernel) rfl (c_90x σ30 h31 d z34 h35) (by decide) (by decide) (fun v40 σ41 h39 => ?_)
    obtain ⟨h42, h43, z45, h46, rfl, h44⟩ := h39
    have h47 := h44.2.2.2.2.2
    have h48 := Fr_trans h37 h43 (by decide +kernel)
    have h49 := Imp_m h44.2.2.2.2.1 (by first | exact q_7e5cba469b h33.2.2.2.1 h22.2.2.2.1 h11.2.2.2.1 h4 h5 | omega)
    refine En_Ps 1 (pc' := 52) (lv' := [(0, .ref 0), (1, .int a), (2, .int b), (3, .int c), (4, .int d), (5, .int e)]) (st' := [.ref 0]) rfl ?_
    refine En_getK (j := 0) ((h43 _ _ (inW tgz_0 (by decide +kernel))).trans ((h32 _ _ (inW tgz_0 (by decide +kernel))).trans ((h21 _ _ (inW tgz_0 (by decide +kernel))).trans ((h10 _ _ (inW tgz_0 (by decide +kernel))).trans h1)))) rfl rfl rfl tgz_0 (by decide +kernel) ?_
    refine En_Ps 1 (pc' := 57) (lv' := [(0, .ref 0), (1, .int a), (2, .int b), (3, .int c), (4, .int d), (5, .int e)]) (st' := [.int e, .ref 1]) rfl ?_
    refine En_callV rfl rfl rfl rfl rfl rfl rfl rfl tgz_1 (by decide +kernel) rfl (c_90x σ41 h42 e z45 h46) (by decide) (by decide) (fun v51 σ52 h50 => ?_)
    obtain ⟨h53, h54, z56, h57, rfl, h55⟩ := h50
    have h58 := h55.2.2.2.2.2
    have h59 := Fr_trans h48 h54 (by decide +kernel)
    have h60 := Imp_m h55.2.2.2.2.1 (by first | exact q_bcb984a5e1 h44.2.2.2.1 h33.2.2.2.1 h22.2.2.2.1 h11.2.2.2.1 h4 h5 | omega)
    refine En_Ps 1 (pc' := 61) (lv' := [(0, .ref 0), (1, .int a), (2, .int b), (3, .int c), (4, .int d), (5, .int e)]) (st' := [.ref 0]) rfl ?_
    refine En_getK (j := 0) ((h54 _ _ (inW tgz_0 (by decide +kernel))).trans ((h43 _ _ (inW tgz_0 (by decide +kernel))).trans ((h32 _ _ (inW tgz_0 (by decide +kernel))).trans ((h21 _ _ (inW tgz_0 (by decide +kernel))).trans ((h10 _ _ (inW tgz_0 (by decide +kernel))).trans h1))))) rfl rfl rfl tgz_0 (by decide +kernel) ?_
    refine En_getK (j := 1) h57 rfl rfl rfl tgz_1 (by decide +kernel) ?_
    exact En_ret (v := some (Value.int z56)) rfl rfl rfl ⟨h53, h59, z56, h57, z56, rfl, ⟨by first | exact q_be52155ce6 h55.1 | omega, by first | exact q_76190b61a3 h55.2.1 | omega, by first | exact q_7c7233d48f h60.2 h49.2 h38.2 h27.2 h11.1 | omega, by first | exact q_76190b61a3 h55.2.1 | omega, by first | exact q_2007956020 h16.2 h27.2 h38.2 h49.2 h60.2 | omega, by first | exact q_2bc18f6fdd h11.2.2.2.1 h22.2.2.2.1 h33.2.2.2.1 h44.2.2.2.1 h55.2.2.2.1 | omega, fun hh => by first | exact ⟨q_2bc18f6fdd h11.2.2.2.1 h22.2.2.2.1 h33.2.2.2.1 h44.2.2.2.1 h55.2.2.2.1, q_40bad344e3 h16.2 h27.2 h38.2 h49.2 h60.2, q_1bb76abeaf, q_857069189f⟩ | omega, fun hh => by first | exact ⟨q_c96239e5db hh h4 h5, q_8705a471bc hh h4 h5, q_0a5c54d24c hh h4 h5, q_be52155ce6 h55.1⟩ | omega, ⟨fun _ => FDP_5 (by (first | exact q_58e6e51dcc hl_m | omega)) (APB_d h14 (by (first | exact q_61ddd2b576 | omega)) (by (first | exact q_6d469c2a5b h16.1 h16.2 | omega))) (APB_d h25 (by (first | exact q_2b8e8f4628 h16.1 h16.2 | omega)) (by (first | exact q_6d469c2a5b h27.1 h27.2 | omega))) (APB_d h36 (by (first | exact q_9cd09e675b h27.1 h16.1 h27.2 h16.2 | omega)) (by (first | exact q_6d469c2a5b h38.1 h38.2 | omega))) (APB_d h47 (by (first | exact q_9a46764495 h38.1 h27.1 h16.1 h38.2 h27.2 h16.2 | omega)) (by (first | exact q_6d469c2a5b h49.1 h49.2 | omega))) (APB_d h58 (by (first | exact q_970825857d h49.1 h38.1 h27.1 h16.1 h49.2 h38.2 h27.2 h16.2 | omega)) (by (first | exact q_6d469c2a5b h60.1 h60.2 | omega))), fun h => absurd h (by (first | exact q_b7478a5c42 h h4 h5 | omega))⟩⟩⟩
  · refine En_Ps 1 (pc' := 17) (lv' := [(0, .ref 0), (1, .int a), (2, .int b), (3, .int c), (4, .int d), (5, .int e)]) (st' := [.int ((Int32.ofInt (-1)))]) rfl ?_
    refine En_top (by decide : (Int32.ofInt (-1)).toInt = -1) (fun z61 h62 => ?_)
    exact En_ret (v := some (Value.int z61)) rfl rfl rfl ⟨hσ0, hF0, m, h_m, z61, rfl, ⟨by first | exact q_6ba54b61e9 h62 | omega, by first | exact q_99664cbdae h62 | omega, by first | exact q_abdabe92bc h4 h5 | omega, by first | exact q_5a08281576 hu_m | omega, by first | exact q_857069189f | omega, by first | exact q_b37250a010 | omega, fun _ => by omega, fun hh => by first | exact ⟨q_1bb76abeaf, q_857069189f, q_4eb6dac66d h62, q_6ba54b61e9 h62⟩ | omega, ⟨fun h => absurd h (by (first | exact q_485fc563e3 h h4 h5 | omega)), fun _ _ => rfl⟩⟩⟩
/-- DoorSchool.ownerDeeds()I -/
abbrev P_160x (σ0 : SG) (Wv : Int → Int) (gd : Int) (p : Nat) (sg : Int32) : PO := fun v σ => WT σ ∧ Fr [] σ0 σ ∧ ∃ ret : Int32, v = some (Value.int ret) ∧ -ret.toInt ≤ 0 ∧ ret.toInt - 65535 ≤ 0 ∧ ret.toInt = owD Wv
set_option maxRecDepth 10000 in
set_option maxHeartbeats 4000000 in
theorem c_160x {Wv : Int → Int} {gd : Int} (σ0 : SG) (hσ0 : WT σ0) (p : Nat) (hp : TG p = 18) (h_p : (σ0 0)[9]? = some (Value.ref p)) (sg : Int32) (h_sg : (σ0 p)[1]? = some (Value.int sg)) (hp0 : -sg.toInt ≤ 0) (hP : PLA p) (hX : FXP σ0 p) (hKd : KN σ0 p Wv (actD Wv gd)) (hB : WFw Wv) (hR : RULx σ0 (Wv 0)) : En 1 24 none mr_160 (P_160x σ0 Wv gd p sg) 0 [(0, .ref 0)] [] σ0 := by
  obtain ⟨hl_sg, hu_sg⟩ := WT_int hσ0 (g := 18) hp (by decide +kernel) (l := (-1)) (u := 4) (by decide +kernel) h_sg
  have hF0 : Fr [] σ0 σ0 := Fr_rfl
  have t1 : Wv (0) = sg.toInt := KN_v hKd (Or.inl (by decide)) (by decide) (by decide) (by rw [lcO_lt (by decide) (by decide), Nat.add_zero]) rfl h_sg
  obtain ⟨z3, h2, h4, h5⟩ := WT_peekI hσ0 hp (by decide +kernel : FT 18 3 = (0, 0, 4)) (by decide +kernel)
  have t6 : Wv (2) = z3.toInt := KN_v hKd (Or.inl (by decide)) (by decide) (by decide) (by rw [lcO_lt (by decide) (by decide), Nat.add_zero]) rfl h2
  have h7 := hB.2.2.1
  have h8 := hB.1
  have h9 := hB.2.1
  have h10 := hB.2.2.2.1
  refine En_Ps 1 (pc' := 1) (lv' := [(0, .ref 0)]) (st' := [.ref 0]) rfl ?_
  refine En_getU (j := 2) (u := 4) (g' := 4) (q := 0) rfl rfl rfl tgz_0 (by decide +kernel) hσ0 (by decide +kernel) un_4_4 (fun h11 => ?_)
  refine En_Ps 1 (pc' := 5) (lv' := [(0, .ref 0)]) (st' := [.ref 0, .ref 4]) rfl ?_
  refine En_getK (j := 9) h_p rfl rfl rfl tgz_0 (by decide +kernel) ?_
  refine En_getI (j := 6) (l := 0) (u := 15) rfl rfl rfl hp (by decide +kernel) hσ0 (by decide +kernel) (fun z14 h13 h15 h16 => ?_)
  have t17 : Wv (8) = z14.toInt := KN_v hKd (Or.inl (by decide)) (by decide) (by decide) (by rw [lcO_lt (by decide) (by decide), Nat.add_zero]) rfl h13
  refine En_Ps 1 (pc' := 12) (lv' := [(0, .ref 0)]) (st' := [.ref 0, .int z14, .ref 4]) rfl ?_
  refine En_getK (j := 9) h_p rfl rfl rfl tgz_0 (by decide +kernel) ?_
  refine En_getI (j := 7) (l := 0) (u := 15) rfl rfl rfl hp (by decide +kernel) hσ0 (by decide +kernel) (fun z19 h18 h20 h21 => ?_)
  have t22 : Wv (9) = z19.toInt := KN_v hKd (Or.inl (by decide)) (by decide) (by decide) (by rw [lcO_lt (by decide) (by decide), Nat.add_zero]) rfl h18
  obtain ⟨z24, h23, h25, h26⟩ := WT_peekI hσ0 tgz_4 (by decide +kernel : FT 4 0 = (0, 0, 16)) (by decide +kernel)
  have h27 : z24.toInt = pI (Wv 0) := (ci_at (j := 0) h23 rfl).symm.trans hR.1
  refine En_callV rfl rfl rfl rfl rfl rfl rfl rfl tgz_4 (by decide +kernel) rfl (c_77ax σ0 hσ0 z14 z19 (geI rfl (by first | exact q_58e6e51dcc h15 | omega)) (leI rfl (by first | exact q_5a4d8a7e08 h16 | omega)) z24 h23) (by decide) (by decide) (fun v29 σ30 h28 => ?_)
  obtain ⟨h31, h32, z34, rfl, h33⟩ := h28
  have h35 := h33.2.2
  obtain rfl : σ0 = σ30 := Fr_nil h32
  exact En_ret (v := some (Value.int z34)) rfl rfl rfl ⟨hσ0, hF0, z34, rfl, ⟨by first | exact q_a555021d16 h33.1 | omega, by first | exact q_ef123ba13c h33.2.1 | omega, owD_of t17 t22 h27 h35⟩⟩
/-- DoorSchool.fooling(I)I -/
abbrev P_126x (σ0 : SG) (Wv : Int → Int) (a : Int32) (p : Nat) (sg : Int32) : PO := fun v σ => WT σ ∧ Fr [] σ0 σ ∧ ∃ ret : Int32, v = some (Value.int ret) ∧ -ret.toInt ≤ 0 ∧ ret.toInt - 65535 ≤ 0 ∧ ret.toInt = foN Wv a.toInt
set_option maxRecDepth 10000 in
set_option maxHeartbeats 4000000 in
theorem c_126x {Wv : Int → Int} (σ0 : SG) (hσ0 : WT σ0) (a : Int32) (hl_a : 0 ≤ a.toInt) (hu_a : a.toInt ≤ 3) (p : Nat) (hp : TG p = 18) (h_p : (σ0 0)[9]? = some (Value.ref p)) (sg : Int32) (h_sg : (σ0 p)[1]? = some (Value.int sg)) (hp0 : -sg.toInt ≤ 0) (hP : PLA p) (hX : FXP σ0 p) (hK : KN σ0 p Wv (act Wv)) (hB : WFw Wv) (hT : TWN Wv) (hR : RULx σ0 (Wv 0)) (hd : a.toInt < Wv 2) : En 4 92 none mr_126 (P_126x σ0 Wv a p sg) 0 [(0, .ref 0), (1, .int a)] [] σ0 := by
  obtain ⟨hl_sg, hu_sg⟩ := WT_int hσ0 (g := 18) hp (by decide +kernel) (l := (-1)) (u := 4) (by decide +kernel) h_sg
  have hF0 : Fr [] σ0 σ0 := Fr_rfl
  have t1 : Wv (0) = sg.toInt := KN_v hK (Or.inl (by decide)) (by decide) (by decide) (by rw [lcO_lt (by decide) (by decide), Nat.add_zero]) rfl h_sg
  obtain ⟨z3, h2, h4, h5⟩ := WT_peekI hσ0 hp (by decide +kernel : FT 18 3 = (0, 0, 4)) (by decide +kernel)
  have t6 : Wv (2) = z3.toInt := KN_v hK (Or.inl (by decide)) (by decide) (by decide) (by rw [lcO_lt (by decide) (by decide), Nat.add_zero]) rfl h2
  have h7 := hB.2.2.1
  have h8 := hB.1
  have h9 := hB.2.1
  have h10 := hB.2.2.2.1
  refine En_Ps 2 (pc' := 2) (lv' := [(0, .ref 0), (1, .int a)]) (st' := [.int a, .ref 0]) rfl ?_
  refine En_callV rfl rfl rfl rfl rfl rfl rfl rfl tgz_0 (by decide +kernel) rfl (c_114ax σ0 hσ0 a (geI rfl (by first | exact q_58e6e51dcc hl_a | omega)) (leI rfl (by first | exact q_da5e9b976f hu_a | omega)) p hp h_p sg h_sg (by first | exact q_a555021d16 hp0 | omega) hP (FXP_fr hP hX hF0 (by decide +kernel)) hK hB hT (by omega) hR) (by decide) (by decide) (fun v12 σ13 h11 => ?_)
  obtain ⟨h14, h15, z17, rfl, h16⟩ := h11
  have h18 := h16.2.2
  obtain rfl : σ0 = σ13 := Fr_nil h15
  refine En_Ps 1 (pc' := 6) (lv' := [(0, .ref 0), (1, .int a)]) (st' := [.ref 0, .int z17]) rfl ?_
  refine En_callV rfl rfl rfl rfl rfl rfl rfl rfl tgz_0 (by decide +kernel) rfl (c_160x σ0 hσ0 p hp h_p sg h_sg (by first | exact q_a555021d16 hp0 | omega) hP (FXP_fr hP hX hF0 (by decide +kernel)) (KN_aD (d := 4) hK) hB hR) (by decide) (by decide) (fun v20 σ21 h19 => ?_)
  obtain ⟨h22, h23, z25, rfl, h24⟩ := h19
  have h26 := h24.2.2
  obtain rfl : σ0 = σ21 := Fr_nil h23
  refine En_Ps 2 (pc' := 11) (lv' := [(0, .ref 0), (1, .int a)]) (st' := [.int ((z25 ^^^ ((Int32.ofInt (-1))))), .int z17]) rfl ?_
  refine En_nam (fun z27 h28 => ?_)
  refine En_Ps 1 (pc' := 12) (lv' := [(0, .ref 0), (1, .int a)]) (st' := [.int ((z17 &&& z27))]) rfl ?_
  refine En_nam (fun z30 h31 => ?_)
  have h32 : z30.toInt = z17.toInt - aN z17.toInt z25.toInt := andn_v h31 h28 rfl rfl (by omega) (by omega)
  have := aN_le (X := z17.toInt) (Y := z25.toInt) (by omega) (by omega)
  exact En_ret (v := some (Value.int z30)) rfl rfl rfl ⟨hσ0, hF0, z30, rfl, ⟨by omega, by omega, foN_of h18 h26 (by omega)⟩⟩
/-- DoorSchool.foolingAfter(II)I -/
abbrev P_127x (σ0 : SG) (Wv : Int → Int) (a : Int32) (b : Int32) (p : Nat) (sg : Int32) : PO := fun v σ => WT σ ∧ Fr [(20, 2), (21, 0), (22, 0)] σ0 σ ∧ ∃ ret : Int32, v = some (Value.int ret) ∧ -ret.toInt ≤ 0 ∧ ret.toInt - 16 ≤ 0 ∧ (ret.toInt = hdV Wv a.toInt b.toInt ∧ (KN σ p Wv (act Wv) ∧ OUT σ0 σ p))
set_option maxRecDepth 10000 in
set_option maxHeartbeats 4000000 in
theorem c_127x {Wv : Int → Int} (σ0 : SG) (hσ0 : WT σ0) (a : Int32) (b : Int32) (hl_a : 0 ≤ a.toInt) (hu_a : a.toInt ≤ 3) (hl_b : 0 ≤ b.toInt) (hu_b : b.toInt ≤ 15) (p : Nat) (hp : TG p = 18) (h_p : (σ0 0)[9]? = some (Value.ref p)) (sg : Int32) (h_sg : (σ0 p)[1]? = some (Value.int sg)) (hp0 : -sg.toInt ≤ 0) (hP : PLA p) (hX : FXP σ0 p) (hK : KN σ0 p Wv (act Wv)) (hB : WFw Wv) (hT : TWN Wv) (ha : a.toInt < Wv 2) (hR : RULx σ0 (Wv 0)) : En 4 92 none mr_127 (P_127x σ0 Wv a b p sg) 0 [(0, .ref 0), (1, .int a), (2, .int b)] [] σ0 := by
  obtain ⟨hl_sg, hu_sg⟩ := WT_int hσ0 (g := 18) hp (by decide +kernel) (l := (-1)) (u := 4) (by decide +kernel) h_sg
  have hF0 : Fr [(20, 2), (21, 0), (22, 0)] σ0 σ0 := Fr_rfl
  have t1 : Wv (0) = sg.toInt := KN_v hK (Or.inl (by decide)) (by decide) (by decide) (by rw [lcO_lt (by decide) (by decide), Nat.add_zero]) rfl h_sg
  obtain ⟨z3, h2, h4, h5⟩ := WT_peekI hσ0 hp (by decide +kernel : FT 18 3 = (0, 0, 4)) (by decide +kernel)
  have t6 : Wv (2) = z3.toInt := KN_v hK (Or.inl (by decide)) (by decide) (by decide) (by rw [lcO_lt (by decide) (by decide), Nat.add_zero]) rfl h2
  refine En_Ps 1 (pc' := 1) (lv' := [(0, .ref 0), (1, .int a), (2, .int b)]) (st' := [.ref 0]) rfl ?_
  refine En_getK (j := 9) h_p rfl rfl rfl tgz_0 (by decide +kernel) ?_
  refine En_getR (j := 4) (g' := 19) (u := 0) rfl rfl rfl hp (by decide +kernel) hσ0 (by decide +kernel) (fun a8 h7 ha8 => ?_)
  have t9 : a8 = p + 1 := ref_uniq h7 (FXP_fr hP hX hF0 (by decide +kernel)).1
  refine En_Ps 1 (pc' := 8) (lv' := [(0, .ref 0), (1, .int a), (2, .int b)]) (st' := [.int a, .ref a8]) rfl ?_
  refine En_aald (g' := 28) (u := 0) rfl rfl ha8 (by decide +kernel) hσ0 (by first | exact q_58e6e51dcc hl_a | omega) (lnI (by decide +kernel : LN _ = 4) (by first | exact q_f3bb6f88f7 hu_a | omega)) (FTsgl (by decide +kernel)) (fun a11 h10 ha11 => ?_)
  have t12 : a11 = p + 10 + 4 * (a.toInt).toNat := DRe (d := a.toInt) (FXP_fr hP hX hF0 (by decide +kernel)) t9 h10 (by omega) (by omega)
  have t13 := lc_d (d := a.toInt) (by omega) (by omega)
  refine En_getR (j := 0) (g' := 20) (u := 0) rfl rfl rfl ha11 (by decide +kernel) hσ0 (by decide +kernel) (fun a15 h14 ha15 => ?_)
  have t16 : a15 = p + 11 + 4 * (a.toInt).toNat := DLc (d := a.toInt) (FXP_fr hP hX hF0 (by decide +kernel)) t12 h14 (by omega) (by omega)
  obtain ⟨a18, h17, ha18⟩ := WT_peekR (g := 20) (j := 0) (g' := 21) (u := 0) hσ0 ha15 (by decide +kernel) (by decide +kernel)
  have t19 : a18 = p + 12 + 4 * (a.toInt).toNat := DKk (d := a.toInt) (FXP_fr hP hX hF0 (by decide +kernel)) t16 h17 (by omega) (by omega)
  obtain ⟨a21, h20, ha21⟩ := WT_peekR (g := 20) (j := 1) (g' := 22) (u := 0) hσ0 ha15 (by decide +kernel) (by decide +kernel)
  have t22 : a21 = p + 13 + 4 * (a.toInt).toNat := DKo (d := a.toInt) (FXP_fr hP hX hF0 (by decide +kernel)) t16 h20 (by omega) (by omega)
  obtain ⟨z24, h23, h25, h26⟩ := WT_peekI hσ0 ha15 (by decide +kernel : FT 20 2 = (0, 0, 13)) (by decide +kernel)
  have t27 : Wv (12 + 4 * (a.toInt)) = z24.toInt := KN_v hK (Or.inr (Or.inl ⟨by omega, by omega, by omega⟩)) (by omega) (by omega) (by omega) (by omega) h23
  have h28 := hB.2.2.2.2.2.2 a.toInt (by omega) (by omega)
  have : z24.toInt ≤ 12 := by omega
  refine En_Ps 4 (pc' := 16) (lv' := [(3, .ref a15), (0, .ref 0), (1, .int a), (2, .int b)]) (st' := [.ref 0, .int b, .ref a15]) rfl ?_
  refine En_callV rfl rfl rfl rfl rfl rfl rfl rfl tgz_0 (by decide +kernel) rfl (c_160x σ0 hσ0 p hp h_p sg h_sg (by first | exact q_a555021d16 hp0 | omega) hP (FXP_fr hP hX hF0 (by decide +kernel)) (KN_aD (d := 4) hK) hB hR) (by decide) (by decide) (fun v30 σ31 h29 => ?_)
  obtain ⟨h32, h33, z35, rfl, h34⟩ := h29
  have h36 := h34.2.2
  obtain rfl : σ0 = σ31 := Fr_nil h33
  refine En_Ps 1 (pc' := 20) (lv' := [(3, .ref a15), (0, .ref 0), (1, .int a), (2, .int b)]) (st' := [.int b, .int z35, .int b, .ref a15]) rfl ?_
  refine En_callS rfl rfl rfl rfl rfl rfl rfl rfl rfl (c_108ax σ0 hσ0 z35 b (geI rfl (by first | exact q_ef1e8e38bf h34.1 | omega)) (leI rfl (by first | exact q_62355f097f h34.2.1 | omega)) (geI rfl (by first | exact q_58e6e51dcc hl_b | omega)) (leI rfl (by first | exact q_5a4d8a7e08 hu_b | omega))) (by decide) (by decide) (fun v38 σ39 h37 => ?_)
  obtain ⟨h40, h41, z43, rfl, h42⟩ := h37
  have h44 := h42.2.2
  obtain rfl : σ0 = σ39 := Fr_nil h41
  have h45 : z43.toInt = btI (owD Wv) b.toInt := h44.trans (btI_cg h36)
  refine En_callV rfl rfl rfl rfl rfl rfl rfl rfl ha15 (by decide +kernel) rfl (c_31x σ0 hσ0 a15 ha15 b z43 (geI rfl (by first | exact q_58e6e51dcc hl_b | omega)) (leI rfl (by first | exact q_5a4d8a7e08 hu_b | omega)) (geI rfl (by first | exact q_ef1e8e38bf h42.1 | omega)) (leI rfl (by first | exact q_733c8bfbae h42.2.1 | omega)) a18 ha18 h17 a21 ha21 h20 z24 h23 (by omega)) (by decide) (by decide) (fun v47 σ48 h46 => ?_)
  obtain ⟨h49, h50, z52, h53, rfl, h51⟩ := h46
  have h54 := h51.2.2.2.2
  have h55 := Fr_trans hF0 h50 (by decide +kernel)
  have h56 := DLS_add (d := a.toInt) hK t27 (by omega) h54 t16 t19 t22 (by omega) (by omega) (by omega) (by omega)
  refine En_Ps 2 (pc' := 28) (lv' := [(3, .ref a15), (0, .ref 0), (1, .int a), (2, .int b)]) (st' := [.int a, .ref 0]) rfl ?_
  refine En_callV rfl rfl rfl rfl rfl rfl rfl rfl tgz_0 (by decide +kernel) rfl (c_114bx σ48 h49 a (geI rfl (by first | exact q_58e6e51dcc hl_a | omega)) (leI rfl (by first | exact q_da5e9b976f hu_a | omega)) p hp ((h50 _ _ (inW tgz_0 (by decide +kernel))).trans h_p) sg ((h50 _ _ (inW hp (by decide +kernel))).trans h_sg) (by first | exact q_a555021d16 hp0 | omega) hP (FXP_fr hP hX h55 (by decide +kernel)) h56 hB hT (by omega) (RULx_sam hR (RSAM_fr h55 (by decide +kernel)))) (by decide) (by decide) (fun v61 σ62 h60 => ?_)
  obtain ⟨h63, h64, z66, rfl, h65⟩ := h60
  have h67 := h65.2.2
  obtain rfl : σ48 = σ62 := Fr_nil h64
  refine En_Ps 2 (pc' := 34) (lv' := [(4, .int z66), (3, .ref a15), (0, .ref 0), (1, .int a), (2, .int b)]) (st' := [.ref a15]) rfl ?_
  refine En_callV rfl rfl rfl rfl rfl rfl rfl rfl ha15 (by decide +kernel) rfl (c_33x σ48 h49 a15 ha15 a18 ha18 ((h50 _ _ (inW ha15 (by decide +kernel))).trans h17) a21 ha21 ((h50 _ _ (inW ha15 (by decide +kernel))).trans h20) z52 h53 (by first | exact q_68fbff215b h51.1 | omega)) (by decide) (by decide) (fun v69 σ70 h68 => ?_)
  obtain ⟨h71, h72, z74, h75, rfl, h73⟩ := h68
  have h76 := h73.2.2.2.2.2.2
  have h77 := Fr_trans h55 h72 (by decide +kernel)
  have h78 := KN_again hK (PLA_B hP) t27 h54 (DRP_e h76 (by omega)) t16 t19 t22 (by omega) (by omega) (by omega) (by omega)
  refine En_Ps 2 (pc' := 40) (lv' := [(4, .int z66), (3, .ref a15), (0, .ref 0), (1, .int a), (2, .int b)]) (st' := [.ref 0, .int z66]) rfl ?_
  refine En_callV rfl rfl rfl rfl rfl rfl rfl rfl tgz_0 (by decide +kernel) rfl (c_160x σ70 h71 p hp ((h72 _ _ (inW tgz_0 (by decide +kernel))).trans ((h50 _ _ (inW tgz_0 (by decide +kernel))).trans h_p)) sg ((h72 _ _ (inW hp (by decide +kernel))).trans ((h50 _ _ (inW hp (by decide +kernel))).trans h_sg)) (by first | exact q_a555021d16 hp0 | omega) hP (FXP_fr hP hX h77 (by decide +kernel)) (KN_aD (d := 4) h78.1) hB (RULx_sam hR (RSAM_fr h77 (by decide +kernel)))) (by decide) (by decide) (fun v80 σ81 h79 => ?_)
  obtain ⟨h82, h83, z85, rfl, h84⟩ := h79
  have h86 := h84.2.2
  obtain rfl : σ70 = σ81 := Fr_nil h83
  refine En_Ps 2 (pc' := 45) (lv' := [(4, .int z66), (3, .ref a15), (0, .ref 0), (1, .int a), (2, .int b)]) (st' := [.int ((z85 ^^^ ((Int32.ofInt (-1))))), .int z66]) rfl ?_
  refine En_nam (fun z87 h88 => ?_)
  refine En_Ps 1 (pc' := 46) (lv' := [(4, .int z66), (3, .ref a15), (0, .ref 0), (1, .int a), (2, .int b)]) (st' := [.int ((z66 &&& z87))]) rfl ?_
  refine En_nam (fun z90 h91 => ?_)
  have h92 : z90.toInt = z66.toInt - aN z66.toInt z85.toInt := andn_v h91 h88 rfl rfl (by omega) (by omega)
  have := aN_le (X := z66.toInt) (Y := z85.toInt) (by omega) (by omega)
  refine En_callS rfl rfl rfl rfl rfl rfl rfl rfl rfl (c_7bx σ70 h71 z90 (geI rfl (by omega)) (leI rfl (by omega))) (by decide) (by decide) (fun v94 σ95 h93 => ?_)
  obtain ⟨h96, h97, z99, rfl, h98⟩ := h93
  have h100 := h98.2.2
  obtain rfl : σ70 = σ95 := Fr_nil h97
  exact En_ret (v := some (Value.int z99)) rfl rfl rfl ⟨h71, h77, z99, rfl, ⟨by first | exact q_a555021d16 h98.1 | omega, by first | exact q_0e990c4066 h98.2.1 | omega, ⟨hdV_of h45 (DDx_of t27 rfl h67) h86 (z := z90.toInt) (by omega) h100, h78⟩⟩⟩
/-- DoorSchool.gainOf(III)I -/
abbrev P_129x (σ0 : SG) (Wv : Int → Int) (a : Int32) (b : Int32) (c : Int32) (p : Nat) (sg : Int32) : PO := fun v σ => WT σ ∧ Fr [(20, 2), (21, 0), (22, 0)] σ0 σ ∧ ∃ ret : Int32, v = some (Value.int ret) ∧ -ret.toInt - 16 ≤ 0 ∧ ret.toInt - 16 ≤ 0 ∧ (ret.toInt = gnN Wv a.toInt b.toInt c.toInt ∧ (KN σ p Wv (act Wv) ∧ OUT σ0 σ p))
set_option maxRecDepth 10000 in
set_option maxHeartbeats 4000000 in
theorem c_129x {Wv : Int → Int} (σ0 : SG) (hσ0 : WT σ0) (a : Int32) (b : Int32) (c : Int32) (hl_a : 0 ≤ a.toInt) (hu_a : a.toInt ≤ 3) (hl_b : 0 ≤ b.toInt) (hu_b : b.toInt ≤ 15) (hl_c : 0 ≤ c.toInt) (hu_c : c.toInt ≤ 1) (p : Nat) (hp : TG p = 18) (h_p : (σ0 0)[9]? = some (Value.ref p)) (sg : Int32) (h_sg : (σ0 p)[1]? = some (Value.int sg)) (hp0 : -sg.toInt ≤ 0) (hP : PLA p) (hX : FXP σ0 p) (hK : KN σ0 p Wv (act Wv)) (hB : WFw Wv) (hT : TWN Wv) (ha : a.toInt < Wv 2) (hR : RULx σ0 (Wv 0)) : En 4 92 none mr_129 (P_129x σ0 Wv a b c p sg) 0 [(0, .ref 0), (1, .int a), (2, .int b), (3, .int c)] [] σ0 := by
  obtain ⟨hl_sg, hu_sg⟩ := WT_int hσ0 (g := 18) hp (by decide +kernel) (l := (-1)) (u := 4) (by decide +kernel) h_sg
  have hF0 : Fr [(20, 2), (21, 0), (22, 0)] σ0 σ0 := Fr_rfl
  have t1 : Wv (0) = sg.toInt := KN_v hK (Or.inl (by decide)) (by decide) (by decide) (by rw [lcO_lt (by decide) (by decide), Nat.add_zero]) rfl h_sg
  obtain ⟨z3, h2, h4, h5⟩ := WT_peekI hσ0 hp (by decide +kernel : FT 18 3 = (0, 0, 4)) (by decide +kernel)
  have t6 : Wv (2) = z3.toInt := KN_v hK (Or.inl (by decide)) (by decide) (by decide) (by rw [lcO_lt (by decide) (by decide), Nat.add_zero]) rfl h2
  refine En_Ps 1 (pc' := 1) (lv' := [(0, .ref 0), (1, .int a), (2, .int b), (3, .int c)]) (st' := [.ref 0]) rfl ?_
  refine En_getK (j := 9) h_p rfl rfl rfl tgz_0 (by decide +kernel) ?_
  refine En_getR (j := 4) (g' := 19) (u := 0) rfl rfl rfl hp (by decide +kernel) hσ0 (by decide +kernel) (fun a8 h7 ha8 => ?_)
  have t9 : a8 = p + 1 := ref_uniq h7 (FXP_fr hP hX hF0 (by decide +kernel)).1
  refine En_Ps 1 (pc' := 8) (lv' := [(0, .ref 0), (1, .int a), (2, .int b), (3, .int c)]) (st' := [.int a, .ref a8]) rfl ?_
  refine En_aald (g' := 28) (u := 0) rfl rfl ha8 (by decide +kernel) hσ0 (by first | exact q_58e6e51dcc hl_a | omega) (lnI (by decide +kernel : LN _ = 4) (by first | exact q_f3bb6f88f7 hu_a | omega)) (FTsgl (by decide +kernel)) (fun a11 h10 ha11 => ?_)
  have t12 : a11 = p + 10 + 4 * (a.toInt).toNat := DRe (d := a.toInt) (FXP_fr hP hX hF0 (by decide +kernel)) t9 h10 (by omega) (by omega)
  have t13 := lc_d (d := a.toInt) (by omega) (by omega)
  refine En_getR (j := 0) (g' := 20) (u := 0) rfl rfl rfl ha11 (by decide +kernel) hσ0 (by decide +kernel) (fun a15 h14 ha15 => ?_)
  have t16 : a15 = p + 11 + 4 * (a.toInt).toNat := DLc (d := a.toInt) (FXP_fr hP hX hF0 (by decide +kernel)) t12 h14 (by omega) (by omega)
  obtain ⟨a18, h17, ha18⟩ := WT_peekR (g := 20) (j := 0) (g' := 21) (u := 0) hσ0 ha15 (by decide +kernel) (by decide +kernel)
  have t19 : a18 = p + 12 + 4 * (a.toInt).toNat := DKk (d := a.toInt) (FXP_fr hP hX hF0 (by decide +kernel)) t16 h17 (by omega) (by omega)
  obtain ⟨a21, h20, ha21⟩ := WT_peekR (g := 20) (j := 1) (g' := 22) (u := 0) hσ0 ha15 (by decide +kernel) (by decide +kernel)
  have t22 : a21 = p + 13 + 4 * (a.toInt).toNat := DKo (d := a.toInt) (FXP_fr hP hX hF0 (by decide +kernel)) t16 h20 (by omega) (by omega)
  obtain ⟨z24, h23, h25, h26⟩ := WT_peekI hσ0 ha15 (by decide +kernel : FT 20 2 = (0, 0, 13)) (by decide +kernel)
  have t27 : Wv (12 + 4 * (a.toInt)) = z24.toInt := KN_v hK (Or.inr (Or.inl ⟨by omega, by omega, by omega⟩)) (by omega) (by omega) (by omega) (by omega) h23
  have h28 := hB.2.2.2.2.2.2 a.toInt (by omega) (by omega)
  have : z24.toInt ≤ 12 := by omega
  refine En_Ps 4 (pc' := 17) (lv' := [(4, .ref a15), (0, .ref 0), (1, .int a), (2, .int b), (3, .int c)]) (st' := [.int a, .ref 0, .ref 0]) rfl ?_
  refine En_callV rfl rfl rfl rfl rfl rfl rfl rfl tgz_0 (by decide +kernel) rfl (c_114ax σ0 hσ0 a (geI rfl (by first | exact q_58e6e51dcc hl_a | omega)) (leI rfl (by first | exact q_da5e9b976f hu_a | omega)) p hp h_p sg h_sg (by first | exact q_a555021d16 hp0 | omega) hP (FXP_fr hP hX hF0 (by decide +kernel)) hK hB hT (by omega) hR) (by decide) (by decide) (fun v30 σ31 h29 => ?_)
  obtain ⟨h32, h33, z35, rfl, h34⟩ := h29
  have h36 := h34.2.2
  obtain rfl : σ0 = σ31 := Fr_nil h33
  refine En_callV rfl rfl rfl rfl rfl rfl rfl rfl tgz_0 (by decide +kernel) rfl (c_156x σ0 hσ0 z35 (geI rfl (by first | exact q_ef1e8e38bf h34.1 | omega)) (leI rfl (by first | exact q_62355f097f h34.2.1 | omega)) p hp h_p sg h_sg (by first | exact q_a555021d16 hp0 | omega) hP (FXP_fr hP hX hF0 (by decide +kernel)) (KN_aD (d := 4) hK) hB) (by decide) (by decide) (fun v38 σ39 h37 => ?_)
  obtain ⟨h40, h41, z43, rfl, h42⟩ := h37
  have h44 := h42.2.2
  obtain rfl : σ0 = σ39 := Fr_nil h41
  refine En_Ps 4 (pc' := 29) (lv' := [(5, .int z43), (4, .ref a15), (0, .ref 0), (1, .int a), (2, .int b), (3, .int c)]) (st' := [.int c, .int b, .ref a15]) rfl ?_
  refine En_callV rfl rfl rfl rfl rfl rfl rfl rfl ha15 (by decide +kernel) rfl (c_31x σ0 hσ0 a15 ha15 b c (geI rfl (by first | exact q_58e6e51dcc hl_b | omega)) (leI rfl (by first | exact q_5a4d8a7e08 hu_b | omega)) (geI rfl (by first | exact q_58e6e51dcc hl_c | omega)) (leI rfl (by first | exact q_9d0c30f9c5 hu_c | omega)) a18 ha18 h17 a21 ha21 h20 z24 h23 (by omega)) (by decide) (by decide) (fun v46 σ47 h45 => ?_)
  obtain ⟨h48, h49, z51, h52, rfl, h50⟩ := h45
  have h53 := h50.2.2.2.2
  have h54 := Fr_trans hF0 h49 (by decide +kernel)
  have h55 := DLS_add (d := a.toInt) hK t27 (by omega) h53 t16 t19 t22 (by omega) (by omega) (by omega) (by omega)
  refine En_Ps 3 (pc' := 35) (lv' := [(5, .int z43), (4, .ref a15), (0, .ref 0), (1, .int a), (2, .int b), (3, .int c)]) (st' := [.int a, .ref 0, .ref 0]) rfl ?_
  refine En_callV rfl rfl rfl rfl rfl rfl rfl rfl tgz_0 (by decide +kernel) rfl (c_114bx σ47 h48 a (geI rfl (by first | exact q_58e6e51dcc hl_a | omega)) (leI rfl (by first | exact q_da5e9b976f hu_a | omega)) p hp ((h49 _ _ (inW tgz_0 (by decide +kernel))).trans h_p) sg ((h49 _ _ (inW hp (by decide +kernel))).trans h_sg) (by first | exact q_a555021d16 hp0 | omega) hP (FXP_fr hP hX h54 (by decide +kernel)) h55 hB hT (by omega) (RULx_sam hR (RSAM_fr h54 (by decide +kernel)))) (by decide) (by decide) (fun v60 σ61 h59 => ?_)
  obtain ⟨h62, h63, z65, rfl, h64⟩ := h59
  have h66 := h64.2.2
  obtain rfl : σ47 = σ61 := Fr_nil h63
  refine En_callV rfl rfl rfl rfl rfl rfl rfl rfl tgz_0 (by decide +kernel) rfl (c_156x σ47 h48 z65 (geI rfl (by first | exact q_ef1e8e38bf h64.1 | omega)) (leI rfl (by first | exact q_62355f097f h64.2.1 | omega)) p hp ((h49 _ _ (inW tgz_0 (by decide +kernel))).trans h_p) sg ((h49 _ _ (inW hp (by decide +kernel))).trans h_sg) (by first | exact q_a555021d16 hp0 | omega) hP (FXP_fr hP hX h54 (by decide +kernel)) h55.1 hB) (by decide) (by decide) (fun v68 σ69 h67 => ?_)
  obtain ⟨h70, h71, z73, rfl, h72⟩ := h67
  have h74 := h72.2.2
  obtain rfl : σ47 = σ69 := Fr_nil h71
  refine En_Ps 2 (pc' := 45) (lv' := [(6, .int z73), (5, .int z43), (4, .ref a15), (0, .ref 0), (1, .int a), (2, .int b), (3, .int c)]) (st' := [.ref a15]) rfl ?_
  refine En_callV rfl rfl rfl rfl rfl rfl rfl rfl ha15 (by decide +kernel) rfl (c_33x σ47 h48 a15 ha15 a18 ha18 ((h49 _ _ (inW ha15 (by decide +kernel))).trans h17) a21 ha21 ((h49 _ _ (inW ha15 (by decide +kernel))).trans h20) z51 h52 (by first | exact q_68fbff215b h50.1 | omega)) (by decide) (by decide) (fun v76 σ77 h75 => ?_)
  obtain ⟨h78, h79, z81, h82, rfl, h80⟩ := h75
  have h83 := h80.2.2.2.2.2.2
  have h84 := Fr_trans h54 h79 (by decide +kernel)
  have h85 := KN_again hK (PLA_B hP) t27 h53 (DRP_e h83 (by omega)) t16 t19 t22 (by omega) (by omega) (by omega) (by omega)
  refine En_Ps 3 (pc' := 53) (lv' := [(6, .int z73), (5, .int z43), (4, .ref a15), (0, .ref 0), (1, .int a), (2, .int b), (3, .int c)]) (st' := [.int ((z73 - z43))]) rfl ?_
  refine En_top (subI rfl rfl (by first | exact q_9906cd6c95 h42.2.1 h72.1 | omega) (by first | exact q_b35edd138a h42.1 h72.2.1 | omega)) (fun z86 h87 => ?_)
  exact En_ret (v := some (Value.int z86)) rfl rfl rfl ⟨h78, h84, z86, rfl, ⟨by first | exact q_f598981ab8 h87 h42.2.1 h72.1 | omega, by first | exact q_0bfdda2974 h87 h42.1 h72.2.1 | omega, ⟨gnN_of h36 h44 (DDx_of t27 rfl h66) h74 (by omega), h85⟩⟩⟩
/-- DoorSchool.isLesson(III)Z -/
abbrev P_144x (σ0 : SG) (Wv : Int → Int) (a : Int32) (b : Int32) (c : Int32) (p : Nat) (sg : Int32) : PO := fun v σ => WT σ ∧ Fr [] σ0 σ ∧ ∃ ret : Int32, v = some (Value.int ret) ∧ -ret.toInt ≤ 0 ∧ ret.toInt - 1 ≤ 0 ∧ Imp (ret.toInt ≤ 0 ∧ -ret.toInt ≤ 0) (-a.toInt - 2147483648 ≤ 0 ∧ a.toInt - 2147483647 ≤ 0) ∧ Imp (ret.toInt - 1 ≤ 0 ∧ -ret.toInt + 1 ≤ 0) (-a.toInt ≤ 0 ∧ a.toInt - 3 ≤ 0 ∧ -b.toInt ≤ 0 ∧ b.toInt - 15 ≤ 0 ∧ -c.toInt ≤ 0 ∧ c.toInt - 1 ≤ 0) ∧ ((ret.toInt = 1 ∧ okL Wv a.toInt b.toInt c.toInt) ∨ (ret.toInt = 0 ∧ ¬ okL Wv a.toInt b.toInt c.toInt))
set_option maxRecDepth 10000 in
set_option maxHeartbeats 4000000 in
theorem c_144x {Wv : Int → Int} (σ0 : SG) (hσ0 : WT σ0) (a : Int32) (b : Int32) (c : Int32) (p : Nat) (hp : TG p = 18) (h_p : (σ0 0)[9]? = some (Value.ref p)) (sg : Int32) (h_sg : (σ0 p)[1]? = some (Value.int sg)) (hp0 : -sg.toInt ≤ 0) (hP : PLA p) (hX : FXP σ0 p) (hK : KN σ0 p Wv (act Wv)) : En 2 41 none mr_144 (P_144x σ0 Wv a b c p sg) 0 [(0, .ref 0), (1, .int a), (2, .int b), (3, .int c)] [] σ0 := by
  obtain ⟨hl_sg, hu_sg⟩ := WT_int hσ0 (g := 18) hp (by decide +kernel) (l := (-1)) (u := 4) (by decide +kernel) h_sg
  have hF0 : Fr [] σ0 σ0 := Fr_rfl
  have t1 : Wv (0) = sg.toInt := KN_v hK (Or.inl (by decide)) (by decide) (by decide) (by rw [lcO_lt (by decide) (by decide), Nat.add_zero]) rfl h_sg
  refine En_Ps 1 (pc' := 1) (lv' := [(0, .ref 0), (1, .int a), (2, .int b), (3, .int c)]) (st' := [.ref 0]) rfl ?_
  refine En_getK (j := 9) h_p rfl rfl rfl tgz_0 (by decide +kernel) ?_
  refine En_Ps 1 (pc' := 5) (lv' := [(0, .ref 0), (1, .int a), (2, .int b), (3, .int c)]) (st' := [.int a, .ref p]) rfl ?_
  obtain ⟨z3, h2, h4, h5⟩ := WT_peekI hσ0 hp (by decide +kernel : FT 18 3 = (0, 0, 4)) (by decide +kernel)
  have t6 : Wv (2) = z3.toInt := KN_v hK (Or.inl (by decide)) (by decide) (by decide) (by rw [lcO_lt (by decide) (by decide), Nat.add_zero]) rfl h2
  refine En_callV rfl rfl rfl rfl rfl rfl rfl rfl hp (by decide +kernel) rfl (c_47x σ0 hσ0 p hp a z3 h2) (by decide) (by decide) (fun v8 σ9 h7 => ?_)
  obtain ⟨h10, h11, z13, rfl, h12⟩ := h7
  obtain rfl : σ0 = σ9 := Fr_nil h11
  have h14 := Imp_m h12.2.2.1
  have h15 := Imp_m h12.2.2.2.1
  have h16 := Imp_m h12.2.2.2.2.1
  have h17 := Imp_m h12.2.2.2.2.2
  refine En_iEq _ rfl rfl (fun h18 => ?_) (fun h18 => ?_)
  · have h19 := Imp_m h12.2.2.2.2.1 (by first | exact ⟨q_c5d285f1b9 h18, q_a555021d16 h12.1⟩ | omega)
    refine En_Ps 1 (pc' := 34) (lv' := [(0, .ref 0), (1, .int a), (2, .int b), (3, .int c)]) (st' := [.int ((Int32.ofInt 0))]) rfl ?_
    refine En_top (by decide : (Int32.ofInt 0).toInt = 0) (fun z20 h21 => ?_)
    exact En_ret (v := some (Value.int z20)) rfl rfl (retZ rfl rfl (by first | exact q_55451d0a83 h21 | omega) (by first | exact q_87849c3859 h21 | omega)) ⟨hσ0, hF0, z20, rfl, ⟨by first | exact q_097a37c2ae h21 | omega, by first | exact q_e269517bee h21 | omega, fun hh => by first | exact ⟨q_62fc0891e9 h19.1, q_2f9ec35db8 h19.2⟩ | omega, fun _ => by omega, Or.inr ⟨by (first | exact q_d2dcd30e56 h21 | omega), fun ⟨q1, q2, q3, q4, q5, q6, q7⟩ => by (first | exact q_de08783852 h15 q1 q2 t6 h18 | omega)⟩⟩⟩
  · have h22 := Imp_m h12.2.2.1 (by first | exact q_e3350da514 h18 h12.1 | omega)
    have h23 := Imp_m h12.2.2.2.1 (by first | exact ⟨q_a555021d16 h22.1, q_ef157b5a0e h22.2⟩ | omega)
    have h24 := Imp_m h12.2.2.2.2.2 (by first | exact ⟨q_ad5b726bf8 h12.2.1, q_e3350da514 h18 h12.1⟩ | omega)
    refine En_Ps 1 (pc' := 12) (lv' := [(0, .ref 0), (1, .int a), (2, .int b), (3, .int c)]) (st' := [.ref 0]) rfl ?_
    refine En_getK (j := 9) h_p rfl rfl rfl tgz_0 (by decide +kernel) ?_
    refine En_Ps 1 (pc' := 16) (lv' := [(0, .ref 0), (1, .int a), (2, .int b), (3, .int c)]) (st' := [.int b, .ref p]) rfl ?_
    obtain ⟨z26, h25, h27, h28⟩ := WT_peekI hσ0 hp (by decide +kernel : FT 18 0 = (0, 0, 1601)) (by decide +kernel)
    have t29 : Wv (7) = z26.toInt := KN_v hK (Or.inl (by decide)) (by decide) (by decide) (by rw [lcO_lt (by decide) (by decide), Nat.add_zero]) rfl h25
    refine En_callV rfl rfl rfl rfl rfl rfl rfl rfl hp (by decide +kernel) rfl (c_49x σ0 hσ0 p hp b z26 h25 sg h_sg (by first | exact q_a555021d16 hp0 | omega)) (by decide) (by decide) (fun v31 σ32 h30 => ?_)
    obtain ⟨h33, h34, z36, rfl, h35⟩ := h30
    have h37 := h35.2.2.2
    obtain rfl : σ0 = σ32 := Fr_nil h34
    have h38 := Imp_m h35.2.2.1
    have h39 := h37
    have h40 : pI (Wv 0) = pI (sg.toInt) := by rw [t1]
    refine En_iEq _ rfl rfl (fun h41 => ?_) (fun h41 => ?_)
    · refine En_Ps 1 (pc' := 34) (lv' := [(0, .ref 0), (1, .int a), (2, .int b), (3, .int c)]) (st' := [.int ((Int32.ofInt 0))]) rfl ?_
      refine En_top (by decide : (Int32.ofInt 0).toInt = 0) (fun z42 h43 => ?_)
      exact En_ret (v := some (Value.int z42)) rfl rfl (retZ rfl rfl (by first | exact q_55451d0a83 h43 | omega) (by first | exact q_87849c3859 h43 | omega)) ⟨hσ0, hF0, z42, rfl, ⟨by first | exact q_097a37c2ae h43 | omega, by first | exact q_e269517bee h43 | omega, fun hh => by first | exact ⟨q_cbdb2feb0e h22.1, q_ae1cc60a52 h24.2⟩ | omega, fun _ => by omega, Or.inr ⟨by (first | exact q_d2dcd30e56 h43 | omega), fun ⟨q1, q2, q3, q4, q5, q6, q7⟩ => by (first | exact q_96492c9dfd h39 h41 t29 q3 q4 q5 h40 | omega)⟩⟩⟩
    · have h44 := Imp_m h35.2.2.1 (by first | exact ⟨q_ad5b726bf8 h35.2.1, q_e3350da514 h41 h35.1⟩ | omega)
      refine En_Ps 1 (pc' := 23) (lv' := [(0, .ref 0), (1, .int a), (2, .int b), (3, .int c)]) (st' := [.int c]) rfl ?_
      refine En_callS rfl rfl rfl rfl rfl rfl rfl rfl rfl (c_149x σ0 hσ0 c) (by decide) (by decide) (fun v46 σ47 h45 => ?_)
      obtain ⟨h48, h49, z51, rfl, h50⟩ := h45
      have h52 := h50.2.2.2
      obtain rfl : σ0 = σ47 := Fr_nil h49
      have h53 := Imp_m h50.2.2.1
      refine En_iEq _ rfl rfl (fun h54 => ?_) (fun h54 => ?_)
      · refine En_Ps 1 (pc' := 34) (lv' := [(0, .ref 0), (1, .int a), (2, .int b), (3, .int c)]) (st' := [.int ((Int32.ofInt 0))]) rfl ?_
        refine En_top (by decide : (Int32.ofInt 0).toInt = 0) (fun z55 h56 => ?_)
        exact En_ret (v := some (Value.int z55)) rfl rfl (retZ rfl rfl (by first | exact q_55451d0a83 h56 | omega) (by first | exact q_87849c3859 h56 | omega)) ⟨hσ0, hF0, z55, rfl, ⟨by first | exact q_097a37c2ae h56 | omega, by first | exact q_e269517bee h56 | omega, fun hh => by first | exact ⟨q_cbdb2feb0e h22.1, q_ae1cc60a52 h24.2⟩ | omega, fun _ => by omega, Or.inr ⟨by (first | exact q_d2dcd30e56 h56 | omega), fun ⟨q1, q2, q3, q4, q5, q6, q7⟩ => by (first | exact q_c985511048 h52 h54 q6 q7 | omega)⟩⟩⟩
      · have h57 := Imp_m h50.2.2.1 (by first | exact ⟨q_ad5b726bf8 h50.2.1, q_e3350da514 h54 h50.1⟩ | omega)
        refine En_Ps 2 (pc' := 34) (lv' := [(0, .ref 0), (1, .int a), (2, .int b), (3, .int c)]) (st' := [.int ((Int32.ofInt 1))]) rfl ?_
        refine En_top (by decide : (Int32.ofInt 1).toInt = 1) (fun z58 h59 => ?_)
        exact En_ret (v := some (Value.int z58)) rfl rfl (retZ rfl rfl (by first | exact q_2b07c97645 h59 | omega) (by first | exact q_d9e7cbb253 h59 | omega)) ⟨hσ0, hF0, z58, rfl, ⟨by first | exact q_ad3eee31ca h59 | omega, by first | exact q_81cf297dc4 h59 | omega, fun hh => by first | exact ⟨q_cbdb2feb0e h22.1, q_ae1cc60a52 h24.2⟩ | omega, fun hh => by first | exact ⟨q_a555021d16 h22.1, q_c733b715bf h24.2, q_a555021d16 h44.1, q_cc7dfeacf0 h44.2, q_a555021d16 h57.1, q_ad5b726bf8 h57.2⟩ | omega, Or.inl ⟨by (first | exact q_0bfa10f27c h59 | omega), by (first | exact q_ef1e8e38bf h24.1 | omega), by (first | exact q_466b301702 h22.2 t6 | omega), by (first | exact q_2b8898e9e8 h39 t29 h41 h35.1 | omega), by (first | exact q_ef1e8e38bf h44.1 | omega), by (first | exact q_493efe2cb9 h39 h40 h41 h35.1 | omega), by (first | exact q_ef1e8e38bf h57.1 | omega), by (first | exact q_733c8bfbae h57.2 | omega)⟩⟩⟩
/-- DoorSchool.gains(III)I -/
abbrev P_130x (σ0 : SG) (Wv : Int → Int) (a : Int32) (b : Int32) (c : Int32) (p : Nat) (sg : Int32) : PO := fun v σ => WT σ ∧ Fr [(20, 2), (21, 0), (22, 0)] σ0 σ ∧ ∃ ret : Int32, v = some (Value.int ret) ∧ -ret.toInt - 1000 ≤ 0 ∧ ret.toInt - 16 ≤ 0 ∧ (ret.toInt = gnR Wv a.toInt b.toInt c.toInt ∧ (KN σ p Wv (act Wv) ∧ OUT σ0 σ p))
set_option maxRecDepth 10000 in
set_option maxHeartbeats 4000000 in
theorem c_130x {Wv : Int → Int} (σ0 : SG) (hσ0 : WT σ0) (a : Int32) (b : Int32) (c : Int32) (p : Nat) (hp : TG p = 18) (h_p : (σ0 0)[9]? = some (Value.ref p)) (sg : Int32) (h_sg : (σ0 p)[1]? = some (Value.int sg)) (hp0 : -sg.toInt ≤ 0) (hP : PLA p) (hX : FXP σ0 p) (hK : KN σ0 p Wv (act Wv)) (hB : WFw Wv) (hT : TWN Wv) (hQ : 0 < Wv 7 → RULx σ0 (Wv 0)) (hq : QX Wv) : En 5 118 none mr_130 (P_130x σ0 Wv a b c p sg) 0 [(0, .ref 0), (1, .int a), (2, .int b), (3, .int c)] [] σ0 := by
  obtain ⟨hl_sg, hu_sg⟩ := WT_int hσ0 (g := 18) hp (by decide +kernel) (l := (-1)) (u := 4) (by decide +kernel) h_sg
  have hF0 : Fr [(20, 2), (21, 0), (22, 0)] σ0 σ0 := Fr_rfl
  have t1 : Wv (0) = sg.toInt := KN_v hK (Or.inl (by decide)) (by decide) (by decide) (by rw [lcO_lt (by decide) (by decide), Nat.add_zero]) rfl h_sg
  obtain ⟨z3, h2, h4, h5⟩ := WT_peekI hσ0 hp (by decide +kernel : FT 18 3 = (0, 0, 4)) (by decide +kernel)
  have t6 : Wv (2) = z3.toInt := KN_v hK (Or.inl (by decide)) (by decide) (by decide) (by rw [lcO_lt (by decide) (by decide), Nat.add_zero]) rfl h2
  refine En_Ps 4 (pc' := 4) (lv' := [(0, .ref 0), (1, .int a), (2, .int b), (3, .int c)]) (st' := [.int c, .int b, .int a, .ref 0]) rfl ?_
  refine En_callV rfl rfl rfl rfl rfl rfl rfl rfl tgz_0 (by decide +kernel) rfl (c_144x σ0 hσ0 a b c p hp h_p sg h_sg (by first | exact q_a555021d16 hp0 | omega) hP (FXP_fr hP hX hF0 (by decide +kernel)) hK) (by decide) (by decide) (fun v8 σ9 h7 => ?_)
  obtain ⟨h10, h11, z13, rfl, h12⟩ := h7
  have h14 := h12.2.2.2.2
  obtain rfl : σ0 = σ9 := Fr_nil h11
  have h15 := h14
  refine En_iEq _ rfl rfl (fun h16 => ?_) (fun h16 => ?_)
  · have h17 := Imp_m h12.2.2.1 (by first | exact ⟨q_c5d285f1b9 h16, q_a555021d16 h12.1⟩ | omega)
    refine En_Ps 1 (pc' := 23) (lv' := [(0, .ref 0), (1, .int a), (2, .int b), (3, .int c)]) (st' := [.int (((Int16.ofInt (-1000)).toInt32))]) rfl ?_
    refine En_top (by decide : ((Int16.ofInt (-1000)).toInt32).toInt = -1000) (fun z18 h19 => ?_)
    exact En_ret (v := some (Value.int z18)) rfl rfl rfl ⟨hσ0, hF0, z18, rfl, ⟨by first | exact q_44e84994b9 h19 | omega, by first | exact q_7893fcac5c h19 | omega, ⟨gnR_n (by rcases h15 with q | q; exfalso; omega; exact q.2) (by omega), ⟨hK, OUT_0⟩⟩⟩⟩
  · have h20 := Imp_m h12.2.2.2.1 (by first | exact ⟨q_ad5b726bf8 h12.2.1, q_e3350da514 h16 h12.1⟩ | omega)
    have h21 : okL Wv a.toInt b.toInt c.toInt := by rcases h15 with q | q; exact q.2; exfalso; omega
    have := h21.1
    have := h21.2.1
    have h22 : okL Wv a.toInt b.toInt c.toInt := by rcases h15 with q | q; exact q.2; exfalso; omega
    refine En_Ps 4 (pc' := 14) (lv' := [(0, .ref 0), (1, .int a), (2, .int b), (3, .int c)]) (st' := [.int c, .int b, .int a, .ref 0]) rfl ?_
    refine En_callV rfl rfl rfl rfl rfl rfl rfl rfl tgz_0 (by decide +kernel) rfl (c_129x σ0 hσ0 a b c (geI rfl (by first | exact q_ef1e8e38bf h20.1 | omega)) (leI rfl (by first | exact q_87d9217d84 h20.2.1 | omega)) (geI rfl (by first | exact q_ef1e8e38bf h20.2.2.1 | omega)) (leI rfl (by first | exact q_5a5f544404 h20.2.2.2.1 | omega)) (geI rfl (by first | exact q_ef1e8e38bf h20.2.2.2.2.1 | omega)) (leI rfl (by first | exact q_733c8bfbae h20.2.2.2.2.2 | omega)) p hp h_p sg h_sg (by first | exact q_a555021d16 hp0 | omega) hP (FXP_fr hP hX hF0 (by decide +kernel)) hK hB hT (by omega) (hQ h22.2.2.1)) (by decide) (by decide) (fun v24 σ25 h23 => ?_)
    obtain ⟨h26, h27, z29, rfl, h28⟩ := h23
    have h30 := h28.2.2
    have h31 := Fr_trans hF0 h27 (by decide +kernel)
    have h32 := h30.2.2
    refine En_Ps 1 (pc' := 23) (lv' := [(0, .ref 0), (1, .int a), (2, .int b), (3, .int c)]) (st' := [.int z29]) rfl ?_
    exact En_ret (v := some (Value.int z29)) rfl rfl rfl ⟨h26, h31, z29, rfl, ⟨by first | exact q_cfcd6217ae h28.1 | omega, by first | exact q_0e990c4066 h28.2.1 | omega, ⟨gnR_y h22 h30.1, ⟨h30.2.1, h32⟩⟩⟩⟩
/-- DoorSchool.wouldDo(II)I -/
abbrev P_184x (σ0 : SG) (Wv : Int → Int) (a : Int32) (b : Int32) (p : Nat) (sg : Int32) : PO := fun v σ => WT σ ∧ Fr [] σ0 σ ∧ ∃ ret : Int32, v = some (Value.int ret) ∧ -ret.toInt ≤ 0 ∧ ret.toInt - 65535 ≤ 0 ∧ ret.toInt = WDw Wv a.toInt b.toInt
set_option maxRecDepth 10000 in
set_option maxHeartbeats 4000000 in
theorem c_184x {Wv : Int → Int} (σ0 : SG) (hσ0 : WT σ0) (a : Int32) (b : Int32) (hl_a : 0 ≤ a.toInt) (hu_a : a.toInt ≤ 3) (hl_b : 0 ≤ b.toInt) (hu_b : b.toInt ≤ 2) (p : Nat) (hp : TG p = 18) (h_p : (σ0 0)[9]? = some (Value.ref p)) (sg : Int32) (h_sg : (σ0 p)[1]? = some (Value.int sg)) (hp0 : -sg.toInt ≤ 0) (hP : PLA p) (hX : FXP σ0 p) (hK : KN σ0 p Wv (act Wv)) (hB : WFw Wv) (hR : RULx σ0 (Wv 0)) (hd : a.toInt < Wv 2) : En 3 70 none mr_184 (P_184x σ0 Wv a b p sg) 0 [(0, .ref 0), (1, .int a), (2, .int b)] [] σ0 := by
  obtain ⟨hl_sg, hu_sg⟩ := WT_int hσ0 (g := 18) hp (by decide +kernel) (l := (-1)) (u := 4) (by decide +kernel) h_sg
  have hF0 : Fr [] σ0 σ0 := Fr_rfl
  have t1 : Wv (0) = sg.toInt := KN_v hK (Or.inl (by decide)) (by decide) (by decide) (by rw [lcO_lt (by decide) (by decide), Nat.add_zero]) rfl h_sg
  obtain ⟨z3, h2, h4, h5⟩ := WT_peekI hσ0 hp (by decide +kernel : FT 18 3 = (0, 0, 4)) (by decide +kernel)
  have t6 : Wv (2) = z3.toInt := KN_v hK (Or.inl (by decide)) (by decide) (by decide) (by rw [lcO_lt (by decide) (by decide), Nat.add_zero]) rfl h2
  have h7 := hB.2.2.1
  have h8 := hB.1
  have h9 := hB.2.1
  have h10 := hB.2.2.2.1
  refine En_Ps 1 (pc' := 1) (lv' := [(0, .ref 0), (1, .int a), (2, .int b)]) (st' := [.ref 0]) rfl ?_
  refine En_getU (j := 3) (u := 8) (g' := 8) (q := 0) rfl rfl rfl tgz_0 (by decide +kernel) hσ0 (by decide +kernel) un_8_8 (fun h11 => ?_)
  refine En_Ps 2 (pc' := 6) (lv' := [(0, .ref 0), (1, .int a), (2, .int b)]) (st' := [.ref 0, .int b, .ref 8]) rfl ?_
  refine En_getK (j := 9) h_p rfl rfl rfl tgz_0 (by decide +kernel) ?_
  refine En_getR (j := 4) (g' := 19) (u := 0) rfl rfl rfl hp (by decide +kernel) hσ0 (by decide +kernel) (fun a14 h13 ha14 => ?_)
  have t15 : a14 = p + 1 := ref_uniq h13 (FXP_fr hP hX hF0 (by decide +kernel)).1
  refine En_Ps 1 (pc' := 13) (lv' := [(0, .ref 0), (1, .int a), (2, .int b)]) (st' := [.int a, .ref a14, .int b, .ref 8]) rfl ?_
  refine En_aald (g' := 28) (u := 0) rfl rfl ha14 (by decide +kernel) hσ0 (by first | exact q_58e6e51dcc hl_a | omega) (lnI (by decide +kernel : LN _ = 4) (by first | exact q_f3bb6f88f7 hu_a | omega)) (FTsgl (by decide +kernel)) (fun a17 h16 ha17 => ?_)
  have t18 : a17 = p + 10 + 4 * (a.toInt).toNat := DRe (d := a.toInt) (FXP_fr hP hX hF0 (by decide +kernel)) t15 h16 (by omega) (by omega)
  have t19 := lc_d (d := a.toInt) (by omega) (by omega)
  refine En_getR (j := 0) (g' := 20) (u := 0) rfl rfl rfl ha17 (by decide +kernel) hσ0 (by decide +kernel) (fun a21 h20 ha21 => ?_)
  have t22 : a21 = p + 11 + 4 * (a.toInt).toNat := DLc (d := a.toInt) (FXP_fr hP hX hF0 (by decide +kernel)) t18 h20 (by omega) (by omega)
  obtain ⟨z24, h23, h25, h26⟩ := WT_peekI hσ0 tgz_4 (by decide +kernel : FT 4 0 = (0, 0, 16)) (by decide +kernel)
  obtain ⟨z28, h27, h29, h30⟩ := WT_peekI hσ0 tgz_4 (by decide +kernel : FT 4 1 = (0, 0, 81)) (by decide +kernel)
  have h31 : z24.toInt = pI (Wv 0) := (ci_at (j := 0) h23 rfl).symm.trans hR.1
  have h32 : z28.toInt = nR (Wv 0) := (ci_at (j := 1) h27 rfl).symm.trans hR.2.1
  have h33 := pI_rng (s := Wv 0) (by omega) (by omega)
  have h34 := nR_rg (s := Wv 0) (by omega) (by omega)
  have h35 := hB.2.2.2.2.2.2 (a.toInt) (by omega) (by omega)
  obtain ⟨a37, h36, ha37⟩ := WT_peekR (g := 20) (j := 0) (g' := 21) (u := 0) hσ0 ha21 (by decide +kernel) (by decide +kernel)
  have t38 : a37 = p + 12 + 4 * (a.toInt).toNat := DKk (d := a.toInt) (FXP_fr hP hX hF0 (by decide +kernel)) t22 h36 (by omega) (by omega)
  obtain ⟨a40, h39, ha40⟩ := WT_peekR (g := 20) (j := 1) (g' := 22) (u := 0) hσ0 ha21 (by decide +kernel) (by decide +kernel)
  have t41 : a40 = p + 13 + 4 * (a.toInt).toNat := DKo (d := a.toInt) (FXP_fr hP hX hF0 (by decide +kernel)) t22 h39 (by omega) (by omega)
  obtain ⟨z43, h42, h44, h45⟩ := WT_peekI hσ0 ha21 (by decide +kernel : FT 20 2 = (0, 0, 13)) (by decide +kernel)
  have t46 : Wv (12 + 4 * (a.toInt)) = z43.toInt := KN_v hK (Or.inr (Or.inl ⟨by omega, by omega, by omega⟩)) (by omega) (by omega) (by omega) (by omega) h42
  refine En_callV rfl rfl rfl rfl rfl rfl rfl rfl tgz_8 (by decide +kernel) rfl (c_22x σ0 hσ0 b a21 ha21 (geI rfl (by first | exact q_58e6e51dcc hl_b | omega)) (leI rfl (by first | exact q_a85463bd0d hu_b | omega)) a37 ha37 h36 a40 ha40 h39 z43 h42 z24 h23 z28 h27 (fun i i0 i1 => TB_rg hR.2.2 (by omega) i i0 (by omega))) (by decide) (by decide) (fun v48 σ49 h47 => ?_)
  obtain ⟨h50, h51, z53, rfl, h52⟩ := h47
  have h54 := h52
  obtain rfl : σ0 = σ49 := Fr_nil h51
  have h55 : z53.toInt = WDw Wv a.toInt b.toInt := WDw_of t46 h31 h32 (by omega) (KN_lk hK (by omega) (by omega) (by omega) t46.symm (by omega) t38) (KN_lo hK (by omega) (by omega) (by omega) t46.symm (by omega) t41) (fun i i0 i1 => TB_D hR.2.2 i i0 (by omega)) h54
  have h56 := WDw_rg (w := Wv) (d := a.toInt) (way := b.toInt) ⟨by omega, by omega⟩
  exact En_ret (v := some (Value.int z53)) rfl rfl rfl ⟨hσ0, hF0, z53, rfl, ⟨by omega, by omega, h55⟩⟩
/-- DoorSchool.stolenBy(II)I -/
abbrev P_171x (σ0 : SG) (Wv : Int → Int) (a : Int32) (b : Int32) (p : Nat) (sg : Int32) : PO := fun v σ => WT σ ∧ Fr [] σ0 σ ∧ ∃ ret : Int32, v = some (Value.int ret) ∧ -ret.toInt ≤ 0 ∧ ret.toInt - 65535 ≤ 0 ∧ ret.toInt = WDw Wv a.toInt b.toInt - aN (WDw Wv a.toInt b.toInt) (owD Wv)
set_option maxRecDepth 10000 in
set_option maxHeartbeats 4000000 in
theorem c_171x {Wv : Int → Int} (σ0 : SG) (hσ0 : WT σ0) (a : Int32) (b : Int32) (hl_a : 0 ≤ a.toInt) (hu_a : a.toInt ≤ 3) (hl_b : 0 ≤ b.toInt) (hu_b : b.toInt ≤ 2) (p : Nat) (hp : TG p = 18) (h_p : (σ0 0)[9]? = some (Value.ref p)) (sg : Int32) (h_sg : (σ0 p)[1]? = some (Value.int sg)) (hp0 : -sg.toInt ≤ 0) (hP : PLA p) (hX : FXP σ0 p) (hK : KN σ0 p Wv (act Wv)) (hB : WFw Wv) (hR : RULx σ0 (Wv 0)) (hd : a.toInt < Wv 2) : En 4 92 none mr_171 (P_171x σ0 Wv a b p sg) 0 [(0, .ref 0), (1, .int a), (2, .int b)] [] σ0 := by
  obtain ⟨hl_sg, hu_sg⟩ := WT_int hσ0 (g := 18) hp (by decide +kernel) (l := (-1)) (u := 4) (by decide +kernel) h_sg
  have hF0 : Fr [] σ0 σ0 := Fr_rfl
  have t1 : Wv (0) = sg.toInt := KN_v hK (Or.inl (by decide)) (by decide) (by decide) (by rw [lcO_lt (by decide) (by decide), Nat.add_zero]) rfl h_sg
  obtain ⟨z3, h2, h4, h5⟩ := WT_peekI hσ0 hp (by decide +kernel : FT 18 3 = (0, 0, 4)) (by decide +kernel)
  have t6 : Wv (2) = z3.toInt := KN_v hK (Or.inl (by decide)) (by decide) (by decide) (by rw [lcO_lt (by decide) (by decide), Nat.add_zero]) rfl h2
  have h7 := hB.2.2.1
  have h8 := hB.1
  have h9 := hB.2.1
  have h10 := hB.2.2.2.1
  refine En_Ps 3 (pc' := 3) (lv' := [(0, .ref 0), (1, .int a), (2, .int b)]) (st' := [.int b, .int a, .ref 0]) rfl ?_
  refine En_callV rfl rfl rfl rfl rfl rfl rfl rfl tgz_0 (by decide +kernel) rfl (c_184x σ0 hσ0 a b (geI rfl (by first | exact q_58e6e51dcc hl_a | omega)) (leI rfl (by first | exact q_da5e9b976f hu_a | omega)) (geI rfl (by first | exact q_58e6e51dcc hl_b | omega)) (leI rfl (by first | exact q_a85463bd0d hu_b | omega)) p hp h_p sg h_sg (by first | exact q_a555021d16 hp0 | omega) hP (FXP_fr hP hX hF0 (by decide +kernel)) hK hB hR (by omega)) (by decide) (by decide) (fun v12 σ13 h11 => ?_)
  obtain ⟨h14, h15, z17, rfl, h16⟩ := h11
  have h18 := h16.2.2
  obtain rfl : σ0 = σ13 := Fr_nil h15
  refine En_Ps 1 (pc' := 7) (lv' := [(0, .ref 0), (1, .int a), (2, .int b)]) (st' := [.ref 0, .int z17]) rfl ?_
  refine En_callV rfl rfl rfl rfl rfl rfl rfl rfl tgz_0 (by decide +kernel) rfl (c_160x σ0 hσ0 p hp h_p sg h_sg (by first | exact q_a555021d16 hp0 | omega) hP (FXP_fr hP hX hF0 (by decide +kernel)) (KN_aD (d := 4) hK) hB hR) (by decide) (by decide) (fun v20 σ21 h19 => ?_)
  obtain ⟨h22, h23, z25, rfl, h24⟩ := h19
  have h26 := h24.2.2
  obtain rfl : σ0 = σ21 := Fr_nil h23
  refine En_Ps 2 (pc' := 12) (lv' := [(0, .ref 0), (1, .int a), (2, .int b)]) (st' := [.int ((z25 ^^^ ((Int32.ofInt (-1))))), .int z17]) rfl ?_
  refine En_nam (fun z27 h28 => ?_)
  refine En_Ps 1 (pc' := 13) (lv' := [(0, .ref 0), (1, .int a), (2, .int b)]) (st' := [.int ((z17 &&& z27))]) rfl ?_
  refine En_nam (fun z30 h31 => ?_)
  have h32 : z30.toInt = z17.toInt - aN z17.toInt z25.toInt := andn_v h31 h28 rfl rfl (by omega) (by omega)
  have := aN_le (X := z17.toInt) (Y := z25.toInt) (by omega) (by omega)
  exact En_ret (v := some (Value.int z30)) rfl rfl rfl ⟨hσ0, hF0, z30, rfl, ⟨by omega, by omega, (by have e8 := h18; have e9 := h26; rw [← e8, ← e9]; omega)⟩⟩
/-- DoorSchool.harden(I)I -/
abbrev P_135x (σ0 : SG) (Wv : Int → Int) (a : Int32) (p : Nat) (sg : Int32) : PO := fun v σ => WT σ ∧ Fr [(20, 2), (21, 0), (22, 0)] σ0 σ ∧ ∃ ret : Int32, v = some (Value.int ret) ∧ -ret.toInt - 2 ≤ 0 ∧ ret.toInt - 15 ≤ 0 ∧ Imp (-ret.toInt - 1 ≤ 0) (-a.toInt ≤ 0 ∧ a.toInt - 3 ≤ 0) ∧ Imp (-ret.toInt ≤ 0) (ret.toInt - 15 ≤ 0) ∧ Imp (-ret.toInt - 1 ≤ 0) (a.toInt - Wv 2 + 1 ≤ 0) ∧ (ret.toInt = hnR Wv a.toInt ∧ (KN σ p Wv (act Wv) ∧ OUT σ0 σ p))
set_option maxRecDepth 10000 in
set_option maxHeartbeats 4000000 in
theorem c_135x {Wv : Int → Int} (σ0 : SG) (hσ0 : WT σ0) (a : Int32) (p : Nat) (hp : TG p = 18) (h_p : (σ0 0)[9]? = some (Value.ref p)) (sg : Int32) (h_sg : (σ0 p)[1]? = some (Value.int sg)) (hp0 : -sg.toInt ≤ 0) (hP : PLA p) (hX : FXP σ0 p) (hK : KN σ0 p Wv (act Wv)) (hB : WFw Wv) (hT : TWN Wv) (hQ : 0 < Wv 7 → RULx σ0 (Wv 0)) (hq : QX Wv) : En 5 116 none mr_135 (P_135x σ0 Wv a p sg) 0 [(0, .ref 0), (1, .int a)] [] σ0 := by
  obtain ⟨hl_sg, hu_sg⟩ := WT_int hσ0 (g := 18) hp (by decide +kernel) (l := (-1)) (u := 4) (by decide +kernel) h_sg
  have hF0 : Fr [(20, 2), (21, 0), (22, 0)] σ0 σ0 := Fr_rfl
  have t1 : Wv (0) = sg.toInt := KN_v hK (Or.inl (by decide)) (by decide) (by decide) (by rw [lcO_lt (by decide) (by decide), Nat.add_zero]) rfl h_sg
  obtain ⟨z3, h2, h4, h5⟩ := WT_peekI hσ0 hp (by decide +kernel : FT 18 3 = (0, 0, 4)) (by decide +kernel)
  have t6 : Wv (2) = z3.toInt := KN_v hK (Or.inl (by decide)) (by decide) (by decide) (by rw [lcO_lt (by decide) (by decide), Nat.add_zero]) rfl h2
  refine En_Ps 1 (pc' := 1) (lv' := [(0, .ref 0), (1, .int a)]) (st' := [.ref 0]) rfl ?_
  refine En_getK (j := 9) h_p rfl rfl rfl tgz_0 (by decide +kernel) ?_
  refine En_Ps 1 (pc' := 5) (lv' := [(0, .ref 0), (1, .int a)]) (st' := [.int a, .ref p]) rfl ?_
  refine En_callV rfl rfl rfl rfl rfl rfl rfl rfl hp (by decide +kernel) rfl (c_47x σ0 hσ0 p hp a z3 h2) (by decide) (by decide) (fun v8 σ9 h7 => ?_)
  obtain ⟨h10, h11, z13, rfl, h12⟩ := h7
  obtain rfl : σ0 = σ9 := Fr_nil h11
  have h14 := Imp_m h12.2.2.1
  have h15 := Imp_m h12.2.2.2.1
  have h16 := Imp_m h12.2.2.2.2.1
  have h17 := Imp_m h12.2.2.2.2.2
  refine En_iNe _ rfl rfl (fun h18 => ?_) (fun h18 => ?_)
  · have h19 := Imp_m h12.2.2.1 (by first | exact q_e3350da514 h18 h12.1 | omega)
    have h20 := Imp_m h12.2.2.2.1 (by first | exact ⟨q_a555021d16 h19.1, q_ef157b5a0e h19.2⟩ | omega)
    have h21 := Imp_m h12.2.2.2.2.2 (by first | exact ⟨q_ad5b726bf8 h12.2.1, q_e3350da514 h18 h12.1⟩ | omega)
    refine En_Ps 4 (pc' := 18) (lv' := [(2, .int ((Int32.ofInt (-1)))), (0, .ref 0), (1, .int a)]) (st' := [.int a, .ref 0]) rfl ?_
    refine En_callV rfl rfl rfl rfl rfl rfl rfl rfl tgz_0 (by decide +kernel) rfl (c_126x σ0 hσ0 a (geI rfl (by first | exact q_ef1e8e38bf h19.1 | omega)) (leI rfl (by first | exact q_87d9217d84 h21.2 | omega)) p hp h_p sg h_sg (by first | exact q_a555021d16 hp0 | omega) hP (FXP_fr hP hX hF0 (by decide +kernel)) hK hB hT (hQ (hq (by omega))) (by omega)) (by decide) (by decide) (fun v23 σ24 h22 => ?_)
    obtain ⟨h25, h26, z28, rfl, h27⟩ := h22
    have h29 := h27.2.2
    obtain rfl : σ0 = σ24 := Fr_nil h26
    refine En_callS rfl rfl rfl rfl rfl rfl rfl rfl rfl (c_7bx σ0 hσ0 z28 (geI rfl (by first | exact q_ef1e8e38bf h27.1 | omega)) (leI rfl (by first | exact q_62355f097f h27.2.1 | omega))) (by decide) (by decide) (fun v31 σ32 h30 => ?_)
    obtain ⟨h33, h34, z36, rfl, h35⟩ := h30
    have h37 := h35.2.2
    obtain rfl : σ0 = σ32 := Fr_nil h34
    refine En_Ps 3 (pc' := 28) (lv' := [(4, .int ((Int32.ofInt 0))), (3, .int z36), (2, .int ((Int32.ofInt (-1)))), (0, .ref 0), (1, .int a)]) (st' := []) rfl ?_
    have key28 : ∀ (n28 : Nat) (σ41 : SG) (y38 : Int32) (y39 : Int32) (y40 : Int32), WT σ41 → Fr [(20, 2), (21, 0), (22, 0)] σ0 σ41 → (σ41 0)[9]? = some (Value.ref p) → (σ41 p)[1]? = some (Value.int sg) → (σ41 p)[3]? = some (Value.int z3) → (-1) ≤ y38.toInt → y38.toInt ≤ 15 → 0 ≤ y39.toInt → y39.toInt ≤ 16 → 0 ≤ y40.toInt → y40.toInt ≤ 16 → y38.toInt - y40.toInt + 1 ≤ 0 → -y40.toInt + 16 < (n28 : Int) → KN σ41 p Wv (act Wv) → OUT σ0 σ41 p → HDI Wv a.toInt y40.toInt y38.toInt y39.toInt → y40.toInt ≤ pI (Wv 0) → En 5 116 none mr_135 (P_135x σ0 Wv a p sg) 28 [(0, .ref 0), (1, .int a), (2, .int y38), (3, .int y39), (4, .int y40)] [] σ41 := by
      intro n28
      induction n28 with
      | zero =>
        intro σ41 y38 y39 y40 h42 h43 h44 h45 h46 h47 h48 h49 h50 h51 h52 h53 h54 h55 h56 h57 h58
        first | exact (q_511f6d33ac h54 h52).elim | (exfalso; omega)
      | succ n28 ih28 =>
        intro σ41 y38 y39 y40 h42 h43 h44 h45 h46 h47 h48 h49 h50 h51 h52 h53 h54 h55 h56 h57 h58
        refine En_Ps 2 (pc' := 31) (lv' := [(0, .ref 0), (1, .int a), (2, .int y38), (3, .int y39), (4, .int y40)]) (st' := [.ref 0, .int y40]) rfl ?_
        refine En_getK (j := 9) h44 rfl rfl rfl tgz_0 (by decide +kernel) ?_
        refine En_callV rfl rfl rfl rfl rfl rfl rfl rfl hp (by decide +kernel) rfl (c_51x σ41 h42 p hp sg h45 (by first | exact q_a555021d16 hp0 | omega)) (by decide) (by decide) (fun v60 σ61 h59 => ?_)
        obtain ⟨h62, h63, z65, rfl, h64⟩ := h59
        have h66 := h64.2.2
        obtain rfl : σ41 = σ61 := Fr_nil h63
        have h67 := h66
        have h68 : pI (Wv 0) = pI (sg.toInt) := by rw [t1]
        refine En_icGe _ rfl rfl rfl (fun h69 => ?_) (fun h69 => ?_)
        · refine En_Ps 1 (pc' := 68) (lv' := [(0, .ref 0), (1, .int a), (2, .int y38), (3, .int y39), (4, .int y40)]) (st' := [.int y38]) rfl ?_
          exact En_ret (v := some (Value.int y38)) rfl rfl rfl ⟨h42, h43, y38, rfl, ⟨by first | exact q_fe58cd40d0 h47 | omega, by first | exact q_867a9ac627 h48 | omega, fun hh => by first | exact ⟨q_a555021d16 h19.1, q_c733b715bf h21.2⟩ | omega, fun hh => by first | exact q_867a9ac627 h48 | omega, fun _ => by omega, ⟨hnR_y ⟨by omega, by omega⟩ (hnN_of h57 (by omega) (by omega)), ⟨h55, h56⟩⟩⟩⟩
        · refine En_Ps 3 (pc' := 44) (lv' := [(0, .ref 0), (1, .int a), (2, .int y38), (3, .int y39), (4, .int y40)]) (st' := [.int y40, .int a, .ref 0]) rfl ?_
          refine En_callV rfl rfl rfl rfl rfl rfl rfl rfl tgz_0 (by decide +kernel) rfl (c_127x σ41 h42 a y40 (geI rfl (by first | exact q_ef1e8e38bf h19.1 | omega)) (leI rfl (by first | exact q_87d9217d84 h21.2 | omega)) (geI rfl (by first | exact q_58e6e51dcc h51 | omega)) (leI rfl (by first | exact q_c15b485600 h69 h64.2.1 | omega)) p hp h44 sg h45 (by first | exact q_a555021d16 hp0 | omega) hP (FXP_fr hP hX h43 (by decide +kernel)) h55 hB hT (by omega) (RULx_sam (hQ (hq (by omega))) (RSAM_fr h43 (by decide +kernel)))) (by decide) (by decide) (fun v71 σ72 h70 => ?_)
          obtain ⟨h73, h74, z76, rfl, h75⟩ := h70
          have h77 := h75.2.2
          have h78 := Fr_trans h43 h74 (by decide +kernel)
          have h79 := OUT_tr h56 h77.2.2
          refine En_Ps 3 (pc' := 52) (lv' := [(5, .int z76), (0, .ref 0), (1, .int a), (2, .int y38), (3, .int y39), (4, .int y40)]) (st' := [.int y39, .int z76]) rfl ?_
          refine En_icGe _ rfl rfl rfl (fun h80 => ?_) (fun h80 => ?_)
          · refine En_Ps 1 (pc' := 64) (lv' := [(4, .int ((y40 + Int32.ofInt 1))), (5, .int z76), (0, .ref 0), (1, .int a), (2, .int y38), (3, .int y39)]) (st' := []) rfl ?_
            refine En_lv1 (addI rfl (by decide : (Int32.ofInt 1).toInt = 1) (by first | exact q_465ab79ac1 h51 | omega) (by first | exact q_f3f8e04381 h52 | omega)) (fun z81 h82 => ?_)
            refine En_Ps 1 (pc' := 28) (lv' := [(4, .int z81), (5, .int z76), (0, .ref 0), (1, .int a), (2, .int y38), (3, .int y39)]) (st' := []) rfl ?_
            refine En_lv (lv := [(0, .ref 0), (1, .int a), (2, .int y38), (3, .int y39), (4, .int z81)]) ⟨rfl, rfl, rfl, rfl, rfl, trivial⟩ ?_
            exact ih28 σ72 y38 y39 z81 h73 h78 ((h74 _ _ (inW tgz_0 (by decide +kernel))).trans h44) ((h74 _ _ (inW hp (by decide +kernel))).trans h45) ((h74 _ _ (inW hp (by decide +kernel))).trans h46) (by first | exact q_77b189e83d h47 | omega) (by first | exact q_5a4d8a7e08 h48 | omega) (by first | exact q_58e6e51dcc h49 | omega) (by first | exact q_60616f21a7 h50 | omega) (by first | exact q_35104ce9d3 h82 h51 | omega) (by first | exact q_34dc714687 h82 h69 h64.2.1 | omega) (by first | exact q_6591527e3e h53 h82 | omega) (by first | exact q_c5d740bdff h82 h54 | omega) (h77.2.1) (h79) ((by first | exact HDI_y h57 (by omega) h77.1 (by omega) (by omega) (by omega) (by omega) | exact HDI_n h57 (by omega) h77.1 (by omega) (by omega) (by omega) (by omega))) ((by omega))
          · refine En_Ps 5 (pc' := 64) (lv' := [(4, .int ((y40 + Int32.ofInt 1))), (2, .int y40), (3, .int z76), (5, .int z76), (0, .ref 0), (1, .int a)]) (st' := []) rfl ?_
            refine En_lv1 (addI rfl (by decide : (Int32.ofInt 1).toInt = 1) (by first | exact q_465ab79ac1 h51 | omega) (by first | exact q_f3f8e04381 h52 | omega)) (fun z83 h84 => ?_)
            refine En_Ps 1 (pc' := 28) (lv' := [(4, .int z83), (2, .int y40), (3, .int z76), (5, .int z76), (0, .ref 0), (1, .int a)]) (st' := []) rfl ?_
            refine En_lv (lv := [(0, .ref 0), (1, .int a), (2, .int y40), (3, .int z76), (4, .int z83)]) ⟨rfl, rfl, rfl, rfl, rfl, trivial⟩ ?_
            exact ih28 σ72 y40 z76 z83 h73 h78 ((h74 _ _ (inW tgz_0 (by decide +kernel))).trans h44) ((h74 _ _ (inW hp (by decide +kernel))).trans h45) ((h74 _ _ (inW hp (by decide +kernel))).trans h46) (by first | exact q_5b439548fc h51 | omega) (by first | exact q_c15b485600 h69 h64.2.1 | omega) (by first | exact q_ef1e8e38bf h75.1 | omega) (by first | exact q_a261a33847 h75.2.1 | omega) (by first | exact q_35104ce9d3 h84 h51 | omega) (by first | exact q_34dc714687 h84 h69 h64.2.1 | omega) (by first | exact q_2fedec469a h84 | omega) (by first | exact q_c5d740bdff h84 h54 | omega) (h77.2.1) (h79) ((by first | exact HDI_y h57 (by omega) h77.1 (by omega) (by omega) (by omega) (by omega) | exact HDI_n h57 (by omega) h77.1 (by omega) (by omega) (by omega) (by omega))) ((by omega))
    have := (by decide : (Int32.ofInt (-1)).toInt = -1)
    have := (by decide : (Int32.ofInt 0).toInt = 0)
    refine En_lv (lv := [(0, .ref 0), (1, .int a), (2, .int ((Int32.ofInt (-1)))), (3, .int z36), (4, .int ((Int32.ofInt 0)))]) ⟨rfl, rfl, rfl, rfl, rfl, trivial⟩ ?_
    exact key28 (Int.toNat (16) + 1) σ0 ((Int32.ofInt (-1))) z36 ((Int32.ofInt 0)) hσ0 hF0 h_p h_sg h2 (by decide) (by decide) (by first | exact q_ef1e8e38bf h35.1 | omega) (by first | exact q_a261a33847 h35.2.1 | omega) (by decide) (by decide) (by omega) (by first | exact toN_lt _ | omega) (hK) (OUT_0) (HDI_0 (by omega) (by omega) (fon_of h29 h37)) ((by have := pI_pos (Wv 0); omega))
  · have h85 := Imp_m h12.2.2.2.2.1 (by first | exact ⟨q_c5d285f1b9 h18, q_a555021d16 h12.1⟩ | omega)
    refine En_Ps 1 (pc' := 13) (lv' := [(0, .ref 0), (1, .int a)]) (st' := [.int (((Int8.ofInt (-2)).toInt32))]) rfl ?_
    refine En_top (by decide : ((Int8.ofInt (-2)).toInt32).toInt = -2) (fun z86 h87 => ?_)
    exact En_ret (v := some (Value.int z86)) rfl rfl rfl ⟨hσ0, hF0, z86, rfl, ⟨by first | exact q_f35c5d346c h87 | omega, by first | exact q_12a74e12a3 h87 | omega, fun _ => by omega, fun hh => by first | exact q_12a74e12a3 h87 | omega, fun _ => by omega, ⟨hnR_n (fun ⟨q1, q2⟩ => by omega) (by omega), ⟨hK, OUT_0⟩⟩⟩⟩
/-- DoorSchool.help(I)I -/
abbrev P_136x (σ0 : SG) (Wv : Int → Int) (a : Int32) (p : Nat) (sg : Int32) : PO := fun v σ => WT σ ∧ Fr [(20, 2), (21, 0), (22, 0)] σ0 σ ∧ ∃ ret : Int32, v = some (Value.int ret) ∧ -ret.toInt - 2 ≤ 0 ∧ ret.toInt - 49 ≤ 0 ∧ (ret.toInt = hlR Wv a.toInt ∧ (KN σ p Wv (act Wv) ∧ OUT σ0 σ p))
set_option maxRecDepth 10000 in
set_option maxHeartbeats 4000000 in
theorem c_136x {Wv : Int → Int} (σ0 : SG) (hσ0 : WT σ0) (a : Int32) (p : Nat) (hp : TG p = 18) (h_p : (σ0 0)[9]? = some (Value.ref p)) (sg : Int32) (h_sg : (σ0 p)[1]? = some (Value.int sg)) (hp0 : -sg.toInt ≤ 0) (hP : PLA p) (hX : FXP σ0 p) (hK : KN σ0 p Wv (act Wv)) (hB : WFw Wv) (hT : TWN Wv) (hQ : 0 < Wv 7 → RULx σ0 (Wv 0)) (hq : QX Wv) : En 5 118 none mr_136 (P_136x σ0 Wv a p sg) 0 [(0, .ref 0), (1, .int a)] [] σ0 := by
  obtain ⟨hl_sg, hu_sg⟩ := WT_int hσ0 (g := 18) hp (by decide +kernel) (l := (-1)) (u := 4) (by decide +kernel) h_sg
  have hF0 : Fr [(20, 2), (21, 0), (22, 0)] σ0 σ0 := Fr_rfl
  have t1 : Wv (0) = sg.toInt := KN_v hK (Or.inl (by decide)) (by decide) (by decide) (by rw [lcO_lt (by decide) (by decide), Nat.add_zero]) rfl h_sg
  obtain ⟨z3, h2, h4, h5⟩ := WT_peekI hσ0 hp (by decide +kernel : FT 18 3 = (0, 0, 4)) (by decide +kernel)
  have t6 : Wv (2) = z3.toInt := KN_v hK (Or.inl (by decide)) (by decide) (by decide) (by rw [lcO_lt (by decide) (by decide), Nat.add_zero]) rfl h2
  refine En_Ps 1 (pc' := 1) (lv' := [(0, .ref 0), (1, .int a)]) (st' := [.ref 0]) rfl ?_
  refine En_getK (j := 9) h_p rfl rfl rfl tgz_0 (by decide +kernel) ?_
  refine En_Ps 1 (pc' := 5) (lv' := [(0, .ref 0), (1, .int a)]) (st' := [.int a, .ref p]) rfl ?_
  refine En_callV rfl rfl rfl rfl rfl rfl rfl rfl hp (by decide +kernel) rfl (c_47x σ0 hσ0 p hp a z3 h2) (by decide) (by decide) (fun v8 σ9 h7 => ?_)
  obtain ⟨h10, h11, z13, rfl, h12⟩ := h7
  obtain rfl : σ0 = σ9 := Fr_nil h11
  have h14 := Imp_m h12.2.2.1
  have h15 := Imp_m h12.2.2.2.1
  have h16 := Imp_m h12.2.2.2.2.1
  have h17 := Imp_m h12.2.2.2.2.2
  refine En_iNe _ rfl rfl (fun h18 => ?_) (fun h18 => ?_)
  · have h19 := Imp_m h12.2.2.1 (by first | exact q_e3350da514 h18 h12.1 | omega)
    have h20 := Imp_m h12.2.2.2.1 (by first | exact ⟨q_a555021d16 h19.1, q_ef157b5a0e h19.2⟩ | omega)
    have h21 := Imp_m h12.2.2.2.2.2 (by first | exact ⟨q_ad5b726bf8 h12.2.1, q_e3350da514 h18 h12.1⟩ | omega)
    refine En_Ps 6 (pc' := 21) (lv' := [(4, .int ((Int32.ofInt 0))), (3, .int ((Int32.ofInt 0))), (2, .int ((Int32.ofInt (-1)))), (0, .ref 0), (1, .int a)]) (st' := []) rfl ?_
    have key21 : ∀ (n21 : Nat) (σ25 : SG) (y22 : Int32) (y23 : Int32) (y24 : Int32), WT σ25 → Fr [(20, 2), (21, 0), (22, 0)] σ0 σ25 → (σ25 0)[9]? = some (Value.ref p) → (σ25 p)[1]? = some (Value.int sg) → (σ25 p)[3]? = some (Value.int z3) → (-1) ≤ y22.toInt → y22.toInt ≤ 50 → 0 ≤ y23.toInt → y23.toInt ≤ 16 → 0 ≤ y24.toInt → y24.toInt ≤ 50 → y22.toInt - y24.toInt + 1 ≤ 0 → -y24.toInt + 50 < (n21 : Int) → KN σ25 p Wv (act Wv) → OUT σ0 σ25 p → HLI Wv a.toInt y24.toInt y22.toInt y23.toInt → y24.toInt ≤ 2 * pI (Wv 0) → En 5 118 none mr_136 (P_136x σ0 Wv a p sg) 21 [(0, .ref 0), (1, .int a), (2, .int y22), (3, .int y23), (4, .int y24)] [] σ25 := by
      intro n21
      induction n21 with
      | zero =>
        intro σ25 y22 y23 y24 h26 h27 h28 h29 h30 h31 h32 h33 h34 h35 h36 h37 h38 h39 h40 h41 h42
        first | exact (q_0f6934dca7 h38 h36).elim | (exfalso; omega)
      | succ n21 ih21 =>
        intro σ25 y22 y23 y24 h26 h27 h28 h29 h30 h31 h32 h33 h34 h35 h36 h37 h38 h39 h40 h41 h42
        refine En_Ps 3 (pc' := 25) (lv' := [(0, .ref 0), (1, .int a), (2, .int y22), (3, .int y23), (4, .int y24)]) (st' := [.ref 0, .int ((Int32.ofInt 2)), .int y24]) rfl ?_
        refine En_getK (j := 9) h28 rfl rfl rfl tgz_0 (by decide +kernel) ?_
        refine En_callV rfl rfl rfl rfl rfl rfl rfl rfl hp (by decide +kernel) rfl (c_51x σ25 h26 p hp sg h29 (by first | exact q_a555021d16 hp0 | omega)) (by decide) (by decide) (fun v44 σ45 h43 => ?_)
        obtain ⟨h46, h47, z49, rfl, h48⟩ := h43
        have h50 := h48.2.2
        obtain rfl : σ25 = σ45 := Fr_nil h47
        have h51 := h50
        have h52 : pI (Wv 0) = pI (sg.toInt) := by rw [t1]
        refine En_Ps 1 (pc' := 32) (lv' := [(0, .ref 0), (1, .int a), (2, .int y22), (3, .int y23), (4, .int y24)]) (st' := [.int ((((Int32.ofInt 2)) * z49)), .int y24]) rfl ?_
        refine En_top (mulI (by decide : (Int32.ofInt 2).toInt = 2) rfl (Z := 2 * z49.toInt) (by first | exact q_9c4c04fc55 | omega) (by first | exact q_ed0f500fe1 h48.1 | omega) (by first | exact q_9941f753b9 h48.2.1 | omega)) (fun z53 h54 => ?_)
        refine En_icGe _ rfl rfl rfl (fun h55 => ?_) (fun h55 => ?_)
        · refine En_Ps 1 (pc' := 69) (lv' := [(0, .ref 0), (1, .int a), (2, .int y22), (3, .int y23), (4, .int y24)]) (st' := [.int y22]) rfl ?_
          exact En_ret (v := some (Value.int y22)) rfl rfl rfl ⟨h26, h27, y22, rfl, ⟨by first | exact q_fe58cd40d0 h31 | omega, by first | exact q_61cf7f4980 h37 h36 | omega, ⟨hlR_y ⟨by omega, by omega⟩ h41 (by omega) (by omega), ⟨h39, h40⟩⟩⟩⟩
        · refine En_Ps 4 (pc' := 40) (lv' := [(0, .ref 0), (1, .int a), (2, .int y22), (3, .int y23), (4, .int y24)]) (st' := [.int ((Int32.ofInt 2)), .int y24, .int a, .ref 0]) rfl ?_
          refine En_idiv (c := 2) rfl rfl (by decide : (Int32.ofInt 2).toInt = 2) (by omega) (by decide) (fun z56 h57 => ?_)
          refine En_Ps 2 (pc' := 44) (lv' := [(0, .ref 0), (1, .int a), (2, .int y22), (3, .int y23), (4, .int y24)]) (st' := [.int ((Int32.ofInt 2)), .int y24, .int z56, .int a, .ref 0]) rfl ?_
          refine En_irem (c := 2) rfl rfl (by decide : (Int32.ofInt 2).toInt = 2) (by omega) (by decide) (fun z58 h59 => ?_)
          refine En_callV rfl rfl rfl rfl rfl rfl rfl rfl tgz_0 (by decide +kernel) rfl (c_129x σ25 h26 a z56 z58 (geI rfl (by first | exact q_ef1e8e38bf h19.1 | omega)) (leI rfl (by first | exact q_87d9217d84 h21.2 | omega)) (geI rfl (by first | exact q_5ea82835eb h57 h35 | omega)) (leI rfl (by first | exact q_346e83b918 h57 h55 h54 h48.2.1 | omega)) (geI rfl (by first | exact q_dafedd1c83 h59 | omega)) (leI rfl (by first | exact q_3228505f2f h59 | omega)) p hp h28 sg h29 (by first | exact q_a555021d16 hp0 | omega) hP (FXP_fr hP hX h27 (by decide +kernel)) h39 hB hT (by omega) (RULx_sam (hQ (hq (by omega))) (RSAM_fr h27 (by decide +kernel)))) (by decide) (by decide) (fun v61 σ62 h60 => ?_)
          obtain ⟨h63, h64, z66, rfl, h65⟩ := h60
          have h67 := h65.2.2
          have h68 := Fr_trans h27 h64 (by decide +kernel)
          have h69 := OUT_tr h40 h67.2.2
          refine En_Ps 3 (pc' := 53) (lv' := [(5, .int z66), (0, .ref 0), (1, .int a), (2, .int y22), (3, .int y23), (4, .int y24)]) (st' := [.int y23, .int z66]) rfl ?_
          refine En_icLe _ rfl rfl rfl (fun h70 => ?_) (fun h70 => ?_)
          · refine En_Ps 1 (pc' := 65) (lv' := [(4, .int ((y24 + Int32.ofInt 1))), (5, .int z66), (0, .ref 0), (1, .int a), (2, .int y22), (3, .int y23)]) (st' := []) rfl ?_
            refine En_lv1 (addI rfl (by decide : (Int32.ofInt 1).toInt = 1) (by first | exact q_465ab79ac1 h35 | omega) (by first | exact q_c4feee4d2e h36 | omega)) (fun z71 h72 => ?_)
            refine En_Ps 1 (pc' := 21) (lv' := [(4, .int z71), (5, .int z66), (0, .ref 0), (1, .int a), (2, .int y22), (3, .int y23)]) (st' := []) rfl ?_
            refine En_lv (lv := [(0, .ref 0), (1, .int a), (2, .int y22), (3, .int y23), (4, .int z71)]) ⟨rfl, rfl, rfl, rfl, rfl, trivial⟩ ?_
            exact ih21 σ62 y22 y23 z71 h63 h68 ((h64 _ _ (inW tgz_0 (by decide +kernel))).trans h28) ((h64 _ _ (inW hp (by decide +kernel))).trans h29) ((h64 _ _ (inW hp (by decide +kernel))).trans h30) (by first | exact q_77b189e83d h31 | omega) (by first | exact q_2eaa18fab1 h32 | omega) (by first | exact q_58e6e51dcc h33 | omega) (by first | exact q_60616f21a7 h34 | omega) (by first | exact q_35104ce9d3 h72 h35 | omega) (by first | exact q_7ba38ea167 h72 h55 h54 h48.2.1 | omega) (by first | exact q_6591527e3e h37 h72 | omega) (by first | exact q_fc5bfd9d02 h72 h38 | omega) (h67.2.1) (h69) ((by first | exact HLI_y h41 (by omega) (q := z56.toInt) (v := z58.toInt) (by omega) (by omega) h67.1 (by omega) (by omega) (by omega) (by omega) | exact HLI_n h41 (by omega) (q := z56.toInt) (v := z58.toInt) (by omega) (by omega) h67.1 (by omega) (by omega) (by omega) (by omega))) ((by omega))
          · refine En_Ps 5 (pc' := 65) (lv' := [(4, .int ((y24 + Int32.ofInt 1))), (2, .int y24), (3, .int z66), (5, .int z66), (0, .ref 0), (1, .int a)]) (st' := []) rfl ?_
            refine En_lv1 (addI rfl (by decide : (Int32.ofInt 1).toInt = 1) (by first | exact q_465ab79ac1 h35 | omega) (by first | exact q_c4feee4d2e h36 | omega)) (fun z73 h74 => ?_)
            refine En_Ps 1 (pc' := 21) (lv' := [(4, .int z73), (2, .int y24), (3, .int z66), (5, .int z66), (0, .ref 0), (1, .int a)]) (st' := []) rfl ?_
            refine En_lv (lv := [(0, .ref 0), (1, .int a), (2, .int y24), (3, .int z66), (4, .int z73)]) ⟨rfl, rfl, rfl, rfl, rfl, trivial⟩ ?_
            exact ih21 σ62 y24 z66 z73 h63 h68 ((h64 _ _ (inW tgz_0 (by decide +kernel))).trans h28) ((h64 _ _ (inW hp (by decide +kernel))).trans h29) ((h64 _ _ (inW hp (by decide +kernel))).trans h30) (by first | exact q_5b439548fc h35 | omega) (by first | exact q_2eaa18fab1 h36 | omega) (by first | exact q_6360ebae75 h70 h33 | omega) (by first | exact q_a261a33847 h65.2.1 | omega) (by first | exact q_35104ce9d3 h74 h35 | omega) (by first | exact q_7ba38ea167 h74 h55 h54 h48.2.1 | omega) (by first | exact q_2fedec469a h74 | omega) (by first | exact q_fc5bfd9d02 h74 h38 | omega) (h67.2.1) (h69) ((by first | exact HLI_y h41 (by omega) (q := z56.toInt) (v := z58.toInt) (by omega) (by omega) h67.1 (by omega) (by omega) (by omega) (by omega) | exact HLI_n h41 (by omega) (q := z56.toInt) (v := z58.toInt) (by omega) (by omega) h67.1 (by omega) (by omega) (by omega) (by omega))) ((by omega))
    have := (by decide : (Int32.ofInt (-1)).toInt = -1)
    have := (by decide : (Int32.ofInt 0).toInt = 0)
    have := (by decide : (Int32.ofInt 0).toInt = 0)
    refine En_lv (lv := [(0, .ref 0), (1, .int a), (2, .int ((Int32.ofInt (-1)))), (3, .int ((Int32.ofInt 0))), (4, .int ((Int32.ofInt 0)))]) ⟨rfl, rfl, rfl, rfl, rfl, trivial⟩ ?_
    exact key21 (Int.toNat (50) + 1) σ0 ((Int32.ofInt (-1))) ((Int32.ofInt 0)) ((Int32.ofInt 0)) hσ0 hF0 h_p h_sg h2 (by decide) (by decide) (by decide) (by decide) (by decide) (by decide) (by omega) (by first | exact toN_lt _ | omega) (hK) (OUT_0) (HLI_0 (by omega) (by omega) (by omega)) ((by have := pI_pos (Wv 0); omega))
  · have h75 := Imp_m h12.2.2.2.2.1 (by first | exact ⟨q_c5d285f1b9 h18, q_a555021d16 h12.1⟩ | omega)
    refine En_Ps 1 (pc' := 13) (lv' := [(0, .ref 0), (1, .int a)]) (st' := [.int (((Int8.ofInt (-2)).toInt32))]) rfl ?_
    refine En_top (by decide : ((Int8.ofInt (-2)).toInt32).toInt = -2) (fun z76 h77 => ?_)
    exact En_ret (v := some (Value.int z76)) rfl rfl rfl ⟨hσ0, hF0, z76, rfl, ⟨by first | exact q_f35c5d346c h77 | omega, by first | exact q_2e1fc29cd6 h77 | omega, ⟨hlR_n (fun ⟨q1, q2⟩ => by omega) (by omega), ⟨hK, OUT_0⟩⟩⟩⟩
end
/-! 32.n08 -/
section
/-- DoorSchool.idle(I)I -/
abbrev P_141x (σ0 : SG) (Wv : Int → Int) (a : Int32) (p : Nat) (sg : Int32) : PO := fun v σ => WT σ ∧ Fr [(20, 2), (21, 0), (22, 0)] σ0 σ ∧ ∃ ret : Int32, v = some (Value.int ret) ∧ -ret.toInt - 2 ≤ 0 ∧ ret.toInt - 65535 ≤ 0 ∧ (ret.toInt = idR Wv a.toInt ∧ (KN σ p Wv (act Wv) ∧ OUT σ0 σ p))
set_option maxRecDepth 10000 in
set_option maxHeartbeats 4000000 in
theorem c_141x {Wv : Int → Int} (σ0 : SG) (hσ0 : WT σ0) (a : Int32) (p : Nat) (hp : TG p = 18) (h_p : (σ0 0)[9]? = some (Value.ref p)) (sg : Int32) (h_sg : (σ0 p)[1]? = some (Value.int sg)) (hp0 : -sg.toInt ≤ 0) (hP : PLA p) (hX : FXP σ0 p) (hK : KN σ0 p Wv (act Wv)) (hB : WFw Wv) (hT : TWN Wv) (hQ : 0 < Wv 7 → RULx σ0 (Wv 0)) (hq : QX Wv) : En 4 92 none mr_141 (P_141x σ0 Wv a p sg) 0 [(0, .ref 0), (1, .int a)] [] σ0 := by
  obtain ⟨hl_sg, hu_sg⟩ := WT_int hσ0 (g := 18) hp (by decide +kernel) (l := (-1)) (u := 4) (by decide +kernel) h_sg
  have hF0 : Fr [(20, 2), (21, 0), (22, 0)] σ0 σ0 := Fr_rfl
  have t1 : Wv (0) = sg.toInt := KN_v hK (Or.inl (by decide)) (by decide) (by decide) (by rw [lcO_lt (by decide) (by decide), Nat.add_zero]) rfl h_sg
  obtain ⟨z3, h2, h4, h5⟩ := WT_peekI hσ0 hp (by decide +kernel : FT 18 3 = (0, 0, 4)) (by decide +kernel)
  have t6 : Wv (2) = z3.toInt := KN_v hK (Or.inl (by decide)) (by decide) (by decide) (by rw [lcO_lt (by decide) (by decide), Nat.add_zero]) rfl h2
  refine En_Ps 1 (pc' := 1) (lv' := [(0, .ref 0), (1, .int a)]) (st' := [.ref 0]) rfl ?_
  refine En_getK (j := 9) h_p rfl rfl rfl tgz_0 (by decide +kernel) ?_
  refine En_Ps 1 (pc' := 5) (lv' := [(0, .ref 0), (1, .int a)]) (st' := [.int a, .ref p]) rfl ?_
  refine En_callV rfl rfl rfl rfl rfl rfl rfl rfl hp (by decide +kernel) rfl (c_47x σ0 hσ0 p hp a z3 h2) (by decide) (by decide) (fun v8 σ9 h7 => ?_)
  obtain ⟨h10, h11, z13, rfl, h12⟩ := h7
  obtain rfl : σ0 = σ9 := Fr_nil h11
  have h14 := Imp_m h12.2.2.1
  have h15 := Imp_m h12.2.2.2.1
  have h16 := Imp_m h12.2.2.2.2.1
  have h17 := Imp_m h12.2.2.2.2.2
  refine En_iNe _ rfl rfl (fun h18 => ?_) (fun h18 => ?_)
  · have h19 := Imp_m h12.2.2.1 (by first | exact q_e3350da514 h18 h12.1 | omega)
    have h20 := Imp_m h12.2.2.2.1 (by first | exact ⟨q_a555021d16 h19.1, q_ef157b5a0e h19.2⟩ | omega)
    have h21 := Imp_m h12.2.2.2.2.2 (by first | exact ⟨q_ad5b726bf8 h12.2.1, q_e3350da514 h18 h12.1⟩ | omega)
    refine En_Ps 1 (pc' := 15) (lv' := [(0, .ref 0), (1, .int a)]) (st' := [.ref 0]) rfl ?_
    refine En_getK (j := 9) h_p rfl rfl rfl tgz_0 (by decide +kernel) ?_
    refine En_getR (j := 4) (g' := 19) (u := 0) rfl rfl rfl hp (by decide +kernel) hσ0 (by decide +kernel) (fun a23 h22 ha23 => ?_)
    have t24 : a23 = p + 1 := ref_uniq h22 (FXP_fr hP hX hF0 (by decide +kernel)).1
    refine En_Ps 1 (pc' := 22) (lv' := [(0, .ref 0), (1, .int a)]) (st' := [.int a, .ref a23]) rfl ?_
    refine En_aald (g' := 28) (u := 0) rfl rfl ha23 (by decide +kernel) hσ0 (by first | exact q_ef1e8e38bf h19.1 | omega) (lnI (by decide +kernel : LN _ = 4) (by first | exact q_7fdbd2bd6a h21.2 | omega)) (FTsgl (by decide +kernel)) (fun a26 h25 ha26 => ?_)
    have t27 : a26 = p + 10 + 4 * (a.toInt).toNat := DRe (d := a.toInt) (FXP_fr hP hX hF0 (by decide +kernel)) t24 h25 (by omega) (by omega)
    have t28 := lc_d (d := a.toInt) (by omega) (by omega)
    refine En_getR (j := 0) (g' := 20) (u := 0) rfl rfl rfl ha26 (by decide +kernel) hσ0 (by decide +kernel) (fun a30 h29 ha30 => ?_)
    have t31 : a30 = p + 11 + 4 * (a.toInt).toNat := DLc (d := a.toInt) (FXP_fr hP hX hF0 (by decide +kernel)) t27 h29 (by omega) (by omega)
    obtain ⟨a33, h32, ha33⟩ := WT_peekR (g := 20) (j := 0) (g' := 21) (u := 0) hσ0 ha30 (by decide +kernel) (by decide +kernel)
    have t34 : a33 = p + 12 + 4 * (a.toInt).toNat := DKk (d := a.toInt) (FXP_fr hP hX hF0 (by decide +kernel)) t31 h32 (by omega) (by omega)
    obtain ⟨a36, h35, ha36⟩ := WT_peekR (g := 20) (j := 1) (g' := 22) (u := 0) hσ0 ha30 (by decide +kernel) (by decide +kernel)
    have t37 : a36 = p + 13 + 4 * (a.toInt).toNat := DKo (d := a.toInt) (FXP_fr hP hX hF0 (by decide +kernel)) t31 h35 (by omega) (by omega)
    obtain ⟨z39, h38, h40, h41⟩ := WT_peekI hσ0 ha30 (by decide +kernel : FT 20 2 = (0, 0, 13)) (by decide +kernel)
    have t42 : Wv (12 + 4 * (a.toInt)) = z39.toInt := KN_v hK (Or.inr (Or.inl ⟨by omega, by omega, by omega⟩)) (by omega) (by omega) (by omega) (by omega) h38
    have h43 := hB.2.2.2.2.2.2 a.toInt (by omega) (by omega)
    have : z39.toInt ≤ 12 := by omega
    refine En_Ps 3 (pc' := 29) (lv' := [(2, .ref a30), (0, .ref 0), (1, .int a)]) (st' := [.int a, .ref 0]) rfl ?_
    refine En_callV rfl rfl rfl rfl rfl rfl rfl rfl tgz_0 (by decide +kernel) rfl (c_114ax σ0 hσ0 a (geI rfl (by first | exact q_ef1e8e38bf h19.1 | omega)) (leI rfl (by first | exact q_87d9217d84 h21.2 | omega)) p hp h_p sg h_sg (by first | exact q_a555021d16 hp0 | omega) hP (FXP_fr hP hX hF0 (by decide +kernel)) hK hB hT (by omega) (hQ (hq (by omega)))) (by decide) (by decide) (fun v45 σ46 h44 => ?_)
    obtain ⟨h47, h48, z50, rfl, h49⟩ := h44
    have h51 := h49.2.2
    obtain rfl : σ0 = σ46 := Fr_nil h48
    refine En_Ps 2 (pc' := 34) (lv' := [(3, .int z50), (2, .ref a30), (0, .ref 0), (1, .int a)]) (st' := [.ref a30]) rfl ?_
    refine En_getK (j := 2) h38 rfl rfl rfl ha30 (by decide +kernel) ?_
    refine En_Ps 5 (pc' := 45) (lv' := [(6, .int ((Int32.ofInt 0))), (5, .int ((Int32.ofInt 0))), (4, .int z39), (3, .int z50), (2, .ref a30), (0, .ref 0), (1, .int a)]) (st' := []) rfl ?_
    have key45 : ∀ (n45 : Nat) (σ55 : SG) (y52 : Int32) (y53 : Int32) (y54 : Int32), WT σ55 → Fr [(20, 2), (21, 0), (22, 0)] σ0 σ55 → (σ55 0)[9]? = some (Value.ref p) → (σ55 p)[1]? = some (Value.int sg) → (σ55 p)[3]? = some (Value.int z3) → (σ55 p)[4]? = some (Value.ref a23) → (σ55 a23)[(a.toInt).toNat]? = some (Value.ref a26) → (σ55 a26)[0]? = some (Value.ref a30) → (σ55 a30)[0]? = some (Value.ref a33) → (σ55 a30)[1]? = some (Value.ref a36) → (σ55 a30)[2]? = some (Value.int y54) → 0 ≤ y52.toInt → y52.toInt ≤ 65535 → 0 ≤ y53.toInt → y53.toInt ≤ 12 → 0 ≤ y54.toInt → y54.toInt ≤ 12 → y54.toInt - z39.toInt ≤ 0 → z39.toInt - y54.toInt ≤ 0 → y53.toInt - y54.toInt ≤ 0 → z39.toInt - y53.toInt < (n45 : Int) → KN σ55 p Wv (act Wv) → OUT σ0 σ55 p → y52.toInt = AAS (idP Wv a.toInt) (y53.toInt).toNat → y53.toInt ≤ Wv (12 + 4 * a.toInt) → En 4 92 none mr_141 (P_141x σ0 Wv a p sg) 45 [(0, .ref 0), (1, .int a), (2, .ref a30), (3, .int z50), (4, .int z39), (5, .int y52), (6, .int y53)] [] σ55 := by
      intro n45
      induction n45 with
      | zero =>
        intro σ55 y52 y53 y54 h56 h57 h58 h59 h60 h61 h62 h63 h64 h65 h66 h67 h68 h69 h70 h71 h72 h73 h74 h75 h76 h77 h78 h79 h80
        first | exact (q_c7de5743f6 h73 h75 h76).elim | (exfalso; omega)
      | succ n45 ih45 =>
        intro σ55 y52 y53 y54 h56 h57 h58 h59 h60 h61 h62 h63 h64 h65 h66 h67 h68 h69 h70 h71 h72 h73 h74 h75 h76 h77 h78 h79 h80
        refine En_Ps 2 (pc' := 49) (lv' := [(0, .ref 0), (1, .int a), (2, .ref a30), (3, .int z50), (4, .int z39), (5, .int y52), (6, .int y53)]) (st' := [.int z39, .int y53]) rfl ?_
        refine En_icGe _ rfl rfl rfl (fun h81 => ?_) (fun h81 => ?_)
        · refine En_Ps 1 (pc' := 112) (lv' := [(0, .ref 0), (1, .int a), (2, .ref a30), (3, .int z50), (4, .int z39), (5, .int y52), (6, .int y53)]) (st' := [.int y52]) rfl ?_
          exact En_ret (v := some (Value.int y52)) rfl rfl rfl ⟨h56, h57, y52, rfl, ⟨by first | exact q_ea7f0ffdb1 h67 | omega, by first | exact q_e7edf0f95a h68 | omega, ⟨idR_y ⟨by omega, by omega⟩ (i := y53.toInt) (by have := t42; have := h80; omega) h79, ⟨h77, h78⟩⟩⟩⟩
        · refine En_Ps 1 (pc' := 53) (lv' := [(0, .ref 0), (1, .int a), (2, .ref a30), (3, .int z50), (4, .int z39), (5, .int y52), (6, .int y53)]) (st' := [.ref a30]) rfl ?_
          refine En_getK (j := 0) h64 rfl rfl rfl ha30 (by decide +kernel) ?_
          refine En_Ps 1 (pc' := 58) (lv' := [(0, .ref 0), (1, .int a), (2, .ref a30), (3, .int z50), (4, .int z39), (5, .int y52), (6, .int y53)]) (st' := [.int y53, .ref a33]) rfl ?_
          refine En_iald (l := 0) (u := 15) rfl rfl ha33 (by decide +kernel) h56 (by first | exact q_58e6e51dcc h69 | omega) (lnI (by decide +kernel : LN _ = 13) (by first | exact q_eca5b91a1e h70 | omega)) (FTsgl (by decide +kernel)) (fun z83 h82 h84 h85 => ?_)
          have t86 := lc_l (d := a.toInt) (m := y53.toInt) (by omega) (by omega) (by omega) (by omega)
          have t87 : Wv (26 + 24 * (a.toInt) + 2 * (y53.toInt)) = z83.toInt := KN_v h77 (act_lk (d := a.toInt) (m := y53.toInt) (by omega) (by omega) (by omega) (by omega) (by omega) (by omega)) (by omega) (by omega) (by omega) (by omega) h82
          refine En_Ps 2 (pc' := 62) (lv' := [(7, .int z83), (0, .ref 0), (1, .int a), (2, .ref a30), (3, .int z50), (4, .int z39), (5, .int y52), (6, .int y53)]) (st' := [.ref a30]) rfl ?_
          refine En_getK (j := 1) h65 rfl rfl rfl ha30 (by decide +kernel) ?_
          refine En_Ps 1 (pc' := 67) (lv' := [(7, .int z83), (0, .ref 0), (1, .int a), (2, .ref a30), (3, .int z50), (4, .int z39), (5, .int y52), (6, .int y53)]) (st' := [.int y53, .ref a36]) rfl ?_
          refine En_iald (l := 0) (u := 1) rfl rfl ha36 (by decide +kernel) h56 (by first | exact q_58e6e51dcc h69 | omega) (lnI (by decide +kernel : LN _ = 13) (by first | exact q_eca5b91a1e h70 | omega)) (FTsgl (by decide +kernel)) (fun z89 h88 h90 h91 => ?_)
          have t92 := lc_l (d := a.toInt) (m := y53.toInt) (by omega) (by omega) (by omega) (by omega)
          have t93 : Wv (26 + 24 * (a.toInt) + 2 * (y53.toInt) + 1) = z89.toInt := KN_v h77 (act_lo (d := a.toInt) (m := y53.toInt) (by omega) (by omega) (by omega) (by omega) (by omega) (by omega)) (by omega) (by omega) (by omega) (by omega) h88
          refine En_Ps 1 (pc' := 70) (lv' := [(8, .int z89), (7, .int z83), (0, .ref 0), (1, .int a), (2, .ref a30), (3, .int z50), (4, .int z39), (5, .int y52), (6, .int y53)]) (st' := []) rfl ?_
          have h94 : ci σ55 a30 2 = y54.toInt := ci_at (j := 2) h66 rfl
          have h95 : z83.toInt = ci σ55 a33 (y53.toInt) := (ci_at h82 rfl).symm
          have h96 : z89.toInt = ci σ55 a36 (y53.toInt) := (ci_at h88 rfl).symm
          refine En_Ps 2 (pc' := 73) (lv' := [(8, .int z89), (7, .int z83), (0, .ref 0), (1, .int a), (2, .ref a30), (3, .int z50), (4, .int z39), (5, .int y52), (6, .int y53)]) (st' := [.int y53, .ref a30]) rfl ?_
          refine En_callV rfl rfl rfl rfl rfl rfl rfl rfl ha30 (by decide +kernel) rfl (c_41bx σ55 h56 a30 ha30 y53 (geI rfl (by first | exact q_58e6e51dcc h69 | omega)) (leI rfl (by first | exact q_7c77837619 h70 | omega)) a33 ha33 h64 a36 ha36 h65 y54 h66 (by first | exact q_a4451c6360 h74 h81 | omega)) (by decide) (by decide) (fun v98 σ99 h97 => ?_)
          obtain ⟨h100, h101, z103, h104, rfl, h102⟩ := h97
          have h105 := h102.2.2.2.2.2.2
          have h106 := Fr_trans h57 h101 (by decide +kernel)
          have h108 : Wv (12 + 4 * a.toInt) = y54.toInt := by have := t42; omega
          have h107 := DLS_tko (d := a.toInt) h77 h108 (by omega) h105 t31 t34 t37 (by omega) (by omega) (by omega) (by omega) (by omega)
          refine En_Ps 2 (pc' := 78) (lv' := [(8, .int z89), (7, .int z83), (0, .ref 0), (1, .int a), (2, .ref a30), (3, .int z50), (4, .int z39), (5, .int y52), (6, .int y53)]) (st' := [.int a, .ref 0]) rfl ?_
          refine En_callV rfl rfl rfl rfl rfl rfl rfl rfl tgz_0 (by decide +kernel) rfl (c_114bx σ99 h100 a (geI rfl (by first | exact q_ef1e8e38bf h19.1 | omega)) (leI rfl (by first | exact q_87d9217d84 h21.2 | omega)) p hp ((h101 _ _ (inW tgz_0 (by decide +kernel))).trans h58) sg ((h101 _ _ (inW hp (by decide +kernel))).trans h59) (by first | exact q_a555021d16 hp0 | omega) hP (FXP_fr hP hX h106 (by decide +kernel)) h107 hB hT (by omega) (RULx_sam (hQ (hq (by omega))) (RSAM_fr h106 (by decide +kernel)))) (by decide) (by decide) (fun v113 σ114 h112 => ?_)
          obtain ⟨h115, h116, z118, rfl, h117⟩ := h112
          have h119 := h117.2.2
          obtain rfl : σ99 = σ114 := Fr_nil h116
          refine En_Ps 1 (pc' := 82) (lv' := [(8, .int z89), (7, .int z83), (0, .ref 0), (1, .int a), (2, .ref a30), (3, .int z50), (4, .int z39), (5, .int y52), (6, .int y53)]) (st' := [.int z50, .int z118]) rfl ?_
          refine En_icNe _ rfl rfl rfl (fun h120 => ?_) (fun h120 => ?_)
          · refine En_Ps 4 (pc' := 101) (lv' := [(8, .int z89), (7, .int z83), (0, .ref 0), (1, .int a), (2, .ref a30), (3, .int z50), (4, .int z39), (5, .int y52), (6, .int y53)]) (st' := [.int z89, .int z83, .int y53, .ref a30]) rfl ?_
            refine En_callV rfl rfl rfl rfl rfl rfl rfl rfl ha30 (by decide +kernel) rfl (c_38bx σ99 h100 a30 ha30 y53 z83 z89 (geI rfl (by first | exact q_58e6e51dcc h69 | omega)) (leI rfl (by first | exact q_7c77837619 h70 | omega)) (geI rfl (by first | exact q_58e6e51dcc h84 | omega)) (leI rfl (by first | exact q_5a4d8a7e08 h85 | omega)) (geI rfl (by first | exact q_58e6e51dcc h90 | omega)) (leI rfl (by first | exact q_9d0c30f9c5 h91 | omega)) a33 ha33 ((h101 _ _ (inW ha30 (by decide +kernel))).trans h64) a36 ha36 ((h101 _ _ (inW ha30 (by decide +kernel))).trans h65) z103 h104 (by first | exact q_ec0052c56b h81 h102.2.2.1 h74 | omega) (by first | exact q_1d71e39f5f h102.2.1 | omega)) (by decide) (by decide) (fun v122 σ123 h121 => ?_)
            obtain ⟨h124, h125, z127, h128, rfl, h126⟩ := h121
            have h129 := h126.2.2.2.2
            have h130 := Fr_trans h106 h125 (by decide +kernel)
            have h131 := KN_tp h77 h105 h129 (by omega) h94 h95 h96 (by omega) (by omega) (by omega) (by omega) (by omega)
            have h132 := OUT_tr h78 h131.2
            refine En_Ps 1 (pc' := 107) (lv' := [(6, .int ((y53 + Int32.ofInt 1))), (8, .int z89), (7, .int z83), (0, .ref 0), (1, .int a), (2, .ref a30), (3, .int z50), (4, .int z39), (5, .int y52)]) (st' := []) rfl ?_
            refine En_lv1 (addI rfl (by decide : (Int32.ofInt 1).toInt = 1) (by first | exact q_465ab79ac1 h69 | omega) (by first | exact q_1fdc13c345 h70 | omega)) (fun z133 h134 => ?_)
            refine En_Ps 1 (pc' := 45) (lv' := [(6, .int z133), (8, .int z89), (7, .int z83), (0, .ref 0), (1, .int a), (2, .ref a30), (3, .int z50), (4, .int z39), (5, .int y52)]) (st' := []) rfl ?_
            refine En_lv (lv := [(0, .ref 0), (1, .int a), (2, .ref a30), (3, .int z50), (4, .int z39), (5, .int y52), (6, .int z133)]) ⟨rfl, rfl, rfl, rfl, rfl, rfl, rfl, trivial⟩ ?_
            exact ih45 σ123 y52 z133 z127 h124 h130 ((h125 _ _ (inW tgz_0 (by decide +kernel))).trans ((h101 _ _ (inW tgz_0 (by decide +kernel))).trans h58)) ((h125 _ _ (inW hp (by decide +kernel))).trans ((h101 _ _ (inW hp (by decide +kernel))).trans h59)) ((h125 _ _ (inW hp (by decide +kernel))).trans ((h101 _ _ (inW hp (by decide +kernel))).trans h60)) ((h125 _ _ (inW hp (by decide +kernel))).trans ((h101 _ _ (inW hp (by decide +kernel))).trans h61)) ((h125 _ _ (inWa ha23 (by decide +kernel))).trans ((h101 _ _ (inWa ha23 (by decide +kernel))).trans h62)) ((h125 _ _ (inW ha26 (by decide +kernel))).trans ((h101 _ _ (inW ha26 (by decide +kernel))).trans h63)) ((h125 _ _ (inW ha30 (by decide +kernel))).trans ((h101 _ _ (inW ha30 (by decide +kernel))).trans h64)) ((h125 _ _ (inW ha30 (by decide +kernel))).trans ((h101 _ _ (inW ha30 (by decide +kernel))).trans h65)) h128 (by first | exact q_58e6e51dcc h67 | omega) (by first | exact q_36eb0a70bf h68 | omega) (by first | exact q_35104ce9d3 h134 h69 | omega) (by first | exact q_a537cdb1b6 h134 h81 h72 h74 | omega) (by first | exact q_996aa4c518 h126.1 | omega) (by first | exact q_0b81bedbd8 h126.2.2.2.1 h102.2.2.2.1 h72 | omega) (by first | exact q_d41ea3d59a h73 h102.2.2.2.1 h126.2.2.2.1 | omega) (by first | exact q_3d12b25be0 h74 h102.2.2.1 h126.2.2.1 | omega) (by first | exact q_e87956719a h126.2.2.1 h134 h81 h102.2.2.1 h74 | omega) (by first | exact q_8d03a5a7cb h134 h76 | omega) (h131.1) (h132) (AAS_n (by omega) h79 (idP_n (DDo_of h108 rfl h119) h51 (by omega)) (by omega) (by omega)) ((by have := t42; omega))
          · refine En_Ps 4 (pc' := 91) (lv' := [(8, .int z89), (7, .int z83), (0, .ref 0), (1, .int a), (2, .ref a30), (3, .int z50), (4, .int z39), (5, .int y52), (6, .int y53)]) (st' := [.int ((((Int32.ofInt 1)) <<< (y53 &&& 31))), .int y52]) rfl ?_
            refine En_nam (fun z135 h136 => ?_)
            have h137 : z135.toInt = pI y53.toInt := shl_v h136 rfl (by omega) (by omega)
            have := pI_pos y53.toInt
            have : pI y53.toInt ≤ 2048 := pI_mono (Y := 11) (by omega)
            refine En_Ps 1 (pc' := 92) (lv' := [(8, .int z89), (7, .int z83), (0, .ref 0), (1, .int a), (2, .ref a30), (3, .int z50), (4, .int z39), (5, .int y52), (6, .int y53)]) (st' := [.int ((y52 ||| z135))]) rfl ?_
            refine En_nam (fun z138 h139 => ?_)
            have h140 : z138.toInt = oN y52.toInt z135.toInt := or_v h139 rfl rfl (by omega) (by omega)
            have := oN_lt (X := y52.toInt) (Y := z135.toInt) 16 (by omega) (by omega) (Int.lt_of_le_of_lt (by omega : _ ≤ (65535 : Int)) (by decide)) (Int.lt_of_le_of_lt (by omega : _ ≤ (65535 : Int)) (by decide))
            have two16 : ((2 ^ 16 : Nat) : Int) = 65536 := by decide
            refine En_Ps 5 (pc' := 101) (lv' := [(5, .int z138), (8, .int z89), (7, .int z83), (0, .ref 0), (1, .int a), (2, .ref a30), (3, .int z50), (4, .int z39), (6, .int y53)]) (st' := [.int z89, .int z83, .int y53, .ref a30]) rfl ?_
            refine En_callV rfl rfl rfl rfl rfl rfl rfl rfl ha30 (by decide +kernel) rfl (c_38bx σ99 h100 a30 ha30 y53 z83 z89 (geI rfl (by first | exact q_58e6e51dcc h69 | omega)) (leI rfl (by first | exact q_7c77837619 h70 | omega)) (geI rfl (by first | exact q_58e6e51dcc h84 | omega)) (leI rfl (by first | exact q_5a4d8a7e08 h85 | omega)) (geI rfl (by first | exact q_58e6e51dcc h90 | omega)) (leI rfl (by first | exact q_9d0c30f9c5 h91 | omega)) a33 ha33 ((h101 _ _ (inW ha30 (by decide +kernel))).trans h64) a36 ha36 ((h101 _ _ (inW ha30 (by decide +kernel))).trans h65) z103 h104 (by first | exact q_ec0052c56b h81 h102.2.2.1 h74 | omega) (by first | exact q_1d71e39f5f h102.2.1 | omega)) (by decide) (by decide) (fun v142 σ143 h141 => ?_)
            obtain ⟨h144, h145, z147, h148, rfl, h146⟩ := h141
            have h149 := h146.2.2.2.2
            have h150 := Fr_trans h106 h145 (by decide +kernel)
            have h151 := KN_tp h77 h105 h149 (by omega) h94 h95 h96 (by omega) (by omega) (by omega) (by omega) (by omega)
            have h152 := OUT_tr h78 h151.2
            refine En_Ps 1 (pc' := 107) (lv' := [(6, .int ((y53 + Int32.ofInt 1))), (5, .int z138), (8, .int z89), (7, .int z83), (0, .ref 0), (1, .int a), (2, .ref a30), (3, .int z50), (4, .int z39)]) (st' := []) rfl ?_
            refine En_lv1 (addI rfl (by decide : (Int32.ofInt 1).toInt = 1) (by first | exact q_465ab79ac1 h69 | omega) (by first | exact q_1fdc13c345 h70 | omega)) (fun z153 h154 => ?_)
            refine En_Ps 1 (pc' := 45) (lv' := [(6, .int z153), (5, .int z138), (8, .int z89), (7, .int z83), (0, .ref 0), (1, .int a), (2, .ref a30), (3, .int z50), (4, .int z39)]) (st' := []) rfl ?_
            refine En_lv (lv := [(0, .ref 0), (1, .int a), (2, .ref a30), (3, .int z50), (4, .int z39), (5, .int z138), (6, .int z153)]) ⟨rfl, rfl, rfl, rfl, rfl, rfl, rfl, trivial⟩ ?_
            exact ih45 σ143 z138 z153 z147 h144 h150 ((h145 _ _ (inW tgz_0 (by decide +kernel))).trans ((h101 _ _ (inW tgz_0 (by decide +kernel))).trans h58)) ((h145 _ _ (inW hp (by decide +kernel))).trans ((h101 _ _ (inW hp (by decide +kernel))).trans h59)) ((h145 _ _ (inW hp (by decide +kernel))).trans ((h101 _ _ (inW hp (by decide +kernel))).trans h60)) ((h145 _ _ (inW hp (by decide +kernel))).trans ((h101 _ _ (inW hp (by decide +kernel))).trans h61)) ((h145 _ _ (inWa ha23 (by decide +kernel))).trans ((h101 _ _ (inWa ha23 (by decide +kernel))).trans h62)) ((h145 _ _ (inW ha26 (by decide +kernel))).trans ((h101 _ _ (inW ha26 (by decide +kernel))).trans h63)) ((h145 _ _ (inW ha30 (by decide +kernel))).trans ((h101 _ _ (inW ha30 (by decide +kernel))).trans h64)) ((h145 _ _ (inW ha30 (by decide +kernel))).trans ((h101 _ _ (inW ha30 (by decide +kernel))).trans h65)) h148 (by omega) (by omega) (by first | exact q_35104ce9d3 h154 h69 | omega) (by first | exact q_a537cdb1b6 h154 h81 h72 h74 | omega) (by first | exact q_996aa4c518 h146.1 | omega) (by first | exact q_0b81bedbd8 h146.2.2.2.1 h102.2.2.2.1 h72 | omega) (by first | exact q_d41ea3d59a h73 h102.2.2.2.1 h146.2.2.2.1 | omega) (by first | exact q_3d12b25be0 h74 h102.2.2.1 h146.2.2.1 | omega) (by first | exact q_e87956719a h146.2.2.1 h154 h81 h102.2.2.1 h74 | omega) (by first | exact q_8d03a5a7cb h154 h76 | omega) (h151.1) (h152) (AAS_y (q := z135.toInt) (by omega) h79 (idP_y (DDo_of h108 rfl h119) h51 (by omega)) (by omega) (by omega) (by omega)) ((by have := t42; omega))
    have := (by decide : (Int32.ofInt 0).toInt = 0)
    have := (by decide : (Int32.ofInt 0).toInt = 0)
    refine En_lv (lv := [(0, .ref 0), (1, .int a), (2, .ref a30), (3, .int z50), (4, .int z39), (5, .int ((Int32.ofInt 0))), (6, .int ((Int32.ofInt 0)))]) ⟨rfl, rfl, rfl, rfl, rfl, rfl, rfl, trivial⟩ ?_
    exact key45 (Int.toNat (z39.toInt) + 1) σ0 ((Int32.ofInt 0)) ((Int32.ofInt 0)) z39 hσ0 hF0 h_p h_sg h2 h22 h25 h29 h32 h35 h38 (by decide) (by decide) (by decide) (by decide) (by first | exact q_58e6e51dcc h40 | omega) (by omega) (by first | exact q_1bb76abeaf | omega) (by first | exact q_1bb76abeaf | omega) (by omega) (by first | exact toN_lt _ | omega) (hK) (OUT_0) (AAS_0 (by omega) (by omega)) ((by have := t42; omega))
  · have h155 := Imp_m h12.2.2.2.2.1 (by first | exact ⟨q_c5d285f1b9 h18, q_a555021d16 h12.1⟩ | omega)
    refine En_Ps 1 (pc' := 13) (lv' := [(0, .ref 0), (1, .int a)]) (st' := [.int (((Int8.ofInt (-2)).toInt32))]) rfl ?_
    refine En_top (by decide : ((Int8.ofInt (-2)).toInt32).toInt = -2) (fun z156 h157 => ?_)
    exact En_ret (v := some (Value.int z156)) rfl rfl rfl ⟨hσ0, hF0, z156, rfl, ⟨by first | exact q_f35c5d346c h157 | omega, by first | exact q_7aab8371ca h157 | omega, ⟨idR_n (fun ⟨q1, q2⟩ => by omega) (by omega), ⟨hK, OUT_0⟩⟩⟩⟩
/-- DoorSchool.image(I)I -/
abbrev P_142x (σ0 : SG) (a : Int32) (p : Nat) (sg : Int32) : PO := fun v σ => WT σ ∧ Fr [(20, 2), (21, 0), (22, 0), (23, 0), (24, 0), (25, 0), (26, 0), (27, 0), (28, 1), (28, 2), (28, 3), (30, 0), (31, 0), (31, 1), (31, 2), (31, 3), (31, 6), (31, 7), (31, 8), (31, 11), (31, 14)] σ0 σ ∧ ∃ ret : Int32, v = some (Value.int ret) ∧ -ret.toInt - 2 ≤ 0 ∧ ret.toInt ≤ 0 ∧ Imp (-a.toInt ≤ 0 ∧ a.toInt - 2 ≤ 0) (ret.toInt ≤ 0 ∧ -ret.toInt ≤ 0) ∧ Imp (a.toInt + 1 ≤ 0) (ret.toInt + 2 ≤ 0 ∧ -ret.toInt - 2 ≤ 0) ∧ Imp (-a.toInt + 3 ≤ 0) (ret.toInt + 2 ≤ 0 ∧ -ret.toInt - 2 ≤ 0) ∧ IMC σ0 σ p a.toInt
set_option maxRecDepth 10000 in
set_option maxHeartbeats 4000000 in
theorem c_142x (σ0 : SG) (hσ0 : WT σ0) (a : Int32) (p : Nat) (hp : TG p = 18) (h_p : (σ0 0)[9]? = some (Value.ref p)) (sg : Int32) (h_sg : (σ0 p)[1]? = some (Value.int sg)) (hp0 : -sg.toInt ≤ 0) (hP : PLA p) (hX : FXP σ0 p) (hM : IMX σ0) : En 4 124 none mr_142 (P_142x σ0 a p sg) 0 [(0, .ref 0), (1, .int a)] [] σ0 := by
  obtain ⟨hl_sg, hu_sg⟩ := WT_int hσ0 (g := 18) hp (by decide +kernel) (l := (-1)) (u := 4) (by decide +kernel) h_sg
  have hF0 : Fr [(20, 2), (21, 0), (22, 0), (23, 0), (24, 0), (25, 0), (26, 0), (27, 0), (28, 1), (28, 2), (28, 3), (30, 0), (31, 0), (31, 1), (31, 2), (31, 3), (31, 6), (31, 7), (31, 8), (31, 11), (31, 14)] σ0 σ0 := Fr_rfl
  refine En_Ps 1 (pc' := 1) (lv' := [(0, .ref 0), (1, .int a)]) (st' := [.int a]) rfl ?_
  refine En_iLt _ rfl rfl (fun h1 => ?_) (fun h1 => ?_)
  · refine En_Ps 1 (pc' := 11) (lv' := [(0, .ref 0), (1, .int a)]) (st' := [.int (((Int8.ofInt (-2)).toInt32))]) rfl ?_
    refine En_top (by decide : ((Int8.ofInt (-2)).toInt32).toInt = -2) (fun z2 h3 => ?_)
    exact En_ret (v := some (Value.int z2)) rfl rfl rfl ⟨hσ0, hF0, z2, rfl, ⟨by first | exact q_f35c5d346c h3 | omega, by first | exact q_bbb39ffa1e h3 | omega, fun _ => by omega, fun hh => by first | exact ⟨q_535bc65891 h3, q_f35c5d346c h3⟩ | omega, fun hh => by first | exact ⟨q_535bc65891 h3, q_f35c5d346c h3⟩ | omega, IMC_no (by (first | exact q_6f61c1a31d h1 | omega))⟩⟩
  · refine En_Ps 2 (pc' := 6) (lv' := [(0, .ref 0), (1, .int a)]) (st' := [.int ((Int32.ofInt 3)), .int a]) rfl ?_
    refine En_icLt _ rfl (by decide : (Int32.ofInt 3).toInt = 3) rfl (fun h4 => ?_) (fun h4 => ?_)
    · refine En_Ps 1 (pc' := 13) (lv' := [(0, .ref 0), (1, .int a)]) (st' := [.ref 0]) rfl ?_
      refine En_getU (j := 7) (u := 70) (g' := 29) (q := 0) rfl rfl rfl tgz_0 (by decide +kernel) hσ0 (by decide +kernel) un_29_70 (fun h5 => ?_)
      refine En_Ps 1 (pc' := 17) (lv' := [(0, .ref 0), (1, .int a)]) (st' := [.int a, .ref 70]) rfl ?_
      refine En_aald (g' := 31) (u := 0) rfl rfl tgz_70 (by decide +kernel) hσ0 (by first | exact q_58e6e51dcc h1 | omega) (lnI (by decide +kernel : LN _ = 3) (by first | exact q_59613c85e7 h4 | omega)) (FTsgl (by decide +kernel)) (fun a8 h7 ha8 => ?_)
      have h9 : a8 = 72 + 26 * (a.toInt).toNat := ref_uniq h7 (hM (a.toInt).toNat (by (first | exact q_e3cbcd8e5d h4 h1 | omega))).1
      refine En_Ps 1 (pc' := 19) (lv' := [(0, .ref 0), (1, .int a)]) (st' := [.ref 0, .ref a8]) rfl ?_
      refine En_getK (j := 9) h_p rfl rfl rfl tgz_0 (by decide +kernel) ?_
      refine En_callV rfl rfl rfl rfl rfl rfl rfl rfl ha8 (by decide +kernel) rfl (c_53ax σ0 hσ0 a8 ha8 p hp sg h_sg (by first | exact q_a555021d16 hp0 | omega) (by rw [h9]; exact (SEP_i (by (first | exact q_e3cbcd8e5d h4 h1 | omega)) hP).1) (by rw [h9]; exact (hM (a.toInt).toNat (by (first | exact q_e3cbcd8e5d h4 h1 | omega))).2) hX) (by decide) (by decide) (fun v11 σ12 h10 => ?_)
      obtain ⟨h13, h14, rfl, h15⟩ := h10
      have h16 := h15
      have h17 := Fr_trans hF0 h14 (by decide +kernel)
      refine En_Ps 1 (pc' := 26) (lv' := [(0, .ref 0), (1, .int a)]) (st' := [.ref 0]) rfl ?_
      refine En_getU (j := 8) (u := 71) (g' := 30) (q := 0) rfl rfl rfl tgz_0 (by decide +kernel) h13 (by decide +kernel) un_30_71 (fun h18 => ?_)
      refine En_Ps 2 (pc' := 31) (lv' := [(0, .ref 0), (1, .int a)]) (st' := [.int ((Int32.ofInt 1)), .int a, .ref 71]) rfl ?_
      refine En_bast (l := 0) (u := 1) rfl rfl tgz_71 (by decide +kernel) (narZ (by decide : (Int32.ofInt 1).toInt = 1) (by (first | decide | omega)) (by (first | decide | omega))) (by first | exact q_58e6e51dcc h1 | omega) (lnI (by decide +kernel : LN _ = 3) (by first | exact q_59613c85e7 h4 | omega)) (FTsgl (by decide +kernel)) (rngI (by decide : (Int32.ofInt 1).toInt = 1) (by decide) (by decide)) h13 h17 (by decide +kernel) (fun σ20 h21 h22 h23 h24 => ?_)
      refine En_Ps 1 (pc' := 33) (lv' := [(0, .ref 0), (1, .int a)]) (st' := [.int ((Int32.ofInt 0))]) rfl ?_
      refine En_top (by decide : (Int32.ofInt 0).toInt = 0) (fun z25 h26 => ?_)
      exact En_ret (v := some (Value.int z25)) rfl rfl rfl ⟨h21, h22, z25, rfl, ⟨by first | exact q_bef0d034f7 h26 | omega, by first | exact q_c5d285f1b9 h26 | omega, fun hh => by first | exact ⟨q_c5d285f1b9 h26, q_097a37c2ae h26⟩ | omega, fun _ => by omega, fun _ => by omega, IMC_ok (by (first | exact q_58e6e51dcc h1 | omega)) (by (first | exact q_be4f147e40 h4 | omega)) h16 h9 h23 h24 (by decide)⟩⟩
    · refine En_Ps 1 (pc' := 11) (lv' := [(0, .ref 0), (1, .int a)]) (st' := [.int (((Int8.ofInt (-2)).toInt32))]) rfl ?_
      refine En_top (by decide : ((Int8.ofInt (-2)).toInt32).toInt = -2) (fun z27 h28 => ?_)
      exact En_ret (v := some (Value.int z27)) rfl rfl rfl ⟨hσ0, hF0, z27, rfl, ⟨by first | exact q_f35c5d346c h28 | omega, by first | exact q_bbb39ffa1e h28 | omega, fun _ => by omega, fun hh => by first | exact ⟨q_535bc65891 h28, q_f35c5d346c h28⟩ | omega, fun hh => by first | exact ⟨q_535bc65891 h28, q_f35c5d346c h28⟩ | omega, IMC_no (by (first | exact q_43beb155e0 h4 | omega))⟩⟩
/-- DoorSchool.isRest(III)Z -/
abbrev P_145x (σ0 : SG) (Wv : Int → Int) (a : Int32) (b : Int32) (c : Int32) (p : Nat) (sg : Int32) : PO := fun v σ => WT σ ∧ Fr [] σ0 σ ∧ ∃ ret : Int32, v = some (Value.int ret) ∧ -ret.toInt ≤ 0 ∧ ret.toInt - 1 ≤ 0 ∧ ((ret.toInt = 1 ∧ rsP Wv a.toInt b.toInt c.toInt) ∨ (ret.toInt = 0 ∧ ¬ rsP Wv a.toInt b.toInt c.toInt))
set_option maxRecDepth 10000 in
set_option maxHeartbeats 4000000 in
theorem c_145x {Wv : Int → Int} (σ0 : SG) (hσ0 : WT σ0) (a : Int32) (b : Int32) (c : Int32) (hl_a : 0 ≤ a.toInt) (hu_a : a.toInt ≤ 3) (hl_b : 0 ≤ b.toInt) (hu_b : b.toInt ≤ 2) (hl_c : 0 ≤ c.toInt) (hu_c : c.toInt ≤ 15) (p : Nat) (hp : TG p = 18) (h_p : (σ0 0)[9]? = some (Value.ref p)) (sg : Int32) (h_sg : (σ0 p)[1]? = some (Value.int sg)) (hp0 : -sg.toInt ≤ 0) (hP : PLA p) (hX : FXP σ0 p) (hK : KN σ0 p Wv (act Wv)) (hB : WFw Wv) (hR : RULx σ0 (Wv 0)) (hd : a.toInt < Wv 2) : En 5 114 none mr_145 (P_145x σ0 Wv a b c p sg) 0 [(0, .ref 0), (1, .int a), (2, .int b), (3, .int c)] [] σ0 := by
  obtain ⟨hl_sg, hu_sg⟩ := WT_int hσ0 (g := 18) hp (by decide +kernel) (l := (-1)) (u := 4) (by decide +kernel) h_sg
  have hF0 : Fr [] σ0 σ0 := Fr_rfl
  have t1 : Wv (0) = sg.toInt := KN_v hK (Or.inl (by decide)) (by decide) (by decide) (by rw [lcO_lt (by decide) (by decide), Nat.add_zero]) rfl h_sg
  obtain ⟨z3, h2, h4, h5⟩ := WT_peekI hσ0 hp (by decide +kernel : FT 18 3 = (0, 0, 4)) (by decide +kernel)
  have t6 : Wv (2) = z3.toInt := KN_v hK (Or.inl (by decide)) (by decide) (by decide) (by rw [lcO_lt (by decide) (by decide), Nat.add_zero]) rfl h2
  have h7 := hB.2.2.1
  have h8 := hB.1
  have h9 := hB.2.1
  have h10 := hB.2.2.2.1
  refine En_Ps 1 (pc' := 1) (lv' := [(0, .ref 0), (1, .int a), (2, .int b), (3, .int c)]) (st' := [.ref 0]) rfl ?_
  refine En_callV rfl rfl rfl rfl rfl rfl rfl rfl tgz_0 (by decide +kernel) rfl (c_160x σ0 hσ0 p hp h_p sg h_sg (by first | exact q_a555021d16 hp0 | omega) hP (FXP_fr hP hX hF0 (by decide +kernel)) (KN_aD (d := 4) hK) hB hR) (by decide) (by decide) (fun v12 σ13 h11 => ?_)
  obtain ⟨h14, h15, z17, rfl, h16⟩ := h11
  have h18 := h16.2.2
  obtain rfl : σ0 = σ13 := Fr_nil h15
  refine En_Ps 1 (pc' := 5) (lv' := [(0, .ref 0), (1, .int a), (2, .int b), (3, .int c)]) (st' := [.int c, .int z17]) rfl ?_
  refine En_callS rfl rfl rfl rfl rfl rfl rfl rfl rfl (c_108ax σ0 hσ0 z17 c (geI rfl (by first | exact q_ef1e8e38bf h16.1 | omega)) (leI rfl (by first | exact q_62355f097f h16.2.1 | omega)) (geI rfl (by first | exact q_58e6e51dcc hl_c | omega)) (leI rfl (by first | exact q_5a4d8a7e08 hu_c | omega))) (by decide) (by decide) (fun v20 σ21 h19 => ?_)
  obtain ⟨h22, h23, z25, rfl, h24⟩ := h19
  have h26 := h24.2.2
  obtain rfl : σ0 = σ21 := Fr_nil h23
  have h27 : z25.toInt = btI (owD Wv) c.toInt := h26.trans (btI_cg h18)
  refine En_Ps 1 (pc' := 9) (lv' := [(0, .ref 0), (1, .int a), (2, .int b), (3, .int c)]) (st' := [.int ((Int32.ofInt 1)), .int z25]) rfl ?_
  refine En_icNe _ rfl (by decide : (Int32.ofInt 1).toInt = 1) rfl (fun h28 => ?_) (fun h28 => ?_)
  · have h29 : btI (owD Wv) c.toInt = 0 := by have e9 := btI_rng (owD Wv) c.toInt; omega
    refine En_Ps 3 (pc' := 17) (lv' := [(0, .ref 0), (1, .int a), (2, .int b), (3, .int c)]) (st' := [.int b, .int a, .ref 0]) rfl ?_
    refine En_callV rfl rfl rfl rfl rfl rfl rfl rfl tgz_0 (by decide +kernel) rfl (c_171x σ0 hσ0 a b (geI rfl (by first | exact q_58e6e51dcc hl_a | omega)) (leI rfl (by first | exact q_da5e9b976f hu_a | omega)) (geI rfl (by first | exact q_58e6e51dcc hl_b | omega)) (leI rfl (by first | exact q_a85463bd0d hu_b | omega)) p hp h_p sg h_sg (by first | exact q_a555021d16 hp0 | omega) hP (FXP_fr hP hX hF0 (by decide +kernel)) hK hB hR (by omega)) (by decide) (by decide) (fun v31 σ32 h30 => ?_)
    obtain ⟨h33, h34, z36, rfl, h35⟩ := h30
    have h37 := h35.2.2
    obtain rfl : σ0 = σ32 := Fr_nil h34
    refine En_Ps 1 (pc' := 21) (lv' := [(0, .ref 0), (1, .int a), (2, .int b), (3, .int c)]) (st' := [.int c, .int z36]) rfl ?_
    refine En_callS rfl rfl rfl rfl rfl rfl rfl rfl rfl (c_108ax σ0 hσ0 z36 c (geI rfl (by first | exact q_ef1e8e38bf h35.1 | omega)) (leI rfl (by first | exact q_62355f097f h35.2.1 | omega)) (geI rfl (by first | exact q_58e6e51dcc hl_c | omega)) (leI rfl (by first | exact q_5a4d8a7e08 hu_c | omega))) (by decide) (by decide) (fun v39 σ40 h38 => ?_)
    obtain ⟨h41, h42, z44, rfl, h43⟩ := h38
    have h45 := h43.2.2
    obtain rfl : σ0 = σ40 := Fr_nil h42
    have h46 := stl_bit (by omega) (by omega) h29 h37 h45
    refine En_iNe _ rfl rfl (fun h47 => ?_) (fun h47 => ?_)
    · refine En_Ps 2 (pc' := 45) (lv' := [(4, .int ((Int32.ofInt 0))), (0, .ref 0), (1, .int a), (2, .int b), (3, .int c)]) (st' := []) rfl ?_
      have key45 : ∀ (n45 : Nat) (y48 : Int32), 0 ≤ y48.toInt → y48.toInt ≤ 3 → -y48.toInt + 3 < (n45 : Int) → NW Wv a.toInt c.toInt y48.toInt → En 5 114 none mr_145 (P_145x σ0 Wv a b c p sg) 45 [(0, .ref 0), (1, .int a), (2, .int b), (3, .int c), (4, .int y48)] [] σ0 := by
        intro n45
        induction n45 with
        | zero =>
          intro y48 h52 h53 h54 h55
          first | exact (q_9f1e7068c9 h54 h53).elim | (exfalso; omega)
        | succ n45 ih45 =>
          intro y48 h52 h53 h54 h55
          refine En_Ps 2 (pc' := 48) (lv' := [(0, .ref 0), (1, .int a), (2, .int b), (3, .int c), (4, .int y48)]) (st' := [.int ((Int32.ofInt 3)), .int y48]) rfl ?_
          refine En_icGe _ rfl (by decide : (Int32.ofInt 3).toInt = 3) rfl (fun h56 => ?_) (fun h56 => ?_)
          · refine En_Ps 1 (pc' := 74) (lv' := [(0, .ref 0), (1, .int a), (2, .int b), (3, .int c), (4, .int y48)]) (st' := [.int ((Int32.ofInt 1))]) rfl ?_
            refine En_top (by decide : (Int32.ofInt 1).toInt = 1) (fun z57 h58 => ?_)
            exact En_ret (v := some (Value.int z57)) rfl rfl (retZ rfl rfl (by first | exact q_2b07c97645 h58 | omega) (by first | exact q_d9e7cbb253 h58 | omega)) ⟨hσ0, hF0, z57, rfl, ⟨by first | exact q_ad3eee31ca h58 | omega, by first | exact q_81cf297dc4 h58 | omega, Or.inl ⟨(by omega), rsP_y h29 h46 (by omega) h55 (by omega)⟩⟩⟩
          · refine En_Ps 3 (pc' := 55) (lv' := [(0, .ref 0), (1, .int a), (2, .int b), (3, .int c), (4, .int y48)]) (st' := [.int y48, .int a, .ref 0]) rfl ?_
            refine En_callV rfl rfl rfl rfl rfl rfl rfl rfl tgz_0 (by decide +kernel) rfl (c_171x σ0 hσ0 a y48 (geI rfl (by first | exact q_58e6e51dcc hl_a | omega)) (leI rfl (by first | exact q_da5e9b976f hu_a | omega)) (geI rfl (by first | exact q_58e6e51dcc h52 | omega)) (leI rfl (by first | exact q_f1519f12c0 h56 | omega)) p hp h_p sg h_sg (by first | exact q_a555021d16 hp0 | omega) hP (FXP_fr hP hX hF0 (by decide +kernel)) hK hB hR (by omega)) (by decide) (by decide) (fun v60 σ61 h59 => ?_)
            obtain ⟨h62, h63, z65, rfl, h64⟩ := h59
            have h66 := h64.2.2
            obtain rfl : σ0 = σ61 := Fr_nil h63
            refine En_Ps 1 (pc' := 59) (lv' := [(0, .ref 0), (1, .int a), (2, .int b), (3, .int c), (4, .int y48)]) (st' := [.int c, .int z65]) rfl ?_
            refine En_callS rfl rfl rfl rfl rfl rfl rfl rfl rfl (c_108ax σ0 hσ0 z65 c (geI rfl (by first | exact q_ef1e8e38bf h64.1 | omega)) (leI rfl (by first | exact q_62355f097f h64.2.1 | omega)) (geI rfl (by first | exact q_58e6e51dcc hl_c | omega)) (leI rfl (by first | exact q_5a4d8a7e08 hu_c | omega))) (by decide) (by decide) (fun v68 σ69 h67 => ?_)
            obtain ⟨h70, h71, z73, rfl, h72⟩ := h67
            have h74 := h72.2.2
            obtain rfl : σ0 = σ69 := Fr_nil h71
            have h75 := stl_bit (by omega) (by omega) h29 h66 h74
            refine En_iNe _ rfl rfl (fun h76 => ?_) (fun h76 => ?_)
            · refine En_Ps 1 (pc' := 70) (lv' := [(4, .int ((y48 + Int32.ofInt 1))), (0, .ref 0), (1, .int a), (2, .int b), (3, .int c)]) (st' := []) rfl ?_
              refine En_lv1 (addI rfl (by decide : (Int32.ofInt 1).toInt = 1) (by first | exact q_465ab79ac1 h52 | omega) (by first | exact q_6ae830b01d h56 | omega)) (fun z77 h78 => ?_)
              refine En_Ps 1 (pc' := 45) (lv' := [(4, .int z77), (0, .ref 0), (1, .int a), (2, .int b), (3, .int c)]) (st' := []) rfl ?_
              refine En_lv (lv := [(0, .ref 0), (1, .int a), (2, .int b), (3, .int c), (4, .int z77)]) ⟨rfl, rfl, rfl, rfl, rfl, trivial⟩ ?_
              exact ih45 z77 (by first | exact q_35104ce9d3 h78 h52 | omega) (by first | exact q_84805d5d8e h78 h56 | omega) (by first | exact q_6272716eb4 h78 h54 | omega) (NW_s h55 h75 (by omega) (by omega))
            · refine En_Ps 1 (pc' := 66) (lv' := [(0, .ref 0), (1, .int a), (2, .int b), (3, .int c), (4, .int y48)]) (st' := [.int ((Int32.ofInt 0))]) rfl ?_
              refine En_top (by decide : (Int32.ofInt 0).toInt = 0) (fun z79 h80 => ?_)
              exact En_ret (v := some (Value.int z79)) rfl rfl (retZ rfl rfl (by first | exact q_55451d0a83 h80 | omega) (by first | exact q_87849c3859 h80 | omega)) ⟨hσ0, hF0, z79, rfl, ⟨by first | exact q_097a37c2ae h80 | omega, by first | exact q_e269517bee h80 | omega, Or.inr ⟨(by omega), rsP_n h46 (by omega) h75 (by omega) (by omega) (by omega)⟩⟩⟩
      have := (by decide : (Int32.ofInt 0).toInt = 0)
      refine En_lv (lv := [(0, .ref 0), (1, .int a), (2, .int b), (3, .int c), (4, .int ((Int32.ofInt 0)))]) ⟨rfl, rfl, rfl, rfl, rfl, trivial⟩ ?_
      exact key45 (Int.toNat (3) + 1) ((Int32.ofInt 0)) (by decide) (by decide) (by first | exact toN_lt _ | omega) (NW_0 (by omega))
    · refine En_Ps 3 (pc' := 30) (lv' := [(0, .ref 0), (1, .int a), (2, .int b), (3, .int c)]) (st' := [.int b, .int a, .ref 0]) rfl ?_
      refine En_callV rfl rfl rfl rfl rfl rfl rfl rfl tgz_0 (by decide +kernel) rfl (c_171x σ0 hσ0 a b (geI rfl (by first | exact q_58e6e51dcc hl_a | omega)) (leI rfl (by first | exact q_da5e9b976f hu_a | omega)) (geI rfl (by first | exact q_58e6e51dcc hl_b | omega)) (leI rfl (by first | exact q_a85463bd0d hu_b | omega)) p hp h_p sg h_sg (by first | exact q_a555021d16 hp0 | omega) hP (FXP_fr hP hX hF0 (by decide +kernel)) hK hB hR (by omega)) (by decide) (by decide) (fun v82 σ83 h81 => ?_)
      obtain ⟨h84, h85, z87, rfl, h86⟩ := h81
      have h88 := h86.2.2
      obtain rfl : σ0 = σ83 := Fr_nil h85
      refine En_iNe _ rfl rfl (fun h89 => ?_) (fun h89 => ?_)
      · refine En_Ps 1 (pc' := 41) (lv' := [(0, .ref 0), (1, .int a), (2, .int b), (3, .int c)]) (st' := [.int ((Int32.ofInt 0))]) rfl ?_
        refine En_top (by decide : (Int32.ofInt 0).toInt = 0) (fun z90 h91 => ?_)
        exact En_ret (v := some (Value.int z90)) rfl rfl (retZ rfl rfl (by first | exact q_55451d0a83 h91 | omega) (by first | exact q_87849c3859 h91 | omega)) ⟨hσ0, hF0, z90, rfl, ⟨by first | exact q_097a37c2ae h91 | omega, by first | exact q_e269517bee h91 | omega, Or.inr ⟨(by omega), fun q => by have e6 := (rsP_0 (by omega) (by omega) h29 h37 h45 (by omega)).mp q; have e7 := h37; have e8 := h88; omega⟩⟩⟩
      · refine En_Ps 2 (pc' := 41) (lv' := [(0, .ref 0), (1, .int a), (2, .int b), (3, .int c)]) (st' := [.int ((Int32.ofInt 1))]) rfl ?_
        refine En_top (by decide : (Int32.ofInt 1).toInt = 1) (fun z92 h93 => ?_)
        exact En_ret (v := some (Value.int z92)) rfl rfl (retZ rfl rfl (by first | exact q_2b07c97645 h93 | omega) (by first | exact q_d9e7cbb253 h93 | omega)) ⟨hσ0, hF0, z92, rfl, ⟨by first | exact q_ad3eee31ca h93 | omega, by first | exact q_81cf297dc4 h93 | omega, Or.inl ⟨(by omega), (rsP_0 (by omega) (by omega) h29 h37 h45 (by omega)).mpr (by have e7 := h37; have e8 := h88; omega)⟩⟩⟩
  · refine En_Ps 1 (pc' := 13) (lv' := [(0, .ref 0), (1, .int a), (2, .int b), (3, .int c)]) (st' := [.int ((Int32.ofInt 0))]) rfl ?_
    refine En_top (by decide : (Int32.ofInt 0).toInt = 0) (fun z94 h95 => ?_)
    exact En_ret (v := some (Value.int z94)) rfl rfl (retZ rfl rfl (by first | exact q_55451d0a83 h95 | omega) (by first | exact q_87849c3859 h95 | omega)) ⟨hσ0, hF0, z94, rfl, ⟨by first | exact q_097a37c2ae h95 | omega, by first | exact q_e269517bee h95 | omega, Or.inr ⟨(by omega), rsP_own h27 (by omega)⟩⟩⟩
/-- DoorSchool.left(I)I -/
abbrev P_152x (σ0 : SG) (Wv : Int → Int) (a : Int32) (p : Nat) (sg : Int32) : PO := fun v σ => WT σ ∧ Fr [(20, 2), (21, 0), (22, 0)] σ0 σ ∧ ∃ ret : Int32, v = some (Value.int ret) ∧ -ret.toInt - 2 ≤ 0 ∧ ret.toInt - 16 ≤ 0 ∧ (ret.toInt = lfR Wv a.toInt ∧ (KN σ p Wv (act Wv) ∧ OUT σ0 σ p))
set_option maxRecDepth 10000 in
set_option maxHeartbeats 4000000 in
theorem c_152x {Wv : Int → Int} (σ0 : SG) (hσ0 : WT σ0) (a : Int32) (p : Nat) (hp : TG p = 18) (h_p : (σ0 0)[9]? = some (Value.ref p)) (sg : Int32) (h_sg : (σ0 p)[1]? = some (Value.int sg)) (hp0 : -sg.toInt ≤ 0) (hP : PLA p) (hX : FXP σ0 p) (hK : KN σ0 p Wv (act Wv)) (hB : WFw Wv) (hT : TWN Wv) (hQ : 0 < Wv 7 → RULx σ0 (Wv 0)) (hq : QX Wv) : En 6 141 none mr_152 (P_152x σ0 Wv a p sg) 0 [(0, .ref 0), (1, .int a)] [] σ0 := by
  obtain ⟨hl_sg, hu_sg⟩ := WT_int hσ0 (g := 18) hp (by decide +kernel) (l := (-1)) (u := 4) (by decide +kernel) h_sg
  have hF0 : Fr [(20, 2), (21, 0), (22, 0)] σ0 σ0 := Fr_rfl
  have t1 : Wv (0) = sg.toInt := KN_v hK (Or.inl (by decide)) (by decide) (by decide) (by rw [lcO_lt (by decide) (by decide), Nat.add_zero]) rfl h_sg
  obtain ⟨z3, h2, h4, h5⟩ := WT_peekI hσ0 hp (by decide +kernel : FT 18 3 = (0, 0, 4)) (by decide +kernel)
  have t6 : Wv (2) = z3.toInt := KN_v hK (Or.inl (by decide)) (by decide) (by decide) (by rw [lcO_lt (by decide) (by decide), Nat.add_zero]) rfl h2
  refine En_Ps 2 (pc' := 2) (lv' := [(0, .ref 0), (1, .int a)]) (st' := [.int a, .ref 0]) rfl ?_
  refine En_callV rfl rfl rfl rfl rfl rfl rfl rfl tgz_0 (by decide +kernel) rfl (c_135x σ0 hσ0 a p hp h_p sg h_sg (by first | exact q_a555021d16 hp0 | omega) hP (FXP_fr hP hX hF0 (by decide +kernel)) hK hB hT hQ hq) (by decide) (by decide) (fun v8 σ9 h7 => ?_)
  obtain ⟨h10, h11, z13, rfl, h12⟩ := h7
  have h14 := h12.2.2.2.2.2
  have h15 := Fr_trans hF0 h11 (by decide +kernel)
  have h16 := h14.2.2
  refine En_Ps 3 (pc' := 9) (lv' := [(2, .int z13), (0, .ref 0), (1, .int a)]) (st' := [.int (((Int8.ofInt (-2)).toInt32)), .int z13]) rfl ?_
  refine En_icNe _ rfl (by decide : ((Int8.ofInt (-2)).toInt32).toInt = -2) rfl (fun h17 => ?_) (fun h17 => ?_)
  · have h18 := Imp_m h12.2.2.1 (by first | exact q_416b1dfcd0 h17 h12.1 | omega)
    have h19 := Imp_m h12.2.2.2.2.1 (by first | exact q_416b1dfcd0 h17 h12.1 | omega)
    have h20 := hnR_ge h14.1 (by omega)
    have h21 := h20.1
    have h22 := h20.2
    have h23 := hnN_rg (w := Wv) (d := a.toInt)
    have h24 := pI_rng (s := Wv 0) (by omega) (by omega)
    have h25 : 0 ≤ a.toInt ∧ a.toInt ≤ 3 := by omega
    refine En_Ps 2 (pc' := 17) (lv' := [(2, .int z13), (0, .ref 0), (1, .int a)]) (st' := [.int ((Int32.ofInt (-1))), .int z13]) rfl ?_
    refine En_icNe _ rfl (by decide : (Int32.ofInt (-1)).toInt = -1) rfl (fun h26 => ?_) (fun h26 => ?_)
    · have h27 := Imp_m h12.2.2.2.1 (by first | exact q_c57f8bb8aa h26 h17 h12.1 | omega)
      refine En_Ps 3 (pc' := 34) (lv' := [(2, .int z13), (0, .ref 0), (1, .int a)]) (st' := [.int z13, .int a, .ref 0]) rfl ?_
      refine En_callV rfl rfl rfl rfl rfl rfl rfl rfl tgz_0 (by decide +kernel) rfl (c_127x σ9 h10 a z13 (geI rfl (by first | exact q_ef1e8e38bf h18.1 | omega)) (leI rfl (by first | exact q_87d9217d84 h18.2 | omega)) (geI rfl (by first | exact q_375eb53874 h26 h17 h12.1 | omega)) (leI rfl (by first | exact q_5a5f544404 h12.2.1 | omega)) p hp ((h11 _ _ (inW tgz_0 (by decide +kernel))).trans h_p) sg ((h11 _ _ (inW hp (by decide +kernel))).trans h_sg) (by first | exact q_a555021d16 hp0 | omega) hP (FXP_fr hP hX h15 (by decide +kernel)) h14.2.1 hB hT (by omega) (RULx_sam (hQ (hq (by omega))) (RSAM_fr h15 (by decide +kernel)))) (by decide) (by decide) (fun v29 σ30 h28 => ?_)
      obtain ⟨h31, h32, z34, rfl, h33⟩ := h28
      have h35 := h33.2.2
      have h36 := Fr_trans h15 h32 (by decide +kernel)
      have h37 := OUT_tr h16 h35.2.2
      exact En_ret (v := some (Value.int z34)) rfl rfl rfl ⟨h31, h36, z34, rfl, ⟨by first | exact q_70a249c7f8 h33.1 | omega, by first | exact q_0e990c4066 h33.2.1 | omega, ⟨lfR_1 h20.1 h20.2 (by omega) h35.1, ⟨h35.2.1, h37⟩⟩⟩⟩
    · refine En_Ps 2 (pc' := 22) (lv' := [(2, .int z13), (0, .ref 0), (1, .int a)]) (st' := [.int a, .ref 0]) rfl ?_
      refine En_callV rfl rfl rfl rfl rfl rfl rfl rfl tgz_0 (by decide +kernel) rfl (c_126x σ9 h10 a (geI rfl (by first | exact q_ef1e8e38bf h18.1 | omega)) (leI rfl (by first | exact q_87d9217d84 h18.2 | omega)) p hp ((h11 _ _ (inW tgz_0 (by decide +kernel))).trans h_p) sg ((h11 _ _ (inW hp (by decide +kernel))).trans h_sg) (by first | exact q_a555021d16 hp0 | omega) hP (FXP_fr hP hX h15 (by decide +kernel)) h14.2.1 hB hT (RULx_sam (hQ (hq (by omega))) (RSAM_fr h15 (by decide +kernel))) (by omega)) (by decide) (by decide) (fun v39 σ40 h38 => ?_)
      obtain ⟨h41, h42, z44, rfl, h43⟩ := h38
      have h45 := h43.2.2
      obtain rfl : σ9 = σ40 := Fr_nil h42
      refine En_callS rfl rfl rfl rfl rfl rfl rfl rfl rfl (c_7bx σ9 h10 z44 (geI rfl (by first | exact q_ef1e8e38bf h43.1 | omega)) (leI rfl (by first | exact q_62355f097f h43.2.1 | omega))) (by decide) (by decide) (fun v47 σ48 h46 => ?_)
      obtain ⟨h49, h50, z52, rfl, h51⟩ := h46
      have h53 := h51.2.2
      obtain rfl : σ9 = σ48 := Fr_nil h50
      refine En_Ps 1 (pc' := 37) (lv' := [(2, .int z13), (0, .ref 0), (1, .int a)]) (st' := [.int z52]) rfl ?_
      exact En_ret (v := some (Value.int z52)) rfl rfl rfl ⟨h10, h15, z52, rfl, ⟨by first | exact q_70a249c7f8 h51.1 | omega, by first | exact q_0e990c4066 h51.2.1 | omega, ⟨lfR_0 h20.1 h20.2 (by omega) (fon_of h45 h53), ⟨h14.2.1, h16⟩⟩⟩⟩
  · refine En_Ps 1 (pc' := 14) (lv' := [(2, .int z13), (0, .ref 0), (1, .int a)]) (st' := [.int (((Int8.ofInt (-2)).toInt32))]) rfl ?_
    refine En_top (by decide : ((Int8.ofInt (-2)).toInt32).toInt = -2) (fun z54 h55 => ?_)
    exact En_ret (v := some (Value.int z54)) rfl rfl rfl ⟨h10, h15, z54, rfl, ⟨by first | exact q_f35c5d346c h55 | omega, by first | exact q_bc4375128f h55 | omega, ⟨lfR_n (hnR_lt h14.1 (by omega)) (by omega), ⟨h14.2.1, h16⟩⟩⟩⟩
/-- DoorSchool.owns(II)I -/
abbrev P_161x (σ0 : SG) (Wv : Int → Int) (a : Int32) (b : Int32) (p : Nat) (sg : Int32) : PO := fun v σ => WT σ ∧ Fr [(18, 6), (18, 7)] σ0 σ ∧ ∃ ret : Int32, v = some (Value.int ret) ∧ -ret.toInt - 2 ≤ 0 ∧ ret.toInt - 65535 ≤ 0 ∧ (ret.toInt = owR Wv a.toInt b.toInt ∧ (KN σ p (owW Wv a.toInt b.toInt) (act (owW Wv a.toInt b.toInt)) ∧ OUT σ0 σ p))
set_option maxRecDepth 10000 in
set_option maxHeartbeats 4000000 in
theorem c_161x {Wv : Int → Int} (σ0 : SG) (hσ0 : WT σ0) (a : Int32) (b : Int32) (p : Nat) (hp : TG p = 18) (h_p : (σ0 0)[9]? = some (Value.ref p)) (sg : Int32) (h_sg : (σ0 p)[1]? = some (Value.int sg)) (hp0 : -sg.toInt ≤ 0) (hP : PLA p) (hX : FXP σ0 p) (hK : KN σ0 p Wv (act Wv)) (hB : WFw Wv) (hT : TWN Wv) (hQ : 0 < Wv 7 → RULx σ0 (Wv 0)) (hq : QX Wv) : En 3 63 none mr_161 (P_161x σ0 Wv a b p sg) 0 [(0, .ref 0), (1, .int a), (2, .int b)] [] σ0 := by
  obtain ⟨hl_sg, hu_sg⟩ := WT_int hσ0 (g := 18) hp (by decide +kernel) (l := (-1)) (u := 4) (by decide +kernel) h_sg
  have hF0 : Fr [(18, 6), (18, 7)] σ0 σ0 := Fr_rfl
  have t1 : Wv (0) = sg.toInt := KN_v hK (Or.inl (by decide)) (by decide) (by decide) (by rw [lcO_lt (by decide) (by decide), Nat.add_zero]) rfl h_sg
  refine En_Ps 1 (pc' := 1) (lv' := [(0, .ref 0), (1, .int a), (2, .int b)]) (st' := [.ref 0]) rfl ?_
  refine En_getK (j := 9) h_p rfl rfl rfl tgz_0 (by decide +kernel) ?_
  refine En_Ps 2 (pc' := 6) (lv' := [(0, .ref 0), (1, .int a), (2, .int b)]) (st' := [.int b, .int a, .ref p]) rfl ?_
  obtain ⟨z3, h2, h4, h5⟩ := WT_peekI hσ0 hp (by decide +kernel : FT 18 0 = (0, 0, 1601)) (by decide +kernel)
  have t6 : Wv (7) = z3.toInt := KN_v hK (Or.inl (by decide)) (by decide) (by decide) (by rw [lcO_lt (by decide) (by decide), Nat.add_zero]) rfl h2
  refine En_callV rfl rfl rfl rfl rfl rfl rfl rfl hp (by decide +kernel) rfl (c_50x σ0 hσ0 p hp a b z3 h2 sg h_sg (by first | exact q_a555021d16 hp0 | omega)) (by decide) (by decide) (fun v8 σ9 h7 => ?_)
  obtain ⟨h10, h11, z13, rfl, h12⟩ := h7
  have h14 := h12.2.2.2
  obtain rfl : σ0 = σ9 := Fr_nil h11
  have h15 := h14
  have h16 : pI (Wv 0) = pI (sg.toInt) := by rw [t1]
  refine En_iNe _ rfl rfl (fun h17 => ?_) (fun h17 => ?_)
  · have h18 := Imp_m h12.2.2.1 (by first | exact ⟨q_ad5b726bf8 h12.2.1, q_e3350da514 h17 h12.1⟩ | omega)
    have h19 := hB.2.2.1
    have h20 := hB.1
    have h21 := hB.2.1
    have h22 := hB.2.2.2.1
    refine En_Ps 1 (pc' := 16) (lv' := [(0, .ref 0), (1, .int a), (2, .int b)]) (st' := [.ref 0]) rfl ?_
    refine En_callV rfl rfl rfl rfl rfl rfl rfl rfl tgz_0 (by decide +kernel) rfl (c_160x σ0 hσ0 p hp h_p sg h_sg (by first | exact q_a555021d16 hp0 | omega) hP (FXP_fr hP hX hF0 (by decide +kernel)) (KN_aD (d := 4) hK) hB (hQ (by omega))) (by decide) (by decide) (fun v24 σ25 h23 => ?_)
    obtain ⟨h26, h27, z29, rfl, h28⟩ := h23
    have h30 := h28.2.2
    obtain rfl : σ0 = σ25 := Fr_nil h27
    refine En_Ps 2 (pc' := 21) (lv' := [(3, .int z29), (0, .ref 0), (1, .int a), (2, .int b)]) (st' := [.ref 0]) rfl ?_
    refine En_getK (j := 9) h_p rfl rfl rfl tgz_0 (by decide +kernel) ?_
    refine En_Ps 1 (pc' := 25) (lv' := [(3, .int z29), (0, .ref 0), (1, .int a), (2, .int b)]) (st' := [.int a, .ref p]) rfl ?_
    refine En_put (j := 6) rfl rfl rfl hp (by decide +kernel) rfl (vI (l := 0) (u := 15) (by decide +kernel) rfl (by first | exact q_ef1e8e38bf h18.1 | omega) (by first | exact q_5a5f544404 h18.2.1 | omega)) hσ0 hF0 (by decide +kernel) (fun σ31 h32 h33 h34 h35 => ?_)
    refine En_Ps 1 (pc' := 29) (lv' := [(3, .int z29), (0, .ref 0), (1, .int a), (2, .int b)]) (st' := [.ref 0]) rfl ?_
    refine En_getK (j := 9) ((h35 _ _ (Or.inr (by decide))).trans h_p) rfl rfl rfl tgz_0 (by decide +kernel) ?_
    refine En_Ps 1 (pc' := 33) (lv' := [(3, .int z29), (0, .ref 0), (1, .int a), (2, .int b)]) (st' := [.int b, .ref p]) rfl ?_
    refine En_put (j := 7) rfl rfl rfl hp (by decide +kernel) rfl (vI (l := 0) (u := 15) (by decide +kernel) rfl (by first | exact q_ef1e8e38bf h18.2.2.1 | omega) (by first | exact q_5a5f544404 h18.2.2.2 | omega)) h32 h33 (by decide +kernel) (fun σ36 h37 h38 h39 h40 => ?_)
    refine En_Ps 1 (pc' := 37) (lv' := [(3, .int z29), (0, .ref 0), (1, .int a), (2, .int b)]) (st' := [.int z29]) rfl ?_
    exact En_ret (v := some (Value.int z29)) rfl rfl rfl ⟨h37, h38, z29, rfl, ⟨by first | exact q_70a249c7f8 h28.1 | omega, by first | exact q_ef123ba13c h28.2.1 | omega, ⟨owR_y ⟨by omega, by omega, by omega, by omega, by omega, by omega⟩ h30, (by rw [owW_y (by omega)]; exact KN_two hK (PLA_B hP) h34 h35 h39 h40)⟩⟩⟩
  · refine En_Ps 1 (pc' := 14) (lv' := [(0, .ref 0), (1, .int a), (2, .int b)]) (st' := [.int (((Int8.ofInt (-2)).toInt32))]) rfl ?_
    refine En_top (by decide : ((Int8.ofInt (-2)).toInt32).toInt = -2) (fun z41 h42 => ?_)
    exact En_ret (v := some (Value.int z41)) rfl rfl rfl ⟨hσ0, hF0, z41, rfl, ⟨by first | exact q_f35c5d346c h42 | omega, by first | exact q_7aab8371ca h42 | omega, ⟨owR_n (fun ⟨q1, q2, q3, q4, q5, q6⟩ => by omega) (by omega), (by rw [owW_n (by omega)]; exact ⟨hK, OUT_0⟩)⟩⟩⟩
/-- DoorSchool.rest(I)I -/
abbrev P_163x (σ0 : SG) (Wv : Int → Int) (a : Int32) (p : Nat) (sg : Int32) : PO := fun v σ => WT σ ∧ Fr [] σ0 σ ∧ ∃ ret : Int32, v = some (Value.int ret) ∧ -ret.toInt - 2 ≤ 0 ∧ ret.toInt - 215 ≤ 0 ∧ ret.toInt = rtR Wv a.toInt
set_option maxRecDepth 10000 in
set_option maxHeartbeats 4000000 in
theorem c_163x {Wv : Int → Int} (σ0 : SG) (hσ0 : WT σ0) (a : Int32) (p : Nat) (hp : TG p = 18) (h_p : (σ0 0)[9]? = some (Value.ref p)) (sg : Int32) (h_sg : (σ0 p)[1]? = some (Value.int sg)) (hp0 : -sg.toInt ≤ 0) (hP : PLA p) (hX : FXP σ0 p) (hK : KN σ0 p Wv (act Wv)) (hB : WFw Wv) (hT : TWN Wv) (hQ : 0 < Wv 7 → RULx σ0 (Wv 0)) (hq : QX Wv) : En 6 138 none mr_163 (P_163x σ0 Wv a p sg) 0 [(0, .ref 0), (1, .int a)] [] σ0 := by
  obtain ⟨hl_sg, hu_sg⟩ := WT_int hσ0 (g := 18) hp (by decide +kernel) (l := (-1)) (u := 4) (by decide +kernel) h_sg
  have hF0 : Fr [] σ0 σ0 := Fr_rfl
  have t1 : Wv (0) = sg.toInt := KN_v hK (Or.inl (by decide)) (by decide) (by decide) (by rw [lcO_lt (by decide) (by decide), Nat.add_zero]) rfl h_sg
  obtain ⟨z3, h2, h4, h5⟩ := WT_peekI hσ0 hp (by decide +kernel : FT 18 3 = (0, 0, 4)) (by decide +kernel)
  have t6 : Wv (2) = z3.toInt := KN_v hK (Or.inl (by decide)) (by decide) (by decide) (by rw [lcO_lt (by decide) (by decide), Nat.add_zero]) rfl h2
  have h7 := hB.2.2.1
  have h8 := hB.1
  have h9 := hB.2.1
  have h10 := hB.2.2.2.1
  refine En_Ps 1 (pc' := 1) (lv' := [(0, .ref 0), (1, .int a)]) (st' := [.ref 0]) rfl ?_
  refine En_getK (j := 9) h_p rfl rfl rfl tgz_0 (by decide +kernel) ?_
  refine En_Ps 1 (pc' := 5) (lv' := [(0, .ref 0), (1, .int a)]) (st' := [.int a, .ref p]) rfl ?_
  refine En_callV rfl rfl rfl rfl rfl rfl rfl rfl hp (by decide +kernel) rfl (c_47x σ0 hσ0 p hp a z3 h2) (by decide) (by decide) (fun v12 σ13 h11 => ?_)
  obtain ⟨h14, h15, z17, rfl, h16⟩ := h11
  obtain rfl : σ0 = σ13 := Fr_nil h15
  have h18 := Imp_m h16.2.2.1
  have h19 := Imp_m h16.2.2.2.1
  have h20 := Imp_m h16.2.2.2.2.1
  have h21 := Imp_m h16.2.2.2.2.2
  refine En_iNe _ rfl rfl (fun h22 => ?_) (fun h22 => ?_)
  · have h23 := Imp_m h16.2.2.1 (by first | exact q_e3350da514 h22 h16.1 | omega)
    have h24 := Imp_m h16.2.2.2.1 (by first | exact ⟨q_a555021d16 h23.1, q_ef157b5a0e h23.2⟩ | omega)
    have h25 := Imp_m h16.2.2.2.2.2 (by first | exact ⟨q_ad5b726bf8 h16.2.1, q_e3350da514 h22 h16.1⟩ | omega)
    refine En_Ps 2 (pc' := 16) (lv' := [(2, .int ((Int32.ofInt 0))), (0, .ref 0), (1, .int a)]) (st' := []) rfl ?_
    have key16 : ∀ (n16 : Nat) (y26 : Int32), 0 ≤ y26.toInt → y26.toInt ≤ 3 → -y26.toInt + 3 < (n16 : Int) → NR2 Wv a.toInt y26.toInt 0 → En 6 138 none mr_163 (P_163x σ0 Wv a p sg) 16 [(0, .ref 0), (1, .int a), (2, .int y26)] [] σ0 := by
      intro n16
      induction n16 with
      | zero =>
        intro y26 h30 h31 h32 h33
        first | exact (q_9f1e7068c9 h32 h31).elim | (exfalso; omega)
      | succ n16 ih16 =>
        intro y26 h30 h31 h32 h33
        refine En_Ps 2 (pc' := 18) (lv' := [(0, .ref 0), (1, .int a), (2, .int y26)]) (st' := [.int ((Int32.ofInt 3)), .int y26]) rfl ?_
        refine En_icGe _ rfl (by decide : (Int32.ofInt 3).toInt = 3) rfl (fun h34 => ?_) (fun h34 => ?_)
        · refine En_Ps 1 (pc' := 64) (lv' := [(0, .ref 0), (1, .int a), (2, .int y26)]) (st' := [.int ((Int32.ofInt (-1)))]) rfl ?_
          refine En_top (by decide : (Int32.ofInt (-1)).toInt = -1) (fun z35 h36 => ?_)
          exact En_ret (v := some (Value.int z35)) rfl rfl rfl ⟨hσ0, hF0, z35, rfl, ⟨by first | exact q_e1de8c7867 h36 | omega, by first | exact q_bfbda685e5 h36 | omega, rtR_0 ⟨by omega, by omega⟩ (by omega) (by omega) h33 (by omega) (by omega)⟩⟩
        · refine En_Ps 2 (pc' := 23) (lv' := [(3, .int ((Int32.ofInt 0))), (0, .ref 0), (1, .int a), (2, .int y26)]) (st' := []) rfl ?_
          have key23 : ∀ (n23 : Nat) (y37 : Int32), 0 ≤ y37.toInt → y37.toInt ≤ 16 → -y37.toInt + 16 < (n23 : Int) → NR2 Wv a.toInt y26.toInt y37.toInt → y37.toInt ≤ pI (Wv 0) → En 6 138 none mr_163 (P_163x σ0 Wv a p sg) 23 [(0, .ref 0), (1, .int a), (2, .int y26), (3, .int y37)] [] σ0 := by
            intro n23
            induction n23 with
            | zero =>
              intro y37 h41 h42 h43 h44 h45
              first | exact (q_511f6d33ac h43 h42).elim | (exfalso; omega)
            | succ n23 ih23 =>
              intro y37 h41 h42 h43 h44 h45
              refine En_Ps 2 (pc' := 25) (lv' := [(0, .ref 0), (1, .int a), (2, .int y26), (3, .int y37)]) (st' := [.ref 0, .int y37]) rfl ?_
              refine En_getK (j := 9) h_p rfl rfl rfl tgz_0 (by decide +kernel) ?_
              refine En_callV rfl rfl rfl rfl rfl rfl rfl rfl hp (by decide +kernel) rfl (c_51x σ0 hσ0 p hp sg h_sg (by first | exact q_a555021d16 hp0 | omega)) (by decide) (by decide) (fun v47 σ48 h46 => ?_)
              obtain ⟨h49, h50, z52, rfl, h51⟩ := h46
              have h53 := h51.2.2
              obtain rfl : σ0 = σ48 := Fr_nil h50
              have h54 := h53
              have h55 : pI (Wv 0) = pI (sg.toInt) := by rw [t1]
              refine En_icGe _ rfl rfl rfl (fun h56 => ?_) (fun h56 => ?_)
              · refine En_Ps 1 (pc' := 60) (lv' := [(2, .int ((y26 + Int32.ofInt 1))), (0, .ref 0), (1, .int a), (3, .int y37)]) (st' := []) rfl ?_
                refine En_lv1 (addI rfl (by decide : (Int32.ofInt 1).toInt = 1) (by first | exact q_465ab79ac1 h30 | omega) (by first | exact q_6ae830b01d h34 | omega)) (fun z57 h58 => ?_)
                refine En_Ps 1 (pc' := 16) (lv' := [(2, .int z57), (0, .ref 0), (1, .int a), (3, .int y37)]) (st' := []) rfl ?_
                refine En_lv (lv := [(0, .ref 0), (1, .int a), (2, .int z57)]) ⟨rfl, rfl, rfl, trivial⟩ ?_
                exact ih16 z57 (by first | exact q_35104ce9d3 h58 h30 | omega) (by first | exact q_84805d5d8e h58 h34 | omega) (by first | exact q_6272716eb4 h58 h32 | omega) (NR2_y h44 (by omega) (by omega) 0 rfl)
              · refine En_Ps 4 (pc' := 38) (lv' := [(0, .ref 0), (1, .int a), (2, .int y26), (3, .int y37)]) (st' := [.int y37, .int y26, .int a, .ref 0]) rfl ?_
                refine En_callV rfl rfl rfl rfl rfl rfl rfl rfl tgz_0 (by decide +kernel) rfl (c_145x σ0 hσ0 a y26 y37 (geI rfl (by first | exact q_ef1e8e38bf h23.1 | omega)) (leI rfl (by first | exact q_87d9217d84 h25.2 | omega)) (geI rfl (by first | exact q_58e6e51dcc h30 | omega)) (leI rfl (by first | exact q_f1519f12c0 h34 | omega)) (geI rfl (by first | exact q_58e6e51dcc h41 | omega)) (leI rfl (by first | exact q_c15b485600 h56 h51.2.1 | omega)) p hp h_p sg h_sg (by first | exact q_a555021d16 hp0 | omega) hP (FXP_fr hP hX hF0 (by decide +kernel)) hK hB (hQ (hq (by omega))) (by omega)) (by decide) (by decide) (fun v60 σ61 h59 => ?_)
                obtain ⟨h62, h63, z65, rfl, h64⟩ := h59
                have h66 := h64.2.2
                obtain rfl : σ0 = σ61 := Fr_nil h63
                refine En_iEq _ rfl rfl (fun h67 => ?_) (fun h67 => ?_)
                · refine En_Ps 1 (pc' := 54) (lv' := [(3, .int ((y37 + Int32.ofInt 1))), (0, .ref 0), (1, .int a), (2, .int y26)]) (st' := []) rfl ?_
                  refine En_lv1 (addI rfl (by decide : (Int32.ofInt 1).toInt = 1) (by first | exact q_465ab79ac1 h41 | omega) (by first | exact q_f3f8e04381 h42 | omega)) (fun z68 h69 => ?_)
                  refine En_Ps 1 (pc' := 23) (lv' := [(3, .int z68), (0, .ref 0), (1, .int a), (2, .int y26)]) (st' := []) rfl ?_
                  refine En_lv (lv := [(0, .ref 0), (1, .int a), (2, .int y26), (3, .int z68)]) ⟨rfl, rfl, rfl, rfl, trivial⟩ ?_
                  exact ih23 z68 (by first | exact q_35104ce9d3 h69 h41 | omega) (by first | exact q_34dc714687 h69 h56 h51.2.1 | omega) (by first | exact q_c5d740bdff h69 h43 | omega) (NR2_s h44 (by rcases h66 with e9 | e9; exfalso; omega; exact e9.2) (by omega)) ((by omega))
                · refine En_Ps 3 (pc' := 48) (lv' := [(0, .ref 0), (1, .int a), (2, .int y26), (3, .int y37)]) (st' := [.int (((((Int8.ofInt 100).toInt32)) * y26))]) rfl ?_
                  refine En_top (mulI (by decide : ((Int8.ofInt 100).toInt32).toInt = 100) rfl (Z := 100 * y26.toInt) (by first | exact q_ec6b471118 | omega) (by first | exact q_c2dc73a4d1 h30 | omega) (by first | exact q_4849263c2c h34 | omega)) (fun z70 h71 => ?_)
                  refine En_Ps 2 (pc' := 50) (lv' := [(0, .ref 0), (1, .int a), (2, .int y26), (3, .int y37)]) (st' := [.int ((z70 + y37))]) rfl ?_
                  refine En_top (addI rfl rfl (by first | exact q_5f97f9cf0f h41 h71 h30 | omega) (by first | exact q_969932ee8b h56 h71 h34 h51.2.1 | omega)) (fun z72 h73 => ?_)
                  exact En_ret (v := some (Value.int z72)) rfl rfl rfl ⟨hσ0, hF0, z72, rfl, ⟨by first | exact q_89fb32ea47 h73 h41 h71 h30 | omega, by first | exact q_f0f33d7539 h73 h56 h71 h34 h51.2.1 | omega, rtR_y ⟨by omega, by omega⟩ (by omega) (by omega) (y := y26.toInt) (q := y37.toInt) (by omega) (by omega) (by omega) (by omega) (by rcases h66 with e9 | e9; exact e9.2; exfalso; omega) h44 (by omega)⟩⟩
          have := (by decide : (Int32.ofInt 0).toInt = 0)
          refine En_lv (lv := [(0, .ref 0), (1, .int a), (2, .int y26), (3, .int ((Int32.ofInt 0)))]) ⟨rfl, rfl, rfl, rfl, trivial⟩ ?_
          exact key23 (Int.toNat (16) + 1) ((Int32.ofInt 0)) (by decide) (by decide) (by first | exact toN_lt _ | omega) ((by have e9 := h33; first | (rw [show (Int32.ofInt 0).toInt = 0 from by decide]; exact e9) | exact e9)) ((by have := pI_pos (Wv 0); omega))
    have := (by decide : (Int32.ofInt 0).toInt = 0)
    refine En_lv (lv := [(0, .ref 0), (1, .int a), (2, .int ((Int32.ofInt 0)))]) ⟨rfl, rfl, rfl, trivial⟩ ?_
    exact key16 (Int.toNat (3) + 1) ((Int32.ofInt 0)) (by decide) (by decide) (by first | exact toN_lt _ | omega) (NR2_0 (by omega) rfl)
  · have h74 := Imp_m h16.2.2.2.2.1 (by first | exact ⟨q_c5d285f1b9 h22, q_a555021d16 h16.1⟩ | omega)
    refine En_Ps 1 (pc' := 13) (lv' := [(0, .ref 0), (1, .int a)]) (st' := [.int (((Int8.ofInt (-2)).toInt32))]) rfl ?_
    refine En_top (by decide : ((Int8.ofInt (-2)).toInt32).toInt = -2) (fun z75 h76 => ?_)
    exact En_ret (v := some (Value.int z75)) rfl rfl rfl ⟨hσ0, hF0, z75, rfl, ⟨by first | exact q_f35c5d346c h76 | omega, by first | exact q_45d2ac33e5 h76 | omega, rtR_n (fun ⟨q1, q2⟩ => by omega) (by omega)⟩⟩
/-- DoorSchool.row(III)I -/
abbrev P_165x (σ0 : SG) (a : Int32) (b : Int32) (c : Int32) (p : Nat) (sg : Int32) : PO := fun v σ => WT σ ∧ Fr [(33, 1), (33, 2), (33, 3), (34, 0)] σ0 σ ∧ ∃ ret : Int32, v = some (Value.int ret) ∧ -ret.toInt - 3 ≤ 0 ∧ ret.toInt ≤ 0 ∧ Imp (-a.toInt ≤ 0 ∧ a.toInt - 3 ≤ 0 ∧ -b.toInt ≤ 0 ∧ b.toInt - 3 ≤ 0 ∧ c.toInt - 60 ≤ 0 ∧ -c.toInt ≤ 0) (ret.toInt ≤ 0 ∧ -ret.toInt ≤ 0) ∧ Imp (-a.toInt ≤ 0 ∧ a.toInt - 3 ≤ 0 ∧ -b.toInt ≤ 0 ∧ b.toInt - 3 ≤ 0 ∧ c.toInt - 60 ≤ 0 ∧ c.toInt + 1 ≤ 0) (ret.toInt + 3 ≤ 0 ∧ -ret.toInt - 3 ≤ 0) ∧ Imp (a.toInt + 1 ≤ 0) (ret.toInt + 2 ≤ 0 ∧ -ret.toInt - 2 ≤ 0) ∧ Imp (-a.toInt + 4 ≤ 0) (ret.toInt + 2 ≤ 0 ∧ -ret.toInt - 2 ≤ 0) ∧ Imp (b.toInt + 1 ≤ 0) (ret.toInt + 2 ≤ 0 ∧ -ret.toInt - 2 ≤ 0) ∧ Imp (-b.toInt + 4 ≤ 0) (ret.toInt + 2 ≤ 0 ∧ -ret.toInt - 2 ≤ 0) ∧ Imp (-c.toInt + 61 ≤ 0) (ret.toInt + 2 ≤ 0 ∧ -ret.toInt - 2 ≤ 0)
set_option maxRecDepth 10000 in
set_option maxHeartbeats 4000000 in
theorem c_165x (σ0 : SG) (hσ0 : WT σ0) (a : Int32) (b : Int32) (c : Int32) (p : Nat) (hp : TG p = 18) (h_p : (σ0 0)[9]? = some (Value.ref p)) (sg : Int32) (h_sg : (σ0 p)[1]? = some (Value.int sg)) (hp0 : -sg.toInt ≤ 0) : En 2 46 none mr_165 (P_165x σ0 a b c p sg) 0 [(0, .ref 0), (1, .int a), (2, .int b), (3, .int c)] [] σ0 := by
  obtain ⟨hl_sg, hu_sg⟩ := WT_int hσ0 (g := 18) hp (by decide +kernel) (l := (-1)) (u := 4) (by decide +kernel) h_sg
  have hF0 : Fr [(33, 1), (33, 2), (33, 3), (34, 0)] σ0 σ0 := Fr_rfl
  refine En_Ps 1 (pc' := 1) (lv' := [(0, .ref 0), (1, .int a), (2, .int b), (3, .int c)]) (st' := [.int a]) rfl ?_
  refine En_callS rfl rfl rfl rfl rfl rfl rfl rfl rfl (c_147 σ0 hσ0 a) (by decide) (by decide) (fun v2 σ3 h1 => ?_)
  obtain ⟨h4, h5, z7, rfl, h6⟩ := h1
  have h8 := Fr_trans hF0 h5 (by decide +kernel)
  refine En_iEq _ rfl rfl (fun h9 => ?_) (fun h9 => ?_)
  · refine En_Ps 1 (pc' := 24) (lv' := [(0, .ref 0), (1, .int a), (2, .int b), (3, .int c)]) (st' := [.int (((Int8.ofInt (-2)).toInt32))]) rfl ?_
    refine En_top (by decide : ((Int8.ofInt (-2)).toInt32).toInt = -2) (fun z10 h11 => ?_)
    exact En_ret (v := some (Value.int z10)) rfl rfl rfl ⟨h4, h8, z10, rfl, ⟨by first | exact q_65b477db59 h11 | omega, by first | exact q_bbb39ffa1e h11 | omega, fun _ => by omega, fun _ => by omega, fun hh => by first | exact ⟨q_535bc65891 h11, q_f35c5d346c h11⟩ | omega, fun hh => by first | exact ⟨q_535bc65891 h11, q_f35c5d346c h11⟩ | omega, fun hh => by first | exact ⟨q_535bc65891 h11, q_f35c5d346c h11⟩ | omega, fun hh => by first | exact ⟨q_535bc65891 h11, q_f35c5d346c h11⟩ | omega, fun hh => by first | exact ⟨q_535bc65891 h11, q_f35c5d346c h11⟩ | omega⟩⟩
  · refine En_Ps 1 (pc' := 8) (lv' := [(0, .ref 0), (1, .int a), (2, .int b), (3, .int c)]) (st' := [.int b]) rfl ?_
    refine En_iLt _ rfl rfl (fun h12 => ?_) (fun h12 => ?_)
    · refine En_Ps 1 (pc' := 24) (lv' := [(0, .ref 0), (1, .int a), (2, .int b), (3, .int c)]) (st' := [.int (((Int8.ofInt (-2)).toInt32))]) rfl ?_
      refine En_top (by decide : ((Int8.ofInt (-2)).toInt32).toInt = -2) (fun z13 h14 => ?_)
      exact En_ret (v := some (Value.int z13)) rfl rfl rfl ⟨h4, h8, z13, rfl, ⟨by first | exact q_65b477db59 h14 | omega, by first | exact q_bbb39ffa1e h14 | omega, fun _ => by omega, fun _ => by omega, fun hh => by first | exact ⟨q_535bc65891 h14, q_f35c5d346c h14⟩ | omega, fun hh => by first | exact ⟨q_535bc65891 h14, q_f35c5d346c h14⟩ | omega, fun hh => by first | exact ⟨q_535bc65891 h14, q_f35c5d346c h14⟩ | omega, fun hh => by first | exact ⟨q_535bc65891 h14, q_f35c5d346c h14⟩ | omega, fun hh => by first | exact ⟨q_535bc65891 h14, q_f35c5d346c h14⟩ | omega⟩⟩
    · refine En_Ps 2 (pc' := 13) (lv' := [(0, .ref 0), (1, .int a), (2, .int b), (3, .int c)]) (st' := [.int ((Int32.ofInt 4)), .int b]) rfl ?_
      refine En_icGe _ rfl (by decide : (Int32.ofInt 4).toInt = 4) rfl (fun h15 => ?_) (fun h15 => ?_)
      · refine En_Ps 1 (pc' := 24) (lv' := [(0, .ref 0), (1, .int a), (2, .int b), (3, .int c)]) (st' := [.int (((Int8.ofInt (-2)).toInt32))]) rfl ?_
        refine En_top (by decide : ((Int8.ofInt (-2)).toInt32).toInt = -2) (fun z16 h17 => ?_)
        exact En_ret (v := some (Value.int z16)) rfl rfl rfl ⟨h4, h8, z16, rfl, ⟨by first | exact q_65b477db59 h17 | omega, by first | exact q_bbb39ffa1e h17 | omega, fun _ => by omega, fun _ => by omega, fun hh => by first | exact ⟨q_535bc65891 h17, q_f35c5d346c h17⟩ | omega, fun hh => by first | exact ⟨q_535bc65891 h17, q_f35c5d346c h17⟩ | omega, fun hh => by first | exact ⟨q_535bc65891 h17, q_f35c5d346c h17⟩ | omega, fun hh => by first | exact ⟨q_535bc65891 h17, q_f35c5d346c h17⟩ | omega, fun hh => by first | exact ⟨q_535bc65891 h17, q_f35c5d346c h17⟩ | omega⟩⟩
      · refine En_Ps 2 (pc' := 19) (lv' := [(0, .ref 0), (1, .int a), (2, .int b), (3, .int c)]) (st' := [.int (((Int8.ofInt 60).toInt32)), .int c]) rfl ?_
        refine En_icLe _ rfl (by decide : ((Int8.ofInt 60).toInt32).toInt = 60) rfl (fun h18 => ?_) (fun h18 => ?_)
        · refine En_Ps 1 (pc' := 26) (lv' := [(0, .ref 0), (1, .int a), (2, .int b), (3, .int c)]) (st' := [.int c]) rfl ?_
          refine En_iGe _ rfl rfl (fun h19 => ?_) (fun h19 => ?_)
          · refine En_Ps 1 (pc' := 33) (lv' := [(0, .ref 0), (1, .int a), (2, .int b), (3, .int c)]) (st' := [.ref 0]) rfl ?_
            refine En_getU (j := 6) (u := 150) (g' := 32) (q := 0) rfl rfl rfl tgz_0 (by decide +kernel) h4 (by decide +kernel) un_32_150 (fun h20 => ?_)
            refine En_Ps 1 (pc' := 37) (lv' := [(0, .ref 0), (1, .int a), (2, .int b), (3, .int c)]) (st' := [.int a, .ref 150]) rfl ?_
            refine En_aald (g' := 33) (u := 0) rfl rfl tgz_150 (by decide +kernel) h4 (by (first | exact q_32028d2b65 h6.2.2.1 h6.2.1 h9 h6.1 | omega)) (lnI (by decide +kernel : LN _ = 4) (by (first | exact q_87da96c949 h6.2.2.1 h6.2.1 h9 h6.1 | omega))) (FTsgl (by decide +kernel)) (fun a23 h22 ha23 => ?_)
            refine En_Ps 2 (pc' := 40) (lv' := [(0, .ref 0), (1, .int a), (2, .int b), (3, .int c)]) (st' := [.int c, .int b, .ref a23]) rfl ?_
            refine En_callV rfl rfl rfl rfl rfl rfl rfl rfl ha23 (by decide +kernel) rfl (c_84 σ3 h4 a23 ha23 b c (geI rfl (by first | exact q_58e6e51dcc h12 | omega)) (leI rfl (by first | exact q_795fc9ee7e h15 | omega)) (geI rfl (by first | exact q_58e6e51dcc h19 | omega)) (leI rfl (by first | exact q_d3912a5755 h18 | omega))) (by decide) (by decide) (fun v25 σ26 h24 => ?_)
            obtain ⟨h27, h28, rfl, h29⟩ := h24
            have h30 := Fr_trans h8 h28 (by decide +kernel)
            refine En_Ps 1 (pc' := 44) (lv' := [(0, .ref 0), (1, .int a), (2, .int b), (3, .int c)]) (st' := [.int ((Int32.ofInt 0))]) rfl ?_
            refine En_top (by decide : (Int32.ofInt 0).toInt = 0) (fun z31 h32 => ?_)
            exact En_ret (v := some (Value.int z31)) rfl rfl rfl ⟨h27, h30, z31, rfl, ⟨by first | exact q_fe9485f41f h32 | omega, by first | exact q_c5d285f1b9 h32 | omega, fun hh => by first | exact ⟨q_c5d285f1b9 h32, q_097a37c2ae h32⟩ | omega, fun _ => by omega, fun _ => by omega, fun _ => by omega, fun _ => by omega, fun _ => by omega, fun _ => by omega⟩⟩
          · refine En_Ps 1 (pc' := 31) (lv' := [(0, .ref 0), (1, .int a), (2, .int b), (3, .int c)]) (st' := [.int (((Int8.ofInt (-3)).toInt32))]) rfl ?_
            refine En_top (by decide : ((Int8.ofInt (-3)).toInt32).toInt = -3) (fun z33 h34 => ?_)
            exact En_ret (v := some (Value.int z33)) rfl rfl rfl ⟨h4, h8, z33, rfl, ⟨by first | exact q_3ed35d91e6 h34 | omega, by first | exact q_16f03d2a2f h34 | omega, fun _ => by omega, fun hh => by first | exact ⟨q_3a751255ef h34, q_3ed35d91e6 h34⟩ | omega, fun _ => by omega, fun _ => by omega, fun _ => by omega, fun _ => by omega, fun _ => by omega⟩⟩
        · refine En_Ps 1 (pc' := 24) (lv' := [(0, .ref 0), (1, .int a), (2, .int b), (3, .int c)]) (st' := [.int (((Int8.ofInt (-2)).toInt32))]) rfl ?_
          refine En_top (by decide : ((Int8.ofInt (-2)).toInt32).toInt = -2) (fun z35 h36 => ?_)
          exact En_ret (v := some (Value.int z35)) rfl rfl rfl ⟨h4, h8, z35, rfl, ⟨by first | exact q_65b477db59 h36 | omega, by first | exact q_bbb39ffa1e h36 | omega, fun _ => by omega, fun _ => by omega, fun hh => by first | exact ⟨q_535bc65891 h36, q_f35c5d346c h36⟩ | omega, fun hh => by first | exact ⟨q_535bc65891 h36, q_f35c5d346c h36⟩ | omega, fun hh => by first | exact ⟨q_535bc65891 h36, q_f35c5d346c h36⟩ | omega, fun hh => by first | exact ⟨q_535bc65891 h36, q_f35c5d346c h36⟩ | omega, fun hh => by first | exact ⟨q_535bc65891 h36, q_f35c5d346c h36⟩ | omega⟩⟩
/-- DoorSchool.school()I -/
abbrev P_169x (σ0 : SG) (By : Int → Int) (Nb : Int) (p : Nat) (sg : Int32) (p2 : Nat) : PO := fun v σ => WT σ ∧ Fr [(0, 9), (0, 10), (1, 1), (3, 1), (3, 2), (3, 3), (3, 4), (3, 5), (3, 6), (4, 0), (4, 1), (5, 0), (6, 0), (7, 0), (18, 0), (18, 1), (18, 2), (18, 3), (18, 6), (18, 7), (18, 8), (18, 11), (18, 14), (20, 2), (21, 0), (22, 0), (23, 0), (24, 0), (25, 0), (26, 0), (28, 1), (28, 2), (28, 3)] σ0 σ ∧ ∃ m1 : Int32, (σ 1)[1]? = some (Value.int m1) ∧ ∃ ret : Int32, v = some (Value.int ret) ∧ OUT σ0 σ p2 ∧ -ret.toInt - 4 ≤ 0 ∧ ret.toInt - 1601 ≤ 0 ∧ -m1.toInt ≤ 0 ∧ m1.toInt ≤ 0 ∧ m1.toInt ≤ 0 ∧ -m1.toInt ≤ 0 ∧ ((INVc σ ∧ SCC By Nb σ ret.toInt) ∧ SPL By Nb σ p p2 ∧ RSC By Nb σ0 σ p2)
set_option maxRecDepth 10000 in
set_option maxHeartbeats 4000000 in
theorem c_169x {By : Int → Int} {Nb : Int} (σ0 : SG) (hσ0 : WT σ0) (p : Nat) (hp : TG p = 18) (h_p : (σ0 0)[9]? = some (Value.ref p)) (sg : Int32) (h_sg : (σ0 p)[1]? = some (Value.int sg)) (p2 : Nat) (hp2 : TG p2 = 18) (h_p2 : (σ0 0)[10]? = some (Value.ref p2)) (hp0 : -sg.toInt ≤ 0) (hne : p ≠ p2) (hB : TPc By Nb σ0) (hP2 : PLA p2) (hX2 : FXP σ0 p2) : En 8 181 none mr_169 (P_169x σ0 By Nb p sg p2) 0 [(0, .ref 0)] [] σ0 := by
  obtain ⟨hl_sg, hu_sg⟩ := WT_int hσ0 (g := 18) hp (by decide +kernel) (l := (-1)) (u := 4) (by decide +kernel) h_sg
  have hF0 : Fr [(0, 9), (0, 10), (1, 1), (3, 1), (3, 2), (3, 3), (3, 4), (3, 5), (3, 6), (4, 0), (4, 1), (5, 0), (6, 0), (7, 0), (18, 0), (18, 1), (18, 2), (18, 3), (18, 6), (18, 7), (18, 8), (18, 11), (18, 14), (20, 2), (21, 0), (22, 0), (23, 0), (24, 0), (25, 0), (26, 0), (28, 1), (28, 2), (28, 3)] σ0 σ0 := Fr_rfl
  refine En_Ps 1 (pc' := 1) (lv' := [(0, .ref 0)]) (st' := [.ref 0]) rfl ?_
  refine En_getU (j := 1) (u := 3) (g' := 3) (q := 0) rfl rfl rfl tgz_0 (by decide +kernel) hσ0 (by decide +kernel) un_3_3 (fun h1 => ?_)
  refine En_Ps 1 (pc' := 5) (lv' := [(0, .ref 0)]) (st' := [.ref 0, .ref 3]) rfl ?_
  refine En_getK (j := 10) h_p2 rfl rfl rfl tgz_0 (by decide +kernel) ?_
  refine En_callV rfl rfl rfl rfl rfl rfl rfl rfl tgz_3 (by decide +kernel) rfl (c_60x σ0 hσ0 p2 hp2 hB hP2 hX2) (by decide) (by decide) (fun v4 σ5 h3 => ?_)
  obtain ⟨h6, h7, z9, h10, z11, h12, rfl, h8⟩ := h3
  have h13 := h8.2.2.2.2.2.2
  have h14 := Fr_trans hF0 h7 (by decide +kernel)
  have h15 := RSAM_tr (RSAM_0 (σ := σ0)) (RSAM_fr h7 (by decide +kernel))
  have o16 : OUT σ0 σ5 p2 := OUT_tr OUT_0 h8.1
  obtain ⟨z18, h17, h19, h20⟩ := WT_peekI h6 hp2 (by decide +kernel : FT 18 0 = (0, 0, 1601)) (by decide +kernel)
  obtain ⟨z22, h21, h23, h24⟩ := WT_peekI h6 tgz_3 (by decide +kernel : FT 3 6 = (0, (-1), 1600)) (by decide +kernel)
  have h25 := CT_k h13.2.1 h10
  have h26 : (fRead By Nb 1601 S00).1 = 0 → (fRead By Nb 1601 S00).2.2.2 7 = z18.toInt := fun zz => KN_v (h13.2.2 zz) (Or.inl (by decide)) (by decide) (by decide) (by rw [lcO_lt (by decide) (by decide), Nat.add_zero]) (by decide) h17
  have h27 : (fRead By Nb 1601 S00).2.1 = z22.toInt := h13.2.1.2.2.1.symm.trans (ci_at (j := 6) h21 rfl)
  have h28 : ((fRead By Nb 1601 S00).1 = 0 → KN σ5 p2 (fRead By Nb 1601 S00).2.2.2 (act (fRead By Nb 1601 S00).2.2.2)) := h13.2.2
  refine En_Ps 1 (pc' := 12) (lv' := [(0, .ref 0)]) (st' := [.ref 0]) rfl ?_
  refine En_getU (j := 0) (u := 1) (g' := 1) (q := 0) rfl rfl rfl tgz_0 (by decide +kernel) h6 (by decide +kernel) un_1_1 (fun h29 => ?_)
  refine En_Ps 1 (pc' := 16) (lv' := [(0, .ref 0)]) (st' := [.int ((Int32.ofInt 0)), .ref 1]) rfl ?_
  refine En_put (j := 1) rfl rfl rfl tgz_1 (by decide +kernel) rfl (vI (l := 0) (u := 1600) (by decide +kernel) (by decide : (Int32.ofInt 0).toInt = 0) (by decide) (by decide)) h6 h14 (by decide +kernel) (fun σ31 h32 h33 h34 h35 => ?_)
  have h36 : ((fRead By Nb 1601 S00).1 = 0 → KN σ31 p2 (fRead By Nb 1601 S00).2.2.2 (act (fRead By Nb 1601 S00).2.2.2)) := fun zz => KN_ne (h28 zz) h35 (by have := hP2; unfold PLA at this; omega)
  have h37 := RSAM_ne h15 h35 (by decide)
  have o38 : OUT σ0 σ31 p2 := OUT_pn o16 h35 tgz_1 (by decide)
  refine En_Ps 1 (pc' := 20) (lv' := [(0, .ref 0)]) (st' := [.ref 0]) rfl ?_
  refine En_getK (j := 1) ((h35 _ _ (Or.inl (neTG tgz_0 tgz_1 (by decide)))).trans ((h7 _ _ (inW tgz_0 (by decide +kernel))).trans h1)) rfl rfl rfl tgz_0 (by decide +kernel) ?_
  refine En_getK (j := 5) ((h35 _ _ (Or.inr (by decide))).trans h10) rfl rfl rfl tgz_3 (by decide +kernel) ?_
  refine En_iEq _ rfl rfl (fun h39 => ?_) (fun h39 => ?_)
  · refine En_Ps 1 (pc' := 33) (lv' := [(0, .ref 0)]) (st' := [.ref 0]) rfl ?_
    refine En_getK (j := 9) ((h35 _ _ (Or.inr (by decide))).trans ((h7 _ _ (inW tgz_0 (by decide +kernel))).trans h_p)) rfl rfl rfl tgz_0 (by decide +kernel) ?_
    refine En_Ps 3 (pc' := 39) (lv' := [(1, .ref p), (0, .ref 0)]) (st' := [.ref 0, .ref 0]) rfl ?_
    refine En_getK (j := 10) ((h35 _ _ (Or.inr (by decide))).trans ((h7 _ _ (inW tgz_0 (by decide +kernel))).trans h_p2)) rfl rfl rfl tgz_0 (by decide +kernel) ?_
    refine En_put (j := 9) rfl rfl rfl tgz_0 (by decide +kernel) rfl (vR (g' := 18) (u := 0) (by decide +kernel) hp2) h32 h33 (by decide +kernel) (fun σ40 h41 h42 h43 h44 => ?_)
    have h45 : ((fRead By Nb 1601 S00).1 = 0 → KN σ40 p2 (fRead By Nb 1601 S00).2.2.2 (act (fRead By Nb 1601 S00).2.2.2)) := fun zz => KN_ne (h36 zz) h44 (by have := hP2; unfold PLA at this; omega)
    have h46 := RSAM_ne h37 h44 (by decide)
    have o47 : OUT σ0 σ40 p2 := OUT_pn o38 h44 tgz_0 (by decide)
    refine En_Ps 2 (pc' := 47) (lv' := [(1, .ref p), (0, .ref 0)]) (st' := [.ref p, .ref 0]) rfl ?_
    refine En_put (j := 10) rfl rfl rfl tgz_0 (by decide +kernel) rfl (vR (g' := 18) (u := 0) (by decide +kernel) hp) h41 h42 (by decide +kernel) (fun σ48 h49 h50 h51 h52 => ?_)
    have h53 : ((fRead By Nb 1601 S00).1 = 0 → KN σ48 p2 (fRead By Nb 1601 S00).2.2.2 (act (fRead By Nb 1601 S00).2.2.2)) := fun zz => KN_ne (h45 zz) h52 (by have := hP2; unfold PLA at this; omega)
    have h54 := RSAM_ne h46 h52 (by decide)
    have o55 : OUT σ0 σ48 p2 := OUT_pn o47 h52 tgz_0 (by decide)
    refine En_Ps 1 (pc' := 51) (lv' := [(1, .ref p), (0, .ref 0)]) (st' := [.ref 0]) rfl ?_
    refine En_getU (j := 2) (u := 4) (g' := 4) (q := 0) rfl rfl rfl tgz_0 (by decide +kernel) h49 (by decide +kernel) un_4_4 (fun h56 => ?_)
    refine En_Ps 1 (pc' := 55) (lv' := [(1, .ref p), (0, .ref 0)]) (st' := [.ref 0, .ref 4]) rfl ?_
    refine En_getK (j := 9) ((h52 _ _ (Or.inr (by decide))).trans h43) rfl rfl rfl tgz_0 (by decide +kernel) ?_
    refine En_getK (j := 1) ((h52 _ _ (Or.inr (by decide))).trans ((h44 _ _ (Or.inr (by decide))).trans ((h35 _ _ (Or.inl (neTG hp2 tgz_1 (by decide)))).trans h12))) rfl rfl rfl hp2 (by decide +kernel) ?_
    refine En_callV rfl rfl rfl rfl rfl rfl rfl rfl tgz_4 (by decide +kernel) rfl (c_82x σ48 h49 z11 (geI rfl (by first | exact q_0e0c9aeb77 h8.2.2.2.2.2.1 h39 | omega)) (leI rfl (by first | exact q_3b0dd79e8e h8.2.2.2.2.1 | omega))) (by decide) (by decide) (fun v59 σ60 h58 => ?_)
    obtain ⟨h61, h62, rfl, h63⟩ := h58
    have h64 := h63
    have h65 := Fr_trans h50 h62 (by decide +kernel)
    have h66 : ((fRead By Nb 1601 S00).1 = 0 → KN σ60 p2 (fRead By Nb 1601 S00).2.2.2 (act (fRead By Nb 1601 S00).2.2.2)) := fun zz => KN_fr hP2 (h53 zz) h62 (by decide +kernel)
    have o67 : OUT σ0 σ60 p2 := OUT_fr o55 h62 (by decide +kernel)
    refine En_Ps 1 (pc' := 65) (lv' := [(1, .ref p), (0, .ref 0)]) (st' := [.ref 0]) rfl ?_
    refine En_getK (j := 9) ((h62 _ _ (inW tgz_0 (by decide +kernel))).trans ((h52 _ _ (Or.inr (by decide))).trans h43)) rfl rfl rfl tgz_0 (by decide +kernel) ?_
    refine En_getK (j := 0) ((h62 _ _ (inW hp2 (by decide +kernel))).trans ((h52 _ _ (Or.inr (by decide))).trans ((h44 _ _ (Or.inr (by decide))).trans ((h35 _ _ (Or.inr (by decide))).trans h17)))) rfl rfl rfl hp2 (by decide +kernel) ?_
    have := (by decide : (Int32.ofInt 0).toInt = 0)
    exact En_ret (v := some (Value.int z18)) rfl rfl rfl ⟨h61, h65, (Int32.ofInt 0), ((h62 _ _ (inW tgz_1 (by decide +kernel))).trans ((h52 _ _ (Or.inr (by decide))).trans ((h44 _ _ (Or.inr (by decide))).trans h34))), z18, rfl, ⟨o67, by first | exact q_3b4a8cfc23 h19 | omega, by first | exact q_04500c548f h20 | omega, by decide, by decide, by decide, by decide, ⟨⟨⟨p2, p, z11, hp2, hp, ((h62 _ _ (inW tgz_0 (by decide +kernel))).trans ((h52 _ _ (Or.inr (by decide))).trans h43)), ((h62 _ _ (inW tgz_0 (by decide +kernel))).trans h51), (fun e => hne e.symm), ((h62 _ _ (inW hp2 (by decide +kernel))).trans ((h52 _ _ (Or.inr (by decide))).trans ((h44 _ _ (Or.inr (by decide))).trans ((h35 _ _ (Or.inl (neTG hp2 tgz_1 (by decide)))).trans h12)))), (by (first | exact q_0e0c9aeb77 h8.2.2.2.2.2.1 h39 | omega))⟩, ⟨(ci_at (j := 5) ((h62 _ _ (inW tgz_3 (by decide +kernel))).trans ((h52 _ _ (Or.inr (by decide))).trans ((h44 _ _ (Or.inr (by decide))).trans ((h35 _ _ (Or.inr (by decide))).trans h10)))) rfl).trans (by (first | exact q_a8fb2024c1 h25 | omega)), (ci_at (j := 6) ((h62 _ _ (inW tgz_3 (by decide +kernel))).trans ((h52 _ _ (Or.inr (by decide))).trans ((h44 _ _ (Or.inr (by decide))).trans ((h35 _ _ (Or.inr (by decide))).trans h21)))) rfl).trans (by (first | exact q_a8fb2024c1 h27 | omega)), fun zz => by (first | exact q_9114e958d1 h19 zz h25 h39 | omega), fun zz => by (first | exact q_25e70accc1 h26 zz | omega)⟩⟩, ⟨fun zz => absurd (by (first | exact q_ca23768860 h25 h39 | omega)) zz, fun zz => ⟨((h62 _ _ (inW tgz_0 (by decide +kernel))).trans ((h52 _ _ (Or.inr (by decide))).trans h43)), h66 zz⟩⟩, ⟨fun _ => (RULx_eq h64 (ci_at (j := 1) ((h62 _ _ (inW hp2 (by decide +kernel))).trans ((h52 _ _ (Or.inr (by decide))).trans ((h44 _ _ (Or.inr (by decide))).trans ((h35 _ _ (Or.inl (neTG hp2 tgz_1 (by decide)))).trans h12)))) rfl)), fun zz => absurd (by (first | exact q_ca23768860 h25 h39 | omega)) zz⟩⟩⟩⟩
  · refine En_Ps 1 (pc' := 31) (lv' := [(0, .ref 0)]) (st' := [.int (((Int8.ofInt (-4)).toInt32))]) rfl ?_
    have := (by decide : (Int32.ofInt 0).toInt = 0)
    refine En_top (by decide : ((Int8.ofInt (-4)).toInt32).toInt = -4) (fun z68 h69 => ?_)
    exact En_ret (v := some (Value.int z68)) rfl rfl rfl ⟨h32, h33, (Int32.ofInt 0), h34, z68, rfl, ⟨o38, by first | exact q_3a4f36f5dd h69 | omega, by first | exact q_ebabfa474d h69 | omega, by decide, by decide, by decide, by decide, ⟨⟨⟨p, p2, sg, hp, hp2, ((h35 _ _ (Or.inr (by decide))).trans ((h7 _ _ (inW tgz_0 (by decide +kernel))).trans h_p)), ((h35 _ _ (Or.inr (by decide))).trans ((h7 _ _ (inW tgz_0 (by decide +kernel))).trans h_p2)), hne, ((h35 _ _ (Or.inl (neTG hp tgz_1 (by decide)))).trans (((h13.1 p hp hne)).trans h_sg)), (by (first | exact q_ef1e8e38bf hp0 | omega))⟩, ⟨(ci_at (j := 5) ((h35 _ _ (Or.inr (by decide))).trans h10) rfl).trans (by (first | exact q_a8fb2024c1 h25 | omega)), (ci_at (j := 6) ((h35 _ _ (Or.inr (by decide))).trans h21) rfl).trans (by (first | exact q_a8fb2024c1 h27 | omega)), fun zz => by (first | exact q_df3bae2a4c h69 | omega), fun zz => by (first | exact q_454ea91654 h39 h8.2.1 h25 zz | omega)⟩⟩, ⟨fun _ => ((h35 _ _ (Or.inr (by decide))).trans ((h7 _ _ (inW tgz_0 (by decide +kernel))).trans h_p)), fun zz => absurd zz (by (first | exact q_ae2d14d533 h39 h8.2.1 h25 zz | omega))⟩, ⟨fun zz => absurd zz (by (first | exact q_ae2d14d533 h39 h8.2.1 h25 zz | omega)), fun _ => h37⟩⟩⟩⟩
/-- DoorSchool.teach(III)I -/
abbrev P_174x (σ0 : SG) (Wv : Int → Int) (a : Int32) (b : Int32) (c : Int32) (p : Nat) (sg : Int32) : PO := fun v σ => WT σ ∧ Fr [(18, 14), (20, 2), (21, 0), (22, 0), (27, 0)] σ0 σ ∧ ∃ ret : Int32, v = some (Value.int ret) ∧ -ret.toInt - 5 ≤ 0 ∧ ret.toInt - 12 ≤ 0 ∧ (ret.toInt = tcR Wv a.toInt b.toInt c.toInt ∧ KN σ p (tcW Wv a.toInt b.toInt c.toInt) (act (tcW Wv a.toInt b.toInt c.toInt)) ∧ OUT σ0 σ p)
set_option maxRecDepth 10000 in
set_option maxHeartbeats 4000000 in
theorem c_174x {Wv : Int → Int} (σ0 : SG) (hσ0 : WT σ0) (a : Int32) (b : Int32) (c : Int32) (p : Nat) (hp : TG p = 18) (h_p : (σ0 0)[9]? = some (Value.ref p)) (sg : Int32) (h_sg : (σ0 p)[1]? = some (Value.int sg)) (hp0 : -sg.toInt ≤ 0) (hP : PLA p) (hX : FXP σ0 p) (hK : KN σ0 p Wv (act Wv)) : En 3 64 none mr_174 (P_174x σ0 Wv a b c p sg) 0 [(0, .ref 0), (1, .int a), (2, .int b), (3, .int c)] [] σ0 := by
  obtain ⟨hl_sg, hu_sg⟩ := WT_int hσ0 (g := 18) hp (by decide +kernel) (l := (-1)) (u := 4) (by decide +kernel) h_sg
  have hF0 : Fr [(18, 14), (20, 2), (21, 0), (22, 0), (27, 0)] σ0 σ0 := Fr_rfl
  have t1 : Wv (0) = sg.toInt := KN_v hK (Or.inl (by decide)) (by decide) (by decide) (by rw [lcO_lt (by decide) (by decide), Nat.add_zero]) rfl h_sg
  refine En_Ps 4 (pc' := 4) (lv' := [(0, .ref 0), (1, .int a), (2, .int b), (3, .int c)]) (st' := [.int c, .int b, .int a, .ref 0]) rfl ?_
  refine En_callV rfl rfl rfl rfl rfl rfl rfl rfl tgz_0 (by decide +kernel) rfl (c_144x σ0 hσ0 a b c p hp h_p sg h_sg (by first | exact q_a555021d16 hp0 | omega) hP (FXP_fr hP hX hF0 (by decide +kernel)) hK) (by decide) (by decide) (fun v3 σ4 h2 => ?_)
  obtain ⟨h5, h6, z8, rfl, h7⟩ := h2
  have h9 := h7.2.2.2.2
  obtain rfl : σ0 = σ4 := Fr_nil h6
  have h10 := h9
  refine En_iNe _ rfl rfl (fun h11 => ?_) (fun h11 => ?_)
  · have h12 := Imp_m h7.2.2.2.1 (by first | exact ⟨q_ad5b726bf8 h7.2.1, q_e3350da514 h11 h7.1⟩ | omega)
    have h13 : okL Wv a.toInt b.toInt c.toInt := by rcases h10 with q | q; exact q.2; exfalso; (first | exact q_f9c909ba77 h11 q.1 | omega)
    have h14 := h13.1
    have h15 := h13.2.1
    refine En_Ps 1 (pc' := 14) (lv' := [(0, .ref 0), (1, .int a), (2, .int b), (3, .int c)]) (st' := [.ref 0]) rfl ?_
    refine En_getK (j := 9) h_p rfl rfl rfl tgz_0 (by decide +kernel) ?_
    refine En_getR (j := 4) (g' := 19) (u := 0) rfl rfl rfl hp (by decide +kernel) hσ0 (by decide +kernel) (fun a17 h16 ha17 => ?_)
    have t18 : a17 = p + 1 := ref_uniq h16 (FXP_fr hP hX hF0 (by decide +kernel)).1
    obtain ⟨z20, h19, h21, h22⟩ := WT_peekI hσ0 hp (by decide +kernel : FT 18 3 = (0, 0, 4)) (by decide +kernel)
    have t23 : Wv (2) = z20.toInt := KN_v hK (Or.inl (by decide)) (by decide) (by decide) (by rw [lcO_lt (by decide) (by decide), Nat.add_zero]) rfl h19
    refine En_Ps 1 (pc' := 21) (lv' := [(0, .ref 0), (1, .int a), (2, .int b), (3, .int c)]) (st' := [.int a, .ref a17]) rfl ?_
    refine En_aald (g' := 28) (u := 0) rfl rfl ha17 (by decide +kernel) hσ0 (by first | exact q_ef1e8e38bf h12.1 | omega) (lnI (by decide +kernel : LN _ = 4) (by first | exact q_7fdbd2bd6a h12.2.1 | omega)) (FTsgl (by decide +kernel)) (fun a25 h24 ha25 => ?_)
    have t26 : a25 = p + 10 + 4 * (a.toInt).toNat := DRe (d := a.toInt) (FXP_fr hP hX hF0 (by decide +kernel)) t18 h24 (by (first | exact q_58e6e51dcc h14 | omega)) (by (first | exact q_8d5ddb67ca h12.2.1 | omega))
    have t27 := lc_d (d := a.toInt) (by (first | exact q_58e6e51dcc h14 | omega)) (by (first | exact q_8d5ddb67ca h12.2.1 | omega))
    refine En_getR (j := 0) (g' := 20) (u := 0) rfl rfl rfl ha25 (by decide +kernel) hσ0 (by decide +kernel) (fun a29 h28 ha29 => ?_)
    have t30 : a29 = p + 11 + 4 * (a.toInt).toNat := DLc (d := a.toInt) (FXP_fr hP hX hF0 (by decide +kernel)) t26 h28 (by (first | exact q_58e6e51dcc h14 | omega)) (by (first | exact q_8d5ddb67ca h12.2.1 | omega))
    refine En_Ps 2 (pc' := 29) (lv' := [(4, .ref a29), (0, .ref 0), (1, .int a), (2, .int b), (3, .int c)]) (st' := [.ref a29]) rfl ?_
    refine En_getI (j := 2) (l := 0) (u := 13) rfl rfl rfl ha29 (by decide +kernel) hσ0 (by decide +kernel) (fun z32 h31 h33 h34 => ?_)
    have t35 : Wv (12 + 4 * (a.toInt)) = z32.toInt := KN_v hK (Or.inr (Or.inl ⟨by (first | exact q_6e29a91d15 h14 | omega), by (first | exact q_5b707eb5f4 h12.2.1 | omega), by omega⟩)) (by (first | exact q_8a0e8d37df h14 | omega)) (by (first | exact q_0eebe16c6b h12.2.1 | omega)) (by omega) (by (first | exact q_c4326de684 t27.2.2.2.2.2.2.1 | omega)) h31
    refine En_Ps 1 (pc' := 34) (lv' := [(4, .ref a29), (0, .ref 0), (1, .int a), (2, .int b), (3, .int c)]) (st' := [.int (((Int8.ofInt 12).toInt32)), .int z32]) rfl ?_
    refine En_icLt _ rfl (by decide : ((Int8.ofInt 12).toInt32).toInt = 12) rfl (fun h36 => ?_) (fun h36 => ?_)
    · refine En_Ps 1 (pc' := 41) (lv' := [(4, .ref a29), (0, .ref 0), (1, .int a), (2, .int b), (3, .int c)]) (st' := [.ref 0]) rfl ?_
      refine En_getK (j := 9) h_p rfl rfl rfl tgz_0 (by decide +kernel) ?_
      refine En_getI (j := 14) (l := 0) (u := 60) rfl rfl rfl hp (by decide +kernel) hσ0 (by decide +kernel) (fun z38 h37 h39 h40 => ?_)
      have t41 : Wv (6) = z38.toInt := KN_v hK (Or.inl (by decide)) (by decide) (by decide) (by rw [lcO_lt (by decide) (by decide), Nat.add_zero]) rfl h37
      refine En_Ps 1 (pc' := 49) (lv' := [(4, .ref a29), (0, .ref 0), (1, .int a), (2, .int b), (3, .int c)]) (st' := [.int (((Int8.ofInt 60).toInt32)), .int z38]) rfl ?_
      refine En_icLt _ rfl (by decide : ((Int8.ofInt 60).toInt32).toInt = 60) rfl (fun h42 => ?_) (fun h42 => ?_)
      · refine En_Ps 3 (pc' := 59) (lv' := [(4, .ref a29), (0, .ref 0), (1, .int a), (2, .int b), (3, .int c)]) (st' := [.int c, .int b, .ref a29]) rfl ?_
        obtain ⟨a44, h43, ha44⟩ := WT_peekR (g := 20) (j := 0) (g' := 21) (u := 0) hσ0 ha29 (by decide +kernel) (by decide +kernel)
        have t45 : a44 = p + 12 + 4 * (a.toInt).toNat := DKk (d := a.toInt) (FXP_fr hP hX hF0 (by decide +kernel)) t30 h43 (by (first | exact q_58e6e51dcc h14 | omega)) (by (first | exact q_8d5ddb67ca h12.2.1 | omega))
        obtain ⟨a47, h46, ha47⟩ := WT_peekR (g := 20) (j := 1) (g' := 22) (u := 0) hσ0 ha29 (by decide +kernel) (by decide +kernel)
        have t48 : a47 = p + 13 + 4 * (a.toInt).toNat := DKo (d := a.toInt) (FXP_fr hP hX hF0 (by decide +kernel)) t30 h46 (by (first | exact q_58e6e51dcc h14 | omega)) (by (first | exact q_8d5ddb67ca h12.2.1 | omega))
        refine En_callV rfl rfl rfl rfl rfl rfl rfl rfl ha29 (by decide +kernel) rfl (c_31x σ0 hσ0 a29 ha29 b c (geI rfl (by first | exact q_ef1e8e38bf h12.2.2.1 | omega)) (leI rfl (by first | exact q_5a5f544404 h12.2.2.2.1 | omega)) (geI rfl (by first | exact q_ef1e8e38bf h12.2.2.2.2.1 | omega)) (leI rfl (by first | exact q_733c8bfbae h12.2.2.2.2.2 | omega)) a44 ha44 h43 a47 ha47 h46 z32 h31 (by first | exact q_02dfa0d959 h36 | omega)) (by decide) (by decide) (fun v50 σ51 h49 => ?_)
        obtain ⟨h52, h53, z55, h56, rfl, h54⟩ := h49
        have h57 := h54.2.2.2.2
        have h58 := Fr_trans hF0 h53 (by decide +kernel)
        refine En_Ps 1 (pc' := 63) (lv' := [(4, .ref a29), (0, .ref 0), (1, .int a), (2, .int b), (3, .int c)]) (st' := [.ref 0]) rfl ?_
        refine En_getK (j := 9) ((h53 _ _ (inW tgz_0 (by decide +kernel))).trans h_p) rfl rfl rfl tgz_0 (by decide +kernel) ?_
        refine En_getR (j := 15) (g' := 27) (u := 0) rfl rfl rfl hp (by decide +kernel) h52 (by decide +kernel) (fun a60 h59 ha60 => ?_)
        have t61 : a60 = p + 9 := ref_uniq h59 (FXP_fr hP hX h58 (by decide +kernel)).2.2.2.2.2.2.1
        refine En_Ps 1 (pc' := 70) (lv' := [(4, .ref a29), (0, .ref 0), (1, .int a), (2, .int b), (3, .int c)]) (st' := [.ref 0, .ref a60]) rfl ?_
        refine En_getK (j := 9) ((h53 _ _ (inW tgz_0 (by decide +kernel))).trans h_p) rfl rfl rfl tgz_0 (by decide +kernel) ?_
        refine En_getK (j := 14) ((h53 _ _ (inW hp (by decide +kernel))).trans h37) rfl rfl rfl hp (by decide +kernel) ?_
        refine En_Ps 1 (pc' := 77) (lv' := [(4, .ref a29), (0, .ref 0), (1, .int a), (2, .int b), (3, .int c)]) (st' := [.int a, .int z38, .ref a60]) rfl ?_
        refine En_iast (l := 0) (u := 3) rfl rfl ha60 (by decide +kernel) (by first | exact q_58e6e51dcc h39 | omega) (lnI (by decide +kernel : LN _ = 60) (by first | exact q_8b56808a55 h42 | omega)) (FTsgl (by decide +kernel)) (rngI rfl (by first | exact q_ef1e8e38bf h12.1 | omega) (by first | exact q_87d9217d84 h12.2.1 | omega)) h52 h58 (by decide +kernel) (fun σ62 h63 h64 h65 h66 => ?_)
        refine En_Ps 1 (pc' := 79) (lv' := [(4, .ref a29), (0, .ref 0), (1, .int a), (2, .int b), (3, .int c)]) (st' := [.ref 0]) rfl ?_
        refine En_getK (j := 9) ((h66 _ _ (Or.inl (neTG tgz_0 ha60 (by decide)))).trans ((h53 _ _ (inW tgz_0 (by decide +kernel))).trans h_p)) rfl rfl rfl tgz_0 (by decide +kernel) ?_
        refine En_Ps 1 (pc' := 83) (lv' := [(4, .ref a29), (0, .ref 0), (1, .int a), (2, .int b), (3, .int c)]) (st' := [.ref p, .ref p]) rfl ?_
        refine En_getK (j := 14) ((h66 _ _ (Or.inl (neTG hp ha60 (by decide)))).trans ((h53 _ _ (inW hp (by decide +kernel))).trans h37)) rfl rfl rfl hp (by decide +kernel) ?_
        refine En_Ps 2 (pc' := 88) (lv' := [(4, .ref a29), (0, .ref 0), (1, .int a), (2, .int b), (3, .int c)]) (st' := [.int ((z38 + ((Int32.ofInt 1)))), .ref p]) rfl ?_
        refine En_top (addI rfl (by decide : (Int32.ofInt 1).toInt = 1) (by first | exact q_465ab79ac1 h39 | omega) (by first | exact q_5aee3ad0d6 h42 | omega)) (fun z67 h68 => ?_)
        refine En_put (j := 14) rfl rfl rfl hp (by decide +kernel) rfl (vI (l := 0) (u := 60) (by decide +kernel) rfl (by first | exact q_35104ce9d3 h68 h39 | omega) (by first | exact q_7e37767ea5 h68 h42 | omega)) h63 h64 (by decide +kernel) (fun σ69 h70 h71 h72 h73 => ?_)
        refine En_Ps 1 (pc' := 93) (lv' := [(4, .ref a29), (0, .ref 0), (1, .int a), (2, .int b), (3, .int c)]) (st' := [.ref a29]) rfl ?_
        refine En_getK (j := 2) ((h73 _ _ (Or.inr (by decide))).trans ((h66 _ _ (Or.inl (neTG ha29 ha60 (by decide)))).trans h56)) rfl rfl rfl ha29 (by decide +kernel) ?_
        exact En_ret (v := some (Value.int z55)) rfl rfl rfl ⟨h70, h71, z55, rfl, ⟨by first | exact q_502afd8663 h54.1 | omega, by first | exact q_149581888d h54.2.2.2.1 h36 | omega, (by rw [tcW_y h13 (by (first | exact q_93a92eb35f t35 h36 | omega)) (by (first | exact q_708c3f68a0 t41 h42 | omega))]; exact ⟨tcR_y h13 (by (first | exact q_93a92eb35f t35 h36 | omega)) (by (first | exact q_708c3f68a0 t41 h42 | omega)) (by (first | exact q_c2414470fa h54.2.2.1 t35 h54.2.2.2.1 | omega)), KN_teach hK (PLA_B hP) t35 t41 h57 rfl rfl h65 h66 h72 h73 t30 t45 t48 t61 rfl (by (first | exact q_ba1b2c713b h68 | omega)) (by (first | exact q_58e6e51dcc h14 | omega)) (by (first | exact q_8d5ddb67ca h12.2.1 | omega)) (by (first | exact q_58e6e51dcc h33 | omega)) (by (first | exact q_e56392348a h36 | omega)) (by (first | exact q_58e6e51dcc h39 | omega)) (by (first | exact q_a85447a2f1 h42 | omega))⟩)⟩⟩
      · refine En_Ps 1 (pc' := 54) (lv' := [(4, .ref a29), (0, .ref 0), (1, .int a), (2, .int b), (3, .int c)]) (st' := [.int (((Int8.ofInt (-5)).toInt32))]) rfl ?_
        refine En_top (by decide : ((Int8.ofInt (-5)).toInt32).toInt = -5) (fun z74 h75 => ?_)
        exact En_ret (v := some (Value.int z74)) rfl rfl rfl ⟨hσ0, hF0, z74, rfl, ⟨by first | exact q_715ce6bb90 h75 | omega, by first | exact q_c602a05ff1 h75 | omega, (by rw [tcW_n (fun q => by (first | exact q_2435625c22 q.2.2 h42 t41 | omega))]; exact ⟨tcR_5 h13 (by (first | exact q_93a92eb35f t35 h36 | omega)) (by (first | exact q_ffd089d7ca t41 h42 | omega)) (by (first | exact q_93e8fcdef2 h75 | omega)), hK, OUT_0⟩)⟩⟩
    · refine En_Ps 1 (pc' := 39) (lv' := [(4, .ref a29), (0, .ref 0), (1, .int a), (2, .int b), (3, .int c)]) (st' := [.int (((Int8.ofInt (-3)).toInt32))]) rfl ?_
      refine En_top (by decide : ((Int8.ofInt (-3)).toInt32).toInt = -3) (fun z76 h77 => ?_)
      exact En_ret (v := some (Value.int z76)) rfl rfl rfl ⟨hσ0, hF0, z76, rfl, ⟨by first | exact q_95657dd6ca h77 | omega, by first | exact q_70e3f14a17 h77 | omega, (by rw [tcW_n (fun q => by (first | exact q_2a4cdb83e8 q.2.1 h36 t35 | omega))]; exact ⟨tcR_3 h13 (by (first | exact q_1e1a7f2189 t35 h36 | omega)) (by (first | exact q_a6100519f0 h77 | omega)), hK, OUT_0⟩)⟩⟩
  · have h78 := Imp_m h7.2.2.1 (by first | exact ⟨q_c5d285f1b9 h11, q_a555021d16 h7.1⟩ | omega)
    refine En_Ps 1 (pc' := 12) (lv' := [(0, .ref 0), (1, .int a), (2, .int b), (3, .int c)]) (st' := [.int (((Int8.ofInt (-2)).toInt32))]) rfl ?_
    refine En_top (by decide : ((Int8.ofInt (-2)).toInt32).toInt = -2) (fun z79 h80 => ?_)
    exact En_ret (v := some (Value.int z79)) rfl rfl rfl ⟨hσ0, hF0, z79, rfl, ⟨by first | exact q_f1982a04c6 h80 | omega, by first | exact q_5a5c18c2ab h80 | omega, (by have q0 : ¬ okL Wv a.toInt b.toInt c.toInt := (by rcases h10 with q | q; exfalso; omega; exact q.2); rw [tcW_n (fun q => q0 q.1)]; exact ⟨tcR_2 q0 (by (first | exact q_a664922815 h80 | omega)), hK, OUT_0⟩)⟩⟩
end
/-! 32.n09 -/
section
/-- DoorSchool.train(III)I -/
abbrev P_177x (σ0 : SG) (Wv : Int → Int) (a : Int32) (b : Int32) (c : Int32) (p : Nat) (sg : Int32) : PO := fun v σ => WT σ ∧ Fr [(28, 1), (28, 2)] σ0 σ ∧ ∃ ret : Int32, v = some (Value.int ret) ∧ -ret.toInt - 2 ≤ 0 ∧ ret.toInt - 50 ≤ 0 ∧ (ret.toInt = trR Wv a.toInt b.toInt c.toInt ∧ KN σ p (trW Wv a.toInt b.toInt c.toInt) (act (trW Wv a.toInt b.toInt c.toInt)) ∧ OUT σ0 σ p)
set_option maxRecDepth 10000 in
set_option maxHeartbeats 4000000 in
theorem c_177x {Wv : Int → Int} (σ0 : SG) (hσ0 : WT σ0) (a : Int32) (b : Int32) (c : Int32) (p : Nat) (hp : TG p = 18) (h_p : (σ0 0)[9]? = some (Value.ref p)) (sg : Int32) (h_sg : (σ0 p)[1]? = some (Value.int sg)) (hp0 : -sg.toInt ≤ 0) (hP : PLA p) (hX : FXP σ0 p) (hK : KN σ0 p Wv (act Wv)) : En 1 21 none mr_177 (P_177x σ0 Wv a b c p sg) 0 [(0, .ref 0), (1, .int a), (2, .int b), (3, .int c)] [] σ0 := by
  obtain ⟨hl_sg, hu_sg⟩ := WT_int hσ0 (g := 18) hp (by decide +kernel) (l := (-1)) (u := 4) (by decide +kernel) h_sg
  have hF0 : Fr [(28, 1), (28, 2)] σ0 σ0 := Fr_rfl
  have t1 : Wv (0) = sg.toInt := KN_v hK (Or.inl (by decide)) (by decide) (by decide) (by rw [lcO_lt (by decide) (by decide), Nat.add_zero]) rfl h_sg
  obtain ⟨z3, h2, h4, h5⟩ := WT_peekI hσ0 hp (by decide +kernel : FT 18 3 = (0, 0, 4)) (by decide +kernel)
  have t6 : Wv (2) = z3.toInt := KN_v hK (Or.inl (by decide)) (by decide) (by decide) (by rw [lcO_lt (by decide) (by decide), Nat.add_zero]) rfl h2
  refine En_Ps 1 (pc' := 1) (lv' := [(0, .ref 0), (1, .int a), (2, .int b), (3, .int c)]) (st' := [.ref 0]) rfl ?_
  refine En_getK (j := 9) h_p rfl rfl rfl tgz_0 (by decide +kernel) ?_
  refine En_Ps 1 (pc' := 5) (lv' := [(0, .ref 0), (1, .int a), (2, .int b), (3, .int c)]) (st' := [.int a, .ref p]) rfl ?_
  refine En_callV rfl rfl rfl rfl rfl rfl rfl rfl hp (by decide +kernel) rfl (c_47x σ0 hσ0 p hp a z3 h2) (by decide) (by decide) (fun v8 σ9 h7 => ?_)
  obtain ⟨h10, h11, z13, rfl, h12⟩ := h7
  obtain rfl : σ0 = σ9 := Fr_nil h11
  have h14 := Imp_m h12.2.2.1
  have h15 := Imp_m h12.2.2.2.1
  have h16 := Imp_m h12.2.2.2.2.1
  have h17 := Imp_m h12.2.2.2.2.2
  refine En_iEq _ rfl rfl (fun h18 => ?_) (fun h18 => ?_)
  · have h19 := Imp_m h12.2.2.2.2.1 (by first | exact ⟨q_c5d285f1b9 h18, q_a555021d16 h12.1⟩ | omega)
    refine En_Ps 1 (pc' := 20) (lv' := [(0, .ref 0), (1, .int a), (2, .int b), (3, .int c)]) (st' := [.int (((Int8.ofInt (-2)).toInt32))]) rfl ?_
    refine En_top (by decide : ((Int8.ofInt (-2)).toInt32).toInt = -2) (fun z20 h21 => ?_)
    exact En_ret (v := some (Value.int z20)) rfl rfl rfl ⟨hσ0, hF0, z20, rfl, ⟨by first | exact q_f35c5d346c h21 | omega, by first | exact q_307520f238 h21 | omega, (by have q0 : ¬ trC Wv a.toInt b.toInt c.toInt := (by omega); rw [trW_n q0]; exact ⟨trR_n q0 (by (first | exact q_a664922815 h21 | omega)), hK, OUT_0⟩)⟩⟩
  · have h22 := Imp_m h12.2.2.1 (by first | exact q_e3350da514 h18 h12.1 | omega)
    have h23 := Imp_m h12.2.2.2.1 (by first | exact ⟨q_a555021d16 h22.1, q_ef157b5a0e h22.2⟩ | omega)
    have h24 := Imp_m h12.2.2.2.2.2 (by first | exact ⟨q_ad5b726bf8 h12.2.1, q_e3350da514 h18 h12.1⟩ | omega)
    refine En_Ps 1 (pc' := 12) (lv' := [(0, .ref 0), (1, .int a), (2, .int b), (3, .int c)]) (st' := [.int b]) rfl ?_
    refine En_callS rfl rfl rfl rfl rfl rfl rfl rfl rfl (c_149x σ0 hσ0 b) (by decide) (by decide) (fun v26 σ27 h25 => ?_)
    obtain ⟨h28, h29, z31, rfl, h30⟩ := h25
    have h32 := h30.2.2.2
    obtain rfl : σ0 = σ27 := Fr_nil h29
    have h33 := Imp_m h30.2.2.1
    refine En_iNe _ rfl rfl (fun h34 => ?_) (fun h34 => ?_)
    · have h35 := Imp_m h30.2.2.1 (by first | exact ⟨q_ad5b726bf8 h30.2.1, q_e3350da514 h34 h30.1⟩ | omega)
      refine En_Ps 1 (pc' := 22) (lv' := [(0, .ref 0), (1, .int a), (2, .int b), (3, .int c)]) (st' := [.ref 0]) rfl ?_
      refine En_getK (j := 9) h_p rfl rfl rfl tgz_0 (by decide +kernel) ?_
      refine En_getR (j := 4) (g' := 19) (u := 0) rfl rfl rfl hp (by decide +kernel) hσ0 (by decide +kernel) (fun a37 h36 ha37 => ?_)
      have t38 : a37 = p + 1 := ref_uniq h36 (FXP_fr hP hX hF0 (by decide +kernel)).1
      refine En_Ps 1 (pc' := 29) (lv' := [(0, .ref 0), (1, .int a), (2, .int b), (3, .int c)]) (st' := [.int a, .ref a37]) rfl ?_
      refine En_aald (g' := 28) (u := 0) rfl rfl ha37 (by decide +kernel) hσ0 (by first | exact q_ef1e8e38bf h22.1 | omega) (lnI (by decide +kernel : LN _ = 4) (by first | exact q_7fdbd2bd6a h24.2 | omega)) (FTsgl (by decide +kernel)) (fun a40 h39 ha40 => ?_)
      have t41 : a40 = p + 10 + 4 * (a.toInt).toNat := DRe (d := a.toInt) (FXP_fr hP hX hF0 (by decide +kernel)) t38 h39 (by (first | exact q_ef1e8e38bf h24.1 | omega)) (by (first | exact q_8d5ddb67ca h24.2 | omega))
      have t42 := lc_d (d := a.toInt) (by (first | exact q_ef1e8e38bf h24.1 | omega)) (by (first | exact q_8d5ddb67ca h24.2 | omega))
      refine En_Ps 2 (pc' := 33) (lv' := [(4, .ref a40), (0, .ref 0), (1, .int a), (2, .int b), (3, .int c)]) (st' := [.int b]) rfl ?_
      refine En_iNe _ rfl rfl (fun h43 => ?_) (fun h43 => ?_)
      · refine En_Ps 1 (pc' := 63) (lv' := [(4, .ref a40), (0, .ref 0), (1, .int a), (2, .int b), (3, .int c)]) (st' := [.int c]) rfl ?_
        refine En_iLt _ rfl rfl (fun h44 => ?_) (fun h44 => ?_)
        · refine En_Ps 1 (pc' := 74) (lv' := [(4, .ref a40), (0, .ref 0), (1, .int a), (2, .int b), (3, .int c)]) (st' := [.int (((Int8.ofInt (-2)).toInt32))]) rfl ?_
          refine En_top (by decide : ((Int8.ofInt (-2)).toInt32).toInt = -2) (fun z45 h46 => ?_)
          exact En_ret (v := some (Value.int z45)) rfl rfl rfl ⟨hσ0, hF0, z45, rfl, ⟨by first | exact q_f35c5d346c h46 | omega, by first | exact q_307520f238 h46 | omega, (by have q0 : ¬ trC Wv a.toInt b.toInt c.toInt := (by omega); rw [trW_n q0]; exact ⟨trR_n q0 (by (first | exact q_a664922815 h46 | omega)), hK, OUT_0⟩)⟩⟩
        · refine En_Ps 2 (pc' := 69) (lv' := [(4, .ref a40), (0, .ref 0), (1, .int a), (2, .int b), (3, .int c)]) (st' := [.int (((Int8.ofInt 50).toInt32)), .int c]) rfl ?_
          refine En_icLe _ rfl (by decide : ((Int8.ofInt 50).toInt32).toInt = 50) rfl (fun h47 => ?_) (fun h47 => ?_)
          · refine En_Ps 1 (pc' := 77) (lv' := [(4, .ref a40), (0, .ref 0), (1, .int a), (2, .int b), (3, .int c)]) (st' := [.ref a40]) rfl ?_
            refine En_getI (j := 2) (l := 0) (u := 50) rfl rfl rfl ha40 (by decide +kernel) hσ0 (by decide +kernel) (fun z49 h48 h50 h51 => ?_)
            have t52 : Wv (11 + 4 * (a.toInt)) = z49.toInt := KN_v hK (Or.inr (Or.inl ⟨by (first | exact q_f9af3acb4d h24.1 | omega), by (first | exact q_2a3e75215a h24.2 | omega), by omega⟩)) (by (first | exact q_9bf92c1d9a h24.1 | omega)) (by (first | exact q_194cfe03cb h24.2 | omega)) (by omega) (by (first | exact q_c4326de684 t42.2.2.2.2.2.1 | omega)) h48
            refine En_Ps 3 (pc' := 85) (lv' := [(5, .int z49), (4, .ref a40), (0, .ref 0), (1, .int a), (2, .int b), (3, .int c)]) (st' := [.int c, .ref a40]) rfl ?_
            refine En_put (j := 2) rfl rfl rfl ha40 (by decide +kernel) rfl (vI (l := 0) (u := 50) (by decide +kernel) rfl (by first | exact q_58e6e51dcc h44 | omega) (by first | exact q_2eaa18fab1 h47 | omega)) hσ0 hF0 (by decide +kernel) (fun σ53 h54 h55 h56 h57 => ?_)
            refine En_Ps 1 (pc' := 90) (lv' := [(5, .int z49), (4, .ref a40), (0, .ref 0), (1, .int a), (2, .int b), (3, .int c)]) (st' := [.int z49]) rfl ?_
            exact En_ret (v := some (Value.int z49)) rfl rfl rfl ⟨h54, h55, z49, rfl, ⟨by first | exact q_ea7f0ffdb1 h50 | omega, by first | exact q_1608b91b28 h51 | omega, (by have l := lc_d (d := a.toInt) (by (first | exact q_ef1e8e38bf h24.1 | omega)) (by (first | exact q_8d5ddb67ca h24.2 | omega)); have q0 := KN_one hK (PLA_B hP) (i := 11 + 4 * (a.toInt)) (v := c.toInt) h56 h57 (by (first | exact q_9bf92c1d9a h24.1 | omega)) (by (first | exact q_194cfe03cb h24.2 | omega)) ⟨by omega, by (first | exact q_c4326de684 l.2.2.2.2.2.1 | omega)⟩ rfl (by omega) (Or.inr (Or.inl ⟨by (first | exact q_f9af3acb4d h24.1 | omega), by (first | exact q_2a3e75215a h24.2 | omega), by omega⟩)); rw [trW_y (i := 11 + 4 * (a.toInt)) (by omega) (by (first | exact q_e05a4032a9 h35.2 h43 h35.1 | omega))]; exact ⟨trR_y (i := 11 + 4 * (a.toInt)) (by omega) (by (first | exact q_e05a4032a9 h35.2 h43 h35.1 | omega)) t52, q0⟩)⟩⟩
          · refine En_Ps 1 (pc' := 74) (lv' := [(4, .ref a40), (0, .ref 0), (1, .int a), (2, .int b), (3, .int c)]) (st' := [.int (((Int8.ofInt (-2)).toInt32))]) rfl ?_
            refine En_top (by decide : ((Int8.ofInt (-2)).toInt32).toInt = -2) (fun z58 h59 => ?_)
            exact En_ret (v := some (Value.int z58)) rfl rfl rfl ⟨hσ0, hF0, z58, rfl, ⟨by first | exact q_f35c5d346c h59 | omega, by first | exact q_307520f238 h59 | omega, (by have q0 : ¬ trC Wv a.toInt b.toInt c.toInt := (by omega); rw [trW_n q0]; exact ⟨trR_n q0 (by (first | exact q_a664922815 h59 | omega)), hK, OUT_0⟩)⟩⟩
      · refine En_Ps 1 (pc' := 37) (lv' := [(4, .ref a40), (0, .ref 0), (1, .int a), (2, .int b), (3, .int c)]) (st' := [.int c]) rfl ?_
        refine En_callS rfl rfl rfl rfl rfl rfl rfl rfl rfl (c_148 σ0 hσ0 c) (by decide) (by decide) (fun v61 σ62 h60 => ?_)
        obtain ⟨h63, h64, z66, rfl, h65⟩ := h60
        obtain rfl : σ0 = σ62 := Fr_nil h64
        refine En_iNe _ rfl rfl (fun h67 => ?_) (fun h67 => ?_)
        · refine En_Ps 1 (pc' := 48) (lv' := [(4, .ref a40), (0, .ref 0), (1, .int a), (2, .int b), (3, .int c)]) (st' := [.ref a40]) rfl ?_
          refine En_getI (j := 1) (l := 0) (u := 2) rfl rfl rfl ha40 (by decide +kernel) hσ0 (by decide +kernel) (fun z69 h68 h70 h71 => ?_)
          have t72 : Wv (10 + 4 * (a.toInt)) = z69.toInt := KN_v hK (Or.inr (Or.inl ⟨by (first | exact q_340d14a6a9 h24.1 | omega), by (first | exact q_87c43ff325 h24.2 | omega), by omega⟩)) (by (first | exact q_de0a6499fa h24.1 | omega)) (by (first | exact q_0222358eb5 h24.2 | omega)) (by omega) (by (first | exact q_dd1386e005 t42.2.2.2.2.1 | omega)) h68
          refine En_Ps 3 (pc' := 56) (lv' := [(5, .int z69), (4, .ref a40), (0, .ref 0), (1, .int a), (2, .int b), (3, .int c)]) (st' := [.int c, .ref a40]) rfl ?_
          refine En_put (j := 1) rfl rfl rfl ha40 (by decide +kernel) rfl (vI (l := 0) (u := 2) (by decide +kernel) rfl (by (first | exact q_6e5b3f20c0 h65.2.2.1 h65.2.1 h67 h65.1 | omega)) (by (first | exact q_796a713934 h65.2.2.1 h65.2.1 h67 h65.1 | omega))) hσ0 hF0 (by decide +kernel) (fun σ73 h74 h75 h76 h77 => ?_)
          refine En_Ps 1 (pc' := 61) (lv' := [(5, .int z69), (4, .ref a40), (0, .ref 0), (1, .int a), (2, .int b), (3, .int c)]) (st' := [.int z69]) rfl ?_
          exact En_ret (v := some (Value.int z69)) rfl rfl rfl ⟨h74, h75, z69, rfl, ⟨by first | exact q_ea7f0ffdb1 h70 | omega, by first | exact q_ab791a917f h71 | omega, (by have l := lc_d (d := a.toInt) (by (first | exact q_ef1e8e38bf h24.1 | omega)) (by (first | exact q_8d5ddb67ca h24.2 | omega)); have q0 := KN_one hK (PLA_B hP) (i := 10 + 4 * (a.toInt)) (v := c.toInt) h76 h77 (by (first | exact q_de0a6499fa h24.1 | omega)) (by (first | exact q_0222358eb5 h24.2 | omega)) ⟨by omega, by (first | exact q_dd1386e005 l.2.2.2.2.1 | omega)⟩ rfl (by omega) (Or.inr (Or.inl ⟨by (first | exact q_340d14a6a9 h24.1 | omega), by (first | exact q_87c43ff325 h24.2 | omega), by omega⟩)); rw [trW_y (i := 10 + 4 * (a.toInt)) (by omega) (by (first | exact q_a97003fb0b h43 | omega))]; exact ⟨trR_y (i := 10 + 4 * (a.toInt)) (by omega) (by (first | exact q_a97003fb0b h43 | omega)) t72, q0⟩)⟩⟩
        · refine En_Ps 1 (pc' := 45) (lv' := [(4, .ref a40), (0, .ref 0), (1, .int a), (2, .int b), (3, .int c)]) (st' := [.int (((Int8.ofInt (-2)).toInt32))]) rfl ?_
          refine En_top (by decide : ((Int8.ofInt (-2)).toInt32).toInt = -2) (fun z78 h79 => ?_)
          exact En_ret (v := some (Value.int z78)) rfl rfl rfl ⟨hσ0, hF0, z78, rfl, ⟨by first | exact q_f35c5d346c h79 | omega, by first | exact q_307520f238 h79 | omega, (by have q0 : ¬ trC Wv a.toInt b.toInt c.toInt := (by omega); rw [trW_n q0]; exact ⟨trR_n q0 (by (first | exact q_a664922815 h79 | omega)), hK, OUT_0⟩)⟩⟩
    · refine En_Ps 1 (pc' := 20) (lv' := [(0, .ref 0), (1, .int a), (2, .int b), (3, .int c)]) (st' := [.int (((Int8.ofInt (-2)).toInt32))]) rfl ?_
      refine En_top (by decide : ((Int8.ofInt (-2)).toInt32).toInt = -2) (fun z80 h81 => ?_)
      exact En_ret (v := some (Value.int z80)) rfl rfl rfl ⟨hσ0, hF0, z80, rfl, ⟨by first | exact q_f35c5d346c h81 | omega, by first | exact q_307520f238 h81 | omega, (by have q0 : ¬ trC Wv a.toInt b.toInt c.toInt := (by omega); rw [trW_n q0]; exact ⟨trR_n q0 (by (first | exact q_a664922815 h81 | omega)), hK, OUT_0⟩)⟩⟩
/-- DoorSchool.unteach()I -/
abbrev P_181x (σ0 : SG) (Wv : Int → Int) (p : Nat) (sg : Int32) : PO := fun v σ => WT σ ∧ Fr [(18, 14), (20, 2)] σ0 σ ∧ ∃ ret : Int32, v = some (Value.int ret) ∧ -ret.toInt - 5 ≤ 0 ∧ ret.toInt - 3 ≤ 0 ∧ (ret.toInt = utR Wv ∧ KN σ p (utW Wv) (act (utW Wv)) ∧ OUT σ0 σ p)
set_option maxRecDepth 10000 in
set_option maxHeartbeats 4000000 in
theorem c_181x {Wv : Int → Int} (σ0 : SG) (hσ0 : WT σ0) (p : Nat) (hp : TG p = 18) (h_p : (σ0 0)[9]? = some (Value.ref p)) (sg : Int32) (h_sg : (σ0 p)[1]? = some (Value.int sg)) (hp0 : -sg.toInt ≤ 0) (hP : PLA p) (hX : FXP σ0 p) (hK : KN σ0 p Wv (act Wv)) (hI : WINV Wv) (hT : TGT Wv) : En 2 42 none mr_181 (P_181x σ0 Wv p sg) 0 [(0, .ref 0)] [] σ0 := by
  obtain ⟨hl_sg, hu_sg⟩ := WT_int hσ0 (g := 18) hp (by decide +kernel) (l := (-1)) (u := 4) (by decide +kernel) h_sg
  have hF0 : Fr [(18, 14), (20, 2)] σ0 σ0 := Fr_rfl
  have t1 : Wv (0) = sg.toInt := KN_v hK (Or.inl (by decide)) (by decide) (by decide) (by rw [lcO_lt (by decide) (by decide), Nat.add_zero]) rfl h_sg
  refine En_Ps 1 (pc' := 1) (lv' := [(0, .ref 0)]) (st' := [.ref 0]) rfl ?_
  refine En_getK (j := 9) h_p rfl rfl rfl tgz_0 (by decide +kernel) ?_
  obtain ⟨z3, h2, h4, h5⟩ := WT_peekI hσ0 hp (by decide +kernel : FT 18 0 = (0, 0, 1601)) (by decide +kernel)
  have t6 : Wv (7) = z3.toInt := KN_v hK (Or.inl (by decide)) (by decide) (by decide) (by rw [lcO_lt (by decide) (by decide), Nat.add_zero]) rfl h2
  refine En_callV rfl rfl rfl rfl rfl rfl rfl rfl hp (by decide +kernel) rfl (c_43x σ0 hσ0 p hp z3 h2) (by decide) (by decide) (fun v8 σ9 h7 => ?_)
  obtain ⟨h10, h11, z13, rfl, h12⟩ := h7
  obtain rfl : σ0 = σ9 := Fr_nil h11
  have h14 := Imp_m h12.2.2.1
  have h15 := Imp_m h12.2.2.2
  refine En_iNe _ rfl rfl (fun h16 => ?_) (fun h16 => ?_)
  · have h17 := Imp_m h12.2.2.1 (by first | exact q_e3350da514 h16 h12.1 | omega)
    have h18 := Imp_m h12.2.2.2 (by first | exact q_68fbff215b h17 | omega)
    refine En_Ps 1 (pc' := 14) (lv' := [(0, .ref 0)]) (st' := [.ref 0]) rfl ?_
    refine En_getK (j := 9) h_p rfl rfl rfl tgz_0 (by decide +kernel) ?_
    refine En_getI (j := 14) (l := 0) (u := 60) rfl rfl rfl hp (by decide +kernel) hσ0 (by decide +kernel) (fun z20 h19 h21 h22 => ?_)
    have t23 : Wv (6) = z20.toInt := KN_v hK (Or.inl (by decide)) (by decide) (by decide) (by rw [lcO_lt (by decide) (by decide), Nat.add_zero]) rfl h19
    refine En_iGt _ rfl rfl (fun h24 => ?_) (fun h24 => ?_)
    · obtain ⟨z26, h25, h27, h28⟩ := WT_peekI hσ0 hp (by decide +kernel : FT 18 3 = (0, 0, 4)) (by decide +kernel)
      have t29 : Wv (2) = z26.toInt := KN_v hK (Or.inl (by decide)) (by decide) (by decide) (by rw [lcO_lt (by decide) (by decide), Nat.add_zero]) rfl h25
      obtain ⟨a31, h30, ha31⟩ := WT_peekR (g := 18) (j := 15) (g' := 27) (u := 0) hσ0 hp (by decide +kernel) (by decide +kernel)
      have t32 : a31 = p + 9 := ref_uniq h30 (FXP_fr hP hX hF0 (by decide +kernel)).2.2.2.2.2.2.1
      obtain ⟨a34, h33, ha34⟩ := WT_peekR (g := 18) (j := 4) (g' := 19) (u := 0) hσ0 hp (by decide +kernel) (by decide +kernel)
      have t35 : a34 = p + 1 := ref_uniq h33 (FXP_fr hP hX hF0 (by decide +kernel)).1
      refine En_Ps 1 (pc' := 27) (lv' := [(0, .ref 0)]) (st' := [.ref 0]) rfl ?_
      refine En_getK (j := 9) h_p rfl rfl rfl tgz_0 (by decide +kernel) ?_
      refine En_Ps 1 (pc' := 31) (lv' := [(0, .ref 0)]) (st' := [.ref p, .ref p]) rfl ?_
      refine En_getK (j := 14) h19 rfl rfl rfl hp (by decide +kernel) ?_
      refine En_Ps 2 (pc' := 36) (lv' := [(0, .ref 0)]) (st' := [.int ((z20 - ((Int32.ofInt 1)))), .ref p]) rfl ?_
      refine En_top (subI rfl (by decide : (Int32.ofInt 1).toInt = 1) (by first | exact q_54cbb2fad7 h24 | omega) (by first | exact q_b13050f55d h22 | omega)) (fun z36 h37 => ?_)
      refine En_put (j := 14) rfl rfl rfl hp (by decide +kernel) rfl (vI (l := 0) (u := 60) (by decide +kernel) rfl (by first | exact q_db393f81b4 h37 h24 | omega) (by first | exact q_7c91e6b6c0 h37 h22 | omega)) hσ0 hF0 (by decide +kernel) (fun σ38 h39 h40 h41 h42 => ?_)
      refine En_Ps 1 (pc' := 40) (lv' := [(0, .ref 0)]) (st' := [.ref 0]) rfl ?_
      refine En_getK (j := 9) ((h42 _ _ (Or.inr (by decide))).trans h_p) rfl rfl rfl tgz_0 (by decide +kernel) ?_
      refine En_getK (j := 15) ((h42 _ _ (Or.inr (by decide))).trans h30) rfl rfl rfl hp (by decide +kernel) ?_
      refine En_Ps 1 (pc' := 47) (lv' := [(0, .ref 0)]) (st' := [.ref 0, .ref a31]) rfl ?_
      refine En_getK (j := 9) ((h42 _ _ (Or.inr (by decide))).trans h_p) rfl rfl rfl tgz_0 (by decide +kernel) ?_
      refine En_getK (j := 14) h41 rfl rfl rfl hp (by decide +kernel) ?_
      refine En_iald (l := 0) (u := 3) rfl rfl ha31 (by decide +kernel) h39 (by first | exact q_db393f81b4 h37 h24 | omega) (lnI (by decide +kernel : LN _ = 60) (by first | exact q_4fc14da448 h37 h22 | omega)) (FTsgl (by decide +kernel)) (fun z44 h43 h45 h46 => ?_)
      have t47 := lc_t (m := z36.toInt) (by (first | exact q_db393f81b4 h37 h24 | omega)) (by (first | exact q_eb6c276d2e h37 h22 | omega))
      have h52 := lc_t (m := z20.toInt - 1) (by (first | exact q_02054ab1e2 h24 | omega)) (by (first | exact q_0955510df9 h22 | omega))
      have h48 : Wv (166 + (z20.toInt - 1)) = z44.toInt := KN_v hK (Or.inr (Or.inr (Or.inr (Or.inr (Or.inr (Or.inr ⟨by (first | exact q_fafa88d5cc h24 | omega), by (first | exact q_34f238947f t23 | omega)⟩)))))) (by (first | exact q_920c47e104 h24 | omega)) (by (first | exact q_b103d8a89c h22 | omega)) (by omega) (by (first | exact q_866e53b9d5 h37 h24 h52.2 | omega)) ((h42 _ _ (Or.inl (by omega))).symm.trans h43)
      have h49 : utD Wv = z44.toInt := by unfold utD; rw [t23]; exact h48
      have h50 := hT (z20.toInt - 1) (by (first | exact q_02054ab1e2 h24 | omega)) (by (first | exact q_a06b50da1e t23 | omega))
      rw [h48] at h50
      have h51 := WINV_ge hI (d := z44.toInt) (nt := z20.toInt) (by (first | exact q_a8fb2024c1 t23 | omega)) (by (first | exact q_3b2ea2ae3d h24 | omega)) h48.symm (by (first | exact q_58e6e51dcc h50.1 | omega)) (by (first | exact q_718bc96520 h46 | omega))
      refine En_Ps 2 (pc' := 56) (lv' := [(1, .int z44), (0, .ref 0)]) (st' := [.ref 0]) rfl ?_
      refine En_getK (j := 9) ((h42 _ _ (Or.inr (by decide))).trans h_p) rfl rfl rfl tgz_0 (by decide +kernel) ?_
      refine En_getK (j := 4) ((h42 _ _ (Or.inr (by decide))).trans h33) rfl rfl rfl hp (by decide +kernel) ?_
      refine En_Ps 1 (pc' := 63) (lv' := [(1, .int z44), (0, .ref 0)]) (st' := [.int z44, .ref a34]) rfl ?_
      refine En_aald (g' := 28) (u := 0) rfl rfl ha34 (by decide +kernel) h39 (by first | exact q_58e6e51dcc h45 | omega) (lnI (by decide +kernel : LN _ = 4) (by first | exact q_f3bb6f88f7 h46 | omega)) (FTsgl (by decide +kernel)) (fun a54 h53 ha54 => ?_)
      have t55 : a54 = p + 10 + 4 * (z44.toInt).toNat := DRe (d := z44.toInt) (FXP_fr hP hX h40 (by decide +kernel)) t35 h53 (by (first | exact q_58e6e51dcc h50.1 | omega)) (by (first | exact q_718bc96520 h46 | omega))
      have t56 := lc_d (d := z44.toInt) (by (first | exact q_58e6e51dcc h50.1 | omega)) (by (first | exact q_718bc96520 h46 | omega))
      refine En_getR (j := 0) (g' := 20) (u := 0) rfl rfl rfl ha54 (by decide +kernel) h39 (by decide +kernel) (fun a58 h57 ha58 => ?_)
      have t59 : a58 = p + 11 + 4 * (z44.toInt).toNat := DLc (d := z44.toInt) (FXP_fr hP hX h40 (by decide +kernel)) t55 h57 (by (first | exact q_58e6e51dcc h50.1 | omega)) (by (first | exact q_718bc96520 h46 | omega))
      obtain ⟨a61, h60, ha61⟩ := WT_peekR (g := 20) (j := 0) (g' := 21) (u := 0) h39 ha58 (by decide +kernel) (by decide +kernel)
      have t62 : a61 = p + 12 + 4 * (z44.toInt).toNat := DKk (d := z44.toInt) (FXP_fr hP hX h40 (by decide +kernel)) t59 h60 (by (first | exact q_58e6e51dcc h50.1 | omega)) (by (first | exact q_718bc96520 h46 | omega))
      obtain ⟨a64, h63, ha64⟩ := WT_peekR (g := 20) (j := 1) (g' := 22) (u := 0) h39 ha58 (by decide +kernel) (by decide +kernel)
      have t65 : a64 = p + 13 + 4 * (z44.toInt).toNat := DKo (d := z44.toInt) (FXP_fr hP hX h40 (by decide +kernel)) t59 h63 (by (first | exact q_58e6e51dcc h50.1 | omega)) (by (first | exact q_718bc96520 h46 | omega))
      obtain ⟨z67, h66, h68, h69⟩ := WT_peekI h39 ha58 (by decide +kernel : FT 20 2 = (0, 0, 13)) (by decide +kernel)
      have h71 := ((h42 _ _ (Or.inl (by omega))).symm.trans h66)
      have h70 : Wv (12 + 4 * (z44.toInt)) = z67.toInt := KN_v hK (Or.inr (Or.inl ⟨by (first | exact q_6e29a91d15 h50.1 | omega), by (first | exact q_aaaa2c939f h46 | omega), by omega⟩)) (by (first | exact q_8a0e8d37df h50.1 | omega)) (by (first | exact q_cbe048ef7f h46 | omega)) (by omega) (by (first | exact q_c4326de684 t56.2.2.2.2.2.2.1 | omega)) h71
      have : 1 ≤ z67.toInt := by (first | exact q_7fea225eb9 h70 h51 | omega)
      refine En_callV rfl rfl rfl rfl rfl rfl rfl rfl ha58 (by decide +kernel) rfl (c_33x σ38 h39 a58 ha58 a61 ha61 h60 a64 ha64 h63 z67 h66 (by (first | exact q_996bab80f3 this | omega))) (by decide) (by decide) (fun v73 σ74 h72 => ?_)
      obtain ⟨h75, h76, z78, h79, rfl, h77⟩ := h72
      have h80 := h77.2.2.2.2.2.2
      have h81 := Fr_trans h40 h76 (by decide +kernel)
      refine En_Ps 1 (pc' := 71) (lv' := [(1, .int z44), (0, .ref 0)]) (st' := [.int z44]) rfl ?_
      exact En_ret (v := some (Value.int z44)) rfl rfl rfl ⟨h75, h81, z44, rfl, ⟨by first | exact q_885c998ca8 h45 | omega, by first | exact q_e9a8eec0c4 h46 | omega, (by have q0 := KN_unteach hK (PLA_B hP) h70 t23 h49 h41 h42 h80 t59 (by (first | exact q_0c138feee5 h37 | omega)) (by (first | exact q_58e6e51dcc h50.1 | omega)) (by (first | exact q_718bc96520 h46 | omega)); exact ⟨by unfold utR; rw [if_neg (by (first | exact q_8b52c73b7a t6 h17 | omega)), if_neg (by (first | exact q_42b2d62fac t23 h24 | omega)), h49], by unfold utW; rw [if_neg (by (first | exact q_8b52c73b7a t6 h17 | omega)), if_neg (by (first | exact q_42b2d62fac t23 h24 | omega))]; exact q0.1, q0.2⟩)⟩⟩
    · refine En_Ps 1 (pc' := 25) (lv' := [(0, .ref 0)]) (st' := [.int (((Int8.ofInt (-5)).toInt32))]) rfl ?_
      refine En_top (by decide : ((Int8.ofInt (-5)).toInt32).toInt = -5) (fun z82 h83 => ?_)
      exact En_ret (v := some (Value.int z82)) rfl rfl rfl ⟨hσ0, hF0, z82, rfl, ⟨by first | exact q_715ce6bb90 h83 | omega, by first | exact q_08e77983b4 h83 | omega, ⟨by unfold utR; rw [if_neg (by (first | exact q_8b52c73b7a t6 h17 | omega)), if_pos (by (first | exact q_bebb93df0f t23 h24 | omega))]; (first | exact q_93e8fcdef2 h83 | omega), by unfold utW; rw [if_neg (by (first | exact q_8b52c73b7a t6 h17 | omega)), if_pos (by (first | exact q_bebb93df0f t23 h24 | omega))]; exact hK, OUT_0⟩⟩⟩
  · refine En_Ps 1 (pc' := 12) (lv' := [(0, .ref 0)]) (st' := [.int (((Int8.ofInt (-2)).toInt32))]) rfl ?_
    refine En_top (by decide : ((Int8.ofInt (-2)).toInt32).toInt = -2) (fun z84 h85 => ?_)
    exact En_ret (v := some (Value.int z84)) rfl rfl rfl ⟨hσ0, hF0, z84, rfl, ⟨by first | exact q_f1982a04c6 h85 | omega, by first | exact q_09eb541a79 h85 | omega, ⟨by unfold utR; rw [if_pos (by (first | exact q_ef6c6b7365 h15 t6 h16 | omega))]; (first | exact q_a664922815 h85 | omega), by unfold utW; rw [if_pos (by (first | exact q_ef6c6b7365 h15 t6 h16 | omega))]; exact hK, OUT_0⟩⟩⟩
end
/-! 33.a.law -/
section
section LAWA
variable {fr lo : Nat} {scr : AS} {F : MR} {P : PO} {pc pc' len tgt : Nat} {i : Instr} {lv lv' : ALv} {st st' r : List Value} {σ σ0 : SG} {W : List (Nat × Nat)}
theorem En_sld {L : Nat} {xs : Nat → Int32} {j : Int32} {J : Int} (hf : fc F pc = some (.iaload, len, tgt)) (hJ : j.toInt = J) (h0 : 0 ≤ J) (h1 : J < (L : Int)) (k : ∀ z : Int32, z = xs J.toNat → En fr lo (some (L, xs)) F P (pc + 1) lv (.int z :: r) σ) : En fr lo (some (L, xs)) F P pc lv (.int j :: .retAddr 0 :: r) σ := by
  have hj : (decide (¬ (j < 0 ∨ L ≤ j.toNatClampNeg))) = true := by
    rw [decide_eq_true_eq, toNat32 hJ]
    have := nonneg32 hJ h0
    intro z
    rcases z with z | z
    · exact this z
    · omega
  have hl : ldR (some (L, xs)) 1 0 0 (.int j :: .retAddr 0 :: r) (HP σ) = some (Value.int (xs j.toNatClampNeg), r) := by
    unfold ldR
    exact oB_mk rfl (oC_mk hj rfl)
  exact En_P1 hf rfl (oB_mk hl rfl) (k _ (by rw [toNat32 hJ]))
theorem law_L6 {L : Nat} (hL : L ≤ 3072) : (Int32.ofNat L - (Int8.ofInt 6).toInt32).toInt = (L : Int) - 6 :=
  subI (Int32.toInt_ofNat_of_lt (by omega)) (by decide) (by omega) (by omega)
end LAWA
end
/-! 33.b00 -/
section
set_option maxRecDepth 10000 in
set_option maxHeartbeats 4000000 in
theorem law_c0 {L : Nat} {xs : Nat → Int32} {P : PO} (hL : L ≤ 3072) (y : Int32) (h0 : 0 ≤ y.toInt) (h1 : y.toInt + 6 ≤ (L : Int)) (σ0 : SG) (hσ0 : WT σ0) (hC : INVc σ0) (hI : WI σ0) (hL : LEA σ0) (k : ∀ σ, WT σ → INVc σ → WI σ → LEA σ → En 2048 84000 (some (L, xs)) mr_336 P 2236 [(0, .retAddr 0), (1, .ref 0), (2, .ref 159), (3, .int y)] [] σ) : En 2048 84000 (some (L, xs)) mr_336 P 304 [(0, .retAddr 0), (1, .ref 0), (2, .ref 159), (3, .int y)] [] σ0 := by
  obtain ⟨hR, hQ, hX⟩ := hL
  obtain ⟨p, p2, sg, hp, hp2, h_p, h_p2, hne, h_sg, hl_sg⟩ := id hC
  obtain ⟨-, hu_sg⟩ := WT_int hσ0 (g := 18) hp (by decide +kernel) (l := (-1)) (u := 4) (by decide +kernel) h_sg
  have hF0 : Fr [(1, 1), (2, 0), (35, 5), (39, 0), (40, 0)] σ0 σ0 := Fr_rfl
  obtain ⟨t, h_t1, h_t2, -⟩ := id hR.1
  obtain ⟨hl_t, hu_t⟩ := WT_int hσ0 (g := 1) tgz_1 (by decide +kernel) (l := 0) (u := 1600) (by decide +kernel) h_t1
  refine En_Ps 5 (pc' := 309) (lv' := [(0, .retAddr 0), (1, .ref 0), (2, .ref 159), (3, .int y)]) (st' := [.int ((y + ((Int32.ofInt 1)))), .retAddr 0, .ref 0]) rfl ?_
  refine En_top (addI rfl (by decide : (Int32.ofInt 1).toInt = 1) (by (first | exact q_465ab79ac1 h0 | omega)) (by omega)) (fun z1 h2 => ?_)
  refine En_sld rfl rfl (by (first | exact q_35104ce9d3 h2 h0 | omega)) (by omega) (fun z3 h4 => ?_)
  refine En_Ps 4 (pc' := 314) (lv' := [(0, .retAddr 0), (1, .ref 0), (2, .ref 159), (3, .int y)]) (st' := [.int ((y + ((Int32.ofInt 2)))), .retAddr 0, .int z3, .ref 0]) rfl ?_
  refine En_top (addI rfl (by decide : (Int32.ofInt 2).toInt = 2) (by (first | exact q_f7bbb7a326 h0 | omega)) (by omega)) (fun z5 h6 => ?_)
  refine En_sld rfl rfl (by (first | exact q_8f6627763a h6 h0 | omega)) (by omega) (fun z7 h8 => ?_)
  refine En_Ps 4 (pc' := 319) (lv' := [(0, .retAddr 0), (1, .ref 0), (2, .ref 159), (3, .int y)]) (st' := [.int ((y + ((Int32.ofInt 3)))), .retAddr 0, .int z7, .int z3, .ref 0]) rfl ?_
  refine En_top (addI rfl (by decide : (Int32.ofInt 3).toInt = 3) (by (first | exact q_de3c750a51 h0 | omega)) (by omega)) (fun z9 h10 => ?_)
  refine En_sld rfl rfl (by (first | exact q_8454383051 h10 h0 | omega)) (by omega) (fun z11 h12 => ?_)
  refine En_Ps 4 (pc' := 324) (lv' := [(0, .retAddr 0), (1, .ref 0), (2, .ref 159), (3, .int y)]) (st' := [.int ((y + ((Int32.ofInt 4)))), .retAddr 0, .int z11, .int z7, .int z3, .ref 0]) rfl ?_
  refine En_top (addI rfl (by decide : (Int32.ofInt 4).toInt = 4) (by (first | exact q_ea4d6d20ff h0 | omega)) (by omega)) (fun z13 h14 => ?_)
  refine En_sld rfl rfl (by (first | exact q_a872afbc97 h14 h0 | omega)) (by omega) (fun z15 h16 => ?_)
  refine En_Ps 4 (pc' := 329) (lv' := [(0, .retAddr 0), (1, .ref 0), (2, .ref 159), (3, .int y)]) (st' := [.int ((y + ((Int32.ofInt 5)))), .retAddr 0, .int z15, .int z11, .int z7, .int z3, .ref 0]) rfl ?_
  refine En_top (addI rfl (by decide : (Int32.ofInt 5).toInt = 5) (by (first | exact q_434610f554 h0 | omega)) (by omega)) (fun z17 h18 => ?_)
  refine En_sld rfl rfl (by (first | exact q_bb2ff2acfa h18 h0 | omega)) (by omega) (fun z19 h20 => ?_)
  refine En_callV rfl rfl rfl rfl rfl rfl rfl rfl tgz_0 (by decide +kernel) rfl (c_122x σ0 hσ0 z3 z7 z11 z15 z19 p hp h_p sg h_sg t h_t1 (by (first | exact q_c803b490ef hl_sg | omega))) (by decide) (by decide) (fun v22 σ23 h21 => ?_)
  obtain ⟨h24, h25, z27, h28, z29, rfl, h26⟩ := h21
  have h30 := h26.2.2.2.2.2.2.2.2
  have h31 := Fr_trans hF0 h25 (by decide +kernel)
  have h32 := Imp_m h26.2.2.2.2.2.2.1
  have h33 := Imp_m h26.2.2.2.2.2.2.2.1
  have h34 := INVc_fr h25 (by decide +kernel) hC
  have h35 := WI_fr h25 (by decide +kernel) (by decide +kernel) hI
  refine En_Ps 6 (pc' := 339) (lv' := [(0, .retAddr 0), (1, .ref 0), (2, .ref 159), (3, .int y)]) (st' := [.int ((y + ((Int32.ofInt 1)))), .retAddr 0, .ref 159]) rfl ?_
  refine En_top (addI rfl (by decide : (Int32.ofInt 1).toInt = 1) (by (first | exact q_465ab79ac1 h0 | omega)) (by omega)) (fun z36 h37 => ?_)
  refine En_sld rfl rfl (by (first | exact q_35104ce9d3 h37 h0 | omega)) (by omega) (fun z38 h39 => ?_)
  have h40 : z38.toInt = z3.toInt := by rw [h39, h4, show z36.toInt = z1.toInt by (first | exact q_e9c1972850 h37 h2 | omega)]
  refine En_Ps 4 (pc' := 344) (lv' := [(0, .retAddr 0), (1, .ref 0), (2, .ref 159), (3, .int y)]) (st' := [.int ((y + ((Int32.ofInt 2)))), .retAddr 0, .int z38, .ref 159]) rfl ?_
  refine En_top (addI rfl (by decide : (Int32.ofInt 2).toInt = 2) (by (first | exact q_f7bbb7a326 h0 | omega)) (by omega)) (fun z41 h42 => ?_)
  refine En_sld rfl rfl (by (first | exact q_8f6627763a h42 h0 | omega)) (by omega) (fun z43 h44 => ?_)
  have h45 : z43.toInt = z7.toInt := by rw [h44, h8, show z41.toInt = z5.toInt by (first | exact q_2ed5a210e9 h42 h6 | omega)]
  refine En_Ps 4 (pc' := 349) (lv' := [(0, .retAddr 0), (1, .ref 0), (2, .ref 159), (3, .int y)]) (st' := [.int ((y + ((Int32.ofInt 3)))), .retAddr 0, .int z43, .int z38, .ref 159]) rfl ?_
  refine En_top (addI rfl (by decide : (Int32.ofInt 3).toInt = 3) (by (first | exact q_de3c750a51 h0 | omega)) (by omega)) (fun z46 h47 => ?_)
  refine En_sld rfl rfl (by (first | exact q_8454383051 h47 h0 | omega)) (by omega) (fun z48 h49 => ?_)
  have h50 : z48.toInt = z11.toInt := by rw [h49, h12, show z46.toInt = z9.toInt by (first | exact q_a28fc6cb15 h47 h10 | omega)]
  refine En_Ps 4 (pc' := 354) (lv' := [(0, .retAddr 0), (1, .ref 0), (2, .ref 159), (3, .int y)]) (st' := [.int ((y + ((Int32.ofInt 4)))), .retAddr 0, .int z48, .int z43, .int z38, .ref 159]) rfl ?_
  refine En_top (addI rfl (by decide : (Int32.ofInt 4).toInt = 4) (by (first | exact q_ea4d6d20ff h0 | omega)) (by omega)) (fun z51 h52 => ?_)
  refine En_sld rfl rfl (by (first | exact q_a872afbc97 h52 h0 | omega)) (by omega) (fun z53 h54 => ?_)
  have h55 : z53.toInt = z15.toInt := by rw [h54, h16, show z51.toInt = z13.toInt by (first | exact q_59023bb289 h52 h14 | omega)]
  refine En_Ps 4 (pc' := 359) (lv' := [(0, .retAddr 0), (1, .ref 0), (2, .ref 159), (3, .int y)]) (st' := [.int ((y + ((Int32.ofInt 5)))), .retAddr 0, .int z53, .int z48, .int z43, .int z38, .ref 159]) rfl ?_
  refine En_top (addI rfl (by decide : (Int32.ofInt 5).toInt = 5) (by (first | exact q_434610f554 h0 | omega)) (by omega)) (fun z56 h57 => ?_)
  refine En_sld rfl rfl (by (first | exact q_bb2ff2acfa h57 h0 | omega)) (by omega) (fun z58 h59 => ?_)
  have h60 : z58.toInt = z19.toInt := by rw [h59, h20, show z56.toInt = z17.toInt by (first | exact q_7beafea409 h57 h18 | omega)]
  refine En_callV rfl rfl rfl rfl rfl rfl rfl rfl tgz_159 (by decide +kernel) rfl (c_226x σ23 h24 z38 z43 z48 z53 z58 t ((h25 _ _ (inW tgz_159 (by decide +kernel))).trans h_t2)) (by decide) (by decide) (fun v62 σ63 h61 => ?_)
  obtain ⟨h64, h65, z67, h68, z69, rfl, h66⟩ := h61
  have h70 := h66.2.2.2.2.2.2.2.2
  have h71 := Fr_trans h31 h65 (by decide +kernel)
  have h72 := Imp_m h66.2.2.2.2.2.2.1
  have h73 := Imp_m h66.2.2.2.2.2.2.2.1
  have h74 := INVc_fr h65 (by decide +kernel) h34
  have h75 := WI_fr h65 (by decide +kernel) (by decide +kernel) h35
  refine En_Ps 2 (pc' := 2236) (lv' := [(0, .retAddr 0), (1, .ref 0), (2, .ref 159), (3, .int y)]) (st' := []) rfl ?_
  have h76 : FUL σ63 := (FUL_kp hR h25 h65 (by decide +kernel) (by decide +kernel) (RDL_feed hR.1 h25 h65 (by decide +kernel) (by decide +kernel) h_t1 (by (first | exact q_58e6e51dcc hl_t | omega)) ((h65 _ _ (inW tgz_1 (by decide +kernel))).trans h28) h68 (by (first | exact q_7f3f79f89e h33 h72 h26.2.2.2.2.2.1 h66.2.2.2.2.1 h32 h73 h26.2.2.2.2.1 h66.2.2.2.2.2.1 | omega)) ⟨fun _ => (by omega), fun _ => (by omega)⟩ h30 h70 (by (first | exact q_b1495600e7 h40 | omega)) (by (first | exact q_b1495600e7 h45 | omega)) (by (first | exact q_b1495600e7 h50 | omega)) (by (first | exact q_b1495600e7 h55 | omega)) (by (first | exact q_b1495600e7 h60 | omega))))
  exact k _ h64 h74 h75 ⟨h76, (RUT_fr hQ h25 h65 (by decide +kernel) (by decide +kernel)), (QXS_fr hX h25 h65 (by decide +kernel) (by decide +kernel))⟩
set_option maxRecDepth 10000 in
set_option maxHeartbeats 4000000 in
theorem law_c1 {L : Nat} {xs : Nat → Int32} {P : PO} (hL : L ≤ 3072) (y : Int32) (h0 : 0 ≤ y.toInt) (h1 : y.toInt + 6 ≤ (L : Int)) (σ0 : SG) (hσ0 : WT σ0) (hC : INVc σ0) (hI : WI σ0) (hL : LEA σ0) (k : ∀ σ, WT σ → INVc σ → WI σ → LEA σ → En 2048 84000 (some (L, xs)) mr_336 P 2236 [(0, .retAddr 0), (1, .ref 0), (2, .ref 159), (3, .int y)] [] σ) : En 2048 84000 (some (L, xs)) mr_336 P 367 [(0, .retAddr 0), (1, .ref 0), (2, .ref 159), (3, .int y)] [] σ0 := by
  obtain ⟨hR, hQ, hX⟩ := hL
  obtain ⟨p, p2, sg, hp, hp2, h_p, h_p2, hne, h_sg, hl_sg⟩ := id hC
  obtain ⟨-, hu_sg⟩ := WT_int hσ0 (g := 18) hp (by decide +kernel) (l := (-1)) (u := 4) (by decide +kernel) h_sg
  have hF0 : Fr [(1, 1), (35, 5)] σ0 σ0 := Fr_rfl
  obtain ⟨t, h_t1, h_t2, -⟩ := id hR.1
  obtain ⟨hl_t, hu_t⟩ := WT_int hσ0 (g := 1) tgz_1 (by decide +kernel) (l := 0) (u := 1600) (by decide +kernel) h_t1
  refine En_Ps 5 (pc' := 372) (lv' := [(0, .retAddr 0), (1, .ref 0), (2, .ref 159), (3, .int y)]) (st' := [.int ((y + ((Int32.ofInt 1)))), .retAddr 0, .ref 0]) rfl ?_
  refine En_top (addI rfl (by decide : (Int32.ofInt 1).toInt = 1) (by (first | exact q_465ab79ac1 h0 | omega)) (by omega)) (fun z1 h2 => ?_)
  refine En_sld rfl rfl (by (first | exact q_35104ce9d3 h2 h0 | omega)) (by omega) (fun z3 h4 => ?_)
  refine En_callV rfl rfl rfl rfl rfl rfl rfl rfl tgz_0 (by decide +kernel) rfl (c_118x σ0 hσ0 z3 p hp h_p sg h_sg t h_t1 (by (first | exact q_c803b490ef hl_sg | omega))) (by decide) (by decide) (fun v6 σ7 h5 => ?_)
  obtain ⟨h8, h9, z11, h12, z13, rfl, h10⟩ := h5
  have h14 := Fr_trans hF0 h9 (by decide +kernel)
  have h15 := Imp_m h10.2.2.2.2.2.1
  have h16 := Imp_m h10.2.2.2.2.2.2.1
  have h17 := Imp_m h10.2.2.2.2.2.2.2
  have h18 := INVc_fr h9 (by decide +kernel) hC
  have h19 := WI_fr h9 (by decide +kernel) (by decide +kernel) hI
  refine En_Ps 6 (pc' := 382) (lv' := [(0, .retAddr 0), (1, .ref 0), (2, .ref 159), (3, .int y)]) (st' := [.int ((y + ((Int32.ofInt 1)))), .retAddr 0, .ref 159]) rfl ?_
  refine En_top (addI rfl (by decide : (Int32.ofInt 1).toInt = 1) (by (first | exact q_465ab79ac1 h0 | omega)) (by omega)) (fun z20 h21 => ?_)
  refine En_sld rfl rfl (by (first | exact q_35104ce9d3 h21 h0 | omega)) (by omega) (fun z22 h23 => ?_)
  have h24 : z22.toInt = z3.toInt := by rw [h23, h4, show z20.toInt = z1.toInt by (first | exact q_e9c1972850 h21 h2 | omega)]
  refine En_callV rfl rfl rfl rfl rfl rfl rfl rfl tgz_159 (by decide +kernel) rfl (c_221x σ7 h8 z22 t ((h9 _ _ (inW tgz_159 (by decide +kernel))).trans h_t2)) (by decide) (by decide) (fun v26 σ27 h25 => ?_)
  obtain ⟨h28, h29, z31, h32, z33, rfl, h30⟩ := h25
  have h34 := Fr_trans h14 h29 (by decide +kernel)
  have h35 := Imp_m h30.2.2.2.2.2.1
  have h36 := Imp_m h30.2.2.2.2.2.2.1
  have h37 := Imp_m h30.2.2.2.2.2.2.2
  have h38 := INVc_fr h29 (by decide +kernel) h18
  have h39 := WI_fr h29 (by decide +kernel) (by decide +kernel) h19
  refine En_Ps 2 (pc' := 2236) (lv' := [(0, .retAddr 0), (1, .ref 0), (2, .ref 159), (3, .int y)]) (st' := []) rfl ?_
  have h40 : FUL σ27 := (FUL_kp hR h9 h29 (by decide +kernel) (by decide +kernel) (RDL_end hR.1 h9 h29 (by decide +kernel) (by decide +kernel) h_t1 ((h29 _ _ (inW tgz_1 (by decide +kernel))).trans h12) h32 (by (first | exact q_0a01df6a24 h35 h36 h10.2.2.2.2.1 h37 h15 h24 h16 h30.2.2.2.2.1 h17 | omega)) (by (first | exact q_2f9e8475ec h10.2.2.2.2.1 | omega))))
  exact k _ h28 h38 h39 ⟨h40, (RUT_fr hQ h9 h29 (by decide +kernel) (by decide +kernel)), (QXS_fr hX h9 h29 (by decide +kernel) (by decide +kernel))⟩
set_option maxRecDepth 10000 in
set_option maxHeartbeats 4000000 in
theorem law_c2 {L : Nat} {xs : Nat → Int32} {P : PO} (hL : L ≤ 3072) (y : Int32) (h0 : 0 ≤ y.toInt) (h1 : y.toInt + 6 ≤ (L : Int)) (σ0 : SG) (hσ0 : WT σ0) (hC : INVc σ0) (hI : WI σ0) (hL : LEA σ0) (k : ∀ σ, WT σ → INVc σ → WI σ → LEA σ → En 2048 84000 (some (L, xs)) mr_336 P 2236 [(0, .retAddr 0), (1, .ref 0), (2, .ref 159), (3, .int y)] [] σ) : En 2048 84000 (some (L, xs)) mr_336 P 390 [(0, .retAddr 0), (1, .ref 0), (2, .ref 159), (3, .int y)] [] σ0 := by
  obtain ⟨hR, hQ, hX⟩ := hL
  obtain ⟨p, p2, sg, hp, hp2, h_p, h_p2, hne, h_sg, hl_sg⟩ := id hC
  obtain ⟨-, hu_sg⟩ := WT_int hσ0 (g := 18) hp (by decide +kernel) (l := (-1)) (u := 4) (by decide +kernel) h_sg
  have hF0 : Fr [(0, 9), (0, 10), (1, 1), (3, 1), (3, 2), (3, 3), (3, 4), (3, 5), (3, 6), (4, 0), (4, 1), (5, 0), (6, 0), (7, 0), (18, 0), (18, 1), (18, 2), (18, 3), (18, 6), (18, 7), (18, 8), (18, 11), (18, 14), (20, 2), (21, 0), (22, 0), (23, 0), (24, 0), (25, 0), (26, 0), (28, 1), (28, 2), (28, 3), (35, 5), (35, 7), (35, 8), (35, 9), (35, 10), (35, 11), (35, 12), (35, 13), (36, 0), (41, 0)] σ0 σ0 := Fr_rfl
  obtain ⟨t, h_t1, h_t2, -⟩ := id hR.1
  obtain ⟨hl_t, hu_t⟩ := WT_int hσ0 (g := 1) tgz_1 (by decide +kernel) (l := 0) (u := 1600) (by decide +kernel) h_t1
  refine En_Ps 1 (pc' := 391) (lv' := [(0, .retAddr 0), (1, .ref 0), (2, .ref 159), (3, .int y)]) (st' := [.ref 0]) rfl ?_
  refine En_callV rfl rfl rfl rfl rfl rfl rfl rfl tgz_0 (by decide +kernel) rfl (c_169x σ0 hσ0 p hp h_p sg h_sg p2 hp2 h_p2 (by (first | exact q_c803b490ef hl_sg | omega)) hne (TPc_R hσ0 (by (first | exact q_58e6e51dcc hl_t | omega)) (by (first | exact q_246f9048f8 hu_t | omega)) h_t1) (PLA_of hp2) (FXP_p hR.1 hp2)) (by decide) (by decide) (fun v2 σ3 h1 => ?_)
  obtain ⟨h4, h5, z7, h8, z9, rfl, h6⟩ := h1
  have h10 := h6.2.2.2.2.2.2.2
  have h11 := Fr_trans hF0 h5 (by decide +kernel)
  have h12 := h10.1.1
  have h13 := WI_fr h5 (by decide +kernel) (by decide +kernel) hI
  refine En_Ps 2 (pc' := 396) (lv' := [(0, .retAddr 0), (1, .ref 0), (2, .ref 159), (3, .int y)]) (st' := [.ref 159]) rfl ?_
  refine En_callV rfl rfl rfl rfl rfl rfl rfl rfl tgz_159 (by decide +kernel) rfl (c_312x σ3 h4 h13 (TBm_R hR.1 hσ0 (by (first | exact q_58e6e51dcc hl_t | omega)) (by (first | exact q_246f9048f8 hu_t | omega)) h_t1 h5 (by decide +kernel))) (by decide) (by decide) (fun v15 σ16 h14 => ?_)
  obtain ⟨h17, h18, z20, h21, z22, rfl, h19⟩ := h14
  have h23 := h19.2.2.2.2.2.2
  have h24 := Fr_trans h11 h18 (by decide +kernel)
  have h25 := INVc_fr h18 (by decide +kernel) h12
  have h26 := h23.1.1
  have h27 : z22.toInt = z9.toInt := SC_eq h10.1.2 h23.1.2
  refine En_Ps 2 (pc' := 2236) (lv' := [(0, .retAddr 0), (1, .ref 0), (2, .ref 159), (3, .int y)]) (st' := []) rfl ?_
  have h28 : FUL σ16 := (FUL_sc (r := 0) hR h_p (PLA_of hp2) hne h5 h18 (RDL_sch (t := t) hR.1 h5 h18 (by decide +kernel) (by decide +kernel) ((h18 _ _ (inW tgz_1 (by decide +kernel))).trans h8) h21 (by (first | exact q_690e4cf802 h6.2.2.2.1 h6.2.2.2.2.1 | omega)) (by (first | exact q_690e4cf802 h19.2.2.1 h19.2.2.2.1 | omega)) h10.1.2 h23.1.2) (by decide +kernel) (by decide +kernel) h6.1 h10.2.1 h23.1.2 h23.2)
  exact k _ h17 h25 h26 ⟨h28, (RUT_sch hQ h28 h5 h18 (by decide +kernel) (by decide +kernel) h10.2.1 h23.1.2 h10.2.2), (QXS_sc hX h5 h18 (by decide +kernel) (by decide +kernel) h23.1.2)⟩
set_option maxRecDepth 10000 in
set_option maxHeartbeats 4000000 in
theorem law_c3 {L : Nat} {xs : Nat → Int32} {P : PO} (hL : L ≤ 3072) (y : Int32) (h0 : 0 ≤ y.toInt) (h1 : y.toInt + 6 ≤ (L : Int)) (σ0 : SG) (hσ0 : WT σ0) (hC : INVc σ0) (hI : WI σ0) (hL : LEA σ0) (k : ∀ σ, WT σ → INVc σ → WI σ → LEA σ → En 2048 84000 (some (L, xs)) mr_336 P 2236 [(0, .retAddr 0), (1, .ref 0), (2, .ref 159), (3, .int y)] [] σ) : En 2048 84000 (some (L, xs)) mr_336 P 403 [(0, .retAddr 0), (1, .ref 0), (2, .ref 159), (3, .int y)] [] σ0 := by
  obtain ⟨hR, hQ, hX⟩ := hL
  obtain ⟨p, p2, sg, hp, hp2, h_p, h_p2, hne, h_sg, hl_sg⟩ := id hC
  obtain ⟨-, hu_sg⟩ := WT_int hσ0 (g := 18) hp (by decide +kernel) (l := (-1)) (u := 4) (by decide +kernel) h_sg
  have hF0 : Fr [] σ0 σ0 := Fr_rfl
  obtain ⟨t, h_t1, h_t2, -⟩ := id hR.1
  obtain ⟨hl_t, hu_t⟩ := WT_int hσ0 (g := 1) tgz_1 (by decide +kernel) (l := 0) (u := 1600) (by decide +kernel) h_t1
  refine En_Ps 5 (pc' := 408) (lv' := [(0, .retAddr 0), (1, .ref 0), (2, .ref 159), (3, .int y)]) (st' := [.int ((y + ((Int32.ofInt 1)))), .retAddr 0, .ref 0]) rfl ?_
  refine En_top (addI rfl (by decide : (Int32.ofInt 1).toInt = 1) (by (first | exact q_465ab79ac1 h0 | omega)) (by omega)) (fun z1 h2 => ?_)
  refine En_sld rfl rfl (by (first | exact q_35104ce9d3 h2 h0 | omega)) (by omega) (fun z3 h4 => ?_)
  obtain ⟨z6, h5, h7, h8⟩ := WT_peekI hσ0 tgz_3 (by decide +kernel : FT 3 5 = (0, 0, 3)) (by decide +kernel)
  obtain ⟨z10, h9, h11, h12⟩ := WT_peekI hσ0 tgz_3 (by decide +kernel : FT 3 6 = (0, (-1), 1600)) (by decide +kernel)
  refine En_callV rfl rfl rfl rfl rfl rfl rfl rfl tgz_0 (by decide +kernel) rfl (c_121x σ0 hσ0 z3 p hp h_p sg h_sg z6 h5 z10 h9 (by (first | exact q_c803b490ef hl_sg | omega))) (by decide) (by decide) (fun v14 σ15 h13 => ?_)
  obtain ⟨h16, h17, z19, rfl, h18⟩ := h13
  have h20 := Fr_trans hF0 h17 (by decide +kernel)
  have h21 := Imp_m h18.2.2.1
  have h22 := Imp_m h18.2.2.2.1
  have h23 := Imp_m h18.2.2.2.2.1
  have h24 := Imp_m h18.2.2.2.2.2
  have h25 := INVc_fr h17 (by decide +kernel) hC
  have h26 := WI_fr h17 (by decide +kernel) (by decide +kernel) hI
  refine En_Ps 6 (pc' := 418) (lv' := [(0, .retAddr 0), (1, .ref 0), (2, .ref 159), (3, .int y)]) (st' := [.int ((y + ((Int32.ofInt 1)))), .retAddr 0, .ref 159]) rfl ?_
  refine En_top (addI rfl (by decide : (Int32.ofInt 1).toInt = 1) (by (first | exact q_465ab79ac1 h0 | omega)) (by omega)) (fun z27 h28 => ?_)
  refine En_sld rfl rfl (by (first | exact q_35104ce9d3 h28 h0 | omega)) (by omega) (fun z29 h30 => ?_)
  have h31 : z29.toInt = z3.toInt := by rw [h30, h4, show z27.toInt = z1.toInt by (first | exact q_e9c1972850 h28 h2 | omega)]
  obtain ⟨z33, h32, h34, h35⟩ := WT_peekI h16 tgz_159 (by decide +kernel : FT 35 12 = (0, 0, 3)) (by decide +kernel)
  obtain ⟨z37, h36, h38, h39⟩ := WT_peekI h16 tgz_159 (by decide +kernel : FT 35 13 = (0, (-1), 1600)) (by decide +kernel)
  refine En_callV rfl rfl rfl rfl rfl rfl rfl rfl tgz_159 (by decide +kernel) rfl (c_225x σ15 h16 z29 z33 h32 z37 h36) (by decide) (by decide) (fun v41 σ42 h40 => ?_)
  obtain ⟨h43, h44, z46, rfl, h45⟩ := h40
  have h47 := Fr_trans h20 h44 (by decide +kernel)
  have h48 := Imp_m h45.2.2.1
  have h49 := Imp_m h45.2.2.2.1
  have h50 := Imp_m h45.2.2.2.2.1
  have h51 := Imp_m h45.2.2.2.2.2
  have h52 := INVc_fr h44 (by decide +kernel) h25
  have h53 := WI_fr h44 (by decide +kernel) (by decide +kernel) h26
  have h54 : z33.toInt = z6.toInt := by obtain ⟨-, -, -, -, g5, g6, -⟩ := RDL_fr hR.1 h17 h44 (by decide +kernel) (by decide +kernel); have a := ci_at (j := 5) ((h44 _ _ (inW tgz_3 (by decide +kernel))).trans ((h17 _ _ (inW tgz_3 (by decide +kernel))).trans h5)) rfl; have b := ci_at (j := 12) ((h44 _ _ (inW tgz_159 (by decide +kernel))).trans h32) rfl; (first | exact q_ca39506632 b a g5 | omega)
  have h55 : z37.toInt = z10.toInt := by obtain ⟨-, -, -, -, g5, g6, -⟩ := RDL_fr hR.1 h17 h44 (by decide +kernel) (by decide +kernel); have a := ci_at (j := 6) ((h44 _ _ (inW tgz_3 (by decide +kernel))).trans ((h17 _ _ (inW tgz_3 (by decide +kernel))).trans h9)) rfl; have b := ci_at (j := 13) ((h44 _ _ (inW tgz_159 (by decide +kernel))).trans h36) rfl; (first | exact q_ca39506632 b a g6 | omega)
  refine En_Ps 2 (pc' := 2236) (lv' := [(0, .retAddr 0), (1, .ref 0), (2, .ref 159), (3, .int y)]) (st' := []) rfl ?_
  have h56 : FUL σ42 := (FUL_kp hR h17 h44 (by decide +kernel) (by decide +kernel) (RDL_fr hR.1 h17 h44 (by decide +kernel) (by decide +kernel)))
  exact k _ h43 h52 h53 ⟨h56, (RUT_fr hQ h17 h44 (by decide +kernel) (by decide +kernel)), (QXS_fr hX h17 h44 (by decide +kernel) (by decide +kernel))⟩
set_option maxRecDepth 10000 in
set_option maxHeartbeats 4000000 in
theorem law_c4 {L : Nat} {xs : Nat → Int32} {P : PO} (hL : L ≤ 3072) (y : Int32) (h0 : 0 ≤ y.toInt) (h1 : y.toInt + 6 ≤ (L : Int)) (σ0 : SG) (hσ0 : WT σ0) (hC : INVc σ0) (hI : WI σ0) (hL : LEA σ0) (k : ∀ σ, WT σ → INVc σ → WI σ → LEA σ → En 2048 84000 (some (L, xs)) mr_336 P 2236 [(0, .retAddr 0), (1, .ref 0), (2, .ref 159), (3, .int y)] [] σ) : En 2048 84000 (some (L, xs)) mr_336 P 426 [(0, .retAddr 0), (1, .ref 0), (2, .ref 159), (3, .int y)] [] σ0 := by
  obtain ⟨hR, hQ, hX⟩ := hL
  obtain ⟨p, p2, sg, hp, hp2, h_p, h_p2, hne, h_sg, hl_sg⟩ := id hC
  obtain ⟨-, hu_sg⟩ := WT_int hσ0 (g := 18) hp (by decide +kernel) (l := (-1)) (u := 4) (by decide +kernel) h_sg
  have hF0 : Fr [] σ0 σ0 := Fr_rfl
  obtain ⟨t, h_t1, h_t2, -⟩ := id hR.1
  obtain ⟨hl_t, hu_t⟩ := WT_int hσ0 (g := 1) tgz_1 (by decide +kernel) (l := 0) (u := 1600) (by decide +kernel) h_t1
  refine En_Ps 5 (pc' := 431) (lv' := [(0, .retAddr 0), (1, .ref 0), (2, .ref 159), (3, .int y)]) (st' := [.int ((y + ((Int32.ofInt 1)))), .retAddr 0, .ref 0]) rfl ?_
  refine En_top (addI rfl (by decide : (Int32.ofInt 1).toInt = 1) (by (first | exact q_465ab79ac1 h0 | omega)) (by omega)) (fun z1 h2 => ?_)
  refine En_sld rfl rfl (by (first | exact q_35104ce9d3 h2 h0 | omega)) (by omega) (fun z3 h4 => ?_)
  refine En_Ps 4 (pc' := 436) (lv' := [(0, .retAddr 0), (1, .ref 0), (2, .ref 159), (3, .int y)]) (st' := [.int ((y + ((Int32.ofInt 2)))), .retAddr 0, .int z3, .ref 0]) rfl ?_
  refine En_top (addI rfl (by decide : (Int32.ofInt 2).toInt = 2) (by (first | exact q_f7bbb7a326 h0 | omega)) (by omega)) (fun z5 h6 => ?_)
  refine En_sld rfl rfl (by (first | exact q_8f6627763a h6 h0 | omega)) (by omega) (fun z7 h8 => ?_)
  refine En_callV rfl rfl rfl rfl rfl rfl rfl rfl tgz_0 (by decide +kernel) rfl (c_116 σ0 hσ0 z3 z7 p hp h_p sg h_sg (by (first | exact q_c803b490ef hl_sg | omega))) (by decide) (by decide) (fun v10 σ11 h9 => ?_)
  obtain ⟨h12, h13, z15, rfl, h14⟩ := h9
  have h16 := Fr_trans hF0 h13 (by decide +kernel)
  have h17 := INVc_fr h13 (by decide +kernel) hC
  have h18 := WI_fr h13 (by decide +kernel) (by decide +kernel) hI
  refine En_Ps 6 (pc' := 446) (lv' := [(0, .retAddr 0), (1, .ref 0), (2, .ref 159), (3, .int y)]) (st' := [.int ((y + ((Int32.ofInt 1)))), .retAddr 0, .ref 159]) rfl ?_
  refine En_top (addI rfl (by decide : (Int32.ofInt 1).toInt = 1) (by (first | exact q_465ab79ac1 h0 | omega)) (by omega)) (fun z19 h20 => ?_)
  refine En_sld rfl rfl (by (first | exact q_35104ce9d3 h20 h0 | omega)) (by omega) (fun z21 h22 => ?_)
  have h23 : z21.toInt = z3.toInt := by rw [h22, h4, show z19.toInt = z1.toInt by (first | exact q_e9c1972850 h20 h2 | omega)]
  refine En_Ps 4 (pc' := 451) (lv' := [(0, .retAddr 0), (1, .ref 0), (2, .ref 159), (3, .int y)]) (st' := [.int ((y + ((Int32.ofInt 2)))), .retAddr 0, .int z21, .ref 159]) rfl ?_
  refine En_top (addI rfl (by decide : (Int32.ofInt 2).toInt = 2) (by (first | exact q_f7bbb7a326 h0 | omega)) (by omega)) (fun z24 h25 => ?_)
  refine En_sld rfl rfl (by (first | exact q_8f6627763a h25 h0 | omega)) (by omega) (fun z26 h27 => ?_)
  have h28 : z26.toInt = z7.toInt := by rw [h27, h8, show z24.toInt = z5.toInt by (first | exact q_2ed5a210e9 h25 h6 | omega)]
  refine En_callV rfl rfl rfl rfl rfl rfl rfl rfl tgz_159 (by decide +kernel) rfl (c_219 σ11 h12 z21 z26) (by decide) (by decide) (fun v30 σ31 h29 => ?_)
  obtain ⟨h32, h33, z35, rfl, h34⟩ := h29
  have h36 := Fr_trans h16 h33 (by decide +kernel)
  have h37 := INVc_fr h33 (by decide +kernel) h17
  have h38 := WI_fr h33 (by decide +kernel) (by decide +kernel) h18
  refine En_Ps 2 (pc' := 2236) (lv' := [(0, .retAddr 0), (1, .ref 0), (2, .ref 159), (3, .int y)]) (st' := []) rfl ?_
  have h39 : FUL σ31 := (FUL_kp hR h13 h33 (by decide +kernel) (by decide +kernel) (RDL_fr hR.1 h13 h33 (by decide +kernel) (by decide +kernel)))
  exact k _ h32 h37 h38 ⟨h39, (RUT_fr hQ h13 h33 (by decide +kernel) (by decide +kernel)), (QXS_fr hX h13 h33 (by decide +kernel) (by decide +kernel))⟩
set_option maxRecDepth 10000 in
set_option maxHeartbeats 4000000 in
theorem law_c5 {L : Nat} {xs : Nat → Int32} {P : PO} (hL : L ≤ 3072) (y : Int32) (h0 : 0 ≤ y.toInt) (h1 : y.toInt + 6 ≤ (L : Int)) (σ0 : SG) (hσ0 : WT σ0) (hC : INVc σ0) (hI : WI σ0) (hL : LEA σ0) (k : ∀ σ, WT σ → INVc σ → WI σ → LEA σ → En 2048 84000 (some (L, xs)) mr_336 P 2236 [(0, .retAddr 0), (1, .ref 0), (2, .ref 159), (3, .int y)] [] σ) : En 2048 84000 (some (L, xs)) mr_336 P 459 [(0, .retAddr 0), (1, .ref 0), (2, .ref 159), (3, .int y)] [] σ0 := by
  obtain ⟨hR, hQ, hX⟩ := hL
  obtain ⟨p, p2, sg, hp, hp2, h_p, h_p2, hne, h_sg, hl_sg⟩ := id hC
  obtain ⟨-, hu_sg⟩ := WT_int hσ0 (g := 18) hp (by decide +kernel) (l := (-1)) (u := 4) (by decide +kernel) h_sg
  have hF0 : Fr [] σ0 σ0 := Fr_rfl
  obtain ⟨t, h_t1, h_t2, -⟩ := id hR.1
  obtain ⟨hl_t, hu_t⟩ := WT_int hσ0 (g := 1) tgz_1 (by decide +kernel) (l := 0) (u := 1600) (by decide +kernel) h_t1
  refine En_Ps 5 (pc' := 464) (lv' := [(0, .retAddr 0), (1, .ref 0), (2, .ref 159), (3, .int y)]) (st' := [.int ((y + ((Int32.ofInt 1)))), .retAddr 0, .ref 0]) rfl ?_
  refine En_top (addI rfl (by decide : (Int32.ofInt 1).toInt = 1) (by (first | exact q_465ab79ac1 h0 | omega)) (by omega)) (fun z1 h2 => ?_)
  refine En_sld rfl rfl (by (first | exact q_35104ce9d3 h2 h0 | omega)) (by omega) (fun z3 h4 => ?_)
  refine En_Ps 4 (pc' := 469) (lv' := [(0, .retAddr 0), (1, .ref 0), (2, .ref 159), (3, .int y)]) (st' := [.int ((y + ((Int32.ofInt 2)))), .retAddr 0, .int z3, .ref 0]) rfl ?_
  refine En_top (addI rfl (by decide : (Int32.ofInt 2).toInt = 2) (by (first | exact q_f7bbb7a326 h0 | omega)) (by omega)) (fun z5 h6 => ?_)
  refine En_sld rfl rfl (by (first | exact q_8f6627763a h6 h0 | omega)) (by omega) (fun z7 h8 => ?_)
  refine En_Ps 4 (pc' := 474) (lv' := [(0, .retAddr 0), (1, .ref 0), (2, .ref 159), (3, .int y)]) (st' := [.int ((y + ((Int32.ofInt 3)))), .retAddr 0, .int z7, .int z3, .ref 0]) rfl ?_
  refine En_top (addI rfl (by decide : (Int32.ofInt 3).toInt = 3) (by (first | exact q_de3c750a51 h0 | omega)) (by omega)) (fun z9 h10 => ?_)
  refine En_sld rfl rfl (by (first | exact q_8454383051 h10 h0 | omega)) (by omega) (fun z11 h12 => ?_)
  refine En_callV rfl rfl rfl rfl rfl rfl rfl rfl tgz_0 (by decide +kernel) rfl (c_154 σ0 hσ0 z3 z7 z11 p hp h_p sg h_sg (by (first | exact q_c803b490ef hl_sg | omega))) (by decide) (by decide) (fun v14 σ15 h13 => ?_)
  obtain ⟨h16, h17, z19, rfl, h18⟩ := h13
  have h20 := Fr_trans hF0 h17 (by decide +kernel)
  have h21 := INVc_fr h17 (by decide +kernel) hC
  have h22 := WI_fr h17 (by decide +kernel) (by decide +kernel) hI
  refine En_Ps 6 (pc' := 484) (lv' := [(0, .retAddr 0), (1, .ref 0), (2, .ref 159), (3, .int y)]) (st' := [.int ((y + ((Int32.ofInt 1)))), .retAddr 0, .ref 159]) rfl ?_
  refine En_top (addI rfl (by decide : (Int32.ofInt 1).toInt = 1) (by (first | exact q_465ab79ac1 h0 | omega)) (by omega)) (fun z23 h24 => ?_)
  refine En_sld rfl rfl (by (first | exact q_35104ce9d3 h24 h0 | omega)) (by omega) (fun z25 h26 => ?_)
  have h27 : z25.toInt = z3.toInt := by rw [h26, h4, show z23.toInt = z1.toInt by (first | exact q_e9c1972850 h24 h2 | omega)]
  refine En_Ps 4 (pc' := 489) (lv' := [(0, .retAddr 0), (1, .ref 0), (2, .ref 159), (3, .int y)]) (st' := [.int ((y + ((Int32.ofInt 2)))), .retAddr 0, .int z25, .ref 159]) rfl ?_
  refine En_top (addI rfl (by decide : (Int32.ofInt 2).toInt = 2) (by (first | exact q_f7bbb7a326 h0 | omega)) (by omega)) (fun z28 h29 => ?_)
  refine En_sld rfl rfl (by (first | exact q_8f6627763a h29 h0 | omega)) (by omega) (fun z30 h31 => ?_)
  have h32 : z30.toInt = z7.toInt := by rw [h31, h8, show z28.toInt = z5.toInt by (first | exact q_2ed5a210e9 h29 h6 | omega)]
  refine En_Ps 4 (pc' := 494) (lv' := [(0, .retAddr 0), (1, .ref 0), (2, .ref 159), (3, .int y)]) (st' := [.int ((y + ((Int32.ofInt 3)))), .retAddr 0, .int z30, .int z25, .ref 159]) rfl ?_
  refine En_top (addI rfl (by decide : (Int32.ofInt 3).toInt = 3) (by (first | exact q_de3c750a51 h0 | omega)) (by omega)) (fun z33 h34 => ?_)
  refine En_sld rfl rfl (by (first | exact q_8454383051 h34 h0 | omega)) (by omega) (fun z35 h36 => ?_)
  have h37 : z35.toInt = z11.toInt := by rw [h36, h12, show z33.toInt = z9.toInt by (first | exact q_a28fc6cb15 h34 h10 | omega)]
  refine En_callV rfl rfl rfl rfl rfl rfl rfl rfl tgz_159 (by decide +kernel) rfl (c_280 σ15 h16 z25 z30 z35) (by decide) (by decide) (fun v39 σ40 h38 => ?_)
  obtain ⟨h41, h42, z44, rfl, h43⟩ := h38
  have h45 := Fr_trans h20 h42 (by decide +kernel)
  have h46 := INVc_fr h42 (by decide +kernel) h21
  have h47 := WI_fr h42 (by decide +kernel) (by decide +kernel) h22
  refine En_Ps 2 (pc' := 2236) (lv' := [(0, .retAddr 0), (1, .ref 0), (2, .ref 159), (3, .int y)]) (st' := []) rfl ?_
  have h48 : FUL σ40 := (FUL_kp hR h17 h42 (by decide +kernel) (by decide +kernel) (RDL_fr hR.1 h17 h42 (by decide +kernel) (by decide +kernel)))
  exact k _ h41 h46 h47 ⟨h48, (RUT_fr hQ h17 h42 (by decide +kernel) (by decide +kernel)), (QXS_fr hX h17 h42 (by decide +kernel) (by decide +kernel))⟩
set_option maxRecDepth 10000 in
set_option maxHeartbeats 4000000 in
theorem law_c6 {L : Nat} {xs : Nat → Int32} {P : PO} (hL : L ≤ 3072) (y : Int32) (h0 : 0 ≤ y.toInt) (h1 : y.toInt + 6 ≤ (L : Int)) (σ0 : SG) (hσ0 : WT σ0) (hC : INVc σ0) (hI : WI σ0) (hL : LEA σ0) (k : ∀ σ, WT σ → INVc σ → WI σ → LEA σ → En 2048 84000 (some (L, xs)) mr_336 P 2236 [(0, .retAddr 0), (1, .ref 0), (2, .ref 159), (3, .int y)] [] σ) : En 2048 84000 (some (L, xs)) mr_336 P 502 [(0, .retAddr 0), (1, .ref 0), (2, .ref 159), (3, .int y)] [] σ0 := by
  obtain ⟨hR, hQ, hX⟩ := hL
  obtain ⟨p, p2, sg, hp, hp2, h_p, h_p2, hne, h_sg, hl_sg⟩ := id hC
  obtain ⟨-, hu_sg⟩ := WT_int hσ0 (g := 18) hp (by decide +kernel) (l := (-1)) (u := 4) (by decide +kernel) h_sg
  have hF0 : Fr [] σ0 σ0 := Fr_rfl
  obtain ⟨t, h_t1, h_t2, -⟩ := id hR.1
  obtain ⟨hl_t, hu_t⟩ := WT_int hσ0 (g := 1) tgz_1 (by decide +kernel) (l := 0) (u := 1600) (by decide +kernel) h_t1
  refine En_Ps 5 (pc' := 507) (lv' := [(0, .retAddr 0), (1, .ref 0), (2, .ref 159), (3, .int y)]) (st' := [.int ((y + ((Int32.ofInt 1)))), .retAddr 0, .ref 0]) rfl ?_
  refine En_top (addI rfl (by decide : (Int32.ofInt 1).toInt = 1) (by (first | exact q_465ab79ac1 h0 | omega)) (by omega)) (fun z1 h2 => ?_)
  refine En_sld rfl rfl (by (first | exact q_35104ce9d3 h2 h0 | omega)) (by omega) (fun z3 h4 => ?_)
  refine En_Ps 4 (pc' := 512) (lv' := [(0, .retAddr 0), (1, .ref 0), (2, .ref 159), (3, .int y)]) (st' := [.int ((y + ((Int32.ofInt 2)))), .retAddr 0, .int z3, .ref 0]) rfl ?_
  refine En_top (addI rfl (by decide : (Int32.ofInt 2).toInt = 2) (by (first | exact q_f7bbb7a326 h0 | omega)) (by omega)) (fun z5 h6 => ?_)
  refine En_sld rfl rfl (by (first | exact q_8f6627763a h6 h0 | omega)) (by omega) (fun z7 h8 => ?_)
  refine En_callV rfl rfl rfl rfl rfl rfl rfl rfl tgz_0 (by decide +kernel) rfl (c_120 σ0 hσ0 z3 z7 p hp h_p sg h_sg (by (first | exact q_c803b490ef hl_sg | omega))) (by decide) (by decide) (fun v10 σ11 h9 => ?_)
  obtain ⟨h12, h13, z15, rfl, h14⟩ := h9
  have h16 := Fr_trans hF0 h13 (by decide +kernel)
  have h17 := INVc_fr h13 (by decide +kernel) hC
  have h18 := WI_fr h13 (by decide +kernel) (by decide +kernel) hI
  refine En_Ps 6 (pc' := 522) (lv' := [(0, .retAddr 0), (1, .ref 0), (2, .ref 159), (3, .int y)]) (st' := [.int ((y + ((Int32.ofInt 1)))), .retAddr 0, .ref 159]) rfl ?_
  refine En_top (addI rfl (by decide : (Int32.ofInt 1).toInt = 1) (by (first | exact q_465ab79ac1 h0 | omega)) (by omega)) (fun z19 h20 => ?_)
  refine En_sld rfl rfl (by (first | exact q_35104ce9d3 h20 h0 | omega)) (by omega) (fun z21 h22 => ?_)
  have h23 : z21.toInt = z3.toInt := by rw [h22, h4, show z19.toInt = z1.toInt by (first | exact q_e9c1972850 h20 h2 | omega)]
  refine En_Ps 4 (pc' := 527) (lv' := [(0, .retAddr 0), (1, .ref 0), (2, .ref 159), (3, .int y)]) (st' := [.int ((y + ((Int32.ofInt 2)))), .retAddr 0, .int z21, .ref 159]) rfl ?_
  refine En_top (addI rfl (by decide : (Int32.ofInt 2).toInt = 2) (by (first | exact q_f7bbb7a326 h0 | omega)) (by omega)) (fun z24 h25 => ?_)
  refine En_sld rfl rfl (by (first | exact q_8f6627763a h25 h0 | omega)) (by omega) (fun z26 h27 => ?_)
  have h28 : z26.toInt = z7.toInt := by rw [h27, h8, show z24.toInt = z5.toInt by (first | exact q_2ed5a210e9 h25 h6 | omega)]
  refine En_callV rfl rfl rfl rfl rfl rfl rfl rfl tgz_159 (by decide +kernel) rfl (c_224 σ11 h12 z21 z26) (by decide) (by decide) (fun v30 σ31 h29 => ?_)
  obtain ⟨h32, h33, z35, rfl, h34⟩ := h29
  have h36 := Fr_trans h16 h33 (by decide +kernel)
  have h37 := INVc_fr h33 (by decide +kernel) h17
  have h38 := WI_fr h33 (by decide +kernel) (by decide +kernel) h18
  refine En_Ps 2 (pc' := 2236) (lv' := [(0, .retAddr 0), (1, .ref 0), (2, .ref 159), (3, .int y)]) (st' := []) rfl ?_
  have h39 : FUL σ31 := (FUL_kp hR h13 h33 (by decide +kernel) (by decide +kernel) (RDL_fr hR.1 h13 h33 (by decide +kernel) (by decide +kernel)))
  exact k _ h32 h37 h38 ⟨h39, (RUT_fr hQ h13 h33 (by decide +kernel) (by decide +kernel)), (QXS_fr hX h13 h33 (by decide +kernel) (by decide +kernel))⟩
set_option maxRecDepth 10000 in
set_option maxHeartbeats 4000000 in
theorem law_c7 {L : Nat} {xs : Nat → Int32} {P : PO} (hL : L ≤ 3072) (y : Int32) (h0 : 0 ≤ y.toInt) (h1 : y.toInt + 6 ≤ (L : Int)) (σ0 : SG) (hσ0 : WT σ0) (hC : INVc σ0) (hI : WI σ0) (hL : LEA σ0) (k : ∀ σ, WT σ → INVc σ → WI σ → LEA σ → En 2048 84000 (some (L, xs)) mr_336 P 2236 [(0, .retAddr 0), (1, .ref 0), (2, .ref 159), (3, .int y)] [] σ) : En 2048 84000 (some (L, xs)) mr_336 P 535 [(0, .retAddr 0), (1, .ref 0), (2, .ref 159), (3, .int y)] [] σ0 := by
  obtain ⟨hR, hQ, hX⟩ := hL
  obtain ⟨p, p2, sg, hp, hp2, h_p, h_p2, hne, h_sg, hl_sg⟩ := id hC
  obtain ⟨-, hu_sg⟩ := WT_int hσ0 (g := 18) hp (by decide +kernel) (l := (-1)) (u := 4) (by decide +kernel) h_sg
  have hF0 : Fr [] σ0 σ0 := Fr_rfl
  obtain ⟨t, h_t1, h_t2, -⟩ := id hR.1
  obtain ⟨hl_t, hu_t⟩ := WT_int hσ0 (g := 1) tgz_1 (by decide +kernel) (l := 0) (u := 1600) (by decide +kernel) h_t1
  refine En_Ps 5 (pc' := 540) (lv' := [(0, .retAddr 0), (1, .ref 0), (2, .ref 159), (3, .int y)]) (st' := [.int ((y + ((Int32.ofInt 1)))), .retAddr 0, .ref 0]) rfl ?_
  refine En_top (addI rfl (by decide : (Int32.ofInt 1).toInt = 1) (by (first | exact q_465ab79ac1 h0 | omega)) (by omega)) (fun z1 h2 => ?_)
  refine En_sld rfl rfl (by (first | exact q_35104ce9d3 h2 h0 | omega)) (by omega) (fun z3 h4 => ?_)
  refine En_Ps 4 (pc' := 545) (lv' := [(0, .retAddr 0), (1, .ref 0), (2, .ref 159), (3, .int y)]) (st' := [.int ((y + ((Int32.ofInt 2)))), .retAddr 0, .int z3, .ref 0]) rfl ?_
  refine En_top (addI rfl (by decide : (Int32.ofInt 2).toInt = 2) (by (first | exact q_f7bbb7a326 h0 | omega)) (by omega)) (fun z5 h6 => ?_)
  refine En_sld rfl rfl (by (first | exact q_8f6627763a h6 h0 | omega)) (by omega) (fun z7 h8 => ?_)
  refine En_callV rfl rfl rfl rfl rfl rfl rfl rfl tgz_0 (by decide +kernel) rfl (c_138 σ0 hσ0 z3 z7 p hp h_p sg h_sg (by (first | exact q_c803b490ef hl_sg | omega))) (by decide) (by decide) (fun v10 σ11 h9 => ?_)
  obtain ⟨h12, h13, z15, rfl, h14⟩ := h9
  have h16 := Fr_trans hF0 h13 (by decide +kernel)
  have h17 := INVc_fr h13 (by decide +kernel) hC
  have h18 := WI_fr h13 (by decide +kernel) (by decide +kernel) hI
  refine En_Ps 6 (pc' := 555) (lv' := [(0, .retAddr 0), (1, .ref 0), (2, .ref 159), (3, .int y)]) (st' := [.int ((y + ((Int32.ofInt 1)))), .retAddr 0, .ref 159]) rfl ?_
  refine En_top (addI rfl (by decide : (Int32.ofInt 1).toInt = 1) (by (first | exact q_465ab79ac1 h0 | omega)) (by omega)) (fun z19 h20 => ?_)
  refine En_sld rfl rfl (by (first | exact q_35104ce9d3 h20 h0 | omega)) (by omega) (fun z21 h22 => ?_)
  have h23 : z21.toInt = z3.toInt := by rw [h22, h4, show z19.toInt = z1.toInt by (first | exact q_e9c1972850 h20 h2 | omega)]
  refine En_Ps 4 (pc' := 560) (lv' := [(0, .retAddr 0), (1, .ref 0), (2, .ref 159), (3, .int y)]) (st' := [.int ((y + ((Int32.ofInt 2)))), .retAddr 0, .int z21, .ref 159]) rfl ?_
  refine En_top (addI rfl (by decide : (Int32.ofInt 2).toInt = 2) (by (first | exact q_f7bbb7a326 h0 | omega)) (by omega)) (fun z24 h25 => ?_)
  refine En_sld rfl rfl (by (first | exact q_8f6627763a h25 h0 | omega)) (by omega) (fun z26 h27 => ?_)
  have h28 : z26.toInt = z7.toInt := by rw [h27, h8, show z24.toInt = z5.toInt by (first | exact q_2ed5a210e9 h25 h6 | omega)]
  refine En_callV rfl rfl rfl rfl rfl rfl rfl rfl tgz_159 (by decide +kernel) rfl (c_245 σ11 h12 z21 z26) (by decide) (by decide) (fun v30 σ31 h29 => ?_)
  obtain ⟨h32, h33, z35, rfl, h34⟩ := h29
  have h36 := Fr_trans h16 h33 (by decide +kernel)
  have h37 := INVc_fr h33 (by decide +kernel) h17
  have h38 := WI_fr h33 (by decide +kernel) (by decide +kernel) h18
  refine En_Ps 2 (pc' := 2236) (lv' := [(0, .retAddr 0), (1, .ref 0), (2, .ref 159), (3, .int y)]) (st' := []) rfl ?_
  have h39 : FUL σ31 := (FUL_kp hR h13 h33 (by decide +kernel) (by decide +kernel) (RDL_fr hR.1 h13 h33 (by decide +kernel) (by decide +kernel)))
  exact k _ h32 h37 h38 ⟨h39, (RUT_fr hQ h13 h33 (by decide +kernel) (by decide +kernel)), (QXS_fr hX h13 h33 (by decide +kernel) (by decide +kernel))⟩
set_option maxRecDepth 10000 in
set_option maxHeartbeats 4000000 in
theorem law_c8 {L : Nat} {xs : Nat → Int32} {P : PO} (hL : L ≤ 3072) (y : Int32) (h0 : 0 ≤ y.toInt) (h1 : y.toInt + 6 ≤ (L : Int)) (σ0 : SG) (hσ0 : WT σ0) (hC : INVc σ0) (hI : WI σ0) (hL : LEA σ0) (k : ∀ σ, WT σ → INVc σ → WI σ → LEA σ → En 2048 84000 (some (L, xs)) mr_336 P 2236 [(0, .retAddr 0), (1, .ref 0), (2, .ref 159), (3, .int y)] [] σ) : En 2048 84000 (some (L, xs)) mr_336 P 568 [(0, .retAddr 0), (1, .ref 0), (2, .ref 159), (3, .int y)] [] σ0 := by
  obtain ⟨hR, hQ, hX⟩ := hL
  obtain ⟨p, p2, sg, hp, hp2, h_p, h_p2, hne, h_sg, hl_sg⟩ := id hC
  obtain ⟨-, hu_sg⟩ := WT_int hσ0 (g := 18) hp (by decide +kernel) (l := (-1)) (u := 4) (by decide +kernel) h_sg
  have hF0 : Fr [(35, 18), (35, 21), (42, 0), (43, 0), (44, 0), (45, 0), (46, 0)] σ0 σ0 := Fr_rfl
  obtain ⟨t, h_t1, h_t2, -⟩ := id hR.1
  obtain ⟨hl_t, hu_t⟩ := WT_int hσ0 (g := 1) tgz_1 (by decide +kernel) (l := 0) (u := 1600) (by decide +kernel) h_t1
  refine En_Ps 5 (pc' := 573) (lv' := [(0, .retAddr 0), (1, .ref 0), (2, .ref 159), (3, .int y)]) (st' := [.int ((y + ((Int32.ofInt 1)))), .retAddr 0, .ref 0]) rfl ?_
  refine En_top (addI rfl (by decide : (Int32.ofInt 1).toInt = 1) (by (first | exact q_465ab79ac1 h0 | omega)) (by omega)) (fun z1 h2 => ?_)
  refine En_sld rfl rfl (by (first | exact q_35104ce9d3 h2 h0 | omega)) (by omega) (fun z3 h4 => ?_)
  refine En_Ps 4 (pc' := 578) (lv' := [(0, .retAddr 0), (1, .ref 0), (2, .ref 159), (3, .int y)]) (st' := [.int ((y + ((Int32.ofInt 2)))), .retAddr 0, .int z3, .ref 0]) rfl ?_
  refine En_top (addI rfl (by decide : (Int32.ofInt 2).toInt = 2) (by (first | exact q_f7bbb7a326 h0 | omega)) (by omega)) (fun z5 h6 => ?_)
  refine En_sld rfl rfl (by (first | exact q_8f6627763a h6 h0 | omega)) (by omega) (fun z7 h8 => ?_)
  refine En_callV rfl rfl rfl rfl rfl rfl rfl rfl tgz_0 (by decide +kernel) rfl (c_159 σ0 hσ0 z3 z7 p hp h_p sg h_sg (by (first | exact q_c803b490ef hl_sg | omega))) (by decide) (by decide) (fun v10 σ11 h9 => ?_)
  obtain ⟨h12, h13, z15, rfl, h14⟩ := h9
  have h16 := Fr_trans hF0 h13 (by decide +kernel)
  have h17 := INVc_fr h13 (by decide +kernel) hC
  have h18 := WI_fr h13 (by decide +kernel) (by decide +kernel) hI
  refine En_Ps 6 (pc' := 588) (lv' := [(0, .retAddr 0), (1, .ref 0), (2, .ref 159), (3, .int y)]) (st' := [.int ((y + ((Int32.ofInt 1)))), .retAddr 0, .ref 159]) rfl ?_
  refine En_top (addI rfl (by decide : (Int32.ofInt 1).toInt = 1) (by (first | exact q_465ab79ac1 h0 | omega)) (by omega)) (fun z19 h20 => ?_)
  refine En_sld rfl rfl (by (first | exact q_35104ce9d3 h20 h0 | omega)) (by omega) (fun z21 h22 => ?_)
  have h23 : z21.toInt = z3.toInt := by rw [h22, h4, show z19.toInt = z1.toInt by (first | exact q_e9c1972850 h20 h2 | omega)]
  refine En_Ps 4 (pc' := 593) (lv' := [(0, .retAddr 0), (1, .ref 0), (2, .ref 159), (3, .int y)]) (st' := [.int ((y + ((Int32.ofInt 2)))), .retAddr 0, .int z21, .ref 159]) rfl ?_
  refine En_top (addI rfl (by decide : (Int32.ofInt 2).toInt = 2) (by (first | exact q_f7bbb7a326 h0 | omega)) (by omega)) (fun z24 h25 => ?_)
  refine En_sld rfl rfl (by (first | exact q_8f6627763a h25 h0 | omega)) (by omega) (fun z26 h27 => ?_)
  have h28 : z26.toInt = z7.toInt := by rw [h27, h8, show z24.toInt = z5.toInt by (first | exact q_2ed5a210e9 h25 h6 | omega)]
  refine En_callV rfl rfl rfl rfl rfl rfl rfl rfl tgz_159 (by decide +kernel) rfl (c_292 σ11 h12 z21 z26) (by decide) (by decide) (fun v30 σ31 h29 => ?_)
  obtain ⟨h32, h33, z35, rfl, h34⟩ := h29
  have h36 := Fr_trans h16 h33 (by decide +kernel)
  have h37 := INVc_fr h33 (by decide +kernel) h17
  have h38 := WI_fr h33 (by decide +kernel) (by decide +kernel) h18
  refine En_Ps 2 (pc' := 2236) (lv' := [(0, .retAddr 0), (1, .ref 0), (2, .ref 159), (3, .int y)]) (st' := []) rfl ?_
  have h39 : FUL σ31 := (FUL_kp hR h13 h33 (by decide +kernel) (by decide +kernel) (RDL_fr hR.1 h13 h33 (by decide +kernel) (by decide +kernel)))
  exact k _ h32 h37 h38 ⟨h39, (RUT_fr hQ h13 h33 (by decide +kernel) (by decide +kernel)), (QXS_fr hX h13 h33 (by decide +kernel) (by decide +kernel))⟩
set_option maxRecDepth 10000 in
set_option maxHeartbeats 4000000 in
theorem law_c9 {L : Nat} {xs : Nat → Int32} {P : PO} (hL : L ≤ 3072) (y : Int32) (h0 : 0 ≤ y.toInt) (h1 : y.toInt + 6 ≤ (L : Int)) (σ0 : SG) (hσ0 : WT σ0) (hC : INVc σ0) (hI : WI σ0) (hL : LEA σ0) (k : ∀ σ, WT σ → INVc σ → WI σ → LEA σ → En 2048 84000 (some (L, xs)) mr_336 P 2236 [(0, .retAddr 0), (1, .ref 0), (2, .ref 159), (3, .int y)] [] σ) : En 2048 84000 (some (L, xs)) mr_336 P 601 [(0, .retAddr 0), (1, .ref 0), (2, .ref 159), (3, .int y)] [] σ0 := by
  obtain ⟨hR, hQ, hX⟩ := hL
  obtain ⟨p, p2, sg, hp, hp2, h_p, h_p2, hne, h_sg, hl_sg⟩ := id hC
  obtain ⟨-, hu_sg⟩ := WT_int hσ0 (g := 18) hp (by decide +kernel) (l := (-1)) (u := 4) (by decide +kernel) h_sg
  have hF0 : Fr [(35, 18), (35, 21), (42, 0), (43, 0), (44, 0), (45, 0), (46, 0)] σ0 σ0 := Fr_rfl
  obtain ⟨t, h_t1, h_t2, -⟩ := id hR.1
  obtain ⟨hl_t, hu_t⟩ := WT_int hσ0 (g := 1) tgz_1 (by decide +kernel) (l := 0) (u := 1600) (by decide +kernel) h_t1
  refine En_Ps 5 (pc' := 606) (lv' := [(0, .retAddr 0), (1, .ref 0), (2, .ref 159), (3, .int y)]) (st' := [.int ((y + ((Int32.ofInt 1)))), .retAddr 0, .ref 0]) rfl ?_
  refine En_top (addI rfl (by decide : (Int32.ofInt 1).toInt = 1) (by (first | exact q_465ab79ac1 h0 | omega)) (by omega)) (fun z1 h2 => ?_)
  refine En_sld rfl rfl (by (first | exact q_35104ce9d3 h2 h0 | omega)) (by omega) (fun z3 h4 => ?_)
  refine En_callV rfl rfl rfl rfl rfl rfl rfl rfl tgz_0 (by decide +kernel) rfl (c_112 σ0 hσ0 z3 p hp h_p sg h_sg (by (first | exact q_c803b490ef hl_sg | omega))) (by decide) (by decide) (fun v6 σ7 h5 => ?_)
  obtain ⟨h8, h9, z11, rfl, h10⟩ := h5
  have h12 := Fr_trans hF0 h9 (by decide +kernel)
  have h13 := INVc_fr h9 (by decide +kernel) hC
  have h14 := WI_fr h9 (by decide +kernel) (by decide +kernel) hI
  refine En_Ps 6 (pc' := 616) (lv' := [(0, .retAddr 0), (1, .ref 0), (2, .ref 159), (3, .int y)]) (st' := [.int ((y + ((Int32.ofInt 1)))), .retAddr 0, .ref 159]) rfl ?_
  refine En_top (addI rfl (by decide : (Int32.ofInt 1).toInt = 1) (by (first | exact q_465ab79ac1 h0 | omega)) (by omega)) (fun z15 h16 => ?_)
  refine En_sld rfl rfl (by (first | exact q_35104ce9d3 h16 h0 | omega)) (by omega) (fun z17 h18 => ?_)
  have h19 : z17.toInt = z3.toInt := by rw [h18, h4, show z15.toInt = z1.toInt by (first | exact q_e9c1972850 h16 h2 | omega)]
  refine En_callV rfl rfl rfl rfl rfl rfl rfl rfl tgz_159 (by decide +kernel) rfl (c_210 σ7 h8 z17) (by decide) (by decide) (fun v21 σ22 h20 => ?_)
  obtain ⟨h23, h24, z26, rfl, h25⟩ := h20
  have h27 := Fr_trans h12 h24 (by decide +kernel)
  have h28 := INVc_fr h24 (by decide +kernel) h13
  have h29 := WI_fr h24 (by decide +kernel) (by decide +kernel) h14
  refine En_Ps 2 (pc' := 2236) (lv' := [(0, .retAddr 0), (1, .ref 0), (2, .ref 159), (3, .int y)]) (st' := []) rfl ?_
  have h30 : FUL σ22 := (FUL_kp hR h9 h24 (by decide +kernel) (by decide +kernel) (RDL_fr hR.1 h9 h24 (by decide +kernel) (by decide +kernel)))
  exact k _ h23 h28 h29 ⟨h30, (RUT_fr hQ h9 h24 (by decide +kernel) (by decide +kernel)), (QXS_fr hX h9 h24 (by decide +kernel) (by decide +kernel))⟩
set_option maxRecDepth 10000 in
set_option maxHeartbeats 4000000 in
theorem law_c10 {L : Nat} {xs : Nat → Int32} {P : PO} (hL : L ≤ 3072) (y : Int32) (h0 : 0 ≤ y.toInt) (h1 : y.toInt + 6 ≤ (L : Int)) (σ0 : SG) (hσ0 : WT σ0) (hC : INVc σ0) (hI : WI σ0) (hL : LEA σ0) (k : ∀ σ, WT σ → INVc σ → WI σ → LEA σ → En 2048 84000 (some (L, xs)) mr_336 P 2236 [(0, .retAddr 0), (1, .ref 0), (2, .ref 159), (3, .int y)] [] σ) : En 2048 84000 (some (L, xs)) mr_336 P 624 [(0, .retAddr 0), (1, .ref 0), (2, .ref 159), (3, .int y)] [] σ0 := by
  obtain ⟨hR, hQ, hX⟩ := hL
  obtain ⟨p, p2, sg, hp, hp2, h_p, h_p2, hne, h_sg, hl_sg⟩ := id hC
  obtain ⟨-, hu_sg⟩ := WT_int hσ0 (g := 18) hp (by decide +kernel) (l := (-1)) (u := 4) (by decide +kernel) h_sg
  have hF0 : Fr [(35, 18), (35, 21), (42, 0), (43, 0), (44, 0), (45, 0), (46, 0)] σ0 σ0 := Fr_rfl
  obtain ⟨t, h_t1, h_t2, -⟩ := id hR.1
  obtain ⟨hl_t, hu_t⟩ := WT_int hσ0 (g := 1) tgz_1 (by decide +kernel) (l := 0) (u := 1600) (by decide +kernel) h_t1
  refine En_Ps 5 (pc' := 629) (lv' := [(0, .retAddr 0), (1, .ref 0), (2, .ref 159), (3, .int y)]) (st' := [.int ((y + ((Int32.ofInt 1)))), .retAddr 0, .ref 0]) rfl ?_
  refine En_top (addI rfl (by decide : (Int32.ofInt 1).toInt = 1) (by (first | exact q_465ab79ac1 h0 | omega)) (by omega)) (fun z1 h2 => ?_)
  refine En_sld rfl rfl (by (first | exact q_35104ce9d3 h2 h0 | omega)) (by omega) (fun z3 h4 => ?_)
  refine En_callV rfl rfl rfl rfl rfl rfl rfl rfl tgz_0 (by decide +kernel) rfl (c_158 σ0 hσ0 z3 p hp h_p sg h_sg (by (first | exact q_c803b490ef hl_sg | omega))) (by decide) (by decide) (fun v6 σ7 h5 => ?_)
  obtain ⟨h8, h9, z11, rfl, h10⟩ := h5
  have h12 := Fr_trans hF0 h9 (by decide +kernel)
  have h13 := INVc_fr h9 (by decide +kernel) hC
  have h14 := WI_fr h9 (by decide +kernel) (by decide +kernel) hI
  refine En_Ps 6 (pc' := 639) (lv' := [(0, .retAddr 0), (1, .ref 0), (2, .ref 159), (3, .int y)]) (st' := [.int ((y + ((Int32.ofInt 1)))), .retAddr 0, .ref 159]) rfl ?_
  refine En_top (addI rfl (by decide : (Int32.ofInt 1).toInt = 1) (by (first | exact q_465ab79ac1 h0 | omega)) (by omega)) (fun z15 h16 => ?_)
  refine En_sld rfl rfl (by (first | exact q_35104ce9d3 h16 h0 | omega)) (by omega) (fun z17 h18 => ?_)
  have h19 : z17.toInt = z3.toInt := by rw [h18, h4, show z15.toInt = z1.toInt by (first | exact q_e9c1972850 h16 h2 | omega)]
  refine En_callV rfl rfl rfl rfl rfl rfl rfl rfl tgz_159 (by decide +kernel) rfl (c_291 σ7 h8 z17) (by decide) (by decide) (fun v21 σ22 h20 => ?_)
  obtain ⟨h23, h24, z26, rfl, h25⟩ := h20
  have h27 := Fr_trans h12 h24 (by decide +kernel)
  have h28 := INVc_fr h24 (by decide +kernel) h13
  have h29 := WI_fr h24 (by decide +kernel) (by decide +kernel) h14
  refine En_Ps 2 (pc' := 2236) (lv' := [(0, .retAddr 0), (1, .ref 0), (2, .ref 159), (3, .int y)]) (st' := []) rfl ?_
  have h30 : FUL σ22 := (FUL_kp hR h9 h24 (by decide +kernel) (by decide +kernel) (RDL_fr hR.1 h9 h24 (by decide +kernel) (by decide +kernel)))
  exact k _ h23 h28 h29 ⟨h30, (RUT_fr hQ h9 h24 (by decide +kernel) (by decide +kernel)), (QXS_fr hX h9 h24 (by decide +kernel) (by decide +kernel))⟩
set_option maxRecDepth 10000 in
set_option maxHeartbeats 4000000 in
theorem law_c11 {L : Nat} {xs : Nat → Int32} {P : PO} (hL : L ≤ 3072) (y : Int32) (h0 : 0 ≤ y.toInt) (h1 : y.toInt + 6 ≤ (L : Int)) (σ0 : SG) (hσ0 : WT σ0) (hC : INVc σ0) (hI : WI σ0) (hL : LEA σ0) (k : ∀ σ, WT σ → INVc σ → WI σ → LEA σ → En 2048 84000 (some (L, xs)) mr_336 P 2236 [(0, .retAddr 0), (1, .ref 0), (2, .ref 159), (3, .int y)] [] σ) : En 2048 84000 (some (L, xs)) mr_336 P 647 [(0, .retAddr 0), (1, .ref 0), (2, .ref 159), (3, .int y)] [] σ0 := by
  obtain ⟨hR, hQ, hX⟩ := hL
  obtain ⟨p, p2, sg, hp, hp2, h_p, h_p2, hne, h_sg, hl_sg⟩ := id hC
  obtain ⟨-, hu_sg⟩ := WT_int hσ0 (g := 18) hp (by decide +kernel) (l := (-1)) (u := 4) (by decide +kernel) h_sg
  have hF0 : Fr [(35, 21), (45, 0), (46, 0)] σ0 σ0 := Fr_rfl
  obtain ⟨t, h_t1, h_t2, -⟩ := id hR.1
  obtain ⟨hl_t, hu_t⟩ := WT_int hσ0 (g := 1) tgz_1 (by decide +kernel) (l := 0) (u := 1600) (by decide +kernel) h_t1
  refine En_Ps 5 (pc' := 652) (lv' := [(0, .retAddr 0), (1, .ref 0), (2, .ref 159), (3, .int y)]) (st' := [.int ((y + ((Int32.ofInt 1)))), .retAddr 0, .ref 0]) rfl ?_
  refine En_top (addI rfl (by decide : (Int32.ofInt 1).toInt = 1) (by (first | exact q_465ab79ac1 h0 | omega)) (by omega)) (fun z1 h2 => ?_)
  refine En_sld rfl rfl (by (first | exact q_35104ce9d3 h2 h0 | omega)) (by omega) (fun z3 h4 => ?_)
  refine En_Ps 4 (pc' := 657) (lv' := [(0, .retAddr 0), (1, .ref 0), (2, .ref 159), (3, .int y)]) (st' := [.int ((y + ((Int32.ofInt 2)))), .retAddr 0, .int z3, .ref 0]) rfl ?_
  refine En_top (addI rfl (by decide : (Int32.ofInt 2).toInt = 2) (by (first | exact q_f7bbb7a326 h0 | omega)) (by omega)) (fun z5 h6 => ?_)
  refine En_sld rfl rfl (by (first | exact q_8f6627763a h6 h0 | omega)) (by omega) (fun z7 h8 => ?_)
  refine En_callV rfl rfl rfl rfl rfl rfl rfl rfl tgz_0 (by decide +kernel) rfl (c_183 σ0 hσ0 z3 z7 p hp h_p sg h_sg (by (first | exact q_c803b490ef hl_sg | omega))) (by decide) (by decide) (fun v10 σ11 h9 => ?_)
  obtain ⟨h12, h13, z15, rfl, h14⟩ := h9
  have h16 := Fr_trans hF0 h13 (by decide +kernel)
  have h17 := INVc_fr h13 (by decide +kernel) hC
  have h18 := WI_fr h13 (by decide +kernel) (by decide +kernel) hI
  refine En_Ps 6 (pc' := 667) (lv' := [(0, .retAddr 0), (1, .ref 0), (2, .ref 159), (3, .int y)]) (st' := [.int ((y + ((Int32.ofInt 1)))), .retAddr 0, .ref 159]) rfl ?_
  refine En_top (addI rfl (by decide : (Int32.ofInt 1).toInt = 1) (by (first | exact q_465ab79ac1 h0 | omega)) (by omega)) (fun z19 h20 => ?_)
  refine En_sld rfl rfl (by (first | exact q_35104ce9d3 h20 h0 | omega)) (by omega) (fun z21 h22 => ?_)
  have h23 : z21.toInt = z3.toInt := by rw [h22, h4, show z19.toInt = z1.toInt by (first | exact q_e9c1972850 h20 h2 | omega)]
  refine En_Ps 4 (pc' := 672) (lv' := [(0, .retAddr 0), (1, .ref 0), (2, .ref 159), (3, .int y)]) (st' := [.int ((y + ((Int32.ofInt 2)))), .retAddr 0, .int z21, .ref 159]) rfl ?_
  refine En_top (addI rfl (by decide : (Int32.ofInt 2).toInt = 2) (by (first | exact q_f7bbb7a326 h0 | omega)) (by omega)) (fun z24 h25 => ?_)
  refine En_sld rfl rfl (by (first | exact q_8f6627763a h25 h0 | omega)) (by omega) (fun z26 h27 => ?_)
  have h28 : z26.toInt = z7.toInt := by rw [h27, h8, show z24.toInt = z5.toInt by (first | exact q_2ed5a210e9 h25 h6 | omega)]
  refine En_callV rfl rfl rfl rfl rfl rfl rfl rfl tgz_159 (by decide +kernel) rfl (c_331 σ11 h12 z21 z26) (by decide) (by decide) (fun v30 σ31 h29 => ?_)
  obtain ⟨h32, h33, z35, rfl, h34⟩ := h29
  have h36 := Fr_trans h16 h33 (by decide +kernel)
  have h37 := INVc_fr h33 (by decide +kernel) h17
  have h38 := WI_fr h33 (by decide +kernel) (by decide +kernel) h18
  refine En_Ps 2 (pc' := 2236) (lv' := [(0, .retAddr 0), (1, .ref 0), (2, .ref 159), (3, .int y)]) (st' := []) rfl ?_
  have h39 : FUL σ31 := (FUL_kp hR h13 h33 (by decide +kernel) (by decide +kernel) (RDL_fr hR.1 h13 h33 (by decide +kernel) (by decide +kernel)))
  exact k _ h32 h37 h38 ⟨h39, (RUT_fr hQ h13 h33 (by decide +kernel) (by decide +kernel)), (QXS_fr hX h13 h33 (by decide +kernel) (by decide +kernel))⟩
set_option maxRecDepth 10000 in
set_option maxHeartbeats 4000000 in
theorem law_c12 {L : Nat} {xs : Nat → Int32} {P : PO} (hL : L ≤ 3072) (y : Int32) (h0 : 0 ≤ y.toInt) (h1 : y.toInt + 6 ≤ (L : Int)) (σ0 : SG) (hσ0 : WT σ0) (hC : INVc σ0) (hI : WI σ0) (hL : LEA σ0) (k : ∀ σ, WT σ → INVc σ → WI σ → LEA σ → En 2048 84000 (some (L, xs)) mr_336 P 2236 [(0, .retAddr 0), (1, .ref 0), (2, .ref 159), (3, .int y)] [] σ) : En 2048 84000 (some (L, xs)) mr_336 P 680 [(0, .retAddr 0), (1, .ref 0), (2, .ref 159), (3, .int y)] [] σ0 := by
  obtain ⟨hR, hQ, hX⟩ := hL
  obtain ⟨p, p2, sg, hp, hp2, h_p, h_p2, hne, h_sg, hl_sg⟩ := id hC
  obtain ⟨-, hu_sg⟩ := WT_int hσ0 (g := 18) hp (by decide +kernel) (l := (-1)) (u := 4) (by decide +kernel) h_sg
  have hF0 : Fr [(35, 18), (35, 21), (42, 0), (43, 0), (44, 0), (45, 0), (46, 0)] σ0 σ0 := Fr_rfl
  obtain ⟨t, h_t1, h_t2, -⟩ := id hR.1
  obtain ⟨hl_t, hu_t⟩ := WT_int hσ0 (g := 1) tgz_1 (by decide +kernel) (l := 0) (u := 1600) (by decide +kernel) h_t1
  refine En_Ps 5 (pc' := 685) (lv' := [(0, .retAddr 0), (1, .ref 0), (2, .ref 159), (3, .int y)]) (st' := [.int ((y + ((Int32.ofInt 1)))), .retAddr 0, .ref 0]) rfl ?_
  refine En_top (addI rfl (by decide : (Int32.ofInt 1).toInt = 1) (by (first | exact q_465ab79ac1 h0 | omega)) (by omega)) (fun z1 h2 => ?_)
  refine En_sld rfl rfl (by (first | exact q_35104ce9d3 h2 h0 | omega)) (by omega) (fun z3 h4 => ?_)
  refine En_Ps 4 (pc' := 690) (lv' := [(0, .retAddr 0), (1, .ref 0), (2, .ref 159), (3, .int y)]) (st' := [.int ((y + ((Int32.ofInt 2)))), .retAddr 0, .int z3, .ref 0]) rfl ?_
  refine En_top (addI rfl (by decide : (Int32.ofInt 2).toInt = 2) (by (first | exact q_f7bbb7a326 h0 | omega)) (by omega)) (fun z5 h6 => ?_)
  refine En_sld rfl rfl (by (first | exact q_8f6627763a h6 h0 | omega)) (by omega) (fun z7 h8 => ?_)
  refine En_callV rfl rfl rfl rfl rfl rfl rfl rfl tgz_0 (by decide +kernel) rfl (c_166 σ0 hσ0 z3 z7 p hp h_p sg h_sg (by (first | exact q_c803b490ef hl_sg | omega))) (by decide) (by decide) (fun v10 σ11 h9 => ?_)
  obtain ⟨h12, h13, z15, rfl, h14⟩ := h9
  have h16 := Fr_trans hF0 h13 (by decide +kernel)
  have h17 := INVc_fr h13 (by decide +kernel) hC
  have h18 := WI_fr h13 (by decide +kernel) (by decide +kernel) hI
  refine En_Ps 6 (pc' := 700) (lv' := [(0, .retAddr 0), (1, .ref 0), (2, .ref 159), (3, .int y)]) (st' := [.int ((y + ((Int32.ofInt 1)))), .retAddr 0, .ref 159]) rfl ?_
  refine En_top (addI rfl (by decide : (Int32.ofInt 1).toInt = 1) (by (first | exact q_465ab79ac1 h0 | omega)) (by omega)) (fun z19 h20 => ?_)
  refine En_sld rfl rfl (by (first | exact q_35104ce9d3 h20 h0 | omega)) (by omega) (fun z21 h22 => ?_)
  have h23 : z21.toInt = z3.toInt := by rw [h22, h4, show z19.toInt = z1.toInt by (first | exact q_e9c1972850 h20 h2 | omega)]
  refine En_Ps 4 (pc' := 705) (lv' := [(0, .retAddr 0), (1, .ref 0), (2, .ref 159), (3, .int y)]) (st' := [.int ((y + ((Int32.ofInt 2)))), .retAddr 0, .int z21, .ref 159]) rfl ?_
  refine En_top (addI rfl (by decide : (Int32.ofInt 2).toInt = 2) (by (first | exact q_f7bbb7a326 h0 | omega)) (by omega)) (fun z24 h25 => ?_)
  refine En_sld rfl rfl (by (first | exact q_8f6627763a h25 h0 | omega)) (by omega) (fun z26 h27 => ?_)
  have h28 : z26.toInt = z7.toInt := by rw [h27, h8, show z24.toInt = z5.toInt by (first | exact q_2ed5a210e9 h25 h6 | omega)]
  refine En_callV rfl rfl rfl rfl rfl rfl rfl rfl tgz_159 (by decide +kernel) rfl (c_309 σ11 h12 z21 z26) (by decide) (by decide) (fun v30 σ31 h29 => ?_)
  obtain ⟨h32, h33, z35, rfl, h34⟩ := h29
  have h36 := Fr_trans h16 h33 (by decide +kernel)
  have h37 := INVc_fr h33 (by decide +kernel) h17
  have h38 := WI_fr h33 (by decide +kernel) (by decide +kernel) h18
  refine En_Ps 2 (pc' := 2236) (lv' := [(0, .retAddr 0), (1, .ref 0), (2, .ref 159), (3, .int y)]) (st' := []) rfl ?_
  have h39 : FUL σ31 := (FUL_kp hR h13 h33 (by decide +kernel) (by decide +kernel) (RDL_fr hR.1 h13 h33 (by decide +kernel) (by decide +kernel)))
  exact k _ h32 h37 h38 ⟨h39, (RUT_fr hQ h13 h33 (by decide +kernel) (by decide +kernel)), (QXS_fr hX h13 h33 (by decide +kernel) (by decide +kernel))⟩
end
/-! 33.b01 -/
section
set_option maxRecDepth 10000 in
set_option maxHeartbeats 4000000 in
theorem law_c13 {L : Nat} {xs : Nat → Int32} {P : PO} (hL : L ≤ 3072) (y : Int32) (h0 : 0 ≤ y.toInt) (h1 : y.toInt + 6 ≤ (L : Int)) (σ0 : SG) (hσ0 : WT σ0) (hC : INVc σ0) (hI : WI σ0) (hL : LEA σ0) (k : ∀ σ, WT σ → INVc σ → WI σ → LEA σ → En 2048 84000 (some (L, xs)) mr_336 P 2236 [(0, .retAddr 0), (1, .ref 0), (2, .ref 159), (3, .int y)] [] σ) : En 2048 84000 (some (L, xs)) mr_336 P 713 [(0, .retAddr 0), (1, .ref 0), (2, .ref 159), (3, .int y)] [] σ0 := by
  obtain ⟨hR, hQ, hX⟩ := hL
  obtain ⟨p, p2, sg, hp, hp2, h_p, h_p2, hne, h_sg, hl_sg⟩ := id hC
  obtain ⟨-, hu_sg⟩ := WT_int hσ0 (g := 18) hp (by decide +kernel) (l := (-1)) (u := 4) (by decide +kernel) h_sg
  have hF0 : Fr [(35, 18), (35, 21), (42, 0), (43, 0), (44, 0), (45, 0), (46, 0)] σ0 σ0 := Fr_rfl
  obtain ⟨t, h_t1, h_t2, -⟩ := id hR.1
  obtain ⟨hl_t, hu_t⟩ := WT_int hσ0 (g := 1) tgz_1 (by decide +kernel) (l := 0) (u := 1600) (by decide +kernel) h_t1
  refine En_Ps 5 (pc' := 718) (lv' := [(0, .retAddr 0), (1, .ref 0), (2, .ref 159), (3, .int y)]) (st' := [.int ((y + ((Int32.ofInt 1)))), .retAddr 0, .ref 0]) rfl ?_
  refine En_top (addI rfl (by decide : (Int32.ofInt 1).toInt = 1) (by (first | exact q_465ab79ac1 h0 | omega)) (by omega)) (fun z1 h2 => ?_)
  refine En_sld rfl rfl (by (first | exact q_35104ce9d3 h2 h0 | omega)) (by omega) (fun z3 h4 => ?_)
  refine En_callV rfl rfl rfl rfl rfl rfl rfl rfl tgz_0 (by decide +kernel) rfl (c_167 σ0 hσ0 z3 p hp h_p sg h_sg (by (first | exact q_c803b490ef hl_sg | omega))) (by decide) (by decide) (fun v6 σ7 h5 => ?_)
  obtain ⟨h8, h9, z11, rfl, h10⟩ := h5
  have h12 := Fr_trans hF0 h9 (by decide +kernel)
  have h13 := INVc_fr h9 (by decide +kernel) hC
  have h14 := WI_fr h9 (by decide +kernel) (by decide +kernel) hI
  refine En_Ps 6 (pc' := 728) (lv' := [(0, .retAddr 0), (1, .ref 0), (2, .ref 159), (3, .int y)]) (st' := [.int ((y + ((Int32.ofInt 1)))), .retAddr 0, .ref 159]) rfl ?_
  refine En_top (addI rfl (by decide : (Int32.ofInt 1).toInt = 1) (by (first | exact q_465ab79ac1 h0 | omega)) (by omega)) (fun z15 h16 => ?_)
  refine En_sld rfl rfl (by (first | exact q_35104ce9d3 h16 h0 | omega)) (by omega) (fun z17 h18 => ?_)
  have h19 : z17.toInt = z3.toInt := by rw [h18, h4, show z15.toInt = z1.toInt by (first | exact q_e9c1972850 h16 h2 | omega)]
  refine En_callV rfl rfl rfl rfl rfl rfl rfl rfl tgz_159 (by decide +kernel) rfl (c_310 σ7 h8 z17) (by decide) (by decide) (fun v21 σ22 h20 => ?_)
  obtain ⟨h23, h24, z26, rfl, h25⟩ := h20
  have h27 := Fr_trans h12 h24 (by decide +kernel)
  have h28 := INVc_fr h24 (by decide +kernel) h13
  have h29 := WI_fr h24 (by decide +kernel) (by decide +kernel) h14
  refine En_Ps 2 (pc' := 2236) (lv' := [(0, .retAddr 0), (1, .ref 0), (2, .ref 159), (3, .int y)]) (st' := []) rfl ?_
  have h30 : FUL σ22 := (FUL_kp hR h9 h24 (by decide +kernel) (by decide +kernel) (RDL_fr hR.1 h9 h24 (by decide +kernel) (by decide +kernel)))
  exact k _ h23 h28 h29 ⟨h30, (RUT_fr hQ h9 h24 (by decide +kernel) (by decide +kernel)), (QXS_fr hX h9 h24 (by decide +kernel) (by decide +kernel))⟩
set_option maxRecDepth 10000 in
set_option maxHeartbeats 4000000 in
theorem law_c14 {L : Nat} {xs : Nat → Int32} {P : PO} (hL : L ≤ 3072) (y : Int32) (h0 : 0 ≤ y.toInt) (h1 : y.toInt + 6 ≤ (L : Int)) (σ0 : SG) (hσ0 : WT σ0) (hC : INVc σ0) (hI : WI σ0) (hL : LEA σ0) (k : ∀ σ, WT σ → INVc σ → WI σ → LEA σ → En 2048 84000 (some (L, xs)) mr_336 P 2236 [(0, .retAddr 0), (1, .ref 0), (2, .ref 159), (3, .int y)] [] σ) : En 2048 84000 (some (L, xs)) mr_336 P 736 [(0, .retAddr 0), (1, .ref 0), (2, .ref 159), (3, .int y)] [] σ0 := by
  obtain ⟨hR, hQ, hX⟩ := hL
  obtain ⟨p, p2, sg, hp, hp2, h_p, h_p2, hne, h_sg, hl_sg⟩ := id hC
  obtain ⟨-, hu_sg⟩ := WT_int hσ0 (g := 18) hp (by decide +kernel) (l := (-1)) (u := 4) (by decide +kernel) h_sg
  have hF0 : Fr [] σ0 σ0 := Fr_rfl
  obtain ⟨t, h_t1, h_t2, -⟩ := id hR.1
  obtain ⟨hl_t, hu_t⟩ := WT_int hσ0 (g := 1) tgz_1 (by decide +kernel) (l := 0) (u := 1600) (by decide +kernel) h_t1
  refine En_Ps 5 (pc' := 741) (lv' := [(0, .retAddr 0), (1, .ref 0), (2, .ref 159), (3, .int y)]) (st' := [.int ((y + ((Int32.ofInt 1)))), .retAddr 0, .ref 0]) rfl ?_
  refine En_top (addI rfl (by decide : (Int32.ofInt 1).toInt = 1) (by (first | exact q_465ab79ac1 h0 | omega)) (by omega)) (fun z1 h2 => ?_)
  refine En_sld rfl rfl (by (first | exact q_35104ce9d3 h2 h0 | omega)) (by omega) (fun z3 h4 => ?_)
  refine En_Ps 4 (pc' := 746) (lv' := [(0, .retAddr 0), (1, .ref 0), (2, .ref 159), (3, .int y)]) (st' := [.int ((y + ((Int32.ofInt 2)))), .retAddr 0, .int z3, .ref 0]) rfl ?_
  refine En_top (addI rfl (by decide : (Int32.ofInt 2).toInt = 2) (by (first | exact q_f7bbb7a326 h0 | omega)) (by omega)) (fun z5 h6 => ?_)
  refine En_sld rfl rfl (by (first | exact q_8f6627763a h6 h0 | omega)) (by omega) (fun z7 h8 => ?_)
  refine En_callV rfl rfl rfl rfl rfl rfl rfl rfl tgz_0 (by decide +kernel) rfl (c_113 σ0 hσ0 z3 z7 p hp h_p sg h_sg (by (first | exact q_c803b490ef hl_sg | omega))) (by decide) (by decide) (fun v10 σ11 h9 => ?_)
  obtain ⟨h12, h13, z15, rfl, h14⟩ := h9
  have h16 := Fr_trans hF0 h13 (by decide +kernel)
  have h17 := INVc_fr h13 (by decide +kernel) hC
  have h18 := WI_fr h13 (by decide +kernel) (by decide +kernel) hI
  refine En_Ps 6 (pc' := 756) (lv' := [(0, .retAddr 0), (1, .ref 0), (2, .ref 159), (3, .int y)]) (st' := [.int ((y + ((Int32.ofInt 1)))), .retAddr 0, .ref 159]) rfl ?_
  refine En_top (addI rfl (by decide : (Int32.ofInt 1).toInt = 1) (by (first | exact q_465ab79ac1 h0 | omega)) (by omega)) (fun z19 h20 => ?_)
  refine En_sld rfl rfl (by (first | exact q_35104ce9d3 h20 h0 | omega)) (by omega) (fun z21 h22 => ?_)
  have h23 : z21.toInt = z3.toInt := by rw [h22, h4, show z19.toInt = z1.toInt by (first | exact q_e9c1972850 h20 h2 | omega)]
  refine En_Ps 4 (pc' := 761) (lv' := [(0, .retAddr 0), (1, .ref 0), (2, .ref 159), (3, .int y)]) (st' := [.int ((y + ((Int32.ofInt 2)))), .retAddr 0, .int z21, .ref 159]) rfl ?_
  refine En_top (addI rfl (by decide : (Int32.ofInt 2).toInt = 2) (by (first | exact q_f7bbb7a326 h0 | omega)) (by omega)) (fun z24 h25 => ?_)
  refine En_sld rfl rfl (by (first | exact q_8f6627763a h25 h0 | omega)) (by omega) (fun z26 h27 => ?_)
  have h28 : z26.toInt = z7.toInt := by rw [h27, h8, show z24.toInt = z5.toInt by (first | exact q_2ed5a210e9 h25 h6 | omega)]
  refine En_callV rfl rfl rfl rfl rfl rfl rfl rfl tgz_159 (by decide +kernel) rfl (c_216 σ11 h12 z21 z26) (by decide) (by decide) (fun v30 σ31 h29 => ?_)
  obtain ⟨h32, h33, z35, rfl, h34⟩ := h29
  have h36 := Fr_trans h16 h33 (by decide +kernel)
  have h37 := INVc_fr h33 (by decide +kernel) h17
  have h38 := WI_fr h33 (by decide +kernel) (by decide +kernel) h18
  refine En_Ps 2 (pc' := 2236) (lv' := [(0, .retAddr 0), (1, .ref 0), (2, .ref 159), (3, .int y)]) (st' := []) rfl ?_
  have h39 : FUL σ31 := (FUL_kp hR h13 h33 (by decide +kernel) (by decide +kernel) (RDL_fr hR.1 h13 h33 (by decide +kernel) (by decide +kernel)))
  exact k _ h32 h37 h38 ⟨h39, (RUT_fr hQ h13 h33 (by decide +kernel) (by decide +kernel)), (QXS_fr hX h13 h33 (by decide +kernel) (by decide +kernel))⟩
set_option maxRecDepth 10000 in
set_option maxHeartbeats 4000000 in
theorem law_c15 {L : Nat} {xs : Nat → Int32} {P : PO} (hL : L ≤ 3072) (y : Int32) (h0 : 0 ≤ y.toInt) (h1 : y.toInt + 6 ≤ (L : Int)) (σ0 : SG) (hσ0 : WT σ0) (hC : INVc σ0) (hI : WI σ0) (hL : LEA σ0) (k : ∀ σ, WT σ → INVc σ → WI σ → LEA σ → En 2048 84000 (some (L, xs)) mr_336 P 2236 [(0, .retAddr 0), (1, .ref 0), (2, .ref 159), (3, .int y)] [] σ) : En 2048 84000 (some (L, xs)) mr_336 P 769 [(0, .retAddr 0), (1, .ref 0), (2, .ref 159), (3, .int y)] [] σ0 := by
  obtain ⟨hR, hQ, hX⟩ := hL
  obtain ⟨p, p2, sg, hp, hp2, h_p, h_p2, hne, h_sg, hl_sg⟩ := id hC
  obtain ⟨-, hu_sg⟩ := WT_int hσ0 (g := 18) hp (by decide +kernel) (l := (-1)) (u := 4) (by decide +kernel) h_sg
  have hF0 : Fr [(35, 18), (42, 0), (43, 0), (44, 0)] σ0 σ0 := Fr_rfl
  obtain ⟨t, h_t1, h_t2, -⟩ := id hR.1
  obtain ⟨hl_t, hu_t⟩ := WT_int hσ0 (g := 1) tgz_1 (by decide +kernel) (l := 0) (u := 1600) (by decide +kernel) h_t1
  refine En_Ps 5 (pc' := 774) (lv' := [(0, .retAddr 0), (1, .ref 0), (2, .ref 159), (3, .int y)]) (st' := [.int ((y + ((Int32.ofInt 1)))), .retAddr 0, .ref 0]) rfl ?_
  refine En_top (addI rfl (by decide : (Int32.ofInt 1).toInt = 1) (by (first | exact q_465ab79ac1 h0 | omega)) (by omega)) (fun z1 h2 => ?_)
  refine En_sld rfl rfl (by (first | exact q_35104ce9d3 h2 h0 | omega)) (by omega) (fun z3 h4 => ?_)
  refine En_Ps 4 (pc' := 779) (lv' := [(0, .retAddr 0), (1, .ref 0), (2, .ref 159), (3, .int y)]) (st' := [.int ((y + ((Int32.ofInt 2)))), .retAddr 0, .int z3, .ref 0]) rfl ?_
  refine En_top (addI rfl (by decide : (Int32.ofInt 2).toInt = 2) (by (first | exact q_f7bbb7a326 h0 | omega)) (by omega)) (fun z5 h6 => ?_)
  refine En_sld rfl rfl (by (first | exact q_8f6627763a h6 h0 | omega)) (by omega) (fun z7 h8 => ?_)
  refine En_callV rfl rfl rfl rfl rfl rfl rfl rfl tgz_0 (by decide +kernel) rfl (c_176 σ0 hσ0 z3 z7 p hp h_p sg h_sg (by (first | exact q_c803b490ef hl_sg | omega))) (by decide) (by decide) (fun v10 σ11 h9 => ?_)
  obtain ⟨h12, h13, z15, rfl, h14⟩ := h9
  have h16 := Fr_trans hF0 h13 (by decide +kernel)
  have h17 := INVc_fr h13 (by decide +kernel) hC
  have h18 := WI_fr h13 (by decide +kernel) (by decide +kernel) hI
  refine En_Ps 6 (pc' := 789) (lv' := [(0, .retAddr 0), (1, .ref 0), (2, .ref 159), (3, .int y)]) (st' := [.int ((y + ((Int32.ofInt 1)))), .retAddr 0, .ref 159]) rfl ?_
  refine En_top (addI rfl (by decide : (Int32.ofInt 1).toInt = 1) (by (first | exact q_465ab79ac1 h0 | omega)) (by omega)) (fun z19 h20 => ?_)
  refine En_sld rfl rfl (by (first | exact q_35104ce9d3 h20 h0 | omega)) (by omega) (fun z21 h22 => ?_)
  have h23 : z21.toInt = z3.toInt := by rw [h22, h4, show z19.toInt = z1.toInt by (first | exact q_e9c1972850 h20 h2 | omega)]
  refine En_Ps 4 (pc' := 794) (lv' := [(0, .retAddr 0), (1, .ref 0), (2, .ref 159), (3, .int y)]) (st' := [.int ((y + ((Int32.ofInt 2)))), .retAddr 0, .int z21, .ref 159]) rfl ?_
  refine En_top (addI rfl (by decide : (Int32.ofInt 2).toInt = 2) (by (first | exact q_f7bbb7a326 h0 | omega)) (by omega)) (fun z24 h25 => ?_)
  refine En_sld rfl rfl (by (first | exact q_8f6627763a h25 h0 | omega)) (by omega) (fun z26 h27 => ?_)
  have h28 : z26.toInt = z7.toInt := by rw [h27, h8, show z24.toInt = z5.toInt by (first | exact q_2ed5a210e9 h25 h6 | omega)]
  refine En_callV rfl rfl rfl rfl rfl rfl rfl rfl tgz_159 (by decide +kernel) rfl (c_324 σ11 h12 z21 z26) (by decide) (by decide) (fun v30 σ31 h29 => ?_)
  obtain ⟨h32, h33, z35, rfl, h34⟩ := h29
  have h36 := Fr_trans h16 h33 (by decide +kernel)
  have h37 := INVc_fr h33 (by decide +kernel) h17
  have h38 := WI_fr h33 (by decide +kernel) (by decide +kernel) h18
  refine En_Ps 2 (pc' := 2236) (lv' := [(0, .retAddr 0), (1, .ref 0), (2, .ref 159), (3, .int y)]) (st' := []) rfl ?_
  have h39 : FUL σ31 := (FUL_kp hR h13 h33 (by decide +kernel) (by decide +kernel) (RDL_fr hR.1 h13 h33 (by decide +kernel) (by decide +kernel)))
  exact k _ h32 h37 h38 ⟨h39, (RUT_fr hQ h13 h33 (by decide +kernel) (by decide +kernel)), (QXS_fr hX h13 h33 (by decide +kernel) (by decide +kernel))⟩
set_option maxRecDepth 10000 in
set_option maxHeartbeats 4000000 in
theorem law_c16 {L : Nat} {xs : Nat → Int32} {P : PO} (hL : L ≤ 3072) (y : Int32) (h0 : 0 ≤ y.toInt) (h1 : y.toInt + 6 ≤ (L : Int)) (σ0 : SG) (hσ0 : WT σ0) (hC : INVc σ0) (hI : WI σ0) (hL : LEA σ0) (k : ∀ σ, WT σ → INVc σ → WI σ → LEA σ → En 2048 84000 (some (L, xs)) mr_336 P 2236 [(0, .retAddr 0), (1, .ref 0), (2, .ref 159), (3, .int y)] [] σ) : En 2048 84000 (some (L, xs)) mr_336 P 802 [(0, .retAddr 0), (1, .ref 0), (2, .ref 159), (3, .int y)] [] σ0 := by
  obtain ⟨hR, hQ, hX⟩ := hL
  obtain ⟨p, p2, sg, hp, hp2, h_p, h_p2, hne, h_sg, hl_sg⟩ := id hC
  obtain ⟨-, hu_sg⟩ := WT_int hσ0 (g := 18) hp (by decide +kernel) (l := (-1)) (u := 4) (by decide +kernel) h_sg
  have hF0 : Fr [(35, 18), (35, 21), (42, 0), (43, 0), (44, 0), (45, 0), (46, 0)] σ0 σ0 := Fr_rfl
  obtain ⟨t, h_t1, h_t2, -⟩ := id hR.1
  obtain ⟨hl_t, hu_t⟩ := WT_int hσ0 (g := 1) tgz_1 (by decide +kernel) (l := 0) (u := 1600) (by decide +kernel) h_t1
  refine En_Ps 5 (pc' := 807) (lv' := [(0, .retAddr 0), (1, .ref 0), (2, .ref 159), (3, .int y)]) (st' := [.int ((y + ((Int32.ofInt 1)))), .retAddr 0, .ref 0]) rfl ?_
  refine En_top (addI rfl (by decide : (Int32.ofInt 1).toInt = 1) (by (first | exact q_465ab79ac1 h0 | omega)) (by omega)) (fun z1 h2 => ?_)
  refine En_sld rfl rfl (by (first | exact q_35104ce9d3 h2 h0 | omega)) (by omega) (fun z3 h4 => ?_)
  refine En_callV rfl rfl rfl rfl rfl rfl rfl rfl tgz_0 (by decide +kernel) rfl (c_155 σ0 hσ0 z3 p hp h_p sg h_sg (by (first | exact q_c803b490ef hl_sg | omega))) (by decide) (by decide) (fun v6 σ7 h5 => ?_)
  obtain ⟨h8, h9, z11, rfl, h10⟩ := h5
  have h12 := Fr_trans hF0 h9 (by decide +kernel)
  have h13 := INVc_fr h9 (by decide +kernel) hC
  have h14 := WI_fr h9 (by decide +kernel) (by decide +kernel) hI
  refine En_Ps 6 (pc' := 817) (lv' := [(0, .retAddr 0), (1, .ref 0), (2, .ref 159), (3, .int y)]) (st' := [.int ((y + ((Int32.ofInt 1)))), .retAddr 0, .ref 159]) rfl ?_
  refine En_top (addI rfl (by decide : (Int32.ofInt 1).toInt = 1) (by (first | exact q_465ab79ac1 h0 | omega)) (by omega)) (fun z15 h16 => ?_)
  refine En_sld rfl rfl (by (first | exact q_35104ce9d3 h16 h0 | omega)) (by omega) (fun z17 h18 => ?_)
  have h19 : z17.toInt = z3.toInt := by rw [h18, h4, show z15.toInt = z1.toInt by (first | exact q_e9c1972850 h16 h2 | omega)]
  refine En_callV rfl rfl rfl rfl rfl rfl rfl rfl tgz_159 (by decide +kernel) rfl (c_282 σ7 h8 z17) (by decide) (by decide) (fun v21 σ22 h20 => ?_)
  obtain ⟨h23, h24, z26, rfl, h25⟩ := h20
  have h27 := Fr_trans h12 h24 (by decide +kernel)
  have h28 := INVc_fr h24 (by decide +kernel) h13
  have h29 := WI_fr h24 (by decide +kernel) (by decide +kernel) h14
  refine En_Ps 2 (pc' := 2236) (lv' := [(0, .retAddr 0), (1, .ref 0), (2, .ref 159), (3, .int y)]) (st' := []) rfl ?_
  have h30 : FUL σ22 := (FUL_kp hR h9 h24 (by decide +kernel) (by decide +kernel) (RDL_fr hR.1 h9 h24 (by decide +kernel) (by decide +kernel)))
  exact k _ h23 h28 h29 ⟨h30, (RUT_fr hQ h9 h24 (by decide +kernel) (by decide +kernel)), (QXS_fr hX h9 h24 (by decide +kernel) (by decide +kernel))⟩
set_option maxRecDepth 10000 in
set_option maxHeartbeats 4000000 in
theorem law_c17 {L : Nat} {xs : Nat → Int32} {P : PO} (hL : L ≤ 3072) (y : Int32) (h0 : 0 ≤ y.toInt) (h1 : y.toInt + 6 ≤ (L : Int)) (σ0 : SG) (hσ0 : WT σ0) (hC : INVc σ0) (hI : WI σ0) (hL : LEA σ0) (k : ∀ σ, WT σ → INVc σ → WI σ → LEA σ → En 2048 84000 (some (L, xs)) mr_336 P 2236 [(0, .retAddr 0), (1, .ref 0), (2, .ref 159), (3, .int y)] [] σ) : En 2048 84000 (some (L, xs)) mr_336 P 825 [(0, .retAddr 0), (1, .ref 0), (2, .ref 159), (3, .int y)] [] σ0 := by
  obtain ⟨hR, hQ, hX⟩ := hL
  obtain ⟨p, p2, sg, hp, hp2, h_p, h_p2, hne, h_sg, hl_sg⟩ := id hC
  obtain ⟨-, hu_sg⟩ := WT_int hσ0 (g := 18) hp (by decide +kernel) (l := (-1)) (u := 4) (by decide +kernel) h_sg
  have hF0 : Fr [(35, 18), (35, 21), (42, 0), (43, 0), (44, 0), (45, 0), (46, 0)] σ0 σ0 := Fr_rfl
  obtain ⟨t, h_t1, h_t2, -⟩ := id hR.1
  obtain ⟨hl_t, hu_t⟩ := WT_int hσ0 (g := 1) tgz_1 (by decide +kernel) (l := 0) (u := 1600) (by decide +kernel) h_t1
  refine En_Ps 5 (pc' := 830) (lv' := [(0, .retAddr 0), (1, .ref 0), (2, .ref 159), (3, .int y)]) (st' := [.int ((y + ((Int32.ofInt 1)))), .retAddr 0, .ref 0]) rfl ?_
  refine En_top (addI rfl (by decide : (Int32.ofInt 1).toInt = 1) (by (first | exact q_465ab79ac1 h0 | omega)) (by omega)) (fun z1 h2 => ?_)
  refine En_sld rfl rfl (by (first | exact q_35104ce9d3 h2 h0 | omega)) (by omega) (fun z3 h4 => ?_)
  refine En_callV rfl rfl rfl rfl rfl rfl rfl rfl tgz_0 (by decide +kernel) rfl (c_186 σ0 hσ0 z3 p hp h_p sg h_sg (by (first | exact q_c803b490ef hl_sg | omega))) (by decide) (by decide) (fun v6 σ7 h5 => ?_)
  obtain ⟨h8, h9, z11, rfl, h10⟩ := h5
  have h12 := Fr_trans hF0 h9 (by decide +kernel)
  have h13 := INVc_fr h9 (by decide +kernel) hC
  have h14 := WI_fr h9 (by decide +kernel) (by decide +kernel) hI
  refine En_Ps 6 (pc' := 840) (lv' := [(0, .retAddr 0), (1, .ref 0), (2, .ref 159), (3, .int y)]) (st' := [.int ((y + ((Int32.ofInt 1)))), .retAddr 0, .ref 159]) rfl ?_
  refine En_top (addI rfl (by decide : (Int32.ofInt 1).toInt = 1) (by (first | exact q_465ab79ac1 h0 | omega)) (by omega)) (fun z15 h16 => ?_)
  refine En_sld rfl rfl (by (first | exact q_35104ce9d3 h16 h0 | omega)) (by omega) (fun z17 h18 => ?_)
  have h19 : z17.toInt = z3.toInt := by rw [h18, h4, show z15.toInt = z1.toInt by (first | exact q_e9c1972850 h16 h2 | omega)]
  refine En_callV rfl rfl rfl rfl rfl rfl rfl rfl tgz_159 (by decide +kernel) rfl (c_334 σ7 h8 z17) (by decide) (by decide) (fun v21 σ22 h20 => ?_)
  obtain ⟨h23, h24, z26, rfl, h25⟩ := h20
  have h27 := Fr_trans h12 h24 (by decide +kernel)
  have h28 := INVc_fr h24 (by decide +kernel) h13
  have h29 := WI_fr h24 (by decide +kernel) (by decide +kernel) h14
  refine En_Ps 2 (pc' := 2236) (lv' := [(0, .retAddr 0), (1, .ref 0), (2, .ref 159), (3, .int y)]) (st' := []) rfl ?_
  have h30 : FUL σ22 := (FUL_kp hR h9 h24 (by decide +kernel) (by decide +kernel) (RDL_fr hR.1 h9 h24 (by decide +kernel) (by decide +kernel)))
  exact k _ h23 h28 h29 ⟨h30, (RUT_fr hQ h9 h24 (by decide +kernel) (by decide +kernel)), (QXS_fr hX h9 h24 (by decide +kernel) (by decide +kernel))⟩
set_option maxRecDepth 10000 in
set_option maxHeartbeats 4000000 in
theorem law_c18 {L : Nat} {xs : Nat → Int32} {P : PO} (hL : L ≤ 3072) (y : Int32) (h0 : 0 ≤ y.toInt) (h1 : y.toInt + 6 ≤ (L : Int)) (σ0 : SG) (hσ0 : WT σ0) (hC : INVc σ0) (hI : WI σ0) (hL : LEA σ0) (k : ∀ σ, WT σ → INVc σ → WI σ → LEA σ → En 2048 84000 (some (L, xs)) mr_336 P 2236 [(0, .retAddr 0), (1, .ref 0), (2, .ref 159), (3, .int y)] [] σ) : En 2048 84000 (some (L, xs)) mr_336 P 848 [(0, .retAddr 0), (1, .ref 0), (2, .ref 159), (3, .int y)] [] σ0 := by
  obtain ⟨hR, hQ, hX⟩ := hL
  obtain ⟨p, p2, sg, hp, hp2, h_p, h_p2, hne, h_sg, hl_sg⟩ := id hC
  obtain ⟨-, hu_sg⟩ := WT_int hσ0 (g := 18) hp (by decide +kernel) (l := (-1)) (u := 4) (by decide +kernel) h_sg
  have hF0 : Fr [(35, 18), (35, 21), (42, 0), (43, 0), (44, 0), (45, 0), (46, 0)] σ0 σ0 := Fr_rfl
  obtain ⟨t, h_t1, h_t2, -⟩ := id hR.1
  obtain ⟨hl_t, hu_t⟩ := WT_int hσ0 (g := 1) tgz_1 (by decide +kernel) (l := 0) (u := 1600) (by decide +kernel) h_t1
  refine En_Ps 1 (pc' := 849) (lv' := [(0, .retAddr 0), (1, .ref 0), (2, .ref 159), (3, .int y)]) (st' := [.ref 0]) rfl ?_
  refine En_callV rfl rfl rfl rfl rfl rfl rfl rfl tgz_0 (by decide +kernel) rfl (c_107 σ0 hσ0 p hp h_p sg h_sg (by (first | exact q_c803b490ef hl_sg | omega))) (by decide) (by decide) (fun v2 σ3 h1 => ?_)
  obtain ⟨h4, h5, z7, rfl, h6⟩ := h1
  have h8 := Fr_trans hF0 h5 (by decide +kernel)
  have h9 := INVc_fr h5 (by decide +kernel) hC
  have h10 := WI_fr h5 (by decide +kernel) (by decide +kernel) hI
  refine En_Ps 2 (pc' := 854) (lv' := [(0, .retAddr 0), (1, .ref 0), (2, .ref 159), (3, .int y)]) (st' := [.ref 159]) rfl ?_
  refine En_callV rfl rfl rfl rfl rfl rfl rfl rfl tgz_159 (by decide +kernel) rfl (c_201 σ3 h4) (by decide) (by decide) (fun v12 σ13 h11 => ?_)
  obtain ⟨h14, h15, z17, rfl, h16⟩ := h11
  have h18 := Fr_trans h8 h15 (by decide +kernel)
  have h19 := INVc_fr h15 (by decide +kernel) h9
  have h20 := WI_fr h15 (by decide +kernel) (by decide +kernel) h10
  refine En_Ps 2 (pc' := 2236) (lv' := [(0, .retAddr 0), (1, .ref 0), (2, .ref 159), (3, .int y)]) (st' := []) rfl ?_
  have h21 : FUL σ13 := (FUL_kp hR h5 h15 (by decide +kernel) (by decide +kernel) (RDL_fr hR.1 h5 h15 (by decide +kernel) (by decide +kernel)))
  exact k _ h14 h19 h20 ⟨h21, (RUT_fr hQ h5 h15 (by decide +kernel) (by decide +kernel)), (QXS_fr hX h5 h15 (by decide +kernel) (by decide +kernel))⟩
set_option maxRecDepth 10000 in
set_option maxHeartbeats 4000000 in
theorem law_c19 {L : Nat} {xs : Nat → Int32} {P : PO} (hL : L ≤ 3072) (y : Int32) (h0 : 0 ≤ y.toInt) (h1 : y.toInt + 6 ≤ (L : Int)) (σ0 : SG) (hσ0 : WT σ0) (hC : INVc σ0) (hI : WI σ0) (hL : LEA σ0) (k : ∀ σ, WT σ → INVc σ → WI σ → LEA σ → En 2048 84000 (some (L, xs)) mr_336 P 2236 [(0, .retAddr 0), (1, .ref 0), (2, .ref 159), (3, .int y)] [] σ) : En 2048 84000 (some (L, xs)) mr_336 P 861 [(0, .retAddr 0), (1, .ref 0), (2, .ref 159), (3, .int y)] [] σ0 := by
  obtain ⟨hR, hQ, hX⟩ := hL
  obtain ⟨p, p2, sg, hp, hp2, h_p, h_p2, hne, h_sg, hl_sg⟩ := id hC
  obtain ⟨-, hu_sg⟩ := WT_int hσ0 (g := 18) hp (by decide +kernel) (l := (-1)) (u := 4) (by decide +kernel) h_sg
  have hF0 : Fr [(35, 18), (35, 21), (42, 0), (43, 0), (44, 0), (45, 0), (46, 0)] σ0 σ0 := Fr_rfl
  obtain ⟨t, h_t1, h_t2, -⟩ := id hR.1
  obtain ⟨hl_t, hu_t⟩ := WT_int hσ0 (g := 1) tgz_1 (by decide +kernel) (l := 0) (u := 1600) (by decide +kernel) h_t1
  refine En_Ps 1 (pc' := 862) (lv' := [(0, .retAddr 0), (1, .ref 0), (2, .ref 159), (3, .int y)]) (st' := [.ref 0]) rfl ?_
  refine En_callV rfl rfl rfl rfl rfl rfl rfl rfl tgz_0 (by decide +kernel) rfl (c_134 σ0 hσ0 p hp h_p sg h_sg (by (first | exact q_c803b490ef hl_sg | omega))) (by decide) (by decide) (fun v2 σ3 h1 => ?_)
  obtain ⟨h4, h5, z7, rfl, h6⟩ := h1
  have h8 := Fr_trans hF0 h5 (by decide +kernel)
  have h9 := INVc_fr h5 (by decide +kernel) hC
  have h10 := WI_fr h5 (by decide +kernel) (by decide +kernel) hI
  refine En_Ps 2 (pc' := 867) (lv' := [(0, .retAddr 0), (1, .ref 0), (2, .ref 159), (3, .int y)]) (st' := [.ref 159]) rfl ?_
  refine En_callV rfl rfl rfl rfl rfl rfl rfl rfl tgz_159 (by decide +kernel) rfl (c_240 σ3 h4) (by decide) (by decide) (fun v12 σ13 h11 => ?_)
  obtain ⟨h14, h15, z17, rfl, h16⟩ := h11
  have h18 := Fr_trans h8 h15 (by decide +kernel)
  have h19 := INVc_fr h15 (by decide +kernel) h9
  have h20 := WI_fr h15 (by decide +kernel) (by decide +kernel) h10
  refine En_Ps 2 (pc' := 2236) (lv' := [(0, .retAddr 0), (1, .ref 0), (2, .ref 159), (3, .int y)]) (st' := []) rfl ?_
  have h21 : FUL σ13 := (FUL_kp hR h5 h15 (by decide +kernel) (by decide +kernel) (RDL_fr hR.1 h5 h15 (by decide +kernel) (by decide +kernel)))
  exact k _ h14 h19 h20 ⟨h21, (RUT_fr hQ h5 h15 (by decide +kernel) (by decide +kernel)), (QXS_fr hX h5 h15 (by decide +kernel) (by decide +kernel))⟩
set_option maxRecDepth 10000 in
set_option maxHeartbeats 4000000 in
theorem law_c20 {L : Nat} {xs : Nat → Int32} {P : PO} (hL : L ≤ 3072) (y : Int32) (h0 : 0 ≤ y.toInt) (h1 : y.toInt + 6 ≤ (L : Int)) (σ0 : SG) (hσ0 : WT σ0) (hC : INVc σ0) (hI : WI σ0) (hL : LEA σ0) (k : ∀ σ, WT σ → INVc σ → WI σ → LEA σ → En 2048 84000 (some (L, xs)) mr_336 P 2236 [(0, .retAddr 0), (1, .ref 0), (2, .ref 159), (3, .int y)] [] σ) : En 2048 84000 (some (L, xs)) mr_336 P 874 [(0, .retAddr 0), (1, .ref 0), (2, .ref 159), (3, .int y)] [] σ0 := by
  obtain ⟨hR, hQ, hX⟩ := hL
  obtain ⟨p, p2, sg, hp, hp2, h_p, h_p2, hne, h_sg, hl_sg⟩ := id hC
  obtain ⟨-, hu_sg⟩ := WT_int hσ0 (g := 18) hp (by decide +kernel) (l := (-1)) (u := 4) (by decide +kernel) h_sg
  have hF0 : Fr [(18, 14), (20, 2), (21, 0), (22, 0), (27, 0), (36, 0)] σ0 σ0 := Fr_rfl
  obtain ⟨t, h_t1, h_t2, -⟩ := id hR.1
  obtain ⟨hl_t, hu_t⟩ := WT_int hσ0 (g := 1) tgz_1 (by decide +kernel) (l := 0) (u := 1600) (by decide +kernel) h_t1
  refine En_Ps 5 (pc' := 879) (lv' := [(0, .retAddr 0), (1, .ref 0), (2, .ref 159), (3, .int y)]) (st' := [.int ((y + ((Int32.ofInt 1)))), .retAddr 0, .ref 0]) rfl ?_
  refine En_top (addI rfl (by decide : (Int32.ofInt 1).toInt = 1) (by (first | exact q_465ab79ac1 h0 | omega)) (by omega)) (fun z1 h2 => ?_)
  refine En_sld rfl rfl (by (first | exact q_35104ce9d3 h2 h0 | omega)) (by omega) (fun z3 h4 => ?_)
  refine En_Ps 4 (pc' := 884) (lv' := [(0, .retAddr 0), (1, .ref 0), (2, .ref 159), (3, .int y)]) (st' := [.int ((y + ((Int32.ofInt 2)))), .retAddr 0, .int z3, .ref 0]) rfl ?_
  refine En_top (addI rfl (by decide : (Int32.ofInt 2).toInt = 2) (by (first | exact q_f7bbb7a326 h0 | omega)) (by omega)) (fun z5 h6 => ?_)
  refine En_sld rfl rfl (by (first | exact q_8f6627763a h6 h0 | omega)) (by omega) (fun z7 h8 => ?_)
  refine En_Ps 4 (pc' := 889) (lv' := [(0, .retAddr 0), (1, .ref 0), (2, .ref 159), (3, .int y)]) (st' := [.int ((y + ((Int32.ofInt 3)))), .retAddr 0, .int z7, .int z3, .ref 0]) rfl ?_
  refine En_top (addI rfl (by decide : (Int32.ofInt 3).toInt = 3) (by (first | exact q_de3c750a51 h0 | omega)) (by omega)) (fun z9 h10 => ?_)
  refine En_sld rfl rfl (by (first | exact q_8454383051 h10 h0 | omega)) (by omega) (fun z11 h12 => ?_)
  refine En_callV rfl rfl rfl rfl rfl rfl rfl rfl tgz_0 (by decide +kernel) rfl (c_174x σ0 hσ0 z3 z7 z11 p hp h_p sg h_sg (by (first | exact q_c803b490ef hl_sg | omega)) (PLA_of hp) (FXP_p hR.1 hp) (hR.2.2.2.1 p h_p).2) (by decide) (by decide) (fun v14 σ15 h13 => ?_)
  obtain ⟨h16, h17, z19, rfl, h18⟩ := h13
  have h20 := h18.2.2
  have h21 := Fr_trans hF0 h17 (by decide +kernel)
  have h22 := INVc_fr h17 (by decide +kernel) hC
  have h23 := WI_fr h17 (by decide +kernel) (by decide +kernel) hI
  refine En_Ps 6 (pc' := 899) (lv' := [(0, .retAddr 0), (1, .ref 0), (2, .ref 159), (3, .int y)]) (st' := [.int ((y + ((Int32.ofInt 1)))), .retAddr 0, .ref 159]) rfl ?_
  refine En_top (addI rfl (by decide : (Int32.ofInt 1).toInt = 1) (by (first | exact q_465ab79ac1 h0 | omega)) (by omega)) (fun z24 h25 => ?_)
  refine En_sld rfl rfl (by (first | exact q_35104ce9d3 h25 h0 | omega)) (by omega) (fun z26 h27 => ?_)
  have h28 : z26.toInt = z3.toInt := by rw [h27, h4, show z24.toInt = z1.toInt by (first | exact q_e9c1972850 h25 h2 | omega)]
  refine En_Ps 4 (pc' := 904) (lv' := [(0, .retAddr 0), (1, .ref 0), (2, .ref 159), (3, .int y)]) (st' := [.int ((y + ((Int32.ofInt 2)))), .retAddr 0, .int z26, .ref 159]) rfl ?_
  refine En_top (addI rfl (by decide : (Int32.ofInt 2).toInt = 2) (by (first | exact q_f7bbb7a326 h0 | omega)) (by omega)) (fun z29 h30 => ?_)
  refine En_sld rfl rfl (by (first | exact q_8f6627763a h30 h0 | omega)) (by omega) (fun z31 h32 => ?_)
  have h33 : z31.toInt = z7.toInt := by rw [h32, h8, show z29.toInt = z5.toInt by (first | exact q_2ed5a210e9 h30 h6 | omega)]
  refine En_Ps 4 (pc' := 909) (lv' := [(0, .retAddr 0), (1, .ref 0), (2, .ref 159), (3, .int y)]) (st' := [.int ((y + ((Int32.ofInt 3)))), .retAddr 0, .int z31, .int z26, .ref 159]) rfl ?_
  refine En_top (addI rfl (by decide : (Int32.ofInt 3).toInt = 3) (by (first | exact q_de3c750a51 h0 | omega)) (by omega)) (fun z34 h35 => ?_)
  refine En_sld rfl rfl (by (first | exact q_8454383051 h35 h0 | omega)) (by omega) (fun z36 h37 => ?_)
  have h38 : z36.toInt = z11.toInt := by rw [h37, h12, show z34.toInt = z9.toInt by (first | exact q_a28fc6cb15 h35 h10 | omega)]
  refine En_callV rfl rfl rfl rfl rfl rfl rfl rfl tgz_159 (by decide +kernel) rfl (c_320x σ15 h16 z26 z31 z36) (by decide) (by decide) (fun v40 σ41 h39 => ?_)
  obtain ⟨h42, h43, z45, rfl, h44⟩ := h39
  have h46 := h44.2.2
  have h47 := Fr_trans h21 h43 (by decide +kernel)
  have h48 := INVc_fr h43 (by decide +kernel) h22
  have h49 := WI_w h43 (by decide +kernel) h23 (h46.1 h23.1)
  have h50 : z45.toInt = z19.toInt := h46.2.1.trans ((tcR_cg (wf_fr h17 (by decide +kernel)) (by (first | exact q_b1495600e7 h28 | omega)) (by (first | exact q_b1495600e7 h33 | omega)) (by (first | exact q_b1495600e7 h38 | omega))).trans h20.1.symm)
  refine En_Ps 2 (pc' := 2236) (lv' := [(0, .retAddr 0), (1, .ref 0), (2, .ref 159), (3, .int y)]) (st' := []) rfl ?_
  have h51 : FUL σ41 := (FUL_ch hR h42 h_p h17 h43 (RDL_fr hR.1 h17 h43 (by decide +kernel) (by decide +kernel)) (by decide +kernel) (by decide +kernel) h20.2 (fun i i0 i1 => (h46.2.2 i i0 i1).trans (congrFun (tcW_cg (wf_fr h17 (by decide +kernel)) (by (first | exact q_b1495600e7 h28 | omega)) (by (first | exact q_b1495600e7 h33 | omega)) (by (first | exact q_b1495600e7 h38 | omega))) i)) (tc_tw hR.2.2.2.2.1 (NNw_w hσ0)) (tc_tg hR.2.2.2.2.2.1 (NNw_w hσ0)))
  have h52 := tc7 (w := wf σ0) (d := z3.toInt) (k := z7.toInt) (o := z11.toInt) (NNw_w hσ0)
  exact k _ h42 h48 h49 ⟨h51, (RUT_ch hQ h17 h43 (by decide +kernel) (by decide +kernel) (fun i i0 i1 => (h46.2.2 i i0 i1).trans (congrFun (tcW_cg (wf_fr h17 (by decide +kernel)) (by (first | exact q_b1495600e7 h28 | omega)) (by (first | exact q_b1495600e7 h33 | omega)) (by (first | exact q_b1495600e7 h38 | omega))) i)) h52.1 h52.2.2), (QXS_w hX h17 h43 (by decide +kernel) (by decide +kernel) (fun i i0 i1 => (h46.2.2 i i0 i1).trans (congrFun (tcW_cg (wf_fr h17 (by decide +kernel)) (by (first | exact q_b1495600e7 h28 | omega)) (by (first | exact q_b1495600e7 h33 | omega)) (by (first | exact q_b1495600e7 h38 | omega))) i)) h52.2.1 h52.2.2)⟩
set_option maxRecDepth 10000 in
set_option maxHeartbeats 4000000 in
theorem law_c21 {L : Nat} {xs : Nat → Int32} {P : PO} (hL : L ≤ 3072) (y : Int32) (h0 : 0 ≤ y.toInt) (h1 : y.toInt + 6 ≤ (L : Int)) (σ0 : SG) (hσ0 : WT σ0) (hC : INVc σ0) (hI : WI σ0) (hL : LEA σ0) (k : ∀ σ, WT σ → INVc σ → WI σ → LEA σ → En 2048 84000 (some (L, xs)) mr_336 P 2236 [(0, .retAddr 0), (1, .ref 0), (2, .ref 159), (3, .int y)] [] σ) : En 2048 84000 (some (L, xs)) mr_336 P 917 [(0, .retAddr 0), (1, .ref 0), (2, .ref 159), (3, .int y)] [] σ0 := by
  obtain ⟨hR, hQ, hX⟩ := hL
  obtain ⟨p, p2, sg, hp, hp2, h_p, h_p2, hne, h_sg, hl_sg⟩ := id hC
  obtain ⟨-, hu_sg⟩ := WT_int hσ0 (g := 18) hp (by decide +kernel) (l := (-1)) (u := 4) (by decide +kernel) h_sg
  have hF0 : Fr [(18, 14), (20, 2), (36, 0)] σ0 σ0 := Fr_rfl
  obtain ⟨t, h_t1, h_t2, -⟩ := id hR.1
  obtain ⟨hl_t, hu_t⟩ := WT_int hσ0 (g := 1) tgz_1 (by decide +kernel) (l := 0) (u := 1600) (by decide +kernel) h_t1
  refine En_Ps 1 (pc' := 918) (lv' := [(0, .retAddr 0), (1, .ref 0), (2, .ref 159), (3, .int y)]) (st' := [.ref 0]) rfl ?_
  refine En_callV rfl rfl rfl rfl rfl rfl rfl rfl tgz_0 (by decide +kernel) rfl (c_181x σ0 hσ0 p hp h_p sg h_sg (by (first | exact q_c803b490ef hl_sg | omega)) (PLA_of hp) (FXP_p hR.1 hp) (hR.2.2.2.1 p h_p).2 hI.1 hR.2.2.2.2.2.1) (by decide) (by decide) (fun v2 σ3 h1 => ?_)
  obtain ⟨h4, h5, z7, rfl, h6⟩ := h1
  have h8 := h6.2.2
  have h9 := Fr_trans hF0 h5 (by decide +kernel)
  have h10 := INVc_fr h5 (by decide +kernel) hC
  have h11 := WI_fr h5 (by decide +kernel) (by decide +kernel) hI
  refine En_Ps 2 (pc' := 923) (lv' := [(0, .retAddr 0), (1, .ref 0), (2, .ref 159), (3, .int y)]) (st' := [.ref 159]) rfl ?_
  refine En_callV rfl rfl rfl rfl rfl rfl rfl rfl tgz_159 (by decide +kernel) rfl (c_329x σ3 h4 h11.1) (by decide) (by decide) (fun v13 σ14 h12 => ?_)
  obtain ⟨h15, h16, z18, rfl, h17⟩ := h12
  have h19 := h17.2.2
  have h20 := Fr_trans h9 h16 (by decide +kernel)
  have h21 := INVc_fr h16 (by decide +kernel) h10
  have h22 := WI_w h16 (by decide +kernel) h11 h19.1
  have h23 : z18.toInt = z7.toInt := h19.2.1.trans ((congrArg utR (wf_fr h5 (by decide +kernel))).trans h8.1.symm)
  refine En_Ps 2 (pc' := 2236) (lv' := [(0, .retAddr 0), (1, .ref 0), (2, .ref 159), (3, .int y)]) (st' := []) rfl ?_
  have h24 : FUL σ14 := (FUL_ch hR h15 h_p h5 h16 (RDL_fr hR.1 h5 h16 (by decide +kernel) (by decide +kernel)) (by decide +kernel) (by decide +kernel) h8.2 (fun i i0 i1 => (h19.2.2 i i0 i1).trans (congrFun (congrArg utW (wf_fr h5 (by decide +kernel))) i)) (ut_tw hR.2.2.2.2.1 (NNw_w hσ0) hR.2.2.2.2.2.1) (ut_tg hR.2.2.2.2.2.1 (NNw_w hσ0)))
  have h25 := ut7 (w := wf σ0) (NNw_w hσ0) hR.2.2.2.2.2.1
  exact k _ h15 h21 h22 ⟨h24, (RUT_ch hQ h5 h16 (by decide +kernel) (by decide +kernel) (fun i i0 i1 => (h19.2.2 i i0 i1).trans (congrFun (congrArg utW (wf_fr h5 (by decide +kernel))) i)) h25.1 h25.2.2), (QXS_w hX h5 h16 (by decide +kernel) (by decide +kernel) (fun i i0 i1 => (h19.2.2 i i0 i1).trans (congrFun (congrArg utW (wf_fr h5 (by decide +kernel))) i)) h25.2.1 h25.2.2)⟩
set_option maxRecDepth 10000 in
set_option maxHeartbeats 4000000 in
theorem law_c22 {L : Nat} {xs : Nat → Int32} {P : PO} (hL : L ≤ 3072) (y : Int32) (h0 : 0 ≤ y.toInt) (h1 : y.toInt + 6 ≤ (L : Int)) (σ0 : SG) (hσ0 : WT σ0) (hC : INVc σ0) (hI : WI σ0) (hL : LEA σ0) (k : ∀ σ, WT σ → INVc σ → WI σ → LEA σ → En 2048 84000 (some (L, xs)) mr_336 P 2236 [(0, .retAddr 0), (1, .ref 0), (2, .ref 159), (3, .int y)] [] σ) : En 2048 84000 (some (L, xs)) mr_336 P 930 [(0, .retAddr 0), (1, .ref 0), (2, .ref 159), (3, .int y)] [] σ0 := by
  obtain ⟨hR, hQ, hX⟩ := hL
  obtain ⟨p, p2, sg, hp, hp2, h_p, h_p2, hne, h_sg, hl_sg⟩ := id hC
  obtain ⟨-, hu_sg⟩ := WT_int hσ0 (g := 18) hp (by decide +kernel) (l := (-1)) (u := 4) (by decide +kernel) h_sg
  have hF0 : Fr [(20, 2), (21, 0), (22, 0), (35, 18), (35, 21), (42, 0), (43, 0), (44, 0), (45, 0), (46, 0)] σ0 σ0 := Fr_rfl
  obtain ⟨t, h_t1, h_t2, -⟩ := id hR.1
  obtain ⟨hl_t, hu_t⟩ := WT_int hσ0 (g := 1) tgz_1 (by decide +kernel) (l := 0) (u := 1600) (by decide +kernel) h_t1
  refine En_Ps 5 (pc' := 935) (lv' := [(0, .retAddr 0), (1, .ref 0), (2, .ref 159), (3, .int y)]) (st' := [.int ((y + ((Int32.ofInt 1)))), .retAddr 0, .ref 0]) rfl ?_
  refine En_top (addI rfl (by decide : (Int32.ofInt 1).toInt = 1) (by omega) (by omega)) (fun z1 h2 => ?_)
  refine En_sld rfl rfl (by omega) (by omega) (fun z3 h4 => ?_)
  refine En_Ps 4 (pc' := 940) (lv' := [(0, .retAddr 0), (1, .ref 0), (2, .ref 159), (3, .int y)]) (st' := [.int ((y + ((Int32.ofInt 2)))), .retAddr 0, .int z3, .ref 0]) rfl ?_
  refine En_top (addI rfl (by decide : (Int32.ofInt 2).toInt = 2) (by omega) (by omega)) (fun z5 h6 => ?_)
  refine En_sld rfl rfl (by omega) (by omega) (fun z7 h8 => ?_)
  refine En_Ps 4 (pc' := 945) (lv' := [(0, .retAddr 0), (1, .ref 0), (2, .ref 159), (3, .int y)]) (st' := [.int ((y + ((Int32.ofInt 3)))), .retAddr 0, .int z7, .int z3, .ref 0]) rfl ?_
  refine En_top (addI rfl (by decide : (Int32.ofInt 3).toInt = 3) (by omega) (by omega)) (fun z9 h10 => ?_)
  refine En_sld rfl rfl (by omega) (by omega) (fun z11 h12 => ?_)
  refine En_callV rfl rfl rfl rfl rfl rfl rfl rfl tgz_0 (by decide +kernel) rfl (c_130x σ0 hσ0 z3 z7 z11 p hp h_p sg h_sg (by omega) (PLA_of hp) (FXP_p hR.1 hp) (hR.2.2.2.1 p h_p).2 (WFw_w hσ0) hR.2.2.2.2.1 hQ hX.1) (by decide) (by decide) (fun v14 σ15 h13 => ?_)
  obtain ⟨h16, h17, z19, rfl, h18⟩ := h13
  have h20 := h18.2.2
  have h21 := Fr_trans hF0 h17 (by decide +kernel)
  have h22 := INVc_fr h17 (by decide +kernel) hC
  have h23 := WI_fr h17 (by decide +kernel) (by decide +kernel) hI
  refine En_Ps 6 (pc' := 955) (lv' := [(0, .retAddr 0), (1, .ref 0), (2, .ref 159), (3, .int y)]) (st' := [.int ((y + ((Int32.ofInt 1)))), .retAddr 0, .ref 159]) rfl ?_
  refine En_top (addI rfl (by decide : (Int32.ofInt 1).toInt = 1) (by omega) (by omega)) (fun z24 h25 => ?_)
  refine En_sld rfl rfl (by omega) (by omega) (fun z26 h27 => ?_)
  have h28 : z26.toInt = z3.toInt := by rw [h27, h4, show z24.toInt = z1.toInt by omega]
  refine En_Ps 4 (pc' := 960) (lv' := [(0, .retAddr 0), (1, .ref 0), (2, .ref 159), (3, .int y)]) (st' := [.int ((y + ((Int32.ofInt 2)))), .retAddr 0, .int z26, .ref 159]) rfl ?_
  refine En_top (addI rfl (by decide : (Int32.ofInt 2).toInt = 2) (by omega) (by omega)) (fun z29 h30 => ?_)
  refine En_sld rfl rfl (by omega) (by omega) (fun z31 h32 => ?_)
  have h33 : z31.toInt = z7.toInt := by rw [h32, h8, show z29.toInt = z5.toInt by omega]
  refine En_Ps 4 (pc' := 965) (lv' := [(0, .retAddr 0), (1, .ref 0), (2, .ref 159), (3, .int y)]) (st' := [.int ((y + ((Int32.ofInt 3)))), .retAddr 0, .int z31, .int z26, .ref 159]) rfl ?_
  refine En_top (addI rfl (by decide : (Int32.ofInt 3).toInt = 3) (by omega) (by omega)) (fun z34 h35 => ?_)
  refine En_sld rfl rfl (by omega) (by omega) (fun z36 h37 => ?_)
  have h38 : z36.toInt = z11.toInt := by rw [h37, h12, show z34.toInt = z9.toInt by omega]
  refine En_callV rfl rfl rfl rfl rfl rfl rfl rfl tgz_159 (by decide +kernel) rfl (c_235 σ15 h16 z26 z31 z36) (by decide) (by decide) (fun v40 σ41 h39 => ?_)
  obtain ⟨h42, h43, z45, rfl, h44⟩ := h39
  have h46 := Fr_trans h21 h43 (by decide +kernel)
  have h47 := INVc_fr h43 (by decide +kernel) h22
  have h48 := WI_fr h43 (by decide +kernel) (by decide +kernel) h23
  refine En_Ps 2 (pc' := 2236) (lv' := [(0, .retAddr 0), (1, .ref 0), (2, .ref 159), (3, .int y)]) (st' := []) rfl ?_
  have h49 : FUL σ41 := (FUL_ch hR h42 h_p h17 h43 (RDL_fr hR.1 h17 h43 (by decide +kernel) (by decide +kernel)) (by decide +kernel) (by decide +kernel) h20.2 (fun i _ _ => congrFun ((wf_fr h43 (by decide +kernel)).trans (wf_fr h17 (by decide +kernel))) i) hR.2.2.2.2.1 hR.2.2.2.2.2.1)
  exact k _ h42 h47 h48 ⟨h49, (RUT_fr hQ h17 h43 (by decide +kernel) (by decide +kernel)), (QXS_fr hX h17 h43 (by decide +kernel) (by decide +kernel))⟩
set_option maxRecDepth 10000 in
set_option maxHeartbeats 4000000 in
theorem law_c23 {L : Nat} {xs : Nat → Int32} {P : PO} (hL : L ≤ 3072) (y : Int32) (h0 : 0 ≤ y.toInt) (h1 : y.toInt + 6 ≤ (L : Int)) (σ0 : SG) (hσ0 : WT σ0) (hC : INVc σ0) (hI : WI σ0) (hL : LEA σ0) (k : ∀ σ, WT σ → INVc σ → WI σ → LEA σ → En 2048 84000 (some (L, xs)) mr_336 P 2236 [(0, .retAddr 0), (1, .ref 0), (2, .ref 159), (3, .int y)] [] σ) : En 2048 84000 (some (L, xs)) mr_336 P 973 [(0, .retAddr 0), (1, .ref 0), (2, .ref 159), (3, .int y)] [] σ0 := by
  obtain ⟨hR, hQ, hX⟩ := hL
  obtain ⟨p, p2, sg, hp, hp2, h_p, h_p2, hne, h_sg, hl_sg⟩ := id hC
  obtain ⟨-, hu_sg⟩ := WT_int hσ0 (g := 18) hp (by decide +kernel) (l := (-1)) (u := 4) (by decide +kernel) h_sg
  have hF0 : Fr [(20, 2), (21, 0), (22, 0), (35, 18), (35, 21), (42, 0), (43, 0), (44, 0), (45, 0), (46, 0)] σ0 σ0 := Fr_rfl
  obtain ⟨t, h_t1, h_t2, -⟩ := id hR.1
  obtain ⟨hl_t, hu_t⟩ := WT_int hσ0 (g := 1) tgz_1 (by decide +kernel) (l := 0) (u := 1600) (by decide +kernel) h_t1
  refine En_Ps 5 (pc' := 978) (lv' := [(0, .retAddr 0), (1, .ref 0), (2, .ref 159), (3, .int y)]) (st' := [.int ((y + ((Int32.ofInt 1)))), .retAddr 0, .ref 0]) rfl ?_
  refine En_top (addI rfl (by decide : (Int32.ofInt 1).toInt = 1) (by omega) (by omega)) (fun z1 h2 => ?_)
  refine En_sld rfl rfl (by omega) (by omega) (fun z3 h4 => ?_)
  refine En_callV rfl rfl rfl rfl rfl rfl rfl rfl tgz_0 (by decide +kernel) rfl (c_136x σ0 hσ0 z3 p hp h_p sg h_sg (by omega) (PLA_of hp) (FXP_p hR.1 hp) (hR.2.2.2.1 p h_p).2 (WFw_w hσ0) hR.2.2.2.2.1 hQ hX.1) (by decide) (by decide) (fun v6 σ7 h5 => ?_)
  obtain ⟨h8, h9, z11, rfl, h10⟩ := h5
  have h12 := h10.2.2
  have h13 := Fr_trans hF0 h9 (by decide +kernel)
  have h14 := INVc_fr h9 (by decide +kernel) hC
  have h15 := WI_fr h9 (by decide +kernel) (by decide +kernel) hI
  refine En_Ps 6 (pc' := 988) (lv' := [(0, .retAddr 0), (1, .ref 0), (2, .ref 159), (3, .int y)]) (st' := [.int ((y + ((Int32.ofInt 1)))), .retAddr 0, .ref 159]) rfl ?_
  refine En_top (addI rfl (by decide : (Int32.ofInt 1).toInt = 1) (by omega) (by omega)) (fun z16 h17 => ?_)
  refine En_sld rfl rfl (by omega) (by omega) (fun z18 h19 => ?_)
  have h20 : z18.toInt = z3.toInt := by rw [h19, h4, show z16.toInt = z1.toInt by omega]
  refine En_callV rfl rfl rfl rfl rfl rfl rfl rfl tgz_159 (by decide +kernel) rfl (c_243 σ7 h8 z18) (by decide) (by decide) (fun v22 σ23 h21 => ?_)
  obtain ⟨h24, h25, z27, rfl, h26⟩ := h21
  have h28 := Fr_trans h13 h25 (by decide +kernel)
  have h29 := INVc_fr h25 (by decide +kernel) h14
  have h30 := WI_fr h25 (by decide +kernel) (by decide +kernel) h15
  refine En_Ps 2 (pc' := 2236) (lv' := [(0, .retAddr 0), (1, .ref 0), (2, .ref 159), (3, .int y)]) (st' := []) rfl ?_
  have h31 : FUL σ23 := (FUL_ch hR h24 h_p h9 h25 (RDL_fr hR.1 h9 h25 (by decide +kernel) (by decide +kernel)) (by decide +kernel) (by decide +kernel) h12.2 (fun i _ _ => congrFun ((wf_fr h25 (by decide +kernel)).trans (wf_fr h9 (by decide +kernel))) i) hR.2.2.2.2.1 hR.2.2.2.2.2.1)
  exact k _ h24 h29 h30 ⟨h31, (RUT_fr hQ h9 h25 (by decide +kernel) (by decide +kernel)), (QXS_fr hX h9 h25 (by decide +kernel) (by decide +kernel))⟩
set_option maxRecDepth 10000 in
set_option maxHeartbeats 4000000 in
theorem law_c24 {L : Nat} {xs : Nat → Int32} {P : PO} (hL : L ≤ 3072) (y : Int32) (h0 : 0 ≤ y.toInt) (h1 : y.toInt + 6 ≤ (L : Int)) (σ0 : SG) (hσ0 : WT σ0) (hC : INVc σ0) (hI : WI σ0) (hL : LEA σ0) (k : ∀ σ, WT σ → INVc σ → WI σ → LEA σ → En 2048 84000 (some (L, xs)) mr_336 P 2236 [(0, .retAddr 0), (1, .ref 0), (2, .ref 159), (3, .int y)] [] σ) : En 2048 84000 (some (L, xs)) mr_336 P 996 [(0, .retAddr 0), (1, .ref 0), (2, .ref 159), (3, .int y)] [] σ0 := by
  obtain ⟨hR, hQ, hX⟩ := hL
  obtain ⟨p, p2, sg, hp, hp2, h_p, h_p2, hne, h_sg, hl_sg⟩ := id hC
  obtain ⟨-, hu_sg⟩ := WT_int hσ0 (g := 18) hp (by decide +kernel) (l := (-1)) (u := 4) (by decide +kernel) h_sg
  have hF0 : Fr [(20, 2), (21, 0), (22, 0), (35, 18), (35, 21), (42, 0), (43, 0), (44, 0), (45, 0), (46, 0)] σ0 σ0 := Fr_rfl
  obtain ⟨t, h_t1, h_t2, -⟩ := id hR.1
  obtain ⟨hl_t, hu_t⟩ := WT_int hσ0 (g := 1) tgz_1 (by decide +kernel) (l := 0) (u := 1600) (by decide +kernel) h_t1
  refine En_Ps 5 (pc' := 1001) (lv' := [(0, .retAddr 0), (1, .ref 0), (2, .ref 159), (3, .int y)]) (st' := [.int ((y + ((Int32.ofInt 1)))), .retAddr 0, .ref 0]) rfl ?_
  refine En_top (addI rfl (by decide : (Int32.ofInt 1).toInt = 1) (by omega) (by omega)) (fun z1 h2 => ?_)
  refine En_sld rfl rfl (by omega) (by omega) (fun z3 h4 => ?_)
  refine En_callV rfl rfl rfl rfl rfl rfl rfl rfl tgz_0 (by decide +kernel) rfl (c_141x σ0 hσ0 z3 p hp h_p sg h_sg (by omega) (PLA_of hp) (FXP_p hR.1 hp) (hR.2.2.2.1 p h_p).2 (WFw_w hσ0) hR.2.2.2.2.1 hQ hX.1) (by decide) (by decide) (fun v6 σ7 h5 => ?_)
  obtain ⟨h8, h9, z11, rfl, h10⟩ := h5
  have h12 := h10.2.2
  have h13 := Fr_trans hF0 h9 (by decide +kernel)
  have h14 := INVc_fr h9 (by decide +kernel) hC
  have h15 := WI_fr h9 (by decide +kernel) (by decide +kernel) hI
  refine En_Ps 6 (pc' := 1011) (lv' := [(0, .retAddr 0), (1, .ref 0), (2, .ref 159), (3, .int y)]) (st' := [.int ((y + ((Int32.ofInt 1)))), .retAddr 0, .ref 159]) rfl ?_
  refine En_top (addI rfl (by decide : (Int32.ofInt 1).toInt = 1) (by omega) (by omega)) (fun z16 h17 => ?_)
  refine En_sld rfl rfl (by omega) (by omega) (fun z18 h19 => ?_)
  have h20 : z18.toInt = z3.toInt := by rw [h19, h4, show z16.toInt = z1.toInt by omega]
  refine En_callV rfl rfl rfl rfl rfl rfl rfl rfl tgz_159 (by decide +kernel) rfl (c_247 σ7 h8 z18) (by decide) (by decide) (fun v22 σ23 h21 => ?_)
  obtain ⟨h24, h25, z27, rfl, h26⟩ := h21
  have h28 := Fr_trans h13 h25 (by decide +kernel)
  have h29 := INVc_fr h25 (by decide +kernel) h14
  have h30 := WI_fr h25 (by decide +kernel) (by decide +kernel) h15
  refine En_Ps 2 (pc' := 2236) (lv' := [(0, .retAddr 0), (1, .ref 0), (2, .ref 159), (3, .int y)]) (st' := []) rfl ?_
  have h31 : FUL σ23 := (FUL_ch hR h24 h_p h9 h25 (RDL_fr hR.1 h9 h25 (by decide +kernel) (by decide +kernel)) (by decide +kernel) (by decide +kernel) h12.2 (fun i _ _ => congrFun ((wf_fr h25 (by decide +kernel)).trans (wf_fr h9 (by decide +kernel))) i) hR.2.2.2.2.1 hR.2.2.2.2.2.1)
  exact k _ h24 h29 h30 ⟨h31, (RUT_fr hQ h9 h25 (by decide +kernel) (by decide +kernel)), (QXS_fr hX h9 h25 (by decide +kernel) (by decide +kernel))⟩
set_option maxRecDepth 10000 in
set_option maxHeartbeats 4000000 in
theorem law_c25 {L : Nat} {xs : Nat → Int32} {P : PO} (hL : L ≤ 3072) (y : Int32) (h0 : 0 ≤ y.toInt) (h1 : y.toInt + 6 ≤ (L : Int)) (σ0 : SG) (hσ0 : WT σ0) (hC : INVc σ0) (hI : WI σ0) (hL : LEA σ0) (k : ∀ σ, WT σ → INVc σ → WI σ → LEA σ → En 2048 84000 (some (L, xs)) mr_336 P 2236 [(0, .retAddr 0), (1, .ref 0), (2, .ref 159), (3, .int y)] [] σ) : En 2048 84000 (some (L, xs)) mr_336 P 1019 [(0, .retAddr 0), (1, .ref 0), (2, .ref 159), (3, .int y)] [] σ0 := by
  obtain ⟨hR, hQ, hX⟩ := hL
  obtain ⟨p, p2, sg, hp, hp2, h_p, h_p2, hne, h_sg, hl_sg⟩ := id hC
  obtain ⟨-, hu_sg⟩ := WT_int hσ0 (g := 18) hp (by decide +kernel) (l := (-1)) (u := 4) (by decide +kernel) h_sg
  have hF0 : Fr [(35, 18), (35, 21), (42, 0), (43, 0), (44, 0), (45, 0), (46, 0)] σ0 σ0 := Fr_rfl
  obtain ⟨t, h_t1, h_t2, -⟩ := id hR.1
  obtain ⟨hl_t, hu_t⟩ := WT_int hσ0 (g := 1) tgz_1 (by decide +kernel) (l := 0) (u := 1600) (by decide +kernel) h_t1
  refine En_Ps 5 (pc' := 1024) (lv' := [(0, .retAddr 0), (1, .ref 0), (2, .ref 159), (3, .int y)]) (st' := [.int ((y + ((Int32.ofInt 1)))), .retAddr 0, .ref 0]) rfl ?_
  refine En_top (addI rfl (by decide : (Int32.ofInt 1).toInt = 1) (by (first | exact q_465ab79ac1 h0 | omega)) (by omega)) (fun z1 h2 => ?_)
  refine En_sld rfl rfl (by (first | exact q_35104ce9d3 h2 h0 | omega)) (by omega) (fun z3 h4 => ?_)
  refine En_Ps 4 (pc' := 1029) (lv' := [(0, .retAddr 0), (1, .ref 0), (2, .ref 159), (3, .int y)]) (st' := [.int ((y + ((Int32.ofInt 2)))), .retAddr 0, .int z3, .ref 0]) rfl ?_
  refine En_top (addI rfl (by decide : (Int32.ofInt 2).toInt = 2) (by (first | exact q_f7bbb7a326 h0 | omega)) (by omega)) (fun z5 h6 => ?_)
  refine En_sld rfl rfl (by (first | exact q_8f6627763a h6 h0 | omega)) (by omega) (fun z7 h8 => ?_)
  refine En_callV rfl rfl rfl rfl rfl rfl rfl rfl tgz_0 (by decide +kernel) rfl (c_123 σ0 hσ0 z3 z7 p hp h_p sg h_sg (by (first | exact q_c803b490ef hl_sg | omega))) (by decide) (by decide) (fun v10 σ11 h9 => ?_)
  obtain ⟨h12, h13, z15, rfl, h14⟩ := h9
  have h16 := Fr_trans hF0 h13 (by decide +kernel)
  have h17 := INVc_fr h13 (by decide +kernel) hC
  have h18 := WI_fr h13 (by decide +kernel) (by decide +kernel) hI
  refine En_Ps 6 (pc' := 1039) (lv' := [(0, .retAddr 0), (1, .ref 0), (2, .ref 159), (3, .int y)]) (st' := [.int ((y + ((Int32.ofInt 1)))), .retAddr 0, .ref 159]) rfl ?_
  refine En_top (addI rfl (by decide : (Int32.ofInt 1).toInt = 1) (by (first | exact q_465ab79ac1 h0 | omega)) (by omega)) (fun z19 h20 => ?_)
  refine En_sld rfl rfl (by (first | exact q_35104ce9d3 h20 h0 | omega)) (by omega) (fun z21 h22 => ?_)
  have h23 : z21.toInt = z3.toInt := by rw [h22, h4, show z19.toInt = z1.toInt by (first | exact q_e9c1972850 h20 h2 | omega)]
  refine En_Ps 4 (pc' := 1044) (lv' := [(0, .retAddr 0), (1, .ref 0), (2, .ref 159), (3, .int y)]) (st' := [.int ((y + ((Int32.ofInt 2)))), .retAddr 0, .int z21, .ref 159]) rfl ?_
  refine En_top (addI rfl (by decide : (Int32.ofInt 2).toInt = 2) (by (first | exact q_f7bbb7a326 h0 | omega)) (by omega)) (fun z24 h25 => ?_)
  refine En_sld rfl rfl (by (first | exact q_8f6627763a h25 h0 | omega)) (by omega) (fun z26 h27 => ?_)
  have h28 : z26.toInt = z7.toInt := by rw [h27, h8, show z24.toInt = z5.toInt by (first | exact q_2ed5a210e9 h25 h6 | omega)]
  refine En_callV rfl rfl rfl rfl rfl rfl rfl rfl tgz_159 (by decide +kernel) rfl (c_227 σ11 h12 z21 z26) (by decide) (by decide) (fun v30 σ31 h29 => ?_)
  obtain ⟨h32, h33, z35, rfl, h34⟩ := h29
  have h36 := Fr_trans h16 h33 (by decide +kernel)
  have h37 := INVc_fr h33 (by decide +kernel) h17
  have h38 := WI_fr h33 (by decide +kernel) (by decide +kernel) h18
  refine En_Ps 2 (pc' := 2236) (lv' := [(0, .retAddr 0), (1, .ref 0), (2, .ref 159), (3, .int y)]) (st' := []) rfl ?_
  have h39 : FUL σ31 := (FUL_kp hR h13 h33 (by decide +kernel) (by decide +kernel) (RDL_fr hR.1 h13 h33 (by decide +kernel) (by decide +kernel)))
  exact k _ h32 h37 h38 ⟨h39, (RUT_fr hQ h13 h33 (by decide +kernel) (by decide +kernel)), (QXS_fr hX h13 h33 (by decide +kernel) (by decide +kernel))⟩
set_option maxRecDepth 10000 in
set_option maxHeartbeats 4000000 in
theorem law_c26 {L : Nat} {xs : Nat → Int32} {P : PO} (hL : L ≤ 3072) (y : Int32) (h0 : 0 ≤ y.toInt) (h1 : y.toInt + 6 ≤ (L : Int)) (σ0 : SG) (hσ0 : WT σ0) (hC : INVc σ0) (hI : WI σ0) (hL : LEA σ0) (k : ∀ σ, WT σ → INVc σ → WI σ → LEA σ → En 2048 84000 (some (L, xs)) mr_336 P 2236 [(0, .retAddr 0), (1, .ref 0), (2, .ref 159), (3, .int y)] [] σ) : En 2048 84000 (some (L, xs)) mr_336 P 1052 [(0, .retAddr 0), (1, .ref 0), (2, .ref 159), (3, .int y)] [] σ0 := by
  obtain ⟨hR, hQ, hX⟩ := hL
  obtain ⟨p, p2, sg, hp, hp2, h_p, h_p2, hne, h_sg, hl_sg⟩ := id hC
  obtain ⟨-, hu_sg⟩ := WT_int hσ0 (g := 18) hp (by decide +kernel) (l := (-1)) (u := 4) (by decide +kernel) h_sg
  have hF0 : Fr [(35, 18), (35, 21), (42, 0), (43, 0), (44, 0), (45, 0), (46, 0)] σ0 σ0 := Fr_rfl
  obtain ⟨t, h_t1, h_t2, -⟩ := id hR.1
  obtain ⟨hl_t, hu_t⟩ := WT_int hσ0 (g := 1) tgz_1 (by decide +kernel) (l := 0) (u := 1600) (by decide +kernel) h_t1
  refine En_Ps 5 (pc' := 1057) (lv' := [(0, .retAddr 0), (1, .ref 0), (2, .ref 159), (3, .int y)]) (st' := [.int ((y + ((Int32.ofInt 1)))), .retAddr 0, .ref 0]) rfl ?_
  refine En_top (addI rfl (by decide : (Int32.ofInt 1).toInt = 1) (by (first | exact q_465ab79ac1 h0 | omega)) (by omega)) (fun z1 h2 => ?_)
  refine En_sld rfl rfl (by (first | exact q_35104ce9d3 h2 h0 | omega)) (by omega) (fun z3 h4 => ?_)
  refine En_Ps 4 (pc' := 1062) (lv' := [(0, .retAddr 0), (1, .ref 0), (2, .ref 159), (3, .int y)]) (st' := [.int ((y + ((Int32.ofInt 2)))), .retAddr 0, .int z3, .ref 0]) rfl ?_
  refine En_top (addI rfl (by decide : (Int32.ofInt 2).toInt = 2) (by (first | exact q_f7bbb7a326 h0 | omega)) (by omega)) (fun z5 h6 => ?_)
  refine En_sld rfl rfl (by (first | exact q_8f6627763a h6 h0 | omega)) (by omega) (fun z7 h8 => ?_)
  refine En_callV rfl rfl rfl rfl rfl rfl rfl rfl tgz_0 (by decide +kernel) rfl (c_111 σ0 hσ0 z3 z7 p hp h_p sg h_sg (by (first | exact q_c803b490ef hl_sg | omega))) (by decide) (by decide) (fun v10 σ11 h9 => ?_)
  obtain ⟨h12, h13, z15, rfl, h14⟩ := h9
  have h16 := Fr_trans hF0 h13 (by decide +kernel)
  have h17 := INVc_fr h13 (by decide +kernel) hC
  have h18 := WI_fr h13 (by decide +kernel) (by decide +kernel) hI
  refine En_Ps 6 (pc' := 1072) (lv' := [(0, .retAddr 0), (1, .ref 0), (2, .ref 159), (3, .int y)]) (st' := [.int ((y + ((Int32.ofInt 1)))), .retAddr 0, .ref 159]) rfl ?_
  refine En_top (addI rfl (by decide : (Int32.ofInt 1).toInt = 1) (by (first | exact q_465ab79ac1 h0 | omega)) (by omega)) (fun z19 h20 => ?_)
  refine En_sld rfl rfl (by (first | exact q_35104ce9d3 h20 h0 | omega)) (by omega) (fun z21 h22 => ?_)
  have h23 : z21.toInt = z3.toInt := by rw [h22, h4, show z19.toInt = z1.toInt by (first | exact q_e9c1972850 h20 h2 | omega)]
  refine En_Ps 4 (pc' := 1077) (lv' := [(0, .retAddr 0), (1, .ref 0), (2, .ref 159), (3, .int y)]) (st' := [.int ((y + ((Int32.ofInt 2)))), .retAddr 0, .int z21, .ref 159]) rfl ?_
  refine En_top (addI rfl (by decide : (Int32.ofInt 2).toInt = 2) (by (first | exact q_f7bbb7a326 h0 | omega)) (by omega)) (fun z24 h25 => ?_)
  refine En_sld rfl rfl (by (first | exact q_8f6627763a h25 h0 | omega)) (by omega) (fun z26 h27 => ?_)
  have h28 : z26.toInt = z7.toInt := by rw [h27, h8, show z24.toInt = z5.toInt by (first | exact q_2ed5a210e9 h25 h6 | omega)]
  refine En_callV rfl rfl rfl rfl rfl rfl rfl rfl tgz_159 (by decide +kernel) rfl (c_207 σ11 h12 z21 z26) (by decide) (by decide) (fun v30 σ31 h29 => ?_)
  obtain ⟨h32, h33, z35, rfl, h34⟩ := h29
  have h36 := Fr_trans h16 h33 (by decide +kernel)
  have h37 := INVc_fr h33 (by decide +kernel) h17
  have h38 := WI_fr h33 (by decide +kernel) (by decide +kernel) h18
  refine En_Ps 2 (pc' := 2236) (lv' := [(0, .retAddr 0), (1, .ref 0), (2, .ref 159), (3, .int y)]) (st' := []) rfl ?_
  have h39 : FUL σ31 := (FUL_kp hR h13 h33 (by decide +kernel) (by decide +kernel) (RDL_fr hR.1 h13 h33 (by decide +kernel) (by decide +kernel)))
  exact k _ h32 h37 h38 ⟨h39, (RUT_fr hQ h13 h33 (by decide +kernel) (by decide +kernel)), (QXS_fr hX h13 h33 (by decide +kernel) (by decide +kernel))⟩
set_option maxRecDepth 10000 in
set_option maxHeartbeats 4000000 in
theorem law_c27 {L : Nat} {xs : Nat → Int32} {P : PO} (hL : L ≤ 3072) (y : Int32) (h0 : 0 ≤ y.toInt) (h1 : y.toInt + 6 ≤ (L : Int)) (σ0 : SG) (hσ0 : WT σ0) (hC : INVc σ0) (hI : WI σ0) (hL : LEA σ0) (k : ∀ σ, WT σ → INVc σ → WI σ → LEA σ → En 2048 84000 (some (L, xs)) mr_336 P 2236 [(0, .retAddr 0), (1, .ref 0), (2, .ref 159), (3, .int y)] [] σ) : En 2048 84000 (some (L, xs)) mr_336 P 1085 [(0, .retAddr 0), (1, .ref 0), (2, .ref 159), (3, .int y)] [] σ0 := by
  obtain ⟨hR, hQ, hX⟩ := hL
  obtain ⟨p, p2, sg, hp, hp2, h_p, h_p2, hne, h_sg, hl_sg⟩ := id hC
  obtain ⟨-, hu_sg⟩ := WT_int hσ0 (g := 18) hp (by decide +kernel) (l := (-1)) (u := 4) (by decide +kernel) h_sg
  have hF0 : Fr [(35, 18), (35, 21), (42, 0), (43, 0), (44, 0), (45, 0), (46, 0)] σ0 σ0 := Fr_rfl
  obtain ⟨t, h_t1, h_t2, -⟩ := id hR.1
  obtain ⟨hl_t, hu_t⟩ := WT_int hσ0 (g := 1) tgz_1 (by decide +kernel) (l := 0) (u := 1600) (by decide +kernel) h_t1
  refine En_Ps 5 (pc' := 1090) (lv' := [(0, .retAddr 0), (1, .ref 0), (2, .ref 159), (3, .int y)]) (st' := [.int ((y + ((Int32.ofInt 1)))), .retAddr 0, .ref 0]) rfl ?_
  refine En_top (addI rfl (by decide : (Int32.ofInt 1).toInt = 1) (by (first | exact q_465ab79ac1 h0 | omega)) (by omega)) (fun z1 h2 => ?_)
  refine En_sld rfl rfl (by (first | exact q_35104ce9d3 h2 h0 | omega)) (by omega) (fun z3 h4 => ?_)
  refine En_Ps 4 (pc' := 1095) (lv' := [(0, .retAddr 0), (1, .ref 0), (2, .ref 159), (3, .int y)]) (st' := [.int ((y + ((Int32.ofInt 2)))), .retAddr 0, .int z3, .ref 0]) rfl ?_
  refine En_top (addI rfl (by decide : (Int32.ofInt 2).toInt = 2) (by (first | exact q_f7bbb7a326 h0 | omega)) (by omega)) (fun z5 h6 => ?_)
  refine En_sld rfl rfl (by (first | exact q_8f6627763a h6 h0 | omega)) (by omega) (fun z7 h8 => ?_)
  refine En_Ps 4 (pc' := 1100) (lv' := [(0, .retAddr 0), (1, .ref 0), (2, .ref 159), (3, .int y)]) (st' := [.int ((y + ((Int32.ofInt 3)))), .retAddr 0, .int z7, .int z3, .ref 0]) rfl ?_
  refine En_top (addI rfl (by decide : (Int32.ofInt 3).toInt = 3) (by (first | exact q_de3c750a51 h0 | omega)) (by omega)) (fun z9 h10 => ?_)
  refine En_sld rfl rfl (by (first | exact q_8454383051 h10 h0 | omega)) (by omega) (fun z11 h12 => ?_)
  refine En_callV rfl rfl rfl rfl rfl rfl rfl rfl tgz_0 (by decide +kernel) rfl (c_170 σ0 hσ0 z3 z7 z11 p hp h_p sg h_sg (by (first | exact q_c803b490ef hl_sg | omega))) (by decide) (by decide) (fun v14 σ15 h13 => ?_)
  obtain ⟨h16, h17, z19, rfl, h18⟩ := h13
  have h20 := Fr_trans hF0 h17 (by decide +kernel)
  have h21 := INVc_fr h17 (by decide +kernel) hC
  have h22 := WI_fr h17 (by decide +kernel) (by decide +kernel) hI
  refine En_Ps 6 (pc' := 1110) (lv' := [(0, .retAddr 0), (1, .ref 0), (2, .ref 159), (3, .int y)]) (st' := [.int ((y + ((Int32.ofInt 1)))), .retAddr 0, .ref 159]) rfl ?_
  refine En_top (addI rfl (by decide : (Int32.ofInt 1).toInt = 1) (by (first | exact q_465ab79ac1 h0 | omega)) (by omega)) (fun z23 h24 => ?_)
  refine En_sld rfl rfl (by (first | exact q_35104ce9d3 h24 h0 | omega)) (by omega) (fun z25 h26 => ?_)
  have h27 : z25.toInt = z3.toInt := by rw [h26, h4, show z23.toInt = z1.toInt by (first | exact q_e9c1972850 h24 h2 | omega)]
  refine En_Ps 4 (pc' := 1115) (lv' := [(0, .retAddr 0), (1, .ref 0), (2, .ref 159), (3, .int y)]) (st' := [.int ((y + ((Int32.ofInt 2)))), .retAddr 0, .int z25, .ref 159]) rfl ?_
  refine En_top (addI rfl (by decide : (Int32.ofInt 2).toInt = 2) (by (first | exact q_f7bbb7a326 h0 | omega)) (by omega)) (fun z28 h29 => ?_)
  refine En_sld rfl rfl (by (first | exact q_8f6627763a h29 h0 | omega)) (by omega) (fun z30 h31 => ?_)
  have h32 : z30.toInt = z7.toInt := by rw [h31, h8, show z28.toInt = z5.toInt by (first | exact q_2ed5a210e9 h29 h6 | omega)]
  refine En_Ps 4 (pc' := 1120) (lv' := [(0, .retAddr 0), (1, .ref 0), (2, .ref 159), (3, .int y)]) (st' := [.int ((y + ((Int32.ofInt 3)))), .retAddr 0, .int z30, .int z25, .ref 159]) rfl ?_
  refine En_top (addI rfl (by decide : (Int32.ofInt 3).toInt = 3) (by (first | exact q_de3c750a51 h0 | omega)) (by omega)) (fun z33 h34 => ?_)
  refine En_sld rfl rfl (by (first | exact q_8454383051 h34 h0 | omega)) (by omega) (fun z35 h36 => ?_)
  have h37 : z35.toInt = z11.toInt := by rw [h36, h12, show z33.toInt = z9.toInt by (first | exact q_a28fc6cb15 h34 h10 | omega)]
  refine En_callV rfl rfl rfl rfl rfl rfl rfl rfl tgz_159 (by decide +kernel) rfl (c_314 σ15 h16 z25 z30 z35) (by decide) (by decide) (fun v39 σ40 h38 => ?_)
  obtain ⟨h41, h42, z44, rfl, h43⟩ := h38
  have h45 := Fr_trans h20 h42 (by decide +kernel)
  have h46 := INVc_fr h42 (by decide +kernel) h21
  have h47 := WI_fr h42 (by decide +kernel) (by decide +kernel) h22
  refine En_Ps 2 (pc' := 2236) (lv' := [(0, .retAddr 0), (1, .ref 0), (2, .ref 159), (3, .int y)]) (st' := []) rfl ?_
  have h48 : FUL σ40 := (FUL_kp hR h17 h42 (by decide +kernel) (by decide +kernel) (RDL_fr hR.1 h17 h42 (by decide +kernel) (by decide +kernel)))
  exact k _ h41 h46 h47 ⟨h48, (RUT_fr hQ h17 h42 (by decide +kernel) (by decide +kernel)), (QXS_fr hX h17 h42 (by decide +kernel) (by decide +kernel))⟩
end
