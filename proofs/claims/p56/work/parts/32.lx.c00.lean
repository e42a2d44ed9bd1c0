/-- java/lang/Integer.bitCount(I)I -/
abbrev P_7 (σ0 : SG) (a : Int32) : PO := fun v σ => WT σ ∧ Fr [] σ0 σ ∧ ∃ ret : Int32, v = some (.int ret) ∧ -ret.toInt ≤ 0 ∧ ret.toInt - 63 ≤ 0
set_option maxRecDepth 10000 in
set_option maxHeartbeats 4000000 in
theorem c_7 (σ0 : SG) (hσ0 : WT σ0) (a : Int32) : En 0 0 none mr_7 (P_7 σ0 a) 0 [(0, .int a)] [] σ0 := by
  have hF0 : Fr [] σ0 σ0 := Fr_rfl
  refine En_Ps 4 (pc' := 4) (lv' := [(0, .int a)]) (st' := [.int (((a.toUInt32 >>> (((Int32.ofInt 1)).toUInt32 &&& Int32.toUInt32 31)).toInt32)), .int a]) rfl ?_
  refine En_hav (fun z1 => ?_)
  refine En_Ps 2 (pc' := 8) (lv' := [(0, .int a)]) (st' := [.int ((z1 &&& ((1431655765 : Int32)))), .int a]) rfl ?_
  refine En_rng (l := 0) (u := 1431655765) (andR_rng (by decide : (1431655765 : Int32).toInt = 1431655765) (by decide)) (fun z2 h3 h4 => ?_)
  refine En_Ps 1 (pc' := 9) (lv' := [(0, .int a)]) (st' := [.int ((a - z2))]) rfl ?_
  refine En_hav (fun z5 => ?_)
  refine En_Ps 4 (pc' := 15) (lv' := [(0, .int z5)]) (st' := [.int ((z5 &&& ((858993459 : Int32))))]) rfl ?_
  refine En_rng (l := 0) (u := 858993459) (andR_rng (by decide : (858993459 : Int32).toInt = 858993459) (by decide)) (fun z6 h7 h8 => ?_)
  refine En_Ps 3 (pc' := 18) (lv' := [(0, .int z5)]) (st' := [.int (((z5.toUInt32 >>> (((Int32.ofInt 2)).toUInt32 &&& Int32.toUInt32 31)).toInt32)), .int z6]) rfl ?_
  refine En_hav (fun z9 => ?_)
  refine En_Ps 2 (pc' := 22) (lv' := [(0, .int z5)]) (st' := [.int ((z9 &&& ((858993459 : Int32)))), .int z6]) rfl ?_
  refine En_rng (l := 0) (u := 858993459) (andR_rng (by decide : (858993459 : Int32).toInt = 858993459) (by decide)) (fun z10 h11 h12 => ?_)
  refine En_Ps 1 (pc' := 23) (lv' := [(0, .int z5)]) (st' := [.int ((z6 + z10))]) rfl ?_
  refine En_top (addI rfl rfl (by first | exact q_3bb374bebc h7 h11 | omega) (by first | exact q_ce39e5e0e0 h8 h12 | omega)) (fun z13 h14 => ?_)
  refine En_Ps 5 (pc' := 28) (lv' := [(0, .int z13)]) (st' := [.int (((z13.toUInt32 >>> (((Int32.ofInt 4)).toUInt32 &&& Int32.toUInt32 31)).toInt32)), .int z13]) rfl ?_
  refine En_hav (fun z15 => ?_)
  refine En_Ps 1 (pc' := 29) (lv' := [(0, .int z13)]) (st' := [.int ((z13 + z15))]) rfl ?_
  refine En_hav (fun z16 => ?_)
  refine En_Ps 2 (pc' := 33) (lv' := [(0, .int z13)]) (st' := [.int ((z16 &&& ((252645135 : Int32))))]) rfl ?_
  refine En_rng (l := 0) (u := 252645135) (andR_rng (by decide : (252645135 : Int32).toInt = 252645135) (by decide)) (fun z17 h18 h19 => ?_)
  refine En_Ps 5 (pc' := 39) (lv' := [(0, .int z17)]) (st' := [.int (((z17.toUInt32 >>> ((((Int8.ofInt 8).toInt32)).toUInt32 &&& Int32.toUInt32 31)).toInt32)), .int z17]) rfl ?_
  refine En_hav (fun z20 => ?_)
  refine En_Ps 1 (pc' := 40) (lv' := [(0, .int z17)]) (st' := [.int ((z17 + z20))]) rfl ?_
  refine En_hav (fun z21 => ?_)
  refine En_Ps 5 (pc' := 46) (lv' := [(0, .int z21)]) (st' := [.int (((z21.toUInt32 >>> ((((Int8.ofInt 16).toInt32)).toUInt32 &&& Int32.toUInt32 31)).toInt32)), .int z21]) rfl ?_
  refine En_hav (fun z22 => ?_)
  refine En_Ps 1 (pc' := 47) (lv' := [(0, .int z21)]) (st' := [.int ((z21 + z22))]) rfl ?_
  refine En_hav (fun z23 => ?_)
  refine En_Ps 4 (pc' := 52) (lv' := [(0, .int z23)]) (st' := [.int ((z23 &&& (((Int8.ofInt 63).toInt32))))]) rfl ?_
  refine En_rng (l := 0) (u := 63) (andR_rng (by decide : ((Int8.ofInt 63).toInt32).toInt = 63) (by decide)) (fun z24 h25 h26 => ?_)
  exact En_ret (v := some (.int z24)) rfl rfl rfl ⟨hσ0, hF0, z24, rfl, ⟨by first | exact q_c803b490ef h25 | omega, by first | exact q_ac3306975b h26 | omega⟩⟩
/-- java/util/Arrays.fill([II)V -/
abbrev P_8b (σ0 : SG) (a : Nat) (b : Int32) : PO := fun v σ => WT σ ∧ Fr [(16, 0)] σ0 σ ∧ v = none ∧ True
set_option maxRecDepth 10000 in
set_option maxHeartbeats 4000000 in
theorem c_8b (σ0 : SG) (hσ0 : WT σ0) (a : Nat) (ha : TG a = 16) (b : Int32) (hl_b : 0 ≤ b.toInt) (hu_b : b.toInt ≤ 0) : En 0 0 none mr_8 (P_8b σ0 a b) 0 [(0, .ref a), (1, .int b)] [] σ0 := by
  have hF0 : Fr [(16, 0)] σ0 σ0 := Fr_rfl
  refine En_Ps 3 (pc' := 3) (lv' := [(2, .int ((Int32.ofInt 0))), (0, .ref a), (1, .int b)]) (st' := [.ref a]) rfl ?_
  refine En_alenN (n := 6) rfl ha (by decide +kernel) (by decide +kernel) hσ0 ?_
  refine En_Ps 1 (pc' := 5) (lv' := [(3, .int ((Int32.ofNat 6))), (2, .int ((Int32.ofInt 0))), (0, .ref a), (1, .int b)]) (st' := []) rfl ?_
  have key5 : ∀ (n5 : Nat) (σ2 : SG) (y1 : Int32), WT σ2 → Fr [(16, 0)] σ0 σ2 → 0 ≤ y1.toInt → y1.toInt ≤ 6 → -y1.toInt + 6 < (n5 : Int) → En 0 0 none mr_8 (P_8b σ0 a b) 5 [(0, .ref a), (1, .int b), (2, .int y1), (3, .int ((Int32.ofNat 6)))] [] σ2 := by
    intro n5
    induction n5 with
    | zero =>
      intro σ2 y1 h3 h4 h5 h6 h7
      first | exact (q_1c67ffb2e6 h7 h6).elim | (exfalso; omega)
    | succ n5 ih5 =>
      intro σ2 y1 h3 h4 h5 h6 h7
      refine En_Ps 2 (pc' := 7) (lv' := [(0, .ref a), (1, .int b), (2, .int y1), (3, .int ((Int32.ofNat 6)))]) (st' := [.int ((Int32.ofNat 6)), .int y1]) rfl ?_
      refine En_icGe _ rfl (by decide : (Int32.ofNat 6).toInt = 6) rfl (fun h8 => ?_) (fun h8 => ?_)
      · exact En_ret (v := none) rfl rfl rfl ⟨h3, h4, rfl, trivial⟩
      · refine En_Ps 3 (pc' := 13) (lv' := [(0, .ref a), (1, .int b), (2, .int y1), (3, .int ((Int32.ofNat 6)))]) (st' := [.int b, .int y1, .ref a]) rfl ?_
        refine En_iast (l := 0) (u := 54) rfl rfl ha (by decide +kernel) (by first | exact q_58e6e51dcc h5 | omega) (lnI (by decide +kernel : LN _ = 6) (by first | exact q_ab9991d2ad h8 | omega)) (FTsgl (by decide +kernel)) (rngI rfl (by first | exact q_58e6e51dcc hl_b | omega) (by first | exact q_cad496af17 hu_b | omega)) h3 h4 (by decide +kernel) (fun σ9 h10 h11 h12 h13 => ?_)
        refine En_Ps 1 (pc' := 17) (lv' := [(2, .int ((y1 + Int32.ofInt 1))), (0, .ref a), (1, .int b), (3, .int ((Int32.ofNat 6)))]) (st' := []) rfl ?_
        refine En_lv1 (addI rfl (by decide : (Int32.ofInt 1).toInt = 1) (by first | exact q_465ab79ac1 h5 | omega) (by first | exact q_2918abfa70 h8 | omega)) (fun z14 h15 => ?_)
        refine En_Ps 1 (pc' := 5) (lv' := [(2, .int z14), (0, .ref a), (1, .int b), (3, .int ((Int32.ofNat 6)))]) (st' := []) rfl ?_
        refine En_lv (lv := [(0, .ref a), (1, .int b), (2, .int z14), (3, .int ((Int32.ofNat 6)))]) ⟨rfl, rfl, rfl, rfl, trivial⟩ ?_
        exact ih5 σ9 z14 h10 h11 (by first | exact q_35104ce9d3 h15 h5 | omega) (by first | exact q_13d1e79bb8 h15 h8 | omega) (by first | exact q_18a3ecfd63 h15 h7 | omega)
  have := (by decide : (Int32.ofInt 0).toInt = 0)
  refine En_lv (lv := [(0, .ref a), (1, .int b), (2, .int ((Int32.ofInt 0))), (3, .int ((Int32.ofNat 6)))]) ⟨rfl, rfl, rfl, rfl, trivial⟩ ?_
  exact key5 (Int.toNat (6) + 1) σ0 ((Int32.ofInt 0)) hσ0 hF0 (by decide) (by decide) (by first | exact toN_lt _ | omega)
/-- java/util/Arrays.fill([JJ)V -/
abbrev P_9a (σ0 : SG) (a : Nat) (b : Int64) : PO := fun v σ => WT σ ∧ Fr [(34, 0)] σ0 σ ∧ v = none ∧ True
set_option maxRecDepth 10000 in
set_option maxHeartbeats 4000000 in
theorem c_9a (σ0 : SG) (hσ0 : WT σ0) (a : Nat) (ha : TG a = 34) (b : Int64) : En 0 0 none mr_9 (P_9a σ0 a b) 0 [(0, .ref a), (1, .long b)] [] σ0 := by
  have hF0 : Fr [(34, 0)] σ0 σ0 := Fr_rfl
  refine En_Ps 3 (pc' := 3) (lv' := [(3, .int ((Int32.ofInt 0))), (0, .ref a), (1, .long b)]) (st' := [.ref a]) rfl ?_
  refine En_alenN (n := 60) rfl ha (by decide +kernel) (by decide +kernel) hσ0 ?_
  refine En_Ps 1 (pc' := 6) (lv' := [(4, .int ((Int32.ofNat 60))), (3, .int ((Int32.ofInt 0))), (0, .ref a), (1, .long b)]) (st' := []) rfl ?_
  have key6 : ∀ (n6 : Nat) (σ2 : SG) (y1 : Int32), WT σ2 → Fr [(34, 0)] σ0 σ2 → 0 ≤ y1.toInt → y1.toInt ≤ 60 → -y1.toInt + 60 < (n6 : Int) → En 0 0 none mr_9 (P_9a σ0 a b) 6 [(0, .ref a), (1, .long b), (3, .int y1), (4, .int ((Int32.ofNat 60)))] [] σ2 := by
    intro n6
    induction n6 with
    | zero =>
      intro σ2 y1 h3 h4 h5 h6 h7
      first | exact (q_98ae87e5bf h7 h6).elim | (exfalso; omega)
    | succ n6 ih6 =>
      intro σ2 y1 h3 h4 h5 h6 h7
      refine En_Ps 2 (pc' := 9) (lv' := [(0, .ref a), (1, .long b), (3, .int y1), (4, .int ((Int32.ofNat 60)))]) (st' := [.int ((Int32.ofNat 60)), .int y1]) rfl ?_
      refine En_icGe _ rfl (by decide : (Int32.ofNat 60).toInt = 60) rfl (fun h8 => ?_) (fun h8 => ?_)
      · exact En_ret (v := none) rfl rfl rfl ⟨h3, h4, rfl, trivial⟩
      · refine En_Ps 3 (pc' := 15) (lv' := [(0, .ref a), (1, .long b), (3, .int y1), (4, .int ((Int32.ofNat 60)))]) (st' := [.long b, .int y1, .ref a]) rfl ?_
        refine En_last (l := (-9223372036854775808)) (u := 9223372036854775807) rfl rfl ha (by decide +kernel) (by first | exact q_58e6e51dcc h5 | omega) (lnI (by decide +kernel : LN _ = 60) (by first | exact q_8b56808a55 h8 | omega)) (FTsgl (by decide +kernel)) (fullL _) h3 h4 (by decide +kernel) (fun σ9 h10 h11 h12 h13 => ?_)
        refine En_Ps 1 (pc' := 19) (lv' := [(3, .int ((y1 + Int32.ofInt 1))), (0, .ref a), (1, .long b), (4, .int ((Int32.ofNat 60)))]) (st' := []) rfl ?_
        refine En_lv1 (addI rfl (by decide : (Int32.ofInt 1).toInt = 1) (by first | exact q_465ab79ac1 h5 | omega) (by first | exact q_5aee3ad0d6 h8 | omega)) (fun z14 h15 => ?_)
        refine En_Ps 1 (pc' := 6) (lv' := [(3, .int z14), (0, .ref a), (1, .long b), (4, .int ((Int32.ofNat 60)))]) (st' := []) rfl ?_
        refine En_lv (lv := [(0, .ref a), (1, .long b), (3, .int z14), (4, .int ((Int32.ofNat 60)))]) ⟨rfl, rfl, rfl, rfl, trivial⟩ ?_
        exact ih6 σ9 z14 h10 h11 (by first | exact q_35104ce9d3 h15 h5 | omega) (by first | exact q_7e37767ea5 h15 h8 | omega) (by first | exact q_45947d8f83 h15 h7 | omega)
  have := (by decide : (Int32.ofInt 0).toInt = 0)
  refine En_lv (lv := [(0, .ref a), (1, .long b), (3, .int ((Int32.ofInt 0))), (4, .int ((Int32.ofNat 60)))]) ⟨rfl, rfl, rfl, rfl, trivial⟩ ?_
  exact key6 (Int.toNat (60) + 1) σ0 ((Int32.ofInt 0)) hσ0 hF0 (by decide) (by decide) (by first | exact toN_lt _ | omega)
/-- java/lang/Math.max(II)I -/
abbrev P_10 (σ0 : SG) (a : Int32) (b : Int32) : PO := fun v σ => WT σ ∧ Fr [] σ0 σ ∧ ∃ ret : Int32, v = some (.int ret) ∧ a.toInt - ret.toInt ≤ 0 ∧ b.toInt - ret.toInt ≤ 0 ∧ (b.toInt - a.toInt ≤ 0 → ret.toInt - a.toInt ≤ 0) ∧ (a.toInt - b.toInt ≤ 0 → ret.toInt - b.toInt ≤ 0)
set_option maxRecDepth 10000 in
set_option maxHeartbeats 4000000 in
theorem c_10 (σ0 : SG) (hσ0 : WT σ0) (a : Int32) (b : Int32) : En 0 0 none mr_10 (P_10 σ0 a b) 0 [(0, .int a), (1, .int b)] [] σ0 := by
  have hF0 : Fr [] σ0 σ0 := Fr_rfl
  refine En_Ps 2 (pc' := 2) (lv' := [(0, .int a), (1, .int b)]) (st' := [.int b, .int a]) rfl ?_
  refine En_icLt _ rfl rfl rfl (fun h1 => ?_) (fun h1 => ?_)
  · refine En_Ps 1 (pc' := 10) (lv' := [(0, .int a), (1, .int b)]) (st' := [.int b]) rfl ?_
    exact En_ret (v := some (.int b)) rfl rfl rfl ⟨hσ0, hF0, b, rfl, ⟨by first | exact q_74322ff71d h1 | omega, by first | exact q_1bb76abeaf | omega, fun _ => by omega, fun _ => by omega⟩⟩
  · refine En_Ps 2 (pc' := 10) (lv' := [(0, .int a), (1, .int b)]) (st' := [.int a]) rfl ?_
    exact En_ret (v := some (.int a)) rfl rfl rfl ⟨hσ0, hF0, a, rfl, ⟨by first | exact q_1bb76abeaf | omega, by first | exact q_15b82e7ad8 h1 | omega, fun _ => by omega, fun _ => by omega⟩⟩
/-- java/lang/Math.min(II)I -/
abbrev P_11 (σ0 : SG) (a : Int32) (b : Int32) : PO := fun v σ => WT σ ∧ Fr [] σ0 σ ∧ ∃ ret : Int32, v = some (.int ret) ∧ -a.toInt + ret.toInt ≤ 0 ∧ -b.toInt + ret.toInt ≤ 0 ∧ (b.toInt - a.toInt ≤ 0 → -ret.toInt + b.toInt ≤ 0) ∧ (a.toInt - b.toInt ≤ 0 → -ret.toInt + a.toInt ≤ 0)
set_option maxRecDepth 10000 in
set_option maxHeartbeats 4000000 in
theorem c_11 (σ0 : SG) (hσ0 : WT σ0) (a : Int32) (b : Int32) : En 0 0 none mr_11 (P_11 σ0 a b) 0 [(0, .int a), (1, .int b)] [] σ0 := by
  have hF0 : Fr [] σ0 σ0 := Fr_rfl
  refine En_Ps 2 (pc' := 2) (lv' := [(0, .int a), (1, .int b)]) (st' := [.int b, .int a]) rfl ?_
  refine En_icGt _ rfl rfl rfl (fun h1 => ?_) (fun h1 => ?_)
  · refine En_Ps 1 (pc' := 10) (lv' := [(0, .int a), (1, .int b)]) (st' := [.int b]) rfl ?_
    exact En_ret (v := some (.int b)) rfl rfl rfl ⟨hσ0, hF0, b, rfl, ⟨by first | exact q_6f36bfba61 h1 | omega, by first | exact q_857069189f | omega, fun _ => by omega, fun _ => by omega⟩⟩
  · refine En_Ps 2 (pc' := 10) (lv' := [(0, .int a), (1, .int b)]) (st' := [.int a]) rfl ?_
    exact En_ret (v := some (.int a)) rfl rfl rfl ⟨hσ0, hF0, a, rfl, ⟨by first | exact q_857069189f | omega, by first | exact q_f39dd4c9c2 h1 | omega, fun _ => by omega, fun _ => by omega⟩⟩
/-- DoorSchool$Hanging.keepIfBetter(I)V -/
abbrev P_17 (σ0 : SG) (a : Int32) : PO := fun v σ => WT σ ∧ Fr [(10, 5), (13, 0)] σ0 σ ∧ v = none ∧ True
set_option maxRecDepth 10000 in
set_option maxHeartbeats 4000000 in
theorem c_17 (σ0 : SG) (hσ0 : WT σ0) (a : Int32) : En 1 60 none mr_17 (P_17 σ0 a) 0 [(0, .ref 10), (1, .int a)] [] σ0 := by
  have hF0 : Fr [(10, 5), (13, 0)] σ0 σ0 := Fr_rfl
  refine En_Ps 2 (pc' := 2) (lv' := [(0, .ref 10), (1, .int a)]) (st' := [.ref 10, .int a]) rfl ?_
  refine En_getI (j := 5) (l := (-2147483648)) (u := 2147483647) rfl rfl rfl tgz_10 (by decide +kernel) hσ0 (by decide +kernel) (fun z2 h1 h3 h4 => ?_)
  refine En_icGe _ rfl rfl rfl (fun h5 => ?_) (fun h5 => ?_)
  · exact En_ret (v := none) rfl rfl rfl ⟨hσ0, hF0, rfl, trivial⟩
  · refine En_Ps 2 (pc' := 10) (lv' := [(0, .ref 10), (1, .int a)]) (st' := [.int a, .ref 10]) rfl ?_
    refine En_put (j := 5) rfl rfl rfl tgz_10 (by decide +kernel) rfl (vF (by decide +kernel)) hσ0 hF0 (by decide +kernel) (fun σ6 h7 h8 h9 h10 => ?_)
    refine En_Ps 1 (pc' := 14) (lv' := [(0, .ref 10), (1, .int a)]) (st' := [.ref 10]) rfl ?_
    refine En_getU (j := 1) (u := 12) (g' := 12) (q := 0) rfl rfl rfl tgz_10 (by decide +kernel) h7 (by decide +kernel) (by decide +kernel) (fun h11 => ?_)
    refine En_Ps 2 (pc' := 19) (lv' := [(0, .ref 10), (1, .int a)]) (st' := [.ref 10, .int ((Int32.ofInt 0)), .ref 12]) rfl ?_
    refine En_getU (j := 2) (u := 13) (g' := 13) (q := 0) rfl rfl rfl tgz_10 (by decide +kernel) h7 (by decide +kernel) (by decide +kernel) (fun h13 => ?_)
    refine En_Ps 2 (pc' := 24) (lv' := [(0, .ref 10), (1, .int a)]) (st' := [.int ((Int32.ofInt 4)), .int ((Int32.ofInt 0)), .ref 13, .int ((Int32.ofInt 0)), .ref 12]) rfl ?_
    refine En_copy (n0 := 4) (n1 := 4) (by decide : (Int32.ofInt 4).toInt = 4) (by decide : (Int32.ofInt 0).toInt = 0) (by decide : (Int32.ofInt 0).toInt = 0) rfl rfl rfl rfl tgz_12 tgz_13 (by decide +kernel) (by decide +kernel) (by decide +kernel) (by decide +kernel) (by decide +kernel) (by omega) (by omega) (by omega) (by omega) (by omega) h7 h8 (by decide +kernel) (fun σ15 h16 h17 h18 => ?_)
    exact En_ret (v := none) rfl rfl rfl ⟨h16, h17, rfl, trivial⟩
/-- DoorSchool.bit(II)I -/
abbrev P_108 (σ0 : SG) (a : Int32) (b : Int32) : PO := fun v σ => WT σ ∧ Fr [] σ0 σ ∧ ∃ ret : Int32, v = some (.int ret) ∧ -ret.toInt ≤ 0 ∧ ret.toInt - 1 ≤ 0
set_option maxRecDepth 10000 in
set_option maxHeartbeats 4000000 in
theorem c_108 (σ0 : SG) (hσ0 : WT σ0) (a : Int32) (b : Int32) : En 0 0 none mr_108 (P_108 σ0 a b) 0 [(0, .int a), (1, .int b)] [] σ0 := by
  have hF0 : Fr [] σ0 σ0 := Fr_rfl
  refine En_Ps 3 (pc' := 3) (lv' := [(0, .int a), (1, .int b)]) (st' := [.int ((a >>> (b &&& 31)))]) rfl ?_
  refine En_hav (fun z1 => ?_)
  refine En_Ps 2 (pc' := 5) (lv' := [(0, .int a), (1, .int b)]) (st' := [.int ((z1 &&& ((Int32.ofInt 1))))]) rfl ?_
  refine En_rng (l := 0) (u := 1) (andR_rng (by decide : (Int32.ofInt 1).toInt = 1) (by decide)) (fun z2 h3 h4 => ?_)
  exact En_ret (v := some (.int z2)) rfl rfl rfl ⟨hσ0, hF0, z2, rfl, ⟨by first | exact q_c803b490ef h3 | omega, by first | exact q_a83e15e6ad h4 | omega⟩⟩
/-- DoorSchool$Hanging.hangFrom(LDoorSchool$Hanging;III)V -/
abbrev P_15a (σ0 : SG) (a : Int32) (b : Int32) (c : Int32) : PO := fun v σ => WT σ ∧ Fr [(10, 5), (13, 0)] σ0 σ ∧ v = none ∧ True
set_option maxRecDepth 10000 in
set_option maxHeartbeats 4000000 in
theorem c_15a (σ0 : SG) (hσ0 : WT σ0) (a : Int32) (b : Int32) (c : Int32) (hl_a : 4 ≤ a.toInt) (hu_a : a.toInt ≤ 4) : En 2 81 none mr_15 (P_15a σ0 a b c) 0 [(0, .ref 10), (1, .int a), (2, .int b), (3, .int c)] [] σ0 := by
  have hF0 : Fr [(10, 5), (13, 0)] σ0 σ0 := Fr_rfl
  refine En_Ps 2 (pc' := 2) (lv' := [(0, .ref 10), (1, .int a), (2, .int b), (3, .int c)]) (st' := [.ref 10, .int a]) rfl ?_
  refine En_getI (j := 4) (l := 0) (u := 4) rfl rfl rfl tgz_10 (by decide +kernel) hσ0 (by decide +kernel) (fun z2 h1 h3 h4 => ?_)
  refine En_icGe _ rfl rfl rfl (fun h5 => ?_) (fun hx => by first | exact (q_be7bb035e7 hl_a h4 hx).elim | (exfalso; omega))
  refine En_Ps 2 (pc' := 15) (lv' := [(0, .ref 10), (1, .int a), (2, .int b), (3, .int c)]) (st' := [.int c, .ref 10]) rfl ?_
  refine En_callV rfl rfl rfl rfl rfl rfl rfl rfl tgz_10 (by decide +kernel) rfl (c_17 σ0 hσ0 c) (by decide) (by decide) (fun v7 σ8 h6 => ?_)
  obtain ⟨h9, h10, rfl, h11⟩ := h6
  have h12 := Fr_trans hF0 h10 (by decide +kernel)
  exact En_ret (v := none) rfl rfl rfl ⟨h9, h12, rfl, trivial⟩
/-- DoorSchool$Hanging.hangFrom(LDoorSchool$Hanging;III)V -/
abbrev P_15b (σ0 : SG) (a : Int32) (b : Int32) (c : Int32) : PO := fun v σ => WT σ ∧ Fr [(10, 5), (12, 0), (13, 0)] σ0 σ ∧ v = none ∧ True
set_option maxRecDepth 10000 in
set_option maxHeartbeats 4000000 in
theorem c_15b (σ0 : SG) (hσ0 : WT σ0) (a : Int32) (b : Int32) (c : Int32) (hl_a : 3 ≤ a.toInt) (hu_a : a.toInt ≤ 4) : En 3 105 none mr_15 (P_15b σ0 a b c) 0 [(0, .ref 10), (1, .int a), (2, .int b), (3, .int c)] [] σ0 := by
  have hF0 : Fr [(10, 5), (12, 0), (13, 0)] σ0 σ0 := Fr_rfl
  refine En_Ps 2 (pc' := 2) (lv' := [(0, .ref 10), (1, .int a), (2, .int b), (3, .int c)]) (st' := [.ref 10, .int a]) rfl ?_
  refine En_getI (j := 4) (l := 0) (u := 4) rfl rfl rfl tgz_10 (by decide +kernel) hσ0 (by decide +kernel) (fun z2 h1 h3 h4 => ?_)
  refine En_icGe _ rfl rfl rfl (fun h5 => ?_) (fun h5 => ?_)
  · refine En_Ps 2 (pc' := 15) (lv' := [(0, .ref 10), (1, .int a), (2, .int b), (3, .int c)]) (st' := [.int c, .ref 10]) rfl ?_
    refine En_callV rfl rfl rfl rfl rfl rfl rfl rfl tgz_10 (by decide +kernel) rfl (c_17 σ0 hσ0 c) (by decide) (by decide) (fun v7 σ8 h6 => ?_)
    obtain ⟨h9, h10, rfl, h11⟩ := h6
    have h12 := Fr_trans hF0 h10 (by decide +kernel)
    exact En_ret (v := none) rfl rfl rfl ⟨h9, h12, rfl, trivial⟩
  · refine En_Ps 2 (pc' := 10) (lv' := [(0, .ref 10), (1, .int a), (2, .int b), (3, .int c)]) (st' := [.int ((Int32.ofInt 4)), .int a]) rfl ?_
    refine En_icLt _ rfl (by decide : (Int32.ofInt 4).toInt = 4) rfl (fun h13 => ?_) (fun hx => by first | exact (q_be7bb035e7 hx h4 h5).elim | (exfalso; omega))
    refine En_Ps 2 (pc' := 22) (lv' := [(4, .int ((Int32.ofInt 0))), (0, .ref 10), (1, .int a), (2, .int b), (3, .int c)]) (st' := []) rfl ?_
    have key22 : ∀ (n22 : Nat) (σ15 : SG) (y14 : Int32), WT σ15 → Fr [(10, 5), (12, 0), (13, 0)] σ0 σ15 → (σ15 10)[4]? = some (.int z2) → 0 ≤ y14.toInt → y14.toInt ≤ 4 → z2.toInt - y14.toInt < (n22 : Int) → En 3 105 none mr_15 (P_15b σ0 a b c) 22 [(0, .ref 10), (1, .int a), (2, .int b), (3, .int c), (4, .int y14)] [] σ15 := by
      intro n22
      induction n22 with
      | zero =>
        intro σ15 y14 h16 h17 h18 h19 h20 h21
        first | exact (q_010b8db2fc hl_a h5 h20 h21).elim | (exfalso; omega)
      | succ n22 ih22 =>
        intro σ15 y14 h16 h17 h18 h19 h20 h21
        refine En_Ps 2 (pc' := 25) (lv' := [(0, .ref 10), (1, .int a), (2, .int b), (3, .int c), (4, .int y14)]) (st' := [.ref 10, .int y14]) rfl ?_
        refine En_getI (j := 3) (l := 0) (u := 4) rfl rfl rfl tgz_10 (by decide +kernel) h16 (by decide +kernel) (fun z23 h22 h24 h25 => ?_)
        refine En_icGe _ rfl rfl rfl (fun h26 => ?_) (fun h26 => ?_)
        · exact En_ret (v := none) rfl rfl rfl ⟨h16, h17, rfl, trivial⟩
        · refine En_Ps 2 (pc' := 34) (lv' := [(0, .ref 10), (1, .int a), (2, .int b), (3, .int c), (4, .int y14)]) (st' := [.int y14, .int b]) rfl ?_
          refine En_callS rfl rfl rfl rfl rfl rfl rfl rfl rfl (c_108 σ15 h16 b y14) (by decide) (by decide) (fun v28 σ29 h27 => ?_)
          obtain ⟨h30, h31, z33, rfl, h32⟩ := h27
          have h34 := Fr_trans h17 h31 (by decide +kernel)
          refine En_iNe _ rfl rfl (fun h35 => ?_) (fun h35 => ?_)
          · refine En_Ps 1 (pc' := 77) (lv' := [(4, .int ((y14 + Int32.ofInt 1))), (0, .ref 10), (1, .int a), (2, .int b), (3, .int c)]) (st' := []) rfl ?_
            refine En_lv1 (addI rfl (by decide : (Int32.ofInt 1).toInt = 1) (by first | exact q_465ab79ac1 h19 | omega) (by first | exact q_f7282962fd h20 | omega)) (fun z36 h37 => ?_)
            refine En_Ps 1 (pc' := 22) (lv' := [(4, .int z36), (0, .ref 10), (1, .int a), (2, .int b), (3, .int c)]) (st' := []) rfl ?_
            refine En_lv (lv := [(0, .ref 10), (1, .int a), (2, .int b), (3, .int c), (4, .int z36)]) ⟨rfl, rfl, rfl, rfl, rfl, trivial⟩ ?_
            exact ih22 σ29 z36 h30 h34 ((h31 _ _ (inW tgz_10 (by decide +kernel))).trans h18) (by first | exact q_35104ce9d3 h37 h19 | omega) (by first | exact q_de42116b63 h37 h26 h25 | omega) (by first | exact q_8d03a5a7cb h37 h21 | omega)
          · refine En_Ps 1 (pc' := 41) (lv' := [(0, .ref 10), (1, .int a), (2, .int b), (3, .int c), (4, .int y14)]) (st' := [.ref 10]) rfl ?_
            refine En_getU (j := 1) (u := 12) (g' := 12) (q := 0) rfl rfl rfl tgz_10 (by decide +kernel) h30 (by decide +kernel) (by decide +kernel) (fun h38 => ?_)
            refine En_Ps 2 (pc' := 47) (lv' := [(0, .ref 10), (1, .int a), (2, .int b), (3, .int c), (4, .int y14)]) (st' := [.int y14, .int a, .ref 12]) rfl ?_
            refine En_iast (l := 0) (u := 3) rfl rfl tgz_12 (by decide +kernel) (by first | exact q_6da2027052 hl_a | omega) (lnI (by decide +kernel : LN _ = 4) (by first | exact q_074a8b422d h13 | omega)) (FTsgl (by decide +kernel)) (rngI rfl (by first | exact q_58e6e51dcc h19 | omega) (by first | exact q_5ab2e90ecc h26 h25 | omega)) h30 h34 (by decide +kernel) (fun σ40 h41 h42 h43 h44 => ?_)
            refine En_Ps 4 (pc' := 52) (lv' := [(0, .ref 10), (1, .int a), (2, .int b), (3, .int c), (4, .int y14)]) (st' := [.int ((a + ((Int32.ofInt 1)))), .ref 10]) rfl ?_
            refine En_top (addI rfl (by decide : (Int32.ofInt 1).toInt = 1) (by first | exact q_d115ba6b9f hl_a | omega) (by first | exact q_d8bf7f475a h13 | omega)) (fun z45 h46 => ?_)
            refine En_Ps 4 (pc' := 57) (lv' := [(0, .ref 10), (1, .int a), (2, .int b), (3, .int c), (4, .int y14)]) (st' := [.int ((((Int32.ofInt 1)) <<< (y14 &&& 31))), .int b, .int z45, .ref 10]) rfl ?_
            refine En_rng (shl1_p 3 rfl (by omega) (by omega) (by decide)) (fun z47 h48 h49 => ?_)
            refine En_Ps 1 (pc' := 58) (lv' := [(0, .ref 10), (1, .int a), (2, .int b), (3, .int c), (4, .int y14)]) (st' := [.int ((b ||| z47)), .int z45, .ref 10]) rfl ?_
            refine En_hav (fun z50 => ?_)
            refine En_Ps 2 (pc' := 60) (lv' := [(0, .ref 10), (1, .int a), (2, .int b), (3, .int c), (4, .int y14)]) (st' := [.ref 10, .int c, .int z50, .int z45, .ref 10]) rfl ?_
            refine En_getU (j := 0) (u := 11) (g' := 11) (q := 0) rfl rfl rfl tgz_10 (by decide +kernel) h41 (by decide +kernel) (by decide +kernel) (fun h51 => ?_)
            refine En_Ps 3 (pc' := 66) (lv' := [(0, .ref 10), (1, .int a), (2, .int b), (3, .int c), (4, .int y14)]) (st' := [.int ((a * ((Int32.ofInt 4)))), .ref 11, .int c, .int z50, .int z45, .ref 10]) rfl ?_
            refine En_top (mulI rfl (by decide : (Int32.ofInt 4).toInt = 4) (Z := 4 * a.toInt) (by first | exact q_37bd5d571c | omega) (by first | exact q_7399fec830 hl_a | omega) (by first | exact q_2f65254717 h13 | omega)) (fun z53 h54 => ?_)
            refine En_Ps 2 (pc' := 69) (lv' := [(0, .ref 10), (1, .int a), (2, .int b), (3, .int c), (4, .int y14)]) (st' := [.int ((z53 + y14)), .ref 11, .int c, .int z50, .int z45, .ref 10]) rfl ?_
            refine En_top (addI rfl rfl (by first | exact q_9c3be65b1d h19 h54 hl_a | omega) (by first | exact q_fae0873b70 h26 h54 h13 h25 | omega)) (fun z55 h56 => ?_)
            refine En_iald (l := (-2147483648)) (u := 2147483647) rfl rfl tgz_11 (by decide +kernel) h41 (by first | exact q_becf22fb84 h56 h19 h54 hl_a | omega) (lnI (by decide +kernel : LN _ = 16) (by first | exact q_7d9dd94cfa h56 h26 h54 h13 h25 | omega)) (FTsgl (by decide +kernel)) (fun z58 h57 h59 h60 => ?_)
            refine En_Ps 1 (pc' := 71) (lv' := [(0, .ref 10), (1, .int a), (2, .int b), (3, .int c), (4, .int y14)]) (st' := [.int ((c + z58)), .int z50, .int z45, .ref 10]) rfl ?_
            refine En_hav (fun z61 => ?_)
            refine En_callS rfl rfl rfl rfl rfl rfl rfl rfl rfl (c_15a σ40 h41 z45 z50 z61 (geI rfl (by first | exact q_aa5623a688 h46 hl_a | omega)) (leI rfl (by first | exact q_ddc5c16a68 h46 h13 | omega))) (by decide) (by decide) (fun v63 σ64 h62 => ?_)
            obtain ⟨h65, h66, rfl, h67⟩ := h62
            have h68 := Fr_trans h42 h66 (by decide +kernel)
            refine En_Ps 1 (pc' := 77) (lv' := [(4, .int ((y14 + Int32.ofInt 1))), (0, .ref 10), (1, .int a), (2, .int b), (3, .int c)]) (st' := []) rfl ?_
            refine En_lv1 (addI rfl (by decide : (Int32.ofInt 1).toInt = 1) (by first | exact q_465ab79ac1 h19 | omega) (by first | exact q_f7282962fd h20 | omega)) (fun z69 h70 => ?_)
            refine En_Ps 1 (pc' := 22) (lv' := [(4, .int z69), (0, .ref 10), (1, .int a), (2, .int b), (3, .int c)]) (st' := []) rfl ?_
            refine En_lv (lv := [(0, .ref 10), (1, .int a), (2, .int b), (3, .int c), (4, .int z69)]) ⟨rfl, rfl, rfl, rfl, rfl, trivial⟩ ?_
            exact ih22 σ64 z69 h65 h68 ((h66 _ _ (inW tgz_10 (by decide +kernel))).trans ((h44 _ _ (Or.inl (neTG tgz_10 tgz_12 (by decide)))).trans ((h31 _ _ (inW tgz_10 (by decide +kernel))).trans h18))) (by first | exact q_35104ce9d3 h70 h19 | omega) (by first | exact q_de42116b63 h70 h26 h25 | omega) (by first | exact q_8d03a5a7cb h70 h21 | omega)
    have := (by decide : (Int32.ofInt 0).toInt = 0)
    refine En_lv (lv := [(0, .ref 10), (1, .int a), (2, .int b), (3, .int c), (4, .int ((Int32.ofInt 0)))]) ⟨rfl, rfl, rfl, rfl, rfl, trivial⟩ ?_
    exact key22 (Int.toNat (z2.toInt) + 1) σ0 ((Int32.ofInt 0)) hσ0 hF0 h1 (by decide) (by decide) (by first | exact toN_lt _ | omega)
/-- DoorSchool$Hanging.hangFrom(LDoorSchool$Hanging;III)V -/
abbrev P_15c (σ0 : SG) (a : Int32) (b : Int32) (c : Int32) : PO := fun v σ => WT σ ∧ Fr [(10, 5), (12, 0), (13, 0)] σ0 σ ∧ v = none ∧ True
set_option maxRecDepth 10000 in
set_option maxHeartbeats 4000000 in
theorem c_15c (σ0 : SG) (hσ0 : WT σ0) (a : Int32) (b : Int32) (c : Int32) (hl_a : 2 ≤ a.toInt) (hu_a : a.toInt ≤ 4) : En 4 129 none mr_15 (P_15c σ0 a b c) 0 [(0, .ref 10), (1, .int a), (2, .int b), (3, .int c)] [] σ0 := by
  have hF0 : Fr [(10, 5), (12, 0), (13, 0)] σ0 σ0 := Fr_rfl
  refine En_Ps 2 (pc' := 2) (lv' := [(0, .ref 10), (1, .int a), (2, .int b), (3, .int c)]) (st' := [.ref 10, .int a]) rfl ?_
  refine En_getI (j := 4) (l := 0) (u := 4) rfl rfl rfl tgz_10 (by decide +kernel) hσ0 (by decide +kernel) (fun z2 h1 h3 h4 => ?_)
  refine En_icGe _ rfl rfl rfl (fun h5 => ?_) (fun h5 => ?_)
  · refine En_Ps 2 (pc' := 15) (lv' := [(0, .ref 10), (1, .int a), (2, .int b), (3, .int c)]) (st' := [.int c, .ref 10]) rfl ?_
    refine En_callV rfl rfl rfl rfl rfl rfl rfl rfl tgz_10 (by decide +kernel) rfl (c_17 σ0 hσ0 c) (by decide) (by decide) (fun v7 σ8 h6 => ?_)
    obtain ⟨h9, h10, rfl, h11⟩ := h6
    have h12 := Fr_trans hF0 h10 (by decide +kernel)
    exact En_ret (v := none) rfl rfl rfl ⟨h9, h12, rfl, trivial⟩
  · refine En_Ps 2 (pc' := 10) (lv' := [(0, .ref 10), (1, .int a), (2, .int b), (3, .int c)]) (st' := [.int ((Int32.ofInt 4)), .int a]) rfl ?_
    refine En_icLt _ rfl (by decide : (Int32.ofInt 4).toInt = 4) rfl (fun h13 => ?_) (fun hx => by first | exact (q_be7bb035e7 hx h4 h5).elim | (exfalso; omega))
    refine En_Ps 2 (pc' := 22) (lv' := [(4, .int ((Int32.ofInt 0))), (0, .ref 10), (1, .int a), (2, .int b), (3, .int c)]) (st' := []) rfl ?_
    have key22 : ∀ (n22 : Nat) (σ15 : SG) (y14 : Int32), WT σ15 → Fr [(10, 5), (12, 0), (13, 0)] σ0 σ15 → (σ15 10)[4]? = some (.int z2) → 0 ≤ y14.toInt → y14.toInt ≤ 4 → -y14.toInt + 4 < (n22 : Int) → En 4 129 none mr_15 (P_15c σ0 a b c) 22 [(0, .ref 10), (1, .int a), (2, .int b), (3, .int c), (4, .int y14)] [] σ15 := by
      intro n22
      induction n22 with
      | zero =>
        intro σ15 y14 h16 h17 h18 h19 h20 h21
        first | exact (q_20d6385c6f h21 h20).elim | (exfalso; omega)
      | succ n22 ih22 =>
        intro σ15 y14 h16 h17 h18 h19 h20 h21
        refine En_Ps 2 (pc' := 25) (lv' := [(0, .ref 10), (1, .int a), (2, .int b), (3, .int c), (4, .int y14)]) (st' := [.ref 10, .int y14]) rfl ?_
        refine En_getI (j := 3) (l := 0) (u := 4) rfl rfl rfl tgz_10 (by decide +kernel) h16 (by decide +kernel) (fun z23 h22 h24 h25 => ?_)
        refine En_icGe _ rfl rfl rfl (fun h26 => ?_) (fun h26 => ?_)
        · exact En_ret (v := none) rfl rfl rfl ⟨h16, h17, rfl, trivial⟩
        · refine En_Ps 2 (pc' := 34) (lv' := [(0, .ref 10), (1, .int a), (2, .int b), (3, .int c), (4, .int y14)]) (st' := [.int y14, .int b]) rfl ?_
          refine En_callS rfl rfl rfl rfl rfl rfl rfl rfl rfl (c_108 σ15 h16 b y14) (by decide) (by decide) (fun v28 σ29 h27 => ?_)
          obtain ⟨h30, h31, z33, rfl, h32⟩ := h27
          have h34 := Fr_trans h17 h31 (by decide +kernel)
          refine En_iNe _ rfl rfl (fun h35 => ?_) (fun h35 => ?_)
          · refine En_Ps 1 (pc' := 77) (lv' := [(4, .int ((y14 + Int32.ofInt 1))), (0, .ref 10), (1, .int a), (2, .int b), (3, .int c)]) (st' := []) rfl ?_
            refine En_lv1 (addI rfl (by decide : (Int32.ofInt 1).toInt = 1) (by first | exact q_465ab79ac1 h19 | omega) (by first | exact q_f7282962fd h20 | omega)) (fun z36 h37 => ?_)
            refine En_Ps 1 (pc' := 22) (lv' := [(4, .int z36), (0, .ref 10), (1, .int a), (2, .int b), (3, .int c)]) (st' := []) rfl ?_
            refine En_lv (lv := [(0, .ref 10), (1, .int a), (2, .int b), (3, .int c), (4, .int z36)]) ⟨rfl, rfl, rfl, rfl, rfl, trivial⟩ ?_
            exact ih22 σ29 z36 h30 h34 ((h31 _ _ (inW tgz_10 (by decide +kernel))).trans h18) (by first | exact q_35104ce9d3 h37 h19 | omega) (by first | exact q_de42116b63 h37 h26 h25 | omega) (by first | exact q_3d8d70ace2 h37 h21 | omega)
          · refine En_Ps 1 (pc' := 41) (lv' := [(0, .ref 10), (1, .int a), (2, .int b), (3, .int c), (4, .int y14)]) (st' := [.ref 10]) rfl ?_
            refine En_getU (j := 1) (u := 12) (g' := 12) (q := 0) rfl rfl rfl tgz_10 (by decide +kernel) h30 (by decide +kernel) (by decide +kernel) (fun h38 => ?_)
            refine En_Ps 2 (pc' := 47) (lv' := [(0, .ref 10), (1, .int a), (2, .int b), (3, .int c), (4, .int y14)]) (st' := [.int y14, .int a, .ref 12]) rfl ?_
            refine En_iast (l := 0) (u := 3) rfl rfl tgz_12 (by decide +kernel) (by first | exact q_1cd795acf6 hl_a | omega) (lnI (by decide +kernel : LN _ = 4) (by first | exact q_074a8b422d h13 | omega)) (FTsgl (by decide +kernel)) (rngI rfl (by first | exact q_58e6e51dcc h19 | omega) (by first | exact q_5ab2e90ecc h26 h25 | omega)) h30 h34 (by decide +kernel) (fun σ40 h41 h42 h43 h44 => ?_)
            refine En_Ps 4 (pc' := 52) (lv' := [(0, .ref 10), (1, .int a), (2, .int b), (3, .int c), (4, .int y14)]) (st' := [.int ((a + ((Int32.ofInt 1)))), .ref 10]) rfl ?_
            refine En_top (addI rfl (by decide : (Int32.ofInt 1).toInt = 1) (by first | exact q_b7dadf652e hl_a | omega) (by first | exact q_d8bf7f475a h13 | omega)) (fun z45 h46 => ?_)
            refine En_Ps 4 (pc' := 57) (lv' := [(0, .ref 10), (1, .int a), (2, .int b), (3, .int c), (4, .int y14)]) (st' := [.int ((((Int32.ofInt 1)) <<< (y14 &&& 31))), .int b, .int z45, .ref 10]) rfl ?_
            refine En_rng (shl1_p 3 rfl (by omega) (by omega) (by decide)) (fun z47 h48 h49 => ?_)
            refine En_Ps 1 (pc' := 58) (lv' := [(0, .ref 10), (1, .int a), (2, .int b), (3, .int c), (4, .int y14)]) (st' := [.int ((b ||| z47)), .int z45, .ref 10]) rfl ?_
            refine En_hav (fun z50 => ?_)
            refine En_Ps 2 (pc' := 60) (lv' := [(0, .ref 10), (1, .int a), (2, .int b), (3, .int c), (4, .int y14)]) (st' := [.ref 10, .int c, .int z50, .int z45, .ref 10]) rfl ?_
            refine En_getU (j := 0) (u := 11) (g' := 11) (q := 0) rfl rfl rfl tgz_10 (by decide +kernel) h41 (by decide +kernel) (by decide +kernel) (fun h51 => ?_)
            refine En_Ps 3 (pc' := 66) (lv' := [(0, .ref 10), (1, .int a), (2, .int b), (3, .int c), (4, .int y14)]) (st' := [.int ((a * ((Int32.ofInt 4)))), .ref 11, .int c, .int z50, .int z45, .ref 10]) rfl ?_
            refine En_top (mulI rfl (by decide : (Int32.ofInt 4).toInt = 4) (Z := 4 * a.toInt) (by first | exact q_37bd5d571c | omega) (by first | exact q_ff18b78017 hl_a | omega) (by first | exact q_2f65254717 h13 | omega)) (fun z53 h54 => ?_)
            refine En_Ps 2 (pc' := 69) (lv' := [(0, .ref 10), (1, .int a), (2, .int b), (3, .int c), (4, .int y14)]) (st' := [.int ((z53 + y14)), .ref 11, .int c, .int z50, .int z45, .ref 10]) rfl ?_
            refine En_top (addI rfl rfl (by first | exact q_5caeb10db2 h19 h54 hl_a | omega) (by first | exact q_fae0873b70 h26 h54 h13 h25 | omega)) (fun z55 h56 => ?_)
            refine En_iald (l := (-2147483648)) (u := 2147483647) rfl rfl tgz_11 (by decide +kernel) h41 (by first | exact q_06d21eb787 h56 h19 h54 hl_a | omega) (lnI (by decide +kernel : LN _ = 16) (by first | exact q_7d9dd94cfa h56 h26 h54 h13 h25 | omega)) (FTsgl (by decide +kernel)) (fun z58 h57 h59 h60 => ?_)
            refine En_Ps 1 (pc' := 71) (lv' := [(0, .ref 10), (1, .int a), (2, .int b), (3, .int c), (4, .int y14)]) (st' := [.int ((c + z58)), .int z50, .int z45, .ref 10]) rfl ?_
            refine En_hav (fun z61 => ?_)
            refine En_callS rfl rfl rfl rfl rfl rfl rfl rfl rfl (c_15b σ40 h41 z45 z50 z61 (geI rfl (by first | exact q_ee554783ee h46 hl_a | omega)) (leI rfl (by first | exact q_ddc5c16a68 h46 h13 | omega))) (by decide) (by decide) (fun v63 σ64 h62 => ?_)
            obtain ⟨h65, h66, rfl, h67⟩ := h62
            have h68 := Fr_trans h42 h66 (by decide +kernel)
            refine En_Ps 1 (pc' := 77) (lv' := [(4, .int ((y14 + Int32.ofInt 1))), (0, .ref 10), (1, .int a), (2, .int b), (3, .int c)]) (st' := []) rfl ?_
            refine En_lv1 (addI rfl (by decide : (Int32.ofInt 1).toInt = 1) (by first | exact q_465ab79ac1 h19 | omega) (by first | exact q_f7282962fd h20 | omega)) (fun z69 h70 => ?_)
            refine En_Ps 1 (pc' := 22) (lv' := [(4, .int z69), (0, .ref 10), (1, .int a), (2, .int b), (3, .int c)]) (st' := []) rfl ?_
            refine En_lv (lv := [(0, .ref 10), (1, .int a), (2, .int b), (3, .int c), (4, .int z69)]) ⟨rfl, rfl, rfl, rfl, rfl, trivial⟩ ?_
            exact ih22 σ64 z69 h65 h68 ((h66 _ _ (inW tgz_10 (by decide +kernel))).trans ((h44 _ _ (Or.inl (neTG tgz_10 tgz_12 (by decide)))).trans ((h31 _ _ (inW tgz_10 (by decide +kernel))).trans h18))) (by first | exact q_35104ce9d3 h70 h19 | omega) (by first | exact q_de42116b63 h70 h26 h25 | omega) (by first | exact q_3d8d70ace2 h70 h21 | omega)
    have := (by decide : (Int32.ofInt 0).toInt = 0)
    refine En_lv (lv := [(0, .ref 10), (1, .int a), (2, .int b), (3, .int c), (4, .int ((Int32.ofInt 0)))]) ⟨rfl, rfl, rfl, rfl, rfl, trivial⟩ ?_
    exact key22 (Int.toNat (4) + 1) σ0 ((Int32.ofInt 0)) hσ0 hF0 h1 (by decide) (by decide) (by first | exact toN_lt _ | omega)
/-- DoorSchool$Hanging.hangFrom(LDoorSchool$Hanging;III)V -/
abbrev P_15d (σ0 : SG) (a : Int32) (b : Int32) (c : Int32) : PO := fun v σ => WT σ ∧ Fr [(10, 5), (12, 0), (13, 0)] σ0 σ ∧ v = none ∧ True
set_option maxRecDepth 10000 in
set_option maxHeartbeats 4000000 in
theorem c_15d (σ0 : SG) (hσ0 : WT σ0) (a : Int32) (b : Int32) (c : Int32) (hl_a : 1 ≤ a.toInt) (hu_a : a.toInt ≤ 4) : En 5 153 none mr_15 (P_15d σ0 a b c) 0 [(0, .ref 10), (1, .int a), (2, .int b), (3, .int c)] [] σ0 := by
  have hF0 : Fr [(10, 5), (12, 0), (13, 0)] σ0 σ0 := Fr_rfl
  refine En_Ps 2 (pc' := 2) (lv' := [(0, .ref 10), (1, .int a), (2, .int b), (3, .int c)]) (st' := [.ref 10, .int a]) rfl ?_
  refine En_getI (j := 4) (l := 0) (u := 4) rfl rfl rfl tgz_10 (by decide +kernel) hσ0 (by decide +kernel) (fun z2 h1 h3 h4 => ?_)
  refine En_icGe _ rfl rfl rfl (fun h5 => ?_) (fun h5 => ?_)
  · refine En_Ps 2 (pc' := 15) (lv' := [(0, .ref 10), (1, .int a), (2, .int b), (3, .int c)]) (st' := [.int c, .ref 10]) rfl ?_
    refine En_callV rfl rfl rfl rfl rfl rfl rfl rfl tgz_10 (by decide +kernel) rfl (c_17 σ0 hσ0 c) (by decide) (by decide) (fun v7 σ8 h6 => ?_)
    obtain ⟨h9, h10, rfl, h11⟩ := h6
    have h12 := Fr_trans hF0 h10 (by decide +kernel)
    exact En_ret (v := none) rfl rfl rfl ⟨h9, h12, rfl, trivial⟩
  · refine En_Ps 2 (pc' := 10) (lv' := [(0, .ref 10), (1, .int a), (2, .int b), (3, .int c)]) (st' := [.int ((Int32.ofInt 4)), .int a]) rfl ?_
    refine En_icLt _ rfl (by decide : (Int32.ofInt 4).toInt = 4) rfl (fun h13 => ?_) (fun hx => by first | exact (q_be7bb035e7 hx h4 h5).elim | (exfalso; omega))
    refine En_Ps 2 (pc' := 22) (lv' := [(4, .int ((Int32.ofInt 0))), (0, .ref 10), (1, .int a), (2, .int b), (3, .int c)]) (st' := []) rfl ?_
    have key22 : ∀ (n22 : Nat) (σ15 : SG) (y14 : Int32), WT σ15 → Fr [(10, 5), (12, 0), (13, 0)] σ0 σ15 → (σ15 10)[4]? = some (.int z2) → 0 ≤ y14.toInt → y14.toInt ≤ 4 → -y14.toInt + 4 < (n22 : Int) → En 5 153 none mr_15 (P_15d σ0 a b c) 22 [(0, .ref 10), (1, .int a), (2, .int b), (3, .int c), (4, .int y14)] [] σ15 := by
      intro n22
      induction n22 with
      | zero =>
        intro σ15 y14 h16 h17 h18 h19 h20 h21
        first | exact (q_20d6385c6f h21 h20).elim | (exfalso; omega)
      | succ n22 ih22 =>
        intro σ15 y14 h16 h17 h18 h19 h20 h21
        refine En_Ps 2 (pc' := 25) (lv' := [(0, .ref 10), (1, .int a), (2, .int b), (3, .int c), (4, .int y14)]) (st' := [.ref 10, .int y14]) rfl ?_
        refine En_getI (j := 3) (l := 0) (u := 4) rfl rfl rfl tgz_10 (by decide +kernel) h16 (by decide +kernel) (fun z23 h22 h24 h25 => ?_)
        refine En_icGe _ rfl rfl rfl (fun h26 => ?_) (fun h26 => ?_)
        · exact En_ret (v := none) rfl rfl rfl ⟨h16, h17, rfl, trivial⟩
        · refine En_Ps 2 (pc' := 34) (lv' := [(0, .ref 10), (1, .int a), (2, .int b), (3, .int c), (4, .int y14)]) (st' := [.int y14, .int b]) rfl ?_
          refine En_callS rfl rfl rfl rfl rfl rfl rfl rfl rfl (c_108 σ15 h16 b y14) (by decide) (by decide) (fun v28 σ29 h27 => ?_)
          obtain ⟨h30, h31, z33, rfl, h32⟩ := h27
          have h34 := Fr_trans h17 h31 (by decide +kernel)
          refine En_iNe _ rfl rfl (fun h35 => ?_) (fun h35 => ?_)
          · refine En_Ps 1 (pc' := 77) (lv' := [(4, .int ((y14 + Int32.ofInt 1))), (0, .ref 10), (1, .int a), (2, .int b), (3, .int c)]) (st' := []) rfl ?_
            refine En_lv1 (addI rfl (by decide : (Int32.ofInt 1).toInt = 1) (by first | exact q_465ab79ac1 h19 | omega) (by first | exact q_f7282962fd h20 | omega)) (fun z36 h37 => ?_)
            refine En_Ps 1 (pc' := 22) (lv' := [(4, .int z36), (0, .ref 10), (1, .int a), (2, .int b), (3, .int c)]) (st' := []) rfl ?_
            refine En_lv (lv := [(0, .ref 10), (1, .int a), (2, .int b), (3, .int c), (4, .int z36)]) ⟨rfl, rfl, rfl, rfl, rfl, trivial⟩ ?_
            exact ih22 σ29 z36 h30 h34 ((h31 _ _ (inW tgz_10 (by decide +kernel))).trans h18) (by first | exact q_35104ce9d3 h37 h19 | omega) (by first | exact q_de42116b63 h37 h26 h25 | omega) (by first | exact q_3d8d70ace2 h37 h21 | omega)
          · refine En_Ps 1 (pc' := 41) (lv' := [(0, .ref 10), (1, .int a), (2, .int b), (3, .int c), (4, .int y14)]) (st' := [.ref 10]) rfl ?_
            refine En_getU (j := 1) (u := 12) (g' := 12) (q := 0) rfl rfl rfl tgz_10 (by decide +kernel) h30 (by decide +kernel) (by decide +kernel) (fun h38 => ?_)
            refine En_Ps 2 (pc' := 47) (lv' := [(0, .ref 10), (1, .int a), (2, .int b), (3, .int c), (4, .int y14)]) (st' := [.int y14, .int a, .ref 12]) rfl ?_
            refine En_iast (l := 0) (u := 3) rfl rfl tgz_12 (by decide +kernel) (by first | exact q_337a85e294 hl_a | omega) (lnI (by decide +kernel : LN _ = 4) (by first | exact q_074a8b422d h13 | omega)) (FTsgl (by decide +kernel)) (rngI rfl (by first | exact q_58e6e51dcc h19 | omega) (by first | exact q_5ab2e90ecc h26 h25 | omega)) h30 h34 (by decide +kernel) (fun σ40 h41 h42 h43 h44 => ?_)
            refine En_Ps 4 (pc' := 52) (lv' := [(0, .ref 10), (1, .int a), (2, .int b), (3, .int c), (4, .int y14)]) (st' := [.int ((a + ((Int32.ofInt 1)))), .ref 10]) rfl ?_
            refine En_top (addI rfl (by decide : (Int32.ofInt 1).toInt = 1) (by first | exact q_e6d8d315b7 hl_a | omega) (by first | exact q_d8bf7f475a h13 | omega)) (fun z45 h46 => ?_)
            refine En_Ps 4 (pc' := 57) (lv' := [(0, .ref 10), (1, .int a), (2, .int b), (3, .int c), (4, .int y14)]) (st' := [.int ((((Int32.ofInt 1)) <<< (y14 &&& 31))), .int b, .int z45, .ref 10]) rfl ?_
            refine En_rng (shl1_p 3 rfl (by omega) (by omega) (by decide)) (fun z47 h48 h49 => ?_)
            refine En_Ps 1 (pc' := 58) (lv' := [(0, .ref 10), (1, .int a), (2, .int b), (3, .int c), (4, .int y14)]) (st' := [.int ((b ||| z47)), .int z45, .ref 10]) rfl ?_
            refine En_hav (fun z50 => ?_)
            refine En_Ps 2 (pc' := 60) (lv' := [(0, .ref 10), (1, .int a), (2, .int b), (3, .int c), (4, .int y14)]) (st' := [.ref 10, .int c, .int z50, .int z45, .ref 10]) rfl ?_
            refine En_getU (j := 0) (u := 11) (g' := 11) (q := 0) rfl rfl rfl tgz_10 (by decide +kernel) h41 (by decide +kernel) (by decide +kernel) (fun h51 => ?_)
            refine En_Ps 3 (pc' := 66) (lv' := [(0, .ref 10), (1, .int a), (2, .int b), (3, .int c), (4, .int y14)]) (st' := [.int ((a * ((Int32.ofInt 4)))), .ref 11, .int c, .int z50, .int z45, .ref 10]) rfl ?_
            refine En_top (mulI rfl (by decide : (Int32.ofInt 4).toInt = 4) (Z := 4 * a.toInt) (by first | exact q_37bd5d571c | omega) (by first | exact q_e5ff8c33b5 hl_a | omega) (by first | exact q_2f65254717 h13 | omega)) (fun z53 h54 => ?_)
            refine En_Ps 2 (pc' := 69) (lv' := [(0, .ref 10), (1, .int a), (2, .int b), (3, .int c), (4, .int y14)]) (st' := [.int ((z53 + y14)), .ref 11, .int c, .int z50, .int z45, .ref 10]) rfl ?_
            refine En_top (addI rfl rfl (by first | exact q_33b0912b18 h19 h54 hl_a | omega) (by first | exact q_fae0873b70 h26 h54 h13 h25 | omega)) (fun z55 h56 => ?_)
            refine En_iald (l := (-2147483648)) (u := 2147483647) rfl rfl tgz_11 (by decide +kernel) h41 (by first | exact q_af485880f1 h56 h19 h54 hl_a | omega) (lnI (by decide +kernel : LN _ = 16) (by first | exact q_7d9dd94cfa h56 h26 h54 h13 h25 | omega)) (FTsgl (by decide +kernel)) (fun z58 h57 h59 h60 => ?_)
            refine En_Ps 1 (pc' := 71) (lv' := [(0, .ref 10), (1, .int a), (2, .int b), (3, .int c), (4, .int y14)]) (st' := [.int ((c + z58)), .int z50, .int z45, .ref 10]) rfl ?_
            refine En_hav (fun z61 => ?_)
            refine En_callS rfl rfl rfl rfl rfl rfl rfl rfl rfl (c_15c σ40 h41 z45 z50 z61 (geI rfl (by first | exact q_06a5bb0b7c h46 hl_a | omega)) (leI rfl (by first | exact q_ddc5c16a68 h46 h13 | omega))) (by decide) (by decide) (fun v63 σ64 h62 => ?_)
            obtain ⟨h65, h66, rfl, h67⟩ := h62
            have h68 := Fr_trans h42 h66 (by decide +kernel)
            refine En_Ps 1 (pc' := 77) (lv' := [(4, .int ((y14 + Int32.ofInt 1))), (0, .ref 10), (1, .int a), (2, .int b), (3, .int c)]) (st' := []) rfl ?_
            refine En_lv1 (addI rfl (by decide : (Int32.ofInt 1).toInt = 1) (by first | exact q_465ab79ac1 h19 | omega) (by first | exact q_f7282962fd h20 | omega)) (fun z69 h70 => ?_)
            refine En_Ps 1 (pc' := 22) (lv' := [(4, .int z69), (0, .ref 10), (1, .int a), (2, .int b), (3, .int c)]) (st' := []) rfl ?_
            refine En_lv (lv := [(0, .ref 10), (1, .int a), (2, .int b), (3, .int c), (4, .int z69)]) ⟨rfl, rfl, rfl, rfl, rfl, trivial⟩ ?_
            exact ih22 σ64 z69 h65 h68 ((h66 _ _ (inW tgz_10 (by decide +kernel))).trans ((h44 _ _ (Or.inl (neTG tgz_10 tgz_12 (by decide)))).trans ((h31 _ _ (inW tgz_10 (by decide +kernel))).trans h18))) (by first | exact q_35104ce9d3 h70 h19 | omega) (by first | exact q_de42116b63 h70 h26 h25 | omega) (by first | exact q_3d8d70ace2 h70 h21 | omega)
    have := (by decide : (Int32.ofInt 0).toInt = 0)
    refine En_lv (lv := [(0, .ref 10), (1, .int a), (2, .int b), (3, .int c), (4, .int ((Int32.ofInt 0)))]) ⟨rfl, rfl, rfl, rfl, rfl, trivial⟩ ?_
    exact key22 (Int.toNat (4) + 1) σ0 ((Int32.ofInt 0)) hσ0 hF0 h1 (by decide) (by decide) (by first | exact toN_lt _ | omega)
/-- DoorSchool$Hanging.hangFrom(LDoorSchool$Hanging;III)V -/
abbrev P_15e (σ0 : SG) (a : Int32) (b : Int32) (c : Int32) : PO := fun v σ => WT σ ∧ Fr [(10, 5), (12, 0), (13, 0)] σ0 σ ∧ v = none ∧ True
set_option maxRecDepth 10000 in
set_option maxHeartbeats 4000000 in
theorem c_15e (σ0 : SG) (hσ0 : WT σ0) (a : Int32) (b : Int32) (c : Int32) (hl_a : 0 ≤ a.toInt) (hu_a : a.toInt ≤ 4) : En 6 177 none mr_15 (P_15e σ0 a b c) 0 [(0, .ref 10), (1, .int a), (2, .int b), (3, .int c)] [] σ0 := by
  have hF0 : Fr [(10, 5), (12, 0), (13, 0)] σ0 σ0 := Fr_rfl
  refine En_Ps 2 (pc' := 2) (lv' := [(0, .ref 10), (1, .int a), (2, .int b), (3, .int c)]) (st' := [.ref 10, .int a]) rfl ?_
  refine En_getI (j := 4) (l := 0) (u := 4) rfl rfl rfl tgz_10 (by decide +kernel) hσ0 (by decide +kernel) (fun z2 h1 h3 h4 => ?_)
  refine En_icGe _ rfl rfl rfl (fun h5 => ?_) (fun h5 => ?_)
  · refine En_Ps 2 (pc' := 15) (lv' := [(0, .ref 10), (1, .int a), (2, .int b), (3, .int c)]) (st' := [.int c, .ref 10]) rfl ?_
    refine En_callV rfl rfl rfl rfl rfl rfl rfl rfl tgz_10 (by decide +kernel) rfl (c_17 σ0 hσ0 c) (by decide) (by decide) (fun v7 σ8 h6 => ?_)
    obtain ⟨h9, h10, rfl, h11⟩ := h6
    have h12 := Fr_trans hF0 h10 (by decide +kernel)
    exact En_ret (v := none) rfl rfl rfl ⟨h9, h12, rfl, trivial⟩
  · refine En_Ps 2 (pc' := 10) (lv' := [(0, .ref 10), (1, .int a), (2, .int b), (3, .int c)]) (st' := [.int ((Int32.ofInt 4)), .int a]) rfl ?_
    refine En_icLt _ rfl (by decide : (Int32.ofInt 4).toInt = 4) rfl (fun h13 => ?_) (fun hx => by first | exact (q_be7bb035e7 hx h4 h5).elim | (exfalso; omega))
    refine En_Ps 2 (pc' := 22) (lv' := [(4, .int ((Int32.ofInt 0))), (0, .ref 10), (1, .int a), (2, .int b), (3, .int c)]) (st' := []) rfl ?_
    have key22 : ∀ (n22 : Nat) (σ15 : SG) (y14 : Int32), WT σ15 → Fr [(10, 5), (12, 0), (13, 0)] σ0 σ15 → (σ15 10)[4]? = some (.int z2) → 0 ≤ y14.toInt → y14.toInt ≤ 4 → -y14.toInt + 4 < (n22 : Int) → En 6 177 none mr_15 (P_15e σ0 a b c) 22 [(0, .ref 10), (1, .int a), (2, .int b), (3, .int c), (4, .int y14)] [] σ15 := by
      intro n22
      induction n22 with
      | zero =>
        intro σ15 y14 h16 h17 h18 h19 h20 h21
        first | exact (q_20d6385c6f h21 h20).elim | (exfalso; omega)
      | succ n22 ih22 =>
        intro σ15 y14 h16 h17 h18 h19 h20 h21
        refine En_Ps 2 (pc' := 25) (lv' := [(0, .ref 10), (1, .int a), (2, .int b), (3, .int c), (4, .int y14)]) (st' := [.ref 10, .int y14]) rfl ?_
        refine En_getI (j := 3) (l := 0) (u := 4) rfl rfl rfl tgz_10 (by decide +kernel) h16 (by decide +kernel) (fun z23 h22 h24 h25 => ?_)
        refine En_icGe _ rfl rfl rfl (fun h26 => ?_) (fun h26 => ?_)
        · exact En_ret (v := none) rfl rfl rfl ⟨h16, h17, rfl, trivial⟩
        · refine En_Ps 2 (pc' := 34) (lv' := [(0, .ref 10), (1, .int a), (2, .int b), (3, .int c), (4, .int y14)]) (st' := [.int y14, .int b]) rfl ?_
          refine En_callS rfl rfl rfl rfl rfl rfl rfl rfl rfl (c_108 σ15 h16 b y14) (by decide) (by decide) (fun v28 σ29 h27 => ?_)
          obtain ⟨h30, h31, z33, rfl, h32⟩ := h27
          have h34 := Fr_trans h17 h31 (by decide +kernel)
          refine En_iNe _ rfl rfl (fun h35 => ?_) (fun h35 => ?_)
          · refine En_Ps 1 (pc' := 77) (lv' := [(4, .int ((y14 + Int32.ofInt 1))), (0, .ref 10), (1, .int a), (2, .int b), (3, .int c)]) (st' := []) rfl ?_
            refine En_lv1 (addI rfl (by decide : (Int32.ofInt 1).toInt = 1) (by first | exact q_465ab79ac1 h19 | omega) (by first | exact q_f7282962fd h20 | omega)) (fun z36 h37 => ?_)
            refine En_Ps 1 (pc' := 22) (lv' := [(4, .int z36), (0, .ref 10), (1, .int a), (2, .int b), (3, .int c)]) (st' := []) rfl ?_
            refine En_lv (lv := [(0, .ref 10), (1, .int a), (2, .int b), (3, .int c), (4, .int z36)]) ⟨rfl, rfl, rfl, rfl, rfl, trivial⟩ ?_
            exact ih22 σ29 z36 h30 h34 ((h31 _ _ (inW tgz_10 (by decide +kernel))).trans h18) (by first | exact q_35104ce9d3 h37 h19 | omega) (by first | exact q_de42116b63 h37 h26 h25 | omega) (by first | exact q_3d8d70ace2 h37 h21 | omega)
          · refine En_Ps 1 (pc' := 41) (lv' := [(0, .ref 10), (1, .int a), (2, .int b), (3, .int c), (4, .int y14)]) (st' := [.ref 10]) rfl ?_
            refine En_getU (j := 1) (u := 12) (g' := 12) (q := 0) rfl rfl rfl tgz_10 (by decide +kernel) h30 (by decide +kernel) (by decide +kernel) (fun h38 => ?_)
            refine En_Ps 2 (pc' := 47) (lv' := [(0, .ref 10), (1, .int a), (2, .int b), (3, .int c), (4, .int y14)]) (st' := [.int y14, .int a, .ref 12]) rfl ?_
            refine En_iast (l := 0) (u := 3) rfl rfl tgz_12 (by decide +kernel) (by first | exact q_58e6e51dcc hl_a | omega) (lnI (by decide +kernel : LN _ = 4) (by first | exact q_074a8b422d h13 | omega)) (FTsgl (by decide +kernel)) (rngI rfl (by first | exact q_58e6e51dcc h19 | omega) (by first | exact q_5ab2e90ecc h26 h25 | omega)) h30 h34 (by decide +kernel) (fun σ40 h41 h42 h43 h44 => ?_)
            refine En_Ps 4 (pc' := 52) (lv' := [(0, .ref 10), (1, .int a), (2, .int b), (3, .int c), (4, .int y14)]) (st' := [.int ((a + ((Int32.ofInt 1)))), .ref 10]) rfl ?_
            refine En_top (addI rfl (by decide : (Int32.ofInt 1).toInt = 1) (by first | exact q_465ab79ac1 hl_a | omega) (by first | exact q_d8bf7f475a h13 | omega)) (fun z45 h46 => ?_)
            refine En_Ps 4 (pc' := 57) (lv' := [(0, .ref 10), (1, .int a), (2, .int b), (3, .int c), (4, .int y14)]) (st' := [.int ((((Int32.ofInt 1)) <<< (y14 &&& 31))), .int b, .int z45, .ref 10]) rfl ?_
            refine En_rng (shl1_p 3 rfl (by omega) (by omega) (by decide)) (fun z47 h48 h49 => ?_)
            refine En_Ps 1 (pc' := 58) (lv' := [(0, .ref 10), (1, .int a), (2, .int b), (3, .int c), (4, .int y14)]) (st' := [.int ((b ||| z47)), .int z45, .ref 10]) rfl ?_
            refine En_hav (fun z50 => ?_)
            refine En_Ps 2 (pc' := 60) (lv' := [(0, .ref 10), (1, .int a), (2, .int b), (3, .int c), (4, .int y14)]) (st' := [.ref 10, .int c, .int z50, .int z45, .ref 10]) rfl ?_
            refine En_getU (j := 0) (u := 11) (g' := 11) (q := 0) rfl rfl rfl tgz_10 (by decide +kernel) h41 (by decide +kernel) (by decide +kernel) (fun h51 => ?_)
            refine En_Ps 3 (pc' := 66) (lv' := [(0, .ref 10), (1, .int a), (2, .int b), (3, .int c), (4, .int y14)]) (st' := [.int ((a * ((Int32.ofInt 4)))), .ref 11, .int c, .int z50, .int z45, .ref 10]) rfl ?_
            refine En_top (mulI rfl (by decide : (Int32.ofInt 4).toInt = 4) (Z := 4 * a.toInt) (by first | exact q_37bd5d571c | omega) (by first | exact q_be45967ac2 hl_a | omega) (by first | exact q_2f65254717 h13 | omega)) (fun z53 h54 => ?_)
            refine En_Ps 2 (pc' := 69) (lv' := [(0, .ref 10), (1, .int a), (2, .int b), (3, .int c), (4, .int y14)]) (st' := [.int ((z53 + y14)), .ref 11, .int c, .int z50, .int z45, .ref 10]) rfl ?_
            refine En_top (addI rfl rfl (by first | exact q_1dc55d4c5f h19 h54 hl_a | omega) (by first | exact q_fae0873b70 h26 h54 h13 h25 | omega)) (fun z55 h56 => ?_)
            refine En_iald (l := (-2147483648)) (u := 2147483647) rfl rfl tgz_11 (by decide +kernel) h41 (by first | exact q_5eeacb4bec h56 h19 h54 hl_a | omega) (lnI (by decide +kernel : LN _ = 16) (by first | exact q_7d9dd94cfa h56 h26 h54 h13 h25 | omega)) (FTsgl (by decide +kernel)) (fun z58 h57 h59 h60 => ?_)
            refine En_Ps 1 (pc' := 71) (lv' := [(0, .ref 10), (1, .int a), (2, .int b), (3, .int c), (4, .int y14)]) (st' := [.int ((c + z58)), .int z50, .int z45, .ref 10]) rfl ?_
            refine En_hav (fun z61 => ?_)
            refine En_callS rfl rfl rfl rfl rfl rfl rfl rfl rfl (c_15d σ40 h41 z45 z50 z61 (geI rfl (by first | exact q_246139cee3 h46 hl_a | omega)) (leI rfl (by first | exact q_ddc5c16a68 h46 h13 | omega))) (by decide) (by decide) (fun v63 σ64 h62 => ?_)
            obtain ⟨h65, h66, rfl, h67⟩ := h62
            have h68 := Fr_trans h42 h66 (by decide +kernel)
            refine En_Ps 1 (pc' := 77) (lv' := [(4, .int ((y14 + Int32.ofInt 1))), (0, .ref 10), (1, .int a), (2, .int b), (3, .int c)]) (st' := []) rfl ?_
            refine En_lv1 (addI rfl (by decide : (Int32.ofInt 1).toInt = 1) (by first | exact q_465ab79ac1 h19 | omega) (by first | exact q_f7282962fd h20 | omega)) (fun z69 h70 => ?_)
            refine En_Ps 1 (pc' := 22) (lv' := [(4, .int z69), (0, .ref 10), (1, .int a), (2, .int b), (3, .int c)]) (st' := []) rfl ?_
            refine En_lv (lv := [(0, .ref 10), (1, .int a), (2, .int b), (3, .int c), (4, .int z69)]) ⟨rfl, rfl, rfl, rfl, rfl, trivial⟩ ?_
            exact ih22 σ64 z69 h65 h68 ((h66 _ _ (inW tgz_10 (by decide +kernel))).trans ((h44 _ _ (Or.inl (neTG tgz_10 tgz_12 (by decide)))).trans ((h31 _ _ (inW tgz_10 (by decide +kernel))).trans h18))) (by first | exact q_35104ce9d3 h70 h19 | omega) (by first | exact q_de42116b63 h70 h26 h25 | omega) (by first | exact q_3d8d70ace2 h70 h21 | omega)
    have := (by decide : (Int32.ofInt 0).toInt = 0)
    refine En_lv (lv := [(0, .ref 10), (1, .int a), (2, .int b), (3, .int c), (4, .int ((Int32.ofInt 0)))]) ⟨rfl, rfl, rfl, rfl, rfl, trivial⟩ ?_
    exact key22 (Int.toNat (4) + 1) σ0 ((Int32.ofInt 0)) hσ0 hF0 h1 (by decide) (by decide) (by first | exact toN_lt _ | omega)
/-- DoorSchool$Hanging.search(II)V -/
abbrev P_18 (σ0 : SG) (a : Int32) (b : Int32) : PO := fun v σ => WT σ ∧ Fr [(10, 3), (10, 4), (10, 5), (12, 0), (13, 0)] σ0 σ ∧ v = none ∧ True
set_option maxRecDepth 10000 in
set_option maxHeartbeats 4000000 in
theorem c_18 (σ0 : SG) (hσ0 : WT σ0) (a : Int32) (b : Int32) (hl_a : 0 ≤ a.toInt) (hu_a : a.toInt ≤ 4) (hl_b : 0 ≤ b.toInt) (hu_b : b.toInt ≤ 4) : En 7 201 none mr_18 (P_18 σ0 a b) 0 [(0, .ref 10), (1, .int a), (2, .int b)] [] σ0 := by
  have hF0 : Fr [(10, 3), (10, 4), (10, 5), (12, 0), (13, 0)] σ0 σ0 := Fr_rfl
  refine En_Ps 2 (pc' := 2) (lv' := [(0, .ref 10), (1, .int a), (2, .int b)]) (st' := [.int a, .ref 10]) rfl ?_
  refine En_put (j := 3) rfl rfl rfl tgz_10 (by decide +kernel) rfl (vI (l := 0) (u := 4) (by decide +kernel) rfl (by first | exact q_58e6e51dcc hl_a | omega) (by first | exact q_c82ed93a8c hu_a | omega)) hσ0 hF0 (by decide +kernel) (fun σ1 h2 h3 h4 h5 => ?_)
  refine En_Ps 2 (pc' := 7) (lv' := [(0, .ref 10), (1, .int a), (2, .int b)]) (st' := [.int b, .ref 10]) rfl ?_
  refine En_put (j := 4) rfl rfl rfl tgz_10 (by decide +kernel) rfl (vI (l := 0) (u := 4) (by decide +kernel) rfl (by first | exact q_58e6e51dcc hl_b | omega) (by first | exact q_c82ed93a8c hu_b | omega)) h2 h3 (by decide +kernel) (fun σ6 h7 h8 h9 h10 => ?_)
  refine En_Ps 2 (pc' := 13) (lv' := [(0, .ref 10), (1, .int a), (2, .int b)]) (st' := [.int (((Int8.ofInt 65).toInt32)), .ref 10]) rfl ?_
  refine En_put (j := 5) rfl rfl rfl tgz_10 (by decide +kernel) rfl (vF (by decide +kernel)) h7 h8 (by decide +kernel) (fun σ11 h12 h13 h14 h15 => ?_)
  refine En_Ps 4 (pc' := 20) (lv' := [(0, .ref 10), (1, .int a), (2, .int b)]) (st' := [.int ((Int32.ofInt 0)), .int ((Int32.ofInt 0)), .int ((Int32.ofInt 0)), .ref 10]) rfl ?_
  have := (by decide : ((Int32.ofInt 0)).toInt = 0)
  have := (by decide : ((Int32.ofInt 0)).toInt = 0)
  have := (by decide : ((Int32.ofInt 0)).toInt = 0)
  refine En_callS rfl rfl rfl rfl rfl rfl rfl rfl rfl (c_15e σ11 h12 ((Int32.ofInt 0)) ((Int32.ofInt 0)) ((Int32.ofInt 0)) (geI (by decide : (Int32.ofInt 0).toInt = 0) (by decide)) (leI (by decide : (Int32.ofInt 0).toInt = 0) (by decide))) (by decide) (by decide) (fun v17 σ18 h16 => ?_)
  obtain ⟨h19, h20, rfl, h21⟩ := h16
  have h22 := Fr_trans h13 h20 (by decide +kernel)
  exact En_ret (v := none) rfl rfl rfl ⟨h19, h22, rfl, trivial⟩
/-- DoorSchool$Learner.allKnocks()I -/
abbrev P_19 (σ0 : SG) : PO := fun v σ => WT σ ∧ Fr [] σ0 σ ∧ ∃ ret : Int32, v = some (.int ret) ∧ -ret.toInt ≤ 0 ∧ ret.toInt - 65535 ≤ 0
set_option maxRecDepth 10000 in
set_option maxHeartbeats 4000000 in
theorem c_19 (σ0 : SG) (hσ0 : WT σ0) : En 0 0 none mr_19 (P_19 σ0) 0 [(0, .ref 8)] [] σ0 := by
  have hF0 : Fr [] σ0 σ0 := Fr_rfl
  refine En_Ps 2 (pc' := 2) (lv' := [(0, .ref 8)]) (st' := [.ref 8, .int ((Int32.ofInt 1))]) rfl ?_
  refine En_getU (j := 0) (u := 4) (g' := 4) (q := 0) rfl rfl rfl tgz_8 (by decide +kernel) hσ0 (by decide +kernel) (by decide +kernel) (fun h1 => ?_)
  refine En_getI (j := 0) (l := 0) (u := 16) rfl rfl rfl tgz_4 (by decide +kernel) hσ0 (by decide +kernel) (fun z4 h3 h5 h6 => ?_)
  refine En_Ps 1 (pc' := 9) (lv' := [(0, .ref 8)]) (st' := [.int ((((Int32.ofInt 1)) <<< (z4 &&& 31)))]) rfl ?_
  refine En_rng (shl1_p 16 rfl (by omega) (by omega) (by decide)) (fun z7 h8 h9 => ?_)
  refine En_Ps 2 (pc' := 11) (lv' := [(0, .ref 8)]) (st' := [.int ((z7 - ((Int32.ofInt 1))))]) rfl ?_
  refine En_top (subI rfl (by decide : (Int32.ofInt 1).toInt = 1) (by first | exact q_96dadfce4b h8 | omega) (by first | exact q_8661d4233b h9 | omega)) (fun z10 h11 => ?_)
  exact En_ret (v := some (.int z10)) rfl rfl rfl ⟨hσ0, hF0, z10, rfl, ⟨by first | exact q_a36023f969 h11 h8 | omega, by first | exact q_3bae1d5aac h11 h9 | omega⟩⟩
/-- DoorSchool.agree(III)Z -/
abbrev P_100 (σ0 : SG) (a : Int32) (b : Int32) (c : Int32) : PO := fun v σ => WT σ ∧ Fr [] σ0 σ ∧ ∃ ret : Int32, v = some (.int ret) ∧ -ret.toInt ≤ 0 ∧ ret.toInt - 1 ≤ 0
set_option maxRecDepth 10000 in
set_option maxHeartbeats 4000000 in
theorem c_100 (σ0 : SG) (hσ0 : WT σ0) (a : Int32) (b : Int32) (c : Int32) : En 0 0 none mr_100 (P_100 σ0 a b c) 0 [(0, .int a), (1, .int b), (2, .int c)] [] σ0 := by
  have hF0 : Fr [] σ0 σ0 := Fr_rfl
  refine En_Ps 4 (pc' := 4) (lv' := [(0, .int a), (1, .int b), (2, .int c)]) (st' := [.int ((a ^^^ ((Int32.ofInt (-1))))), .int b]) rfl ?_
  refine En_nam (fun z1 h2 => ?_)
  refine En_Ps 1 (pc' := 5) (lv' := [(0, .int a), (1, .int b), (2, .int c)]) (st' := [.int ((b &&& z1))]) rfl ?_
  refine En_nam (fun z3 h4 => ?_)
  refine En_iNe _ rfl rfl (fun h5 => ?_) (fun h5 => ?_)
  · refine En_Ps 1 (pc' := 19) (lv' := [(0, .int a), (1, .int b), (2, .int c)]) (st' := [.int ((Int32.ofInt 0))]) rfl ?_
    refine En_top (by decide : (Int32.ofInt 0).toInt = 0) (fun z6 h7 => ?_)
    exact En_ret (v := some (.int z6)) rfl rfl (retZ rfl rfl (by first | exact q_55451d0a83 h7 | omega) (by first | exact q_87849c3859 h7 | omega)) ⟨hσ0, hF0, z6, rfl, ⟨by first | exact q_097a37c2ae h7 | omega, by first | exact q_e269517bee h7 | omega⟩⟩
  · refine En_Ps 3 (pc' := 11) (lv' := [(0, .int a), (1, .int b), (2, .int c)]) (st' := [.int ((c &&& a))]) rfl ?_
    refine En_hav (fun z8 => ?_)
    refine En_iNe _ rfl rfl (fun h9 => ?_) (fun h9 => ?_)
    · refine En_Ps 1 (pc' := 19) (lv' := [(0, .int a), (1, .int b), (2, .int c)]) (st' := [.int ((Int32.ofInt 0))]) rfl ?_
      refine En_top (by decide : (Int32.ofInt 0).toInt = 0) (fun z10 h11 => ?_)
      exact En_ret (v := some (.int z10)) rfl rfl (retZ rfl rfl (by first | exact q_55451d0a83 h11 | omega) (by first | exact q_87849c3859 h11 | omega)) ⟨hσ0, hF0, z10, rfl, ⟨by first | exact q_097a37c2ae h11 | omega, by first | exact q_e269517bee h11 | omega⟩⟩
    · refine En_Ps 2 (pc' := 19) (lv' := [(0, .int a), (1, .int b), (2, .int c)]) (st' := [.int ((Int32.ofInt 1))]) rfl ?_
      refine En_top (by decide : (Int32.ofInt 1).toInt = 1) (fun z12 h13 => ?_)
      exact En_ret (v := some (.int z12)) rfl rfl (retZ rfl rfl (by first | exact q_2b07c97645 h13 | omega) (by first | exact q_d9e7cbb253 h13 | omega)) ⟨hσ0, hF0, z12, rfl, ⟨by first | exact q_ad3eee31ca h13 | omega, by first | exact q_81cf297dc4 h13 | omega⟩⟩
/-- DoorSchool$Rules.first(II)I -/
abbrev P_78 (σ0 : SG) (a : Int32) (b : Int32) : PO := fun v σ => WT σ ∧ Fr [] σ0 σ ∧ ∃ ret : Int32, v = some (.int ret) ∧ -ret.toInt - 1 ≤ 0 ∧ ret.toInt - 80 ≤ 0
set_option maxRecDepth 10000 in
set_option maxHeartbeats 4000000 in
theorem c_78 (σ0 : SG) (hσ0 : WT σ0) (a : Int32) (b : Int32) : En 1 22 none mr_78 (P_78 σ0 a b) 0 [(0, .ref 4), (1, .int a), (2, .int b)] [] σ0 := by
  have hF0 : Fr [] σ0 σ0 := Fr_rfl
  refine En_Ps 2 (pc' := 2) (lv' := [(3, .int ((Int32.ofInt 0))), (0, .ref 4), (1, .int a), (2, .int b)]) (st' := []) rfl ?_
  have key2 : ∀ (n2 : Nat) (σ2 : SG) (y1 : Int32), WT σ2 → Fr [] σ0 σ2 → 0 ≤ y1.toInt → y1.toInt ≤ 81 → -y1.toInt + 81 < (n2 : Int) → En 1 22 none mr_78 (P_78 σ0 a b) 2 [(0, .ref 4), (1, .int a), (2, .int b), (3, .int y1)] [] σ2 := by
    intro n2
    induction n2 with
    | zero =>
      intro σ2 y1 h3 h4 h5 h6 h7
      first | exact (q_ffef14d449 h7 h6).elim | (exfalso; omega)
    | succ n2 ih2 =>
      intro σ2 y1 h3 h4 h5 h6 h7
      refine En_Ps 2 (pc' := 4) (lv' := [(0, .ref 4), (1, .int a), (2, .int b), (3, .int y1)]) (st' := [.ref 4, .int y1]) rfl ?_
      refine En_getI (j := 1) (l := 0) (u := 81) rfl rfl rfl tgz_4 (by decide +kernel) h3 (by decide +kernel) (fun z9 h8 h10 h11 => ?_)
      refine En_icGe _ rfl rfl rfl (fun h12 => ?_) (fun h12 => ?_)
      · refine En_Ps 1 (pc' := 33) (lv' := [(0, .ref 4), (1, .int a), (2, .int b), (3, .int y1)]) (st' := [.int ((Int32.ofInt (-1)))]) rfl ?_
        refine En_top (by decide : (Int32.ofInt (-1)).toInt = -1) (fun z13 h14 => ?_)
        exact En_ret (v := some (.int z13)) rfl rfl rfl ⟨h3, h4, z13, rfl, ⟨by first | exact q_6ba54b61e9 h14 | omega, by first | exact q_ed1bd306dd h14 | omega⟩⟩
      · refine En_Ps 1 (pc' := 11) (lv' := [(0, .ref 4), (1, .int a), (2, .int b), (3, .int y1)]) (st' := [.ref 4]) rfl ?_
        refine En_getU (j := 4) (u := 7) (g' := 7) (q := 0) rfl rfl rfl tgz_4 (by decide +kernel) h3 (by decide +kernel) (by decide +kernel) (fun h15 => ?_)
        refine En_Ps 1 (pc' := 15) (lv' := [(0, .ref 4), (1, .int a), (2, .int b), (3, .int y1)]) (st' := [.int y1, .ref 7]) rfl ?_
        refine En_iald (l := (-2147483648)) (u := 2147483647) rfl rfl tgz_7 (by decide +kernel) h3 (by first | exact q_58e6e51dcc h5 | omega) (lnI (by decide +kernel : LN _ = 81) (by first | exact q_a0e855914a h12 h11 | omega)) (FTsgl (by decide +kernel)) (fun z18 h17 h19 h20 => ?_)
        refine En_Ps 2 (pc' := 18) (lv' := [(0, .ref 4), (1, .int a), (2, .int b), (3, .int y1)]) (st' := [.int b, .int a, .int z18]) rfl ?_
        refine En_callS rfl rfl rfl rfl rfl rfl rfl rfl rfl (c_100 σ2 h3 z18 a b) (by decide) (by decide) (fun v22 σ23 h21 => ?_)
        obtain ⟨h24, h25, z27, rfl, h26⟩ := h21
        have h28 := Fr_trans h4 h25 (by decide +kernel)
        refine En_iEq _ rfl rfl (fun h29 => ?_) (fun h29 => ?_)
        · refine En_Ps 1 (pc' := 29) (lv' := [(3, .int ((y1 + Int32.ofInt 1))), (0, .ref 4), (1, .int a), (2, .int b)]) (st' := []) rfl ?_
          refine En_lv1 (addI rfl (by decide : (Int32.ofInt 1).toInt = 1) (by first | exact q_465ab79ac1 h5 | omega) (by first | exact q_d778ff18c8 h6 | omega)) (fun z30 h31 => ?_)
          refine En_Ps 1 (pc' := 2) (lv' := [(3, .int z30), (0, .ref 4), (1, .int a), (2, .int b)]) (st' := []) rfl ?_
          refine En_lv (lv := [(0, .ref 4), (1, .int a), (2, .int b), (3, .int z30)]) ⟨rfl, rfl, rfl, rfl, trivial⟩ ?_
          exact ih2 σ23 z30 h24 h28 (by first | exact q_35104ce9d3 h31 h5 | omega) (by first | exact q_798b104d48 h31 h12 h11 | omega) (by first | exact q_4ff790945b h31 h7 | omega)
        · refine En_Ps 1 (pc' := 25) (lv' := [(0, .ref 4), (1, .int a), (2, .int b), (3, .int y1)]) (st' := [.int y1]) rfl ?_
          exact En_ret (v := some (.int y1)) rfl rfl rfl ⟨h24, h28, y1, rfl, ⟨by first | exact q_565e7b05df h5 | omega, by first | exact q_6b56ae27a7 h12 h11 | omega⟩⟩
  have := (by decide : (Int32.ofInt 0).toInt = 0)
  refine En_lv (lv := [(0, .ref 4), (1, .int a), (2, .int b), (3, .int ((Int32.ofInt 0)))]) ⟨rfl, rfl, rfl, rfl, trivial⟩ ?_
  exact key2 (Int.toNat (81) + 1) σ0 ((Int32.ofInt 0)) hσ0 hF0 (by decide) (by decide) (by first | exact toN_lt _ | omega)
/-- DoorSchool$Learner.nearestOf(II)I -/
abbrev P_26 (σ0 : SG) (a : Int32) (b : Int32) : PO := fun v σ => WT σ ∧ Fr [] σ0 σ ∧ ∃ ret : Int32, v = some (.int ret) ∧ True
set_option maxRecDepth 10000 in
set_option maxHeartbeats 4000000 in
theorem c_26 (σ0 : SG) (hσ0 : WT σ0) (a : Int32) (b : Int32) (hl_b : 0 ≤ b.toInt) (hu_b : b.toInt ≤ 15) : En 0 0 none mr_26 (P_26 σ0 a b) 0 [(0, .ref 8), (1, .int a), (2, .int b)] [] σ0 := by
  have hF0 : Fr [] σ0 σ0 := Fr_rfl
  refine En_Ps 2 (pc' := 2) (lv' := [(3, .int ((Int32.ofInt 0))), (0, .ref 8), (1, .int a), (2, .int b)]) (st' := []) rfl ?_
  have key2 : ∀ (n2 : Nat) (σ2 : SG) (y1 : Int32), WT σ2 → Fr [] σ0 σ2 → 0 ≤ y1.toInt → y1.toInt ≤ 5 → -y1.toInt + 5 < (n2 : Int) → En 0 0 none mr_26 (P_26 σ0 a b) 2 [(0, .ref 8), (1, .int a), (2, .int b), (3, .int y1)] [] σ2 := by
    intro n2
    induction n2 with
    | zero =>
      intro σ2 y1 h3 h4 h5 h6 h7
      first | exact (q_94ef5d5129 h7 h6).elim | (exfalso; omega)
    | succ n2 ih2 =>
      intro σ2 y1 h3 h4 h5 h6 h7
      refine En_Ps 2 (pc' := 4) (lv' := [(0, .ref 8), (1, .int a), (2, .int b), (3, .int y1)]) (st' := [.int ((Int32.ofInt 5)), .int y1]) rfl ?_
      refine En_icGe _ rfl (by decide : (Int32.ofInt 5).toInt = 5) rfl (fun h8 => ?_) (fun h8 => ?_)
      · refine En_Ps 1 (pc' := 40) (lv' := [(0, .ref 8), (1, .int a), (2, .int b), (3, .int y1)]) (st' := [.int ((Int32.ofInt 0))]) rfl ?_
        refine En_top (by decide : (Int32.ofInt 0).toInt = 0) (fun z9 h10 => ?_)
        exact En_ret (v := some (.int z9)) rfl rfl rfl ⟨h3, h4, z9, rfl, trivial⟩
      · refine En_Ps 2 (pc' := 9) (lv' := [(0, .ref 8), (1, .int a), (2, .int b), (3, .int y1)]) (st' := [.ref 8, .int a]) rfl ?_
        refine En_getU (j := 1) (u := 9) (g' := 9) (q := 0) rfl rfl rfl tgz_8 (by decide +kernel) h3 (by decide +kernel) (by decide +kernel) (fun h11 => ?_)
        refine En_Ps 3 (pc' := 15) (lv' := [(0, .ref 8), (1, .int a), (2, .int b), (3, .int y1)]) (st' := [.int ((b * ((Int32.ofInt 5)))), .ref 9, .int a]) rfl ?_
        refine En_top (mulI rfl (by decide : (Int32.ofInt 5).toInt = 5) (Z := 5 * b.toInt) (by first | exact q_361874dae7 | omega) (by first | exact q_c9e2f3c4aa hl_b | omega) (by first | exact q_082e7e3e85 hu_b | omega)) (fun z13 h14 => ?_)
        refine En_Ps 2 (pc' := 17) (lv' := [(0, .ref 8), (1, .int a), (2, .int b), (3, .int y1)]) (st' := [.int ((z13 + y1)), .ref 9, .int a]) rfl ?_
        refine En_top (addI rfl rfl (by first | exact q_89b509762f h5 h14 hl_b | omega) (by first | exact q_a819299aea h8 h14 hu_b | omega)) (fun z15 h16 => ?_)
        refine En_iald (l := (-2147483648)) (u := 2147483647) rfl rfl tgz_9 (by decide +kernel) h3 (by first | exact q_570e2d6fd6 h16 h5 h14 hl_b | omega) (lnI (by decide +kernel : LN _ = 80) (by first | exact q_06c6e7265f h16 h8 h14 hu_b | omega)) (FTsgl (by decide +kernel)) (fun z18 h17 h19 h20 => ?_)
        refine En_Ps 1 (pc' := 19) (lv' := [(0, .ref 8), (1, .int a), (2, .int b), (3, .int y1)]) (st' := [.int ((a &&& z18))]) rfl ?_
        refine En_hav (fun z21 => ?_)
        refine En_Ps 2 (pc' := 23) (lv' := [(4, .int z21), (0, .ref 8), (1, .int a), (2, .int b), (3, .int y1)]) (st' := [.int z21]) rfl ?_
        refine En_iEq _ rfl rfl (fun h22 => ?_) (fun h22 => ?_)
        · refine En_Ps 1 (pc' := 36) (lv' := [(3, .int ((y1 + Int32.ofInt 1))), (4, .int z21), (0, .ref 8), (1, .int a), (2, .int b)]) (st' := []) rfl ?_
          refine En_lv1 (addI rfl (by decide : (Int32.ofInt 1).toInt = 1) (by first | exact q_465ab79ac1 h5 | omega) (by first | exact q_829a0b1079 h8 | omega)) (fun z23 h24 => ?_)
          refine En_Ps 1 (pc' := 2) (lv' := [(3, .int z23), (4, .int z21), (0, .ref 8), (1, .int a), (2, .int b)]) (st' := []) rfl ?_
          refine En_lv (lv := [(0, .ref 8), (1, .int a), (2, .int b), (3, .int z23)]) ⟨rfl, rfl, rfl, rfl, trivial⟩ ?_
          exact ih2 σ2 z23 h3 h4 (by first | exact q_35104ce9d3 h24 h5 | omega) (by first | exact q_8f49ecd163 h24 h8 | omega) (by first | exact q_4f8c136792 h24 h7 | omega)
        · refine En_Ps 3 (pc' := 31) (lv' := [(4, .int z21), (0, .ref 8), (1, .int a), (2, .int b), (3, .int y1)]) (st' := [.int ((-z21)), .int z21]) rfl ?_
          refine En_hav (fun z25 => ?_)
          refine En_Ps 1 (pc' := 32) (lv' := [(4, .int z21), (0, .ref 8), (1, .int a), (2, .int b), (3, .int y1)]) (st' := [.int ((z21 &&& z25))]) rfl ?_
          refine En_hav (fun z26 => ?_)
          exact En_ret (v := some (.int z26)) rfl rfl rfl ⟨h3, h4, z26, rfl, trivial⟩
  have := (by decide : (Int32.ofInt 0).toInt = 0)
  refine En_lv (lv := [(0, .ref 8), (1, .int a), (2, .int b), (3, .int ((Int32.ofInt 0)))]) ⟨rfl, rfl, rfl, rfl, trivial⟩ ?_
  exact key2 (Int.toNat (5) + 1) σ0 ((Int32.ofInt 0)) hσ0 hF0 (by decide) (by decide) (by first | exact toN_lt _ | omega)
/-- DoorSchool$Learner.learnSet(III)I -/
abbrev P_23 (σ0 : SG) (a : Int32) (b : Int32) (c : Int32) : PO := fun v σ => WT σ ∧ Fr [] σ0 σ ∧ ∃ ret : Int32, v = some (.int ret) ∧ True
set_option maxRecDepth 10000 in
set_option maxHeartbeats 4000000 in
theorem c_23 (σ0 : SG) (hσ0 : WT σ0) (a : Int32) (b : Int32) (c : Int32) : En 2 45 none mr_23 (P_23 σ0 a b c) 0 [(0, .ref 8), (1, .int a), (2, .int b), (3, .int c)] [] σ0 := by
  have hF0 : Fr [] σ0 σ0 := Fr_rfl
  refine En_Ps 1 (pc' := 1) (lv' := [(0, .ref 8), (1, .int a), (2, .int b), (3, .int c)]) (st' := [.int a]) rfl ?_
  refine En_iNe _ rfl rfl (fun h1 => ?_) (fun h1 => ?_)
  · refine En_Ps 2 (pc' := 10) (lv' := [(0, .ref 8), (1, .int a), (2, .int b), (3, .int c)]) (st' := [.int ((Int32.ofInt 1)), .int a]) rfl ?_
    refine En_icNe _ rfl (by decide : (Int32.ofInt 1).toInt = 1) rfl (fun h2 => ?_) (fun h2 => ?_)
    · refine En_Ps 4 (pc' := 57) (lv' := [(5, .int ((Int32.ofInt 0))), (4, .int ((Int32.ofInt 0))), (0, .ref 8), (1, .int a), (2, .int b), (3, .int c)]) (st' := []) rfl ?_
      have key57 : ∀ (n57 : Nat) (σ5 : SG) (y3 : Int32) (y4 : Int32), WT σ5 → Fr [] σ0 σ5 → 0 ≤ y3.toInt → y3.toInt ≤ 65535 → 0 ≤ y4.toInt → y4.toInt ≤ 16 → -y4.toInt + 16 < (n57 : Int) → En 2 45 none mr_23 (P_23 σ0 a b c) 57 [(0, .ref 8), (1, .int a), (2, .int b), (3, .int c), (4, .int y3), (5, .int y4)] [] σ5 := by
        intro n57
        induction n57 with
        | zero =>
          intro σ5 y3 y4 h6 h7 h8 h9 h10 h11 h12
          first | exact (q_511f6d33ac h12 h11).elim | (exfalso; omega)
        | succ n57 ih57 =>
          intro σ5 y3 y4 h6 h7 h8 h9 h10 h11 h12
          refine En_Ps 2 (pc' := 60) (lv' := [(0, .ref 8), (1, .int a), (2, .int b), (3, .int c), (4, .int y3), (5, .int y4)]) (st' := [.ref 8, .int y4]) rfl ?_
          refine En_getU (j := 0) (u := 4) (g' := 4) (q := 0) rfl rfl rfl tgz_8 (by decide +kernel) h6 (by decide +kernel) (by decide +kernel) (fun h13 => ?_)
          refine En_getI (j := 0) (l := 0) (u := 16) rfl rfl rfl tgz_4 (by decide +kernel) h6 (by decide +kernel) (fun z16 h15 h17 h18 => ?_)
          refine En_icGe _ rfl rfl rfl (fun h19 => ?_) (fun h19 => ?_)
          · refine En_Ps 1 (pc' := 98) (lv' := [(0, .ref 8), (1, .int a), (2, .int b), (3, .int c), (4, .int y3), (5, .int y4)]) (st' := [.int y3]) rfl ?_
            exact En_ret (v := some (.int y3)) rfl rfl rfl ⟨h6, h7, y3, rfl, trivial⟩
          · refine En_Ps 3 (pc' := 73) (lv' := [(0, .ref 8), (1, .int a), (2, .int b), (3, .int c), (4, .int y3), (5, .int y4)]) (st' := [.int y4, .int b, .ref 8]) rfl ?_
            refine En_callV rfl rfl rfl rfl rfl rfl rfl rfl tgz_8 (by decide +kernel) rfl (c_26 σ5 h6 b y4 (geI rfl (by first | exact q_58e6e51dcc h10 | omega)) (leI rfl (by first | exact q_3f0e495169 h19 h18 | omega))) (by decide) (by decide) (fun v21 σ22 h20 => ?_)
            obtain ⟨h23, h24, z26, rfl, h25⟩ := h20
            have h27 := Fr_trans h7 h24 (by decide +kernel)
            refine En_Ps 2 (pc' := 78) (lv' := [(0, .ref 8), (1, .int a), (2, .int b), (3, .int c), (4, .int y3), (5, .int y4)]) (st' := [.int ((z26 &&& c))]) rfl ?_
            refine En_hav (fun z28 => ?_)
            refine En_iEq _ rfl rfl (fun h29 => ?_) (fun h29 => ?_)
            · refine En_Ps 1 (pc' := 93) (lv' := [(5, .int ((y4 + Int32.ofInt 1))), (0, .ref 8), (1, .int a), (2, .int b), (3, .int c), (4, .int y3)]) (st' := []) rfl ?_
              refine En_lv1 (addI rfl (by decide : (Int32.ofInt 1).toInt = 1) (by first | exact q_465ab79ac1 h10 | omega) (by first | exact q_f3f8e04381 h11 | omega)) (fun z30 h31 => ?_)
              refine En_Ps 1 (pc' := 57) (lv' := [(5, .int z30), (0, .ref 8), (1, .int a), (2, .int b), (3, .int c), (4, .int y3)]) (st' := []) rfl ?_
              refine En_lv (lv := [(0, .ref 8), (1, .int a), (2, .int b), (3, .int c), (4, .int y3), (5, .int z30)]) ⟨rfl, rfl, rfl, rfl, rfl, rfl, trivial⟩ ?_
              exact ih57 σ22 y3 z30 h23 h27 (by first | exact q_58e6e51dcc h8 | omega) (by first | exact q_36eb0a70bf h9 | omega) (by first | exact q_35104ce9d3 h31 h10 | omega) (by first | exact q_eba8fd3b5f h31 h19 h18 | omega) (by first | exact q_c5d740bdff h31 h12 | omega)
            · refine En_Ps 4 (pc' := 87) (lv' := [(0, .ref 8), (1, .int a), (2, .int b), (3, .int c), (4, .int y3), (5, .int y4)]) (st' := [.int ((((Int32.ofInt 1)) <<< (y4 &&& 31))), .int y3]) rfl ?_
              refine En_rng (shl1_p 15 rfl (by omega) (by omega) (by decide)) (fun z32 h33 h34 => ?_)
              refine En_Ps 1 (pc' := 88) (lv' := [(0, .ref 8), (1, .int a), (2, .int b), (3, .int c), (4, .int y3), (5, .int y4)]) (st' := [.int ((y3 ||| z32))]) rfl ?_
              refine En_rng (l := 0) (u := 65535) (or_rng 16 rfl rfl (by omega) (by omega) (by omega) (by omega) (by decide)) (fun z35 h36 h37 => ?_)
              refine En_Ps 2 (pc' := 93) (lv' := [(5, .int ((y4 + Int32.ofInt 1))), (4, .int z35), (0, .ref 8), (1, .int a), (2, .int b), (3, .int c)]) (st' := []) rfl ?_
              refine En_lv1 (addI rfl (by decide : (Int32.ofInt 1).toInt = 1) (by first | exact q_465ab79ac1 h10 | omega) (by first | exact q_f3f8e04381 h11 | omega)) (fun z38 h39 => ?_)
              refine En_Ps 1 (pc' := 57) (lv' := [(5, .int z38), (4, .int z35), (0, .ref 8), (1, .int a), (2, .int b), (3, .int c)]) (st' := []) rfl ?_
              refine En_lv (lv := [(0, .ref 8), (1, .int a), (2, .int b), (3, .int c), (4, .int z35), (5, .int z38)]) ⟨rfl, rfl, rfl, rfl, rfl, rfl, trivial⟩ ?_
              exact ih57 σ22 z35 z38 h23 h27 (by first | exact q_58e6e51dcc h36 | omega) (by first | exact q_36eb0a70bf h37 | omega) (by first | exact q_35104ce9d3 h39 h10 | omega) (by first | exact q_eba8fd3b5f h39 h19 h18 | omega) (by first | exact q_c5d740bdff h39 h12 | omega)
      have := (by decide : (Int32.ofInt 0).toInt = 0)
      have := (by decide : (Int32.ofInt 0).toInt = 0)
      refine En_lv (lv := [(0, .ref 8), (1, .int a), (2, .int b), (3, .int c), (4, .int ((Int32.ofInt 0))), (5, .int ((Int32.ofInt 0)))]) ⟨rfl, rfl, rfl, rfl, rfl, rfl, trivial⟩ ?_
      exact key57 (Int.toNat (16) + 1) σ0 ((Int32.ofInt 0)) ((Int32.ofInt 0)) hσ0 hF0 (by decide) (by decide) (by decide) (by decide) (by first | exact toN_lt _ | omega)
    · refine En_Ps 1 (pc' := 14) (lv' := [(0, .ref 8), (1, .int a), (2, .int b), (3, .int c)]) (st' := [.ref 8]) rfl ?_
      refine En_getU (j := 0) (u := 4) (g' := 4) (q := 0) rfl rfl rfl tgz_8 (by decide +kernel) hσ0 (by decide +kernel) (by decide +kernel) (fun h40 => ?_)
      refine En_Ps 3 (pc' := 20) (lv' := [(0, .ref 8), (1, .int a), (2, .int b), (3, .int c)]) (st' := [.int ((b &&& c)), .ref 4]) rfl ?_
      refine En_hav (fun z42 => ?_)
      refine En_Ps 4 (pc' := 24) (lv' := [(0, .ref 8), (1, .int a), (2, .int b), (3, .int c)]) (st' := [.int ((c ^^^ ((Int32.ofInt (-1))))), .int b, .int z42, .ref 4]) rfl ?_
      refine En_nam (fun z43 h44 => ?_)
      refine En_Ps 1 (pc' := 25) (lv' := [(0, .ref 8), (1, .int a), (2, .int b), (3, .int c)]) (st' := [.int ((b &&& z43)), .int z42, .ref 4]) rfl ?_
      refine En_nam (fun z45 h46 => ?_)
      refine En_callV rfl rfl rfl rfl rfl rfl rfl rfl tgz_4 (by decide +kernel) rfl (c_78 σ0 hσ0 z42 z45) (by decide) (by decide) (fun v48 σ49 h47 => ?_)
      obtain ⟨h50, h51, z53, rfl, h52⟩ := h47
      have h54 := Fr_trans hF0 h51 (by decide +kernel)
      refine En_Ps 3 (pc' := 33) (lv' := [(4, .int z53), (0, .ref 8), (1, .int a), (2, .int b), (3, .int c)]) (st' := [.int ((Int32.ofInt (-1))), .int z53]) rfl ?_
      refine En_icNe _ rfl (by decide : (Int32.ofInt (-1)).toInt = -1) rfl (fun h55 => ?_) (fun h55 => ?_)
      · refine En_Ps 1 (pc' := 41) (lv' := [(4, .int z53), (0, .ref 8), (1, .int a), (2, .int b), (3, .int c)]) (st' := [.ref 8]) rfl ?_
        refine En_getK (j := 0) ((h51 _ _ (inW tgz_8 (by decide +kernel))).trans h40) rfl rfl rfl tgz_8 (by decide +kernel) ?_
        refine En_getU (j := 4) (u := 7) (g' := 7) (q := 0) rfl rfl rfl tgz_4 (by decide +kernel) h50 (by decide +kernel) (by decide +kernel) (fun h56 => ?_)
        refine En_Ps 1 (pc' := 49) (lv' := [(4, .int z53), (0, .ref 8), (1, .int a), (2, .int b), (3, .int c)]) (st' := [.int z53, .ref 7]) rfl ?_
        refine En_iald (l := (-2147483648)) (u := 2147483647) rfl rfl tgz_7 (by decide +kernel) h50 (by first | exact q_b1cade0df5 h55 h52.1 | omega) (lnI (by decide +kernel : LN _ = 81) (by first | exact q_3ac9ed8367 h52.2 | omega)) (FTsgl (by decide +kernel)) (fun z59 h58 h60 h61 => ?_)
        exact En_ret (v := some (.int z59)) rfl rfl rfl ⟨h50, h54, z59, rfl, trivial⟩
      · refine En_Ps 2 (pc' := 50) (lv' := [(4, .int z53), (0, .ref 8), (1, .int a), (2, .int b), (3, .int c)]) (st' := [.int ((Int32.ofInt 0))]) rfl ?_
        refine En_top (by decide : (Int32.ofInt 0).toInt = 0) (fun z62 h63 => ?_)
        exact En_ret (v := some (.int z62)) rfl rfl rfl ⟨h50, h54, z62, rfl, trivial⟩
  · refine En_Ps 3 (pc' := 7) (lv' := [(0, .ref 8), (1, .int a), (2, .int b), (3, .int c)]) (st' := [.int ((b &&& c))]) rfl ?_
    refine En_hav (fun z64 => ?_)
    exact En_ret (v := some (.int z64)) rfl rfl rfl ⟨hσ0, hF0, z64, rfl, trivial⟩

