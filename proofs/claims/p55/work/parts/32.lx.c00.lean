/-! 32.lx.c00 -/
section
/-- java/lang/Integer.bitCount(I)I -/
abbrev P_7 (σ0 : SG) (a : Int32) : PO := fun v σ => WT σ ∧ Fr [] σ0 σ ∧ ∃ ret : Int32, v = some (Value.int ret) ∧ -ret.toInt ≤ 0 ∧ ret.toInt - 63 ≤ 0
set_option maxRecDepth 10000 in
set_option maxHeartbeats 4000000 in
theorem c_7 (σ0 : SG) (hσ0 : WT σ0) (a : Int32) : En 0 0 none mr_7 (P_7 σ0 a) 0 [(0, .int a)] [] σ0 := by
  have hF0 : Fr [] σ0 σ0 := Fr_rfl
  refine En_Ps 4 (pc' := 4) (lv' := [(0, .int a)]) (st' := [.int (((a.toUInt32 >>> (((Int32.ofInt 1)).toUInt32 &&& Int32.toUInt32 31)).toInt32)), .int a]) rfl ?_
  refine En_hav (fun z1 => ?_)
  refine En_Ps 2 (pc' := 8) (lv' := [(0, .int a)]) (st' := [.int ((z1 &&& ((1431655765 : Int32)))), .int a]) rfl ?_
  refine En_rng (l := 0) (u := 1431655765) (andR_rng (by decide : (1431655765 : Int32).toInt = 1431655765) (by decide)) (fun z2 h3 h4 => ?_)
  refine En_Ps 1 (pc' := 9) (lv' := [(0, .int a)]) (st' := [.int ((a - z2))]) rfl ?_
  refine En_hav (fun z5 => ?_)
  refine En_Ps 4 (pc' := 15) (lv' := [(0, .int z5)]) (st' := [.int ((z5 &&& ((858993459 : Int32))))]) rfl ?_
  refine En_rng (l := 0) (u := 858993459) (andR_rng (by decide : (858993459 : Int32).toInt = 858993459) (by decide)) (fun z6 h7 h8 => ?_)
  refine En_Ps 3 (pc' := 18) (lv' := [(0, .int z5)]) (st' := [.int (((z5.toUInt32 >>> (((Int32.ofInt 2)).toUInt32 &&& Int32.toUInt32 31)).toInt32)), .int z6]) rfl ?_
  refine En_hav (fun z9 => ?_)
  refine En_Ps 2 (pc' := 22) (lv' := [(0, .int z5)]) (st' := [.int ((z9 &&& ((858993459 : Int32)))), .int z6]) rfl ?_
  refine En_rng (l := 0) (u := 858993459) (andR_rng (by decide : (858993459 : Int32).toInt = 858993459) (by decide)) (fun z10 h11 h12 => ?_)
  refine En_Ps 1 (pc' := 23) (lv' := [(0, .int z5)]) (st' := [.int ((z6 + z10))]) rfl ?_
  refine En_top (addI rfl rfl (by first | exact q_3bb374bebc h7 h11 | omega) (by first | exact q_ce39e5e0e0 h8 h12 | omega)) (fun z13 h14 => ?_)
  refine En_Ps 5 (pc' := 28) (lv' := [(0, .int z13)]) (st' := [.int (((z13.toUInt32 >>> (((Int32.ofInt 4)).toUInt32 &&& Int32.toUInt32 31)).toInt32)), .int z13]) rfl ?_
  refine En_hav (fun z15 => ?_)
  refine En_Ps 1 (pc' := 29) (lv' := [(0, .int z13)]) (st' := [.int ((z13 + z15))]) rfl ?_
  refine En_hav (fun z16 => ?_)
  refine En_Ps 2 (pc' := 33) (lv' := [(0, .int z13)]) (st' := [.int ((z16 &&& ((252645135 : Int32))))]) rfl ?_
  refine En_rng (l := 0) (u := 252645135) (andR_rng (by decide : (252645135 : Int32).toInt = 252645135) (by decide)) (fun z17 h18 h19 => ?_)
  refine En_Ps 5 (pc' := 39) (lv' := [(0, .int z17)]) (st' := [.int (((z17.toUInt32 >>> ((((Int8.ofInt 8).toInt32)).toUInt32 &&& Int32.toUInt32 31)).toInt32)), .int z17]) rfl ?_
  refine En_hav (fun z20 => ?_)
  refine En_Ps 1 (pc' := 40) (lv' := [(0, .int z17)]) (st' := [.int ((z17 + z20))]) rfl ?_
  refine En_hav (fun z21 => ?_)
  refine En_Ps 5 (pc' := 46) (lv' := [(0, .int z21)]) (st' := [.int (((z21.toUInt32 >>> ((((Int8.ofInt 16).toInt32)).toUInt32 &&& Int32.toUInt32 31)).toInt32)), .int z21]) rfl ?_
  refine En_hav (fun z22 => ?_)
  refine En_Ps 1 (pc' := 47) (lv' := [(0, .int z21)]) (st' := [.int ((z21 + z22))]) rfl ?_
  refine En_hav (fun z23 => ?_)
  refine En_Ps 4 (pc' := 52) (lv' := [(0, .int z23)]) (st' := [.int ((z23 &&& (((Int8.ofInt 63).toInt32))))]) rfl ?_
  refine En_rng (l := 0) (u := 63) (andR_rng (by decide : ((Int8.ofInt 63).toInt32).toInt = 63) (by decide)) (fun z24 h25 h26 => ?_)
  exact En_ret (v := some (Value.int z24)) rfl rfl rfl ⟨hσ0, hF0, z24, rfl, ⟨by first | exact q_c803b490ef h25 | omega, by first | exact q_ac3306975b h26 | omega⟩⟩
/-- java/util/Arrays.fill([JJ)V -/
abbrev P_9a (σ0 : SG) (a : Nat) (b : Int64) : PO := fun v σ => WT σ ∧ Fr [(34, 0)] σ0 σ ∧ v = none ∧ True
set_option maxRecDepth 10000 in
set_option maxHeartbeats 4000000 in
theorem c_9a (σ0 : SG) (hσ0 : WT σ0) (a : Nat) (ha : TG a = 34) (b : Int64) : En 0 0 none mr_9 (P_9a σ0 a b) 0 [(0, .ref a), (1, .long b)] [] σ0 := by
  have hF0 : Fr [(34, 0)] σ0 σ0 := Fr_rfl
  refine En_Ps 3 (pc' := 3) (lv' := [(3, .int ((Int32.ofInt 0))), (0, .ref a), (1, .long b)]) (st' := [.ref a]) rfl ?_
  refine En_alenN (n := 60) rfl ha (by decide +kernel) (by decide +kernel) hσ0 ?_
  refine En_Ps 1 (pc' := 6) (lv' := [(4, .int ((Int32.ofNat 60))), (3, .int ((Int32.ofInt 0))), (0, .ref a), (1, .long b)]) (st' := []) rfl ?_
  have key6 : ∀ (n6 : Nat) (σ2 : SG) (y1 : Int32), WT σ2 → Fr [(34, 0)] σ0 σ2 → 0 ≤ y1.toInt → y1.toInt ≤ 60 → -y1.toInt + 60 < (n6 : Int) → En 0 0 none mr_9 (P_9a σ0 a b) 6 [(0, .ref a), (1, .long b), (3, .int y1), (4, .int ((Int32.ofNat 60)))] [] σ2 := by
    intro n6
    induction n6 with
    | zero =>
      intro σ2 y1 h3 h4 h5 h6 h7
      first | exact (q_98ae87e5bf h7 h6).elim | (exfalso; omega)
    | succ n6 ih6 =>
      intro σ2 y1 h3 h4 h5 h6 h7
      refine En_Ps 2 (pc' := 9) (lv' := [(0, .ref a), (1, .long b), (3, .int y1), (4, .int ((Int32.ofNat 60)))]) (st' := [.int ((Int32.ofNat 60)), .int y1]) rfl ?_
      refine En_icGe _ rfl (by decide : (Int32.ofNat 60).toInt = 60) rfl (fun h8 => ?_) (fun h8 => ?_)
      · exact En_ret (v := none) rfl rfl rfl ⟨h3, h4, rfl, trivial⟩
      · refine En_Ps 3 (pc' := 15) (lv' := [(0, .ref a), (1, .long b), (3, .int y1), (4, .int ((Int32.ofNat 60)))]) (st' := [.long b, .int y1, .ref a]) rfl ?_
        refine En_last (l := (-9223372036854775808)) (u := 9223372036854775807) rfl rfl ha (by decide +kernel) (by first | exact q_58e6e51dcc h5 | omega) (lnI (by decide +kernel : LN _ = 60) (by first | exact q_8b56808a55 h8 | omega)) (FTsgl (by decide +kernel)) (fullL _) h3 h4 (by decide +kernel) (fun σ9 h10 h11 h12 h13 => ?_)
        refine En_Ps 1 (pc' := 19) (lv' := [(3, .int ((y1 + Int32.ofInt 1))), (0, .ref a), (1, .long b), (4, .int ((Int32.ofNat 60)))]) (st' := []) rfl ?_
        refine En_lv1 (addI rfl (by decide : (Int32.ofInt 1).toInt = 1) (by first | exact q_465ab79ac1 h5 | omega) (by first | exact q_5aee3ad0d6 h8 | omega)) (fun z14 h15 => ?_)
        refine En_Ps 1 (pc' := 6) (lv' := [(3, .int z14), (0, .ref a), (1, .long b), (4, .int ((Int32.ofNat 60)))]) (st' := []) rfl ?_
        refine En_lv (lv := [(0, .ref a), (1, .long b), (3, .int z14), (4, .int ((Int32.ofNat 60)))]) ⟨rfl, rfl, rfl, rfl, trivial⟩ ?_
        exact ih6 σ9 z14 h10 h11 (by first | exact q_35104ce9d3 h15 h5 | omega) (by first | exact q_7e37767ea5 h15 h8 | omega) (by first | exact q_45947d8f83 h15 h7 | omega)
  have := (by decide : (Int32.ofInt 0).toInt = 0)
  refine En_lv (lv := [(0, .ref a), (1, .long b), (3, .int ((Int32.ofInt 0))), (4, .int ((Int32.ofNat 60)))]) ⟨rfl, rfl, rfl, rfl, trivial⟩ ?_
  exact key6 (Int.toNat (60) + 1) σ0 ((Int32.ofInt 0)) hσ0 hF0 (by decide) (by decide) (by first | exact toN_lt _ | omega)
/-- java/lang/Math.max(II)I -/
abbrev P_10 (σ0 : SG) (a : Int32) (b : Int32) : PO := fun v σ => WT σ ∧ Fr [] σ0 σ ∧ ∃ ret : Int32, v = some (Value.int ret) ∧ a.toInt - ret.toInt ≤ 0 ∧ b.toInt - ret.toInt ≤ 0 ∧ (b.toInt - a.toInt ≤ 0 → ret.toInt - a.toInt ≤ 0) ∧ (a.toInt - b.toInt ≤ 0 → ret.toInt - b.toInt ≤ 0)
set_option maxRecDepth 10000 in
set_option maxHeartbeats 4000000 in
theorem c_10 (σ0 : SG) (hσ0 : WT σ0) (a : Int32) (b : Int32) : En 0 0 none mr_10 (P_10 σ0 a b) 0 [(0, .int a), (1, .int b)] [] σ0 := by
  have hF0 : Fr [] σ0 σ0 := Fr_rfl
  refine En_Ps 2 (pc' := 2) (lv' := [(0, .int a), (1, .int b)]) (st' := [.int b, .int a]) rfl ?_
  refine En_icLt _ rfl rfl rfl (fun h1 => ?_) (fun h1 => ?_)
  · refine En_Ps 1 (pc' := 10) (lv' := [(0, .int a), (1, .int b)]) (st' := [.int b]) rfl ?_
    exact En_ret (v := some (Value.int b)) rfl rfl rfl ⟨hσ0, hF0, b, rfl, ⟨by first | exact q_74322ff71d h1 | omega, by first | exact q_1bb76abeaf | omega, fun _ => by omega, fun _ => by omega⟩⟩
  · refine En_Ps 2 (pc' := 10) (lv' := [(0, .int a), (1, .int b)]) (st' := [.int a]) rfl ?_
    exact En_ret (v := some (Value.int a)) rfl rfl rfl ⟨hσ0, hF0, a, rfl, ⟨by first | exact q_1bb76abeaf | omega, by first | exact q_15b82e7ad8 h1 | omega, fun _ => by omega, fun _ => by omega⟩⟩
/-- java/lang/Math.min(II)I -/
abbrev P_11 (σ0 : SG) (a : Int32) (b : Int32) : PO := fun v σ => WT σ ∧ Fr [] σ0 σ ∧ ∃ ret : Int32, v = some (Value.int ret) ∧ -a.toInt + ret.toInt ≤ 0 ∧ -b.toInt + ret.toInt ≤ 0 ∧ (b.toInt - a.toInt ≤ 0 → -ret.toInt + b.toInt ≤ 0) ∧ (a.toInt - b.toInt ≤ 0 → -ret.toInt + a.toInt ≤ 0)
set_option maxRecDepth 10000 in
set_option maxHeartbeats 4000000 in
theorem c_11 (σ0 : SG) (hσ0 : WT σ0) (a : Int32) (b : Int32) : En 0 0 none mr_11 (P_11 σ0 a b) 0 [(0, .int a), (1, .int b)] [] σ0 := by
  have hF0 : Fr [] σ0 σ0 := Fr_rfl
  refine En_Ps 2 (pc' := 2) (lv' := [(0, .int a), (1, .int b)]) (st' := [.int b, .int a]) rfl ?_
  refine En_icGt _ rfl rfl rfl (fun h1 => ?_) (fun h1 => ?_)
  · refine En_Ps 1 (pc' := 10) (lv' := [(0, .int a), (1, .int b)]) (st' := [.int b]) rfl ?_
    exact En_ret (v := some (Value.int b)) rfl rfl rfl ⟨hσ0, hF0, b, rfl, ⟨by first | exact q_6f36bfba61 h1 | omega, by first | exact q_857069189f | omega, fun _ => by omega, fun _ => by omega⟩⟩
  · refine En_Ps 2 (pc' := 10) (lv' := [(0, .int a), (1, .int b)]) (st' := [.int a]) rfl ?_
    exact En_ret (v := some (Value.int a)) rfl rfl rfl ⟨hσ0, hF0, a, rfl, ⟨by first | exact q_857069189f | omega, by first | exact q_f39dd4c9c2 h1 | omega, fun _ => by omega, fun _ => by omega⟩⟩
/-- DoorSchool$Hanging.keepIfBetter(I)V -/
abbrev P_17 (σ0 : SG) (a : Int32) : PO := fun v σ => WT σ ∧ Fr [(10, 5), (13, 0)] σ0 σ ∧ v = none ∧ True
set_option maxRecDepth 10000 in
set_option maxHeartbeats 4000000 in
theorem c_17 (σ0 : SG) (hσ0 : WT σ0) (a : Int32) : En 1 60 none mr_17 (P_17 σ0 a) 0 [(0, .ref 10), (1, .int a)] [] σ0 := by
  have hF0 : Fr [(10, 5), (13, 0)] σ0 σ0 := Fr_rfl
  refine En_Ps 2 (pc' := 2) (lv' := [(0, .ref 10), (1, .int a)]) (st' := [.ref 10, .int a]) rfl ?_
  refine En_getI (j := 5) (l := (-2147483648)) (u := 2147483647) rfl rfl rfl tgz_10 (by decide +kernel) hσ0 (by decide +kernel) (fun z2 h1 h3 h4 => ?_)
  refine En_icGe _ rfl rfl rfl (fun h5 => ?_) (fun h5 => ?_)
  · exact En_ret (v := none) rfl rfl rfl ⟨hσ0, hF0, rfl, trivial⟩
  · refine En_Ps 2 (pc' := 10) (lv' := [(0, .ref 10), (1, .int a)]) (st' := [.int a, .ref 10]) rfl ?_
    refine En_put (j := 5) rfl rfl rfl tgz_10 (by decide +kernel) rfl (vF (by decide +kernel)) hσ0 hF0 (by decide +kernel) (fun σ6 h7 h8 h9 h10 => ?_)
    refine En_Ps 1 (pc' := 14) (lv' := [(0, .ref 10), (1, .int a)]) (st' := [.ref 10]) rfl ?_
    refine En_getU (j := 1) (u := 12) (g' := 12) (q := 0) rfl rfl rfl tgz_10 (by decide +kernel) h7 (by decide +kernel) un_12_12 (fun h11 => ?_)
    refine En_Ps 2 (pc' := 19) (lv' := [(0, .ref 10), (1, .int a)]) (st' := [.ref 10, .int ((Int32.ofInt 0)), .ref 12]) rfl ?_
    refine En_getU (j := 2) (u := 13) (g' := 13) (q := 0) rfl rfl rfl tgz_10 (by decide +kernel) h7 (by decide +kernel) un_13_13 (fun h13 => ?_)
    refine En_Ps 2 (pc' := 24) (lv' := [(0, .ref 10), (1, .int a)]) (st' := [.int ((Int32.ofInt 4)), .int ((Int32.ofInt 0)), .ref 13, .int ((Int32.ofInt 0)), .ref 12]) rfl ?_
    refine En_copy (n0 := 4) (n1 := 4) (by decide : (Int32.ofInt 4).toInt = 4) (by decide : (Int32.ofInt 0).toInt = 0) (by decide : (Int32.ofInt 0).toInt = 0) rfl rfl rfl rfl tgz_12 tgz_13 (by decide +kernel) (by decide +kernel) (by decide +kernel) (by decide +kernel) (by decide +kernel) (by omega) (by omega) (by omega) (by omega) (by omega) h7 h8 (by decide +kernel) (fun σ15 h16 h17 h18 => ?_)
    exact En_ret (v := none) rfl rfl rfl ⟨h16, h17, rfl, trivial⟩
/-- DoorSchool.bit(II)I -/
abbrev P_108 (σ0 : SG) (a : Int32) (b : Int32) : PO := fun v σ => WT σ ∧ Fr [] σ0 σ ∧ ∃ ret : Int32, v = some (Value.int ret) ∧ -ret.toInt ≤ 0 ∧ ret.toInt - 1 ≤ 0
set_option maxRecDepth 10000 in
set_option maxHeartbeats 4000000 in
theorem c_108 (σ0 : SG) (hσ0 : WT σ0) (a : Int32) (b : Int32) : En 0 0 none mr_108 (P_108 σ0 a b) 0 [(0, .int a), (1, .int b)] [] σ0 := by
  have hF0 : Fr [] σ0 σ0 := Fr_rfl
  refine En_Ps 3 (pc' := 3) (lv' := [(0, .int a), (1, .int b)]) (st' := [.int ((a >>> (b &&& 31)))]) rfl ?_
  refine En_hav (fun z1 => ?_)
  refine En_Ps 2 (pc' := 5) (lv' := [(0, .int a), (1, .int b)]) (st' := [.int ((z1 &&& ((Int32.ofInt 1))))]) rfl ?_
  refine En_rng (l := 0) (u := 1) (andR_rng (by decide : (Int32.ofInt 1).toInt = 1) (by decide)) (fun z2 h3 h4 => ?_)
  exact En_ret (v := some (Value.int z2)) rfl rfl rfl ⟨hσ0, hF0, z2, rfl, ⟨by first | exact q_c803b490ef h3 | omega, by first | exact q_a83e15e6ad h4 | omega⟩⟩
/-- DoorSchool$Hanging.hangFrom(LDoorSchool$Hanging;III)V -/
abbrev P_15a (σ0 : SG) (a : Int32) (b : Int32) (c : Int32) : PO := fun v σ => WT σ ∧ Fr [(10, 5), (13, 0)] σ0 σ ∧ v = none ∧ True
set_option maxRecDepth 10000 in
set_option maxHeartbeats 4000000 in
theorem c_15a (σ0 : SG) (hσ0 : WT σ0) (a : Int32) (b : Int32) (c : Int32) (hl_a : 4 ≤ a.toInt) (hu_a : a.toInt ≤ 4) : En 2 81 none mr_15 (P_15a σ0 a b c) 0 [(0, .ref 10), (1, .int a), (2, .int b), (3, .int c)] [] σ0 := by
  have hF0 : Fr [(10, 5), (13, 0)] σ0 σ0 := Fr_rfl
  refine En_Ps 2 (pc' := 2) (lv' := [(0, .ref 10), (1, .int a), (2, .int b), (3, .int c)]) (st' := [.ref 10, .int a]) rfl ?_
  refine En_getI (j := 4) (l := 0) (u := 4) rfl rfl rfl tgz_10 (by decide +kernel) hσ0 (by decide +kernel) (fun z2 h1 h3 h4 => ?_)
  refine En_icGe _ rfl rfl rfl (fun h5 => ?_) (fun hx => by first | exact (q_be7bb035e7 hl_a h4 hx).elim | (exfalso; omega))
  refine En_Ps 2 (pc' := 15) (lv' := [(0, .ref 10), (1, .int a), (2, .int b), (3, .int c)]) (st' := [.int c, .ref 10]) rfl ?_
  refine En_callV rfl rfl rfl rfl rfl rfl rfl rfl tgz_10 (by decide +kernel) rfl (c_17 σ0 hσ0 c) (by decide) (by decide) (fun v7 σ8 h6 => ?_)
  obtain ⟨h9, h10, rfl, h11⟩ := h6
  have h12 := Fr_trans hF0 h10 (by decide +kernel)
  exact En_ret (v := none) rfl rfl rfl ⟨h9, h12, rfl, trivial⟩
/-- DoorSchool$Hanging.hangFrom(LDoorSchool$Hanging;III)V -/
abbrev P_15b (σ0 : SG) (a : Int32) (b : Int32) (c : Int32) : PO := fun v σ => WT σ ∧ Fr [(10, 5), (12, 0), (13, 0)] σ0 σ ∧ v = none ∧ True
set_option maxRecDepth 10000 in
set_option maxHeartbeats 4000000 in
theorem c_15b (σ0 : SG) (hσ0 : WT σ0) (a : Int32) (b : Int32) (c : Int32) (hl_a : 3 ≤ a.toInt) (hu_a : a.toInt ≤ 4) : En 3 105 none mr_15 (P_15b σ0 a b c) 0 [(0, .ref 10), (1, .int a), (2, .int b), (3, .int c)] [] σ0 := by
  have hF0 : Fr [(10, 5), (12, 0), (13, 0)] σ0 σ0 := Fr_rfl
  refine En_Ps 2 (pc' := 2) (lv' := [(0, .ref 10), (1, .int a), (2, .int b), (3, .int c)]) (st' := [.ref 10, .int a]) rfl ?_
  refine En_getI (j := 4) (l := 0) (u := 4) rfl rfl rfl tgz_10 (by decide +kernel) hσ0 (by decide +kernel) (fun z2 h1 h3 h4 => ?_)
  refine En_icGe _ rfl rfl rfl (fun h5 => ?_) (fun h5 => ?_)
  · refine En_Ps 2 (pc' := 15) (lv' := [(0, .ref 10), (1, .int a), (2, .int b), (3, .int c)]) (st' := [.int c, .ref 10]) rfl ?_
    refine En_callV rfl rfl rfl rfl rfl rfl rfl rfl tgz_10 (by decide +kernel) rfl (c_17 σ0 hσ0 c) (by decide) (by decide) (fun v7 σ8 h6 => ?_)
    obtain ⟨h9, h10, rfl, h11⟩ := h6
    have h12 := Fr_trans hF0 h10 (by decide +kernel)
    exact En_ret (v := none) rfl rfl rfl ⟨h9, h12, rfl, trivial⟩
  · refine En_Ps 2 (pc' := 10) (lv' := [(0, .ref 10), (1, .int a), (2, .int b), (3, .int c)]) (st' := [.int ((Int32.ofInt 4)), .int a]) rfl ?_
    refine En_icLt _ rfl (by decide : (Int32.ofInt 4).toInt = 4) rfl (fun h13 => ?_) (fun hx => by first | exact (q_be7bb035e7 hx h4 h5).elim | (exfalso; omega))
    refine En_Ps 2 (pc' := 22) (lv' := [(4, .int ((Int32.ofInt 0))), (0, .ref 10), (1, .int a), (2, .int b), (3, .int c)]) (st' := []) rfl ?_
    have key22 : ∀ (n22 : Nat) (σ15 : SG) (y14 : Int32), WT σ15 → Fr [(10, 5), (12, 0), (13, 0)] σ0 σ15 → (σ15 10)[4]? = some (Value.int z2) → 0 ≤ y14.toInt → y14.toInt ≤ 4 → z2.toInt - y14.toInt < (n22 : Int) → En 3 105 none mr_15 (P_15b σ0 a b c) 22 [(0, .ref 10), (1, .int a), (2, .int b), (3, .int c), (4, .int y14)] [] σ15 := by
      intro n22
      induction n22 with
      | zero =>
        intro σ15 y14 h16 h17 h18 h19 h20 h21
        first | exact (q_010b8db2fc hl_a h5 h20 h21).elim | (exfalso; omega)
      | succ n22 ih22 =>
        intro σ15 y14 h16 h17 h18 h19 h20 h21
        refine En_Ps 2 (pc' := 25) (lv' := [(0, .ref 10), (1, .int a), (2, .int b), (3, .int c), (4, .int y14)]) (st' := [.ref 10, .int y14]) rfl ?_
        refine En_getI (j := 3) (l := 0) (u := 4) rfl rfl rfl tgz_10 (by decide +kernel) h16 (by decide +kernel) (fun z23 h22 h24 h25 => ?_)
        refine En_icGe _ rfl rfl rfl (fun h26 => ?_) (fun h26 => ?_)
        · exact En_ret (v := none) rfl rfl rfl ⟨h16, h17, rfl, trivial⟩
        · refine En_Ps 2 (pc' := 34) (lv' := [(0, .ref 10), (1, .int a), (2, .int b), (3, .int c), (4, .int y14)]) (st' := [.int y14, .int b]) rfl ?_
          refine En_callS rfl rfl rfl rfl rfl rfl rfl rfl rfl (c_108 σ15 h16 b y14) (by decide) (by decide) (fun v28 σ29 h27 => ?_)
          obtain ⟨h30, h31, z33, rfl, h32⟩ := h27
          have h34 := Fr_trans h17 h31 (by decide +kernel)
          refine En_iNe _ rfl rfl (fun h35 => ?_) (fun h35 => ?_)
          · refine En_Ps 1 (pc' := 77) (lv' := [(4, .int ((y14 + Int32.ofInt 1))), (0, .ref 10), (1, .int a), (2, .int b), (3, .int c)]) (st' := []) rfl ?_
            refine En_lv1 (addI rfl (by decide : (Int32.ofInt 1).toInt = 1) (by first | exact q_465ab79ac1 h19 | omega) (by first | exact q_f7282962fd h20 | omega)) (fun z36 h37 => ?_)
            refine En_Ps 1 (pc' := 22) (lv' := [(4, .int z36), (0, .ref 10), (1, .int a), (2, .int b), (3, .int c)]) (st' := []) rfl ?_
            refine En_lv (lv := [(0, .ref 10), (1, .int a), (2, .int b), (3, .int c), (4, .int z36)]) ⟨rfl, rfl, rfl, rfl, rfl, trivial⟩ ?_
            exact ih22 σ29 z36 h30 h34 ((h31 _ _ (inW tgz_10 (by decide +kernel))).trans h18) (by first | exact q_35104ce9d3 h37 h19 | omega) (by first | exact q_de42116b63 h37 h26 h25 | omega) (by first | exact q_8d03a5a7cb h37 h21 | omega)
          · refine En_Ps 1 (pc' := 41) (lv' := [(0, .ref 10), (1, .int a), (2, .int b), (3, .int c), (4, .int y14)]) (st' := [.ref 10]) rfl ?_
            refine En_getU (j := 1) (u := 12) (g' := 12) (q := 0) rfl rfl rfl tgz_10 (by decide +kernel) h30 (by decide +kernel) un_12_12 (fun h38 => ?_)
            refine En_Ps 2 (pc' := 47) (lv' := [(0, .ref 10), (1, .int a), (2, .int b), (3, .int c), (4, .int y14)]) (st' := [.int y14, .int a, .ref 12]) rfl ?_
            refine En_iast (l := 0) (u := 3) rfl rfl tgz_12 (by decide +kernel) (by first | exact q_6da2027052 hl_a | omega) (lnI (by decide +kernel : LN _ = 4) (by first | exact q_074a8b422d h13 | omega)) (FTsgl (by decide +kernel)) (rngI rfl (by first | exact q_58e6e51dcc h19 | omega) (by first | exact q_5ab2e90ecc h26 h25 | omega)) h30 h34 (by decide +kernel) (fun σ40 h41 h42 h43 h44 => ?_)
            refine En_Ps 4 (pc' := 52) (lv' := [(0, .ref 10), (1, .int a), (2, .int b), (3, .int c), (4, .int y14)]) (st' := [.int ((a + ((Int32.ofInt 1)))), .ref 10]) rfl ?_
            refine En_top (addI rfl (by decide : (Int32.ofInt 1).toInt = 1) (by first | exact q_d115ba6b9f hl_a | omega) (by first | exact q_d8bf7f475a h13 | omega)) (fun z45 h46 => ?_)
            refine En_Ps 4 (pc' := 57) (lv' := [(0, .ref 10), (1, .int a), (2, .int b), (3, .int c), (4, .int y14)]) (st' := [.int ((((Int32.ofInt 1)) <<< (y14 &&& 31))), .int b, .int z45, .ref 10]) rfl ?_
            refine En_rng (shl1_p 3 rfl (by omega) (by omega) (by decide)) (fun z47 h48 h49 => ?_)
            refine En_Ps 1 (pc' := 58) (lv' := [(0, .ref 10), (1, .int a), (2, .int b), (3, .int c), (4, .int y14)]) (st' := [.int ((b ||| z47)), .int z45, .ref 10]) rfl ?_
            refine En_hav (fun z50 => ?_)
            refine En_Ps 2 (pc' := 60) (lv' := [(0, .ref 10), (1, .int a), (2, .int b), (3, .int c), (4, .int y14)]) (st' := [.ref 10, .int c, .int z50, .int z45, .ref 10]) rfl ?_
            refine En_getU (j := 0) (u := 11) (g' := 11) (q := 0) rfl rfl rfl tgz_10 (by decide +kernel) h41 (by decide +kernel) un_11_11 (fun h51 => ?_)
            refine En_Ps 3 (pc' := 66) (lv' := [(0, .ref 10), (1, .int a), (2, .int b), (3, .int c), (4, .int y14)]) (st' := [.int ((a * ((Int32.ofInt 4)))), .ref 11, .int c, .int z50, .int z45, .ref 10]) rfl ?_
            refine En_top (mulI rfl (by decide : (Int32.ofInt 4).toInt = 4) (Z := 4 * a.toInt) (by first | exact q_37bd5d571c | omega) (by first | exact q_7399fec830 hl_a | omega) (by first | exact q_2f65254717 h13 | omega)) (fun z53 h54 => ?_)
            refine En_Ps 2 (pc' := 69) (lv' := [(0, .ref 10), (1, .int a), (2, .int b), (3, .int c), (4, .int y14)]) (st' := [.int ((z53 + y14)), .ref 11, .int c, .int z50, .int z45, .ref 10]) rfl ?_
            refine En_top (addI rfl rfl (by first | exact q_9c3be65b1d h19 h54 hl_a | omega) (by first | exact q_fae0873b70 h26 h54 h13 h25 | omega)) (fun z55 h56 => ?_)
            refine En_iald (l := (-2147483648)) (u := 2147483647) rfl rfl tgz_11 (by decide +kernel) h41 (by first | exact q_becf22fb84 h56 h19 h54 hl_a | omega) (lnI (by decide +kernel : LN _ = 16) (by first | exact q_7d9dd94cfa h56 h26 h54 h13 h25 | omega)) (FTsgl (by decide +kernel)) (fun z58 h57 h59 h60 => ?_)
            refine En_Ps 1 (pc' := 71) (lv' := [(0, .ref 10), (1, .int a), (2, .int b), (3, .int c), (4, .int y14)]) (st' := [.int ((c + z58)), .int z50, .int z45, .ref 10]) rfl ?_
            refine En_hav (fun z61 => ?_)
            refine En_callS rfl rfl rfl rfl rfl rfl rfl rfl rfl (c_15a σ40 h41 z45 z50 z61 (geI rfl (by first | exact q_aa5623a688 h46 hl_a | omega)) (leI rfl (by first | exact q_ddc5c16a68 h46 h13 | omega))) (by decide) (by decide) (fun v63 σ64 h62 => ?_)
            obtain ⟨h65, h66, rfl, h67⟩ := h62
            have h68 := Fr_trans h42 h66 (by decide +kernel)
            refine En_Ps 1 (pc' := 77) (lv' := [(4, .int ((y14 + Int32.ofInt 1))), (0, .ref 10), (1, .int a), (2, .int b), (3, .int c)]) (st' := []) rfl ?_
            refine En_lv1 (addI rfl (by decide : (Int32.ofInt 1).toInt = 1) (by first | exact q_465ab79ac1 h19 | omega) (by first | exact q_f7282962fd h20 | omega)) (fun z69 h70 => ?_)
            refine En_Ps 1 (pc' := 22) (lv' := [(4, .int z69), (0, .ref 10), (1, .int a), (2, .int b), (3, .int c)]) (st' := []) rfl ?_
            refine En_lv (lv := [(0, .ref 10), (1, .int a), (2, .int b), (3, .int c), (4, .int z69)]) ⟨rfl, rfl, rfl, rfl, rfl, trivial⟩ ?_
            exact ih22 σ64 z69 h65 h68 ((h66 _ _ (inW tgz_10 (by decide +kernel))).trans ((h44 _ _ (Or.inl (neTG tgz_10 tgz_12 (by decide)))).trans ((h31 _ _ (inW tgz_10 (by decide +kernel))).trans h18))) (by first | exact q_35104ce9d3 h70 h19 | omega) (by first | exact q_de42116b63 h70 h26 h25 | omega) (by first | exact q_8d03a5a7cb h70 h21 | omega)
    have := (by decide : (Int32.ofInt 0).toInt = 0)
    refine En_lv (lv := [(0, .ref 10), (1, .int a), (2, .int b), (3, .int c), (4, .int ((Int32.ofInt 0)))]) ⟨rfl, rfl, rfl, rfl, rfl, trivial⟩ ?_
    exact key22 (Int.toNat (z2.toInt) + 1) σ0 ((Int32.ofInt 0)) hσ0 hF0 h1 (by decide) (by decide) (by first | exact toN_lt _ | omega)
/-- DoorSchool$Hanging.hangFrom(LDoorSchool$Hanging;III)V -/
abbrev P_15c (σ0 : SG) (a : Int32) (b : Int32) (c : Int32) : PO := fun v σ => WT σ ∧ Fr [(10, 5), (12, 0), (13, 0)] σ0 σ ∧ v = none ∧ True
set_option maxRecDepth 10000 in
set_option maxHeartbeats 4000000 in
theorem c_15c (σ0 : SG) (hσ0 : WT σ0) (a : Int32) (b : Int32) (c : Int32) (hl_a : 2 ≤ a.toInt) (hu_a : a.toInt ≤ 4) : En 4 129 none mr_15 (P_15c σ0 a b c) 0 [(0, .ref 10), (1, .int a), (2, .int b), (3, .int c)] [] σ0 := by
  have hF0 : Fr [(10, 5), (12, 0), (13, 0)] σ0 σ0 := Fr_rfl
  refine En_Ps 2 (pc' := 2) (lv' := [(0, .ref 10), (1, .int a), (2, .int b), (3, .int c)]) (st' := [.ref 10, .int a]) rfl ?_
  refine En_getI (j := 4) (l := 0) (u := 4) rfl rfl rfl tgz_10 (by decide +kernel) hσ0 (by decide +kernel) (fun z2 h1 h3 h4 => ?_)
  refine En_icGe _ rfl rfl rfl (fun h5 => ?_) (fun h5 => ?_)
  · refine En_Ps 2 (pc' := 15) (lv' := [(0, .ref 10), (1, .int a), (2, .int b), (3, .int c)]) (st' := [.int c, .ref 10]) rfl ?_
    refine En_callV rfl rfl rfl rfl rfl rfl rfl rfl tgz_10 (by decide +kernel) rfl (c_17 σ0 hσ0 c) (by decide) (by decide) (fun v7 σ8 h6 => ?_)
    obtain ⟨h9, h10, rfl, h11⟩ := h6
    have h12 := Fr_trans hF0 h10 (by decide +kernel)
    exact En_ret (v := none) rfl rfl rfl ⟨h9, h12, rfl, trivial⟩
  · refine En_Ps 2 (pc' := 10) (lv' := [(0, .ref 10), (1, .int a), (2, .int b), (3, .int c)]) (st' := [.int ((Int32.ofInt 4)), .int a]) rfl ?_
    refine En_icLt _ rfl (by decide : (Int32.ofInt 4).toInt = 4) rfl (fun h13 => ?_) (fun hx => by first | exact (q_be7bb035e7 hx h4 h5).elim | (exfalso; omega))
    refine En_Ps 2 (pc' := 22) (lv' := [(4, .int ((Int32.ofInt 0))), (0, .ref 10), (1, .int a), (2, .int b), (3, .int c)]) (st' := []) rfl ?_
    have key22 : ∀ (n22 : Nat) (σ15 : SG) (y14 : Int32), WT σ15 → Fr [(10, 5), (12, 0), (13, 0)] σ0 σ15 → (σ15 10)[4]? = some (Value.int z2) → 0 ≤ y14.toInt → y14.toInt ≤ 4 → -y14.toInt + 4 < (n22 : Int) → En 4 129 none mr_15 (P_15c σ0 a b c) 22 [(0, .ref 10), (1, .int a), (2, .int b), (3, .int c), (4, .int y14)] [] σ15 := by
      intro n22
      induction n22 with
      | zero =>
        intro σ15 y14 h16 h17 h18 h19 h20 h21
        first | exact (q_20d6385c6f h21 h20).elim | (exfalso; omega)
      | succ n22 ih22 =>
        intro σ15 y14 h16 h17 h18 h19 h20 h21
        refine En_Ps 2 (pc' := 25) (lv' := [(0, .ref 10), (1, .int a), (2, .int b), (3, .int c), (4, .int y14)]) (st' := [.ref 10, .int y14]) rfl ?_
        refine En_getI (j := 3) (l := 0) (u := 4) rfl rfl rfl tgz_10 (by decide +kernel) h16 (by decide +kernel) (fun z23 h22 h24 h25 => ?_)
        refine En_icGe _ rfl rfl rfl (fun h26 => ?_) (fun h26 => ?_)
        · exact En_ret (v := none) rfl rfl rfl ⟨h16, h17, rfl, trivial⟩
        · refine En_Ps 2 (pc' := 34) (lv' := [(0, .ref 10), (1, .int a), (2, .int b), (3, .int c), (4, .int y14)]) (st' := [.int y14, .int b]) rfl ?_
          refine En_callS rfl rfl rfl rfl rfl rfl rfl rfl rfl (c_108 σ15 h16 b y14) (by decide) (by decide) (fun v28 σ29 h27 => ?_)
          obtain ⟨h30, h31, z33, rfl, h32⟩ := h27
          have h34 := Fr_trans h17 h31 (by decide +kernel)
          refine En_iNe _ rfl rfl (fun h35 => ?_) (fun h35 => ?_)
          · refine En_Ps 1 (pc' := 77) (lv' := [(4, .int ((y14 + Int32.ofInt 1))), (0, .ref 10), (1, .int a), (2, .int b), (3, .int c)]) (st' := []) rfl ?_
            refine En_lv1 (addI rfl (by decide : (Int32.ofInt 1).toInt = 1) (by first | exact q_465ab79ac1 h19 | omega) (by first | exact q_f7282962fd h20 | omega)) (fun z36 h37 => ?_)
            refine En_Ps 1 (pc' := 22) (lv' := [(4, .int z36), (0, .ref 10), (1, .int a), (2, .int b), (3, .int c)]) (st' := []) rfl ?_
            refine En_lv (lv := [(0, .ref 10), (1, .int a), (2, .int b), (3, .int c), (4, .int z36)]) ⟨rfl, rfl, rfl, rfl, rfl, trivial⟩ ?_
            exact ih22 σ29 z36 h30 h34 ((h31 _ _ (inW tgz_10 (by decide +kernel))).trans h18) (by first | exact q_35104ce9d3 h37 h19 | omega) (by first | exact q_de42116b63 h37 h26 h25 | omega) (by first | exact q_3d8d70ace2 h37 h21 | omega)
          · refine En_Ps 1 (pc' := 41) (lv' := [(0, .ref 10), (1, .int a), (2, .int b), (3, .int c), (4, .int y14)]) (st' := [.ref 10]) rfl ?_
            refine En_getU (j := 1) (u := 12) (g' := 12) (q := 0) rfl rfl rfl tgz_10 (by decide +kernel) h30 (by decide +kernel) un_12_12 (fun h38 => ?_)
            refine En_Ps 2 (pc' := 47) (lv' := [(0, .ref 10), (1, .int a), (2, .int b), (3, .int c), (4, .int y14)]) (st' := [.int y14, .int a, .ref 12]) rfl ?_
            refine En_iast (l := 0) (u := 3) rfl rfl tgz_12 (by decide +kernel) (by first | exact q_1cd795acf6 hl_a | omega) (lnI (by decide +kernel : LN _ = 4) (by first | exact q_074a8b422d h13 | omega)) (FTsgl (by decide +kernel)) (rngI rfl (by first | exact q_58e6e51dcc h19 | omega) (by first | exact q_5ab2e90ecc h26 h25 | omega)) h30 h34 (by decide +kernel) (fun σ40 h41 h42 h43 h44 => ?_)
            refine En_Ps 4 (pc' := 52) (lv' := [(0, .ref 10), (1, .int a), (2, .int b), (3, .int c), (4, .int y14)]) (st' := [.int ((a + ((Int32.ofInt 1)))), .ref 10]) rfl ?_
            refine En_top (addI rfl (by decide : (Int32.ofInt 1).toInt = 1) (by first | exact q_b7dadf652e hl_a | omega) (by first | exact q_d8bf7f475a h13 | omega)) (fun z45 h46 => ?_)
            refine En_Ps 4 (pc' := 57) (lv' := [(0, .ref 10), (1, .int a), (2, .int b), (3, .int c), (4, .int y14)]) (st' := [.int ((((Int32.ofInt 1)) <<< (y14 &&& 31))), .int b, .int z45, .ref 10]) rfl ?_
            refine En_rng (shl1_p 3 rfl (by omega) (by omega) (by decide)) (fun z47 h48 h49 => ?_)
            refine En_Ps 1 (pc' := 58) (lv' := [(0, .ref 10), (1, .int a), (2, .int b), (3, .int c), (4, .int y14)]) (st' := [.int ((b ||| z47)), .int z45, .ref 10]) rfl ?_
            refine En_hav (fun z50 => ?_)
            refine En_Ps 2 (pc' := 60) (lv' := [(0, .ref 10), (1, .int a), (2, .int b), (3, .int c), (4, .int y14)]) (st' := [.ref 10, .int c, .int z50, .int z45, .ref 10]) rfl ?_
            refine En_getU (j := 0) (u := 11) (g' := 11) (q := 0) rfl rfl rfl tgz_10 (by decide +kernel) h41 (by decide +kernel) un_11_11 (fun h51 => ?_)
            refine En_Ps 3 (pc' := 66) (lv' := [(0, .ref 10), (1, .int a), (2, .int b), (3, .int c), (4, .int y14)]) (st' := [.int ((a * ((Int32.ofInt 4)))), .ref 11, .int c, .int z50, .int z45, .ref 10]) rfl ?_
            refine En_top (mulI rfl (by decide : (Int32.ofInt 4).toInt = 4) (Z := 4 * a.toInt) (by first | exact q_37bd5d571c | omega) (by first | exact q_ff18b78017 hl_a | omega) (by first | exact q_2f65254717 h13 | omega)) (fun z53 h54 => ?_)
            refine En_Ps 2 (pc' := 69) (lv' := [(0, .ref 10), (1, .int a), (2, .int b), (3, .int c), (4, .int y14)]) (st' := [.int ((z53 + y14)), .ref 11, .int c, .int z50, .int z45, .ref 10]) rfl ?_
            refine En_top (addI rfl rfl (by first | exact q_5caeb10db2 h19 h54 hl_a | omega) (by first | exact q_fae0873b70 h26 h54 h13 h25 | omega)) (fun z55 h56 => ?_)
            refine En_iald (l := (-2147483648)) (u := 2147483647) rfl rfl tgz_11 (by decide +kernel) h41 (by first | exact q_06d21eb787 h56 h19 h54 hl_a | omega) (lnI (by decide +kernel : LN _ = 16) (by first | exact q_7d9dd94cfa h56 h26 h54 h13 h25 | omega)) (FTsgl (by decide +kernel)) (fun z58 h57 h59 h60 => ?_)
            refine En_Ps 1 (pc' := 71) (lv' := [(0, .ref 10), (1, .int a), (2, .int b), (3, .int c), (4, .int y14)]) (st' := [.int ((c + z58)), .int z50, .int z45, .ref 10]) rfl ?_
            refine En_hav (fun z61 => ?_)
            refine En_callS rfl rfl rfl rfl rfl rfl rfl rfl rfl (c_15b σ40 h41 z45 z50 z61 (geI rfl (by first | exact q_ee554783ee h46 hl_a | omega)) (leI rfl (by first | exact q_ddc5c16a68 h46 h13 | omega))) (by decide) (by decide) (fun v63 σ64 h62 => ?_)
            obtain ⟨h65, h66, rfl, h67⟩ := h62
            have h68 := Fr_trans h42 h66 (by decide +kernel)
            refine En_Ps 1 (pc' := 77) (lv' := [(4, .int ((y14 + Int32.ofInt 1))), (0, .ref 10), (1, .int a), (2, .int b), (3, .int c)]) (st' := []) rfl ?_
            refine En_lv1 (addI rfl (by decide : (Int32.ofInt 1).toInt = 1) (by first | exact q_465ab79ac1 h19 | omega) (by first | exact q_f7282962fd h20 | omega)) (fun z69 h70 => ?_)
            refine En_Ps 1 (pc' := 22) (lv' := [(4, .int z69), (0, .ref 10), (1, .int a), (2, .int b), (3, .int c)]) (st' := []) rfl ?_
            refine En_lv (lv := [(0, .ref 10), (1, .int a), (2, .int b), (3, .int c), (4, .int z69)]) ⟨rfl, rfl, rfl, rfl, rfl, trivial⟩ ?_
            exact ih22 σ64 z69 h65 h68 ((h66 _ _ (inW tgz_10 (by decide +kernel))).trans ((h44 _ _ (Or.inl (neTG tgz_10 tgz_12 (by decide)))).trans ((h31 _ _ (inW tgz_10 (by decide +kernel))).trans h18))) (by first | exact q_35104ce9d3 h70 h19 | omega) (by first | exact q_de42116b63 h70 h26 h25 | omega) (by first | exact q_3d8d70ace2 h70 h21 | omega)
    have := (by decide : (Int32.ofInt 0).toInt = 0)
    refine En_lv (lv := [(0, .ref 10), (1, .int a), (2, .int b), (3, .int c), (4, .int ((Int32.ofInt 0)))]) ⟨rfl, rfl, rfl, rfl, rfl, trivial⟩ ?_
    exact key22 (Int.toNat (4) + 1) σ0 ((Int32.ofInt 0)) hσ0 hF0 h1 (by decide) (by decide) (by first | exact toN_lt _ | omega)
/-- DoorSchool$Hanging.hangFrom(LDoorSchool$Hanging;III)V -/
abbrev P_15d (σ0 : SG) (a : Int32) (b : Int32) (c : Int32) : PO := fun v σ => WT σ ∧ Fr [(10, 5), (12, 0), (13, 0)] σ0 σ ∧ v = none ∧ True
set_option maxRecDepth 10000 in
set_option maxHeartbeats 4000000 in
theorem c_15d (σ0 : SG) (hσ0 : WT σ0) (a : Int32) (b : Int32) (c : Int32) (hl_a : 1 ≤ a.toInt) (hu_a : a.toInt ≤ 4) : En 5 153 none mr_15 (P_15d σ0 a b c) 0 [(0, .ref 10), (1, .int a), (2, .int b), (3, .int c)] [] σ0 := by
  have hF0 : Fr [(10, 5), (12, 0), (13, 0)] σ0 σ0 := Fr_rfl
  refine En_Ps 2 (pc' := 2) (lv' := [(0, .ref 10), (1, .int a), (2, .int b), (3, .int c)]) (st' := [.ref 10, .int a]) rfl ?_
  refine En_getI (j := 4) (l := 0) (u := 4) rfl rfl rfl tgz_10 (by decide +kernel) hσ0 (by decide +kernel) (fun z2 h1 h3 h4 => ?_)
  refine En_icGe _ rfl rfl rfl (fun h5 => ?_) (fun h5 => ?_)
  · refine En_Ps 2 (pc' := 15) (lv' := [(0, .ref 10), (1, .int a), (2, .int b), (3, .int c)]) (st' := [.int c, .ref 10]) rfl ?_
    refine En_callV rfl rfl rfl rfl rfl rfl rfl rfl tgz_10 (by decide +kernel) rfl (c_17 σ0 hσ0 c) (by decide) (by decide) (fun v7 σ8 h6 => ?_)
    obtain ⟨h9, h10, rfl, h11⟩ := h6
    have h12 := Fr_trans hF0 h10 (by decide +kernel)
    exact En_ret (v := none) rfl rfl rfl ⟨h9, h12, rfl, trivial⟩
  · refine En_Ps 2 (pc' := 10) (lv' := [(0, .ref 10), (1, .int a), (2, .int b), (3, .int c)]) (st' := [.int ((Int32.ofInt 4)), .int a]) rfl ?_
    refine En_icLt _ rfl (by decide : (Int32.ofInt 4).toInt = 4) rfl (fun h13 => ?_) (fun hx => by first | exact (q_be7bb035e7 hx h4 h5).elim | (exfalso; omega))
    refine En_Ps 2 (pc' := 22) (lv' := [(4, .int ((Int32.ofInt 0))), (0, .ref 10), (1, .int a), (2, .int b), (3, .int c)]) (st' := []) rfl ?_
    have key22 : ∀ (n22 : Nat) (σ15 : SG) (y14 : Int32), WT σ15 → Fr [(10, 5), (12, 0), (13, 0)] σ0 σ15 → (σ15 10)[4]? = some (Value.int z2) → 0 ≤ y14.toInt → y14.toInt ≤ 4 → -y14.toInt + 4 < (n22 : Int) → En 5 153 none mr_15 (P_15d σ0 a b c) 22 [(0, .ref 10), (1, .int a), (2, .int b), (3, .int c), (4, .int y14)] [] σ15 := by
      intro n22
      induction n22 with
      | zero =>
        intro σ15 y14 h16 h17 h18 h19 h20 h21
        first | exact (q_20d6385c6f h21 h20).elim | (exfalso; omega)
      | succ n22 ih22 =>
        intro σ15 y14 h16 h17 h18 h19 h20 h21
        refine En_Ps 2 (pc' := 25) (lv' := [(0, .ref 10), (1, .int a), (2, .int b), (3, .int c), (4, .int y14)]) (st' := [.ref 10, .int y14]) rfl ?_
        refine En_getI (j := 3) (l := 0) (u := 4) rfl rfl rfl tgz_10 (by decide +kernel) h16 (by decide +kernel) (fun z23 h22 h24 h25 => ?_)
        refine En_icGe _ rfl rfl rfl (fun h26 => ?_) (fun h26 => ?_)
        · exact En_ret (v := none) rfl rfl rfl ⟨h16, h17, rfl, trivial⟩
        · refine En_Ps 2 (pc' := 34) (lv' := [(0, .ref 10), (1, .int a), (2, .int b), (3, .int c), (4, .int y14)]) (st' := [.int y14, .int b]) rfl ?_
          refine En_callS rfl rfl rfl rfl rfl rfl rfl rfl rfl (c_108 σ15 h16 b y14) (by decide) (by decide) (fun v28 σ29 h27 => ?_)
          obtain ⟨h30, h31, z33, rfl, h32⟩ := h27
          have h34 := Fr_trans h17 h31 (by decide +kernel)
          refine En_iNe _ rfl rfl (fun h35 => ?_) (fun h35 => ?_)
          · refine En_Ps 1 (pc' := 77) (lv' := [(4, .int ((y14 + Int32.ofInt 1))), (0, .ref 10), (1, .int a), (2, .int b), (3, .int c)]) (st' := []) rfl ?_
            refine En_lv1 (addI rfl (by decide : (Int32.ofInt 1).toInt = 1) (by first | exact q_465ab79ac1 h19 | omega) (by first | exact q_f7282962fd h20 | omega)) (fun z36 h37 => ?_)
            refine En_Ps 1 (pc' := 22) (lv' := [(4, .int z36), (0, .ref 10), (1, .int a), (2, .int b), (3, .int c)]) (st' := []) rfl ?_
            refine En_lv (lv := [(0, .ref 10), (1, .int a), (2, .int b), (3, .int c), (4, .int z36)]) ⟨rfl, rfl, rfl, rfl, rfl, trivial⟩ ?_
            exact ih22 σ29 z36 h30 h34 ((h31 _ _ (inW tgz_10 (by decide +kernel))).trans h18) (by first | exact q_35104ce9d3 h37 h19 | omega) (by first | exact q_de42116b63 h37 h26 h25 | omega) (by first | exact q_3d8d70ace2 h37 h21 | omega)
          · refine En_Ps 1 (pc' := 41) (lv' := [(0, .ref 10), (1, .int a), (2, .int b), (3, .int c), (4, .int y14)]) (st' := [.ref 10]) rfl ?_
            refine En_getU (j := 1) (u := 12) (g' := 12) (q := 0) rfl rfl rfl tgz_10 (by decide +kernel) h30 (by decide +kernel) un_12_12 (fun h38 => ?_)
            refine En_Ps 2 (pc' := 47) (lv' := [(0, .ref 10), (1, .int a), (2, .int b), (3, .int c), (4, .int y14)]) (st' := [.int y14, .int a, .ref 12]) rfl ?_
            refine En_iast (l := 0) (u := 3) rfl rfl tgz_12 (by decide +kernel) (by first | exact q_337a85e294 hl_a | omega) (lnI (by decide +kernel : LN _ = 4) (by first | exact q_074a8b422d h13 | omega)) (FTsgl (by decide +kernel)) (rngI rfl (by first | exact q_58e6e51dcc h19 | omega) (by first | exact q_5ab2e90ecc h26 h25 | omega)) h30 h34 (by decide +kernel) (fun σ40 h41 h42 h43 h44 => ?_)
            refine En_Ps 4 (pc' := 52) (lv' := [(0, .ref 10), (1, .int a), (2, .int b), (3, .int c), (4, .int y14)]) (st' := [.int ((a + ((Int32.ofInt 1)))), .ref 10]) rfl ?_
            refine En_top (addI rfl (by decide : (Int32.ofInt 1).toInt = 1) (by first | exact q_e6d8d315b7 hl_a | omega) (by first | exact q_d8bf7f475a h13 | omega)) (fun z45 h46 => ?_)
            refine En_Ps 4 (pc' := 57) (lv' := [(0, .ref 10), (1, .int a), (2, .int b), (3, .int c), (4, .int y14)]) (st' := [.int ((((Int32.ofInt 1)) <<< (y14 &&& 31))), .int b, .int z45, .ref 10]) rfl ?_
            refine En_rng (shl1_p 3 rfl (by omega) (by omega) (by decide)) (fun z47 h48 h49 => ?_)
            refine En_Ps 1 (pc' := 58) (lv' := [(0, .ref 10), (1, .int a), (2, .int b), (3, .int c), (4, .int y14)]) (st' := [.int ((b ||| z47)), .int z45, .ref 10]) rfl ?_
            refine En_hav (fun z50 => ?_)
            refine En_Ps 2 (pc' := 60) (lv' := [(0, .ref 10), (1, .int a), (2, .int b), (3, .int c), (4, .int y14)]) (st' := [.ref 10, .int c, .int z50, .int z45, .ref 10]) rfl ?_
            refine En_getU (j := 0) (u := 11) (g' := 11) (q := 0) rfl rfl rfl tgz_10 (by decide +kernel) h41 (by decide +kernel) un_11_11 (fun h51 => ?_)
            refine En_Ps 3 (pc' := 66) (lv' := [(0, .ref 10), (1, .int a), (2, .int b), (3, .int c), (4, .int y14)]) (st' := [.int ((a * ((Int32.ofInt 4)))), .ref 11, .int c, .int z50, .int z45, .ref 10]) rfl ?_
            refine En_top (mulI rfl (by decide : (Int32.ofInt 4).toInt = 4) (Z := 4 * a.toInt) (by first | exact q_37bd5d571c | omega) (by first | exact q_e5ff8c33b5 hl_a | omega) (by first | exact q_2f65254717 h13 | omega)) (fun z53 h54 => ?_)
            refine En_Ps 2 (pc' := 69) (lv' := [(0, .ref 10), (1, .int a), (2, .int b), (3, .int c), (4, .int y14)]) (st' := [.int ((z53 + y14)), .ref 11, .int c, .int z50, .int z45, .ref 10]) rfl ?_
            refine En_top (addI rfl rfl (by first | exact q_33b0912b18 h19 h54 hl_a | omega) (by first | exact q_fae0873b70 h26 h54 h13 h25 | omega)) (fun z55 h56 => ?_)
            refine En_iald (l := (-2147483648)) (u := 2147483647) rfl rfl tgz_11 (by decide +kernel) h41 (by first | exact q_af485880f1 h56 h19 h54 hl_a | omega) (lnI (by decide +kernel : LN _ = 16) (by first | exact q_7d9dd94cfa h56 h26 h54 h13 h25 | omega)) (FTsgl (by decide +kernel)) (fun z58 h57 h59 h60 => ?_)
            refine En_Ps 1 (pc' := 71) (lv' := [(0, .ref 10), (1, .int a), (2, .int b), (3, .int c), (4, .int y14)]) (st' := [.int ((c + z58)), .int z50, .int z45, .ref 10]) rfl ?_
            refine En_hav (fun z61 => ?_)
            refine En_callS rfl rfl rfl rfl rfl rfl rfl rfl rfl (c_15c σ40 h41 z45 z50 z61 (geI rfl (by first | exact q_06a5bb0b7c h46 hl_a | omega)) (leI rfl (by first | exact q_ddc5c16a68 h46 h13 | omega))) (by decide) (by decide) (fun v63 σ64 h62 => ?_)
            obtain ⟨h65, h66, rfl, h67⟩ := h62
            have h68 := Fr_trans h42 h66 (by decide +kernel)
            refine En_Ps 1 (pc' := 77) (lv' := [(4, .int ((y14 + Int32.ofInt 1))), (0, .ref 10), (1, .int a), (2, .int b), (3, .int c)]) (st' := []) rfl ?_
            refine En_lv1 (addI rfl (by decide : (Int32.ofInt 1).toInt = 1) (by first | exact q_465ab79ac1 h19 | omega) (by first | exact q_f7282962fd h20 | omega)) (fun z69 h70 => ?_)
            refine En_Ps 1 (pc' := 22) (lv' := [(4, .int z69), (0, .ref 10), (1, .int a), (2, .int b), (3, .int c)]) (st' := []) rfl ?_
            refine En_lv (lv := [(0, .ref 10), (1, .int a), (2, .int b), (3, .int c), (4, .int z69)]) ⟨rfl, rfl, rfl, rfl, rfl, trivial⟩ ?_
            exact ih22 σ64 z69 h65 h68 ((h66 _ _ (inW tgz_10 (by decide +kernel))).trans ((h44 _ _ (Or.inl (neTG tgz_10 tgz_12 (by decide)))).trans ((h31 _ _ (inW tgz_10 (by decide +kernel))).trans h18))) (by first | exact q_35104ce9d3 h70 h19 | omega) (by first | exact q_de42116b63 h70 h26 h25 | omega) (by first | exact q_3d8d70ace2 h70 h21 | omega)
    have := (by decide : (Int32.ofInt 0).toInt = 0)
    refine En_lv (lv := [(0, .ref 10), (1, .int a), (2, .int b), (3, .int c), (4, .int ((Int32.ofInt 0)))]) ⟨rfl, rfl, rfl, rfl, rfl, trivial⟩ ?_
    exact key22 (Int.toNat (4) + 1) σ0 ((Int32.ofInt 0)) hσ0 hF0 h1 (by decide) (by decide) (by first | exact toN_lt _ | omega)
/-- DoorSchool$Hanging.hangFrom(LDoorSchool$Hanging;III)V -/
abbrev P_15e (σ0 : SG) (a : Int32) (b : Int32) (c : Int32) : PO := fun v σ => WT σ ∧ Fr [(10, 5), (12, 0), (13, 0)] σ0 σ ∧ v = none ∧ True
set_option maxRecDepth 10000 in
set_option maxHeartbeats 4000000 in
theorem c_15e (σ0 : SG) (hσ0 : WT σ0) (a : Int32) (b : Int32) (c : Int32) (hl_a : 0 ≤ a.toInt) (hu_a : a.toInt ≤ 4) : En 6 177 none mr_15 (P_15e σ0 a b c) 0 [(0, .ref 10), (1, .int a), (2, .int b), (3, .int c)] [] σ0 := by
  have hF0 : Fr [(10, 5), (12, 0), (13, 0)] σ0 σ0 := Fr_rfl
  refine En_Ps 2 (pc' := 2) (lv' := [(0, .ref 10), (1, .int a), (2, .int b), (3, .int c)]) (st' := [.ref 10, .int a]) rfl ?_
  refine En_getI (j := 4) (l := 0) (u := 4) rfl rfl rfl tgz_10 (by decide +kernel) hσ0 (by decide +kernel) (fun z2 h1 h3 h4 => ?_)
  refine En_icGe _ rfl rfl rfl (fun h5 => ?_) (fun h5 => ?_)
  · refine En_Ps 2 (pc' := 15) (lv' := [(0, .ref 10), (1, .int a), (2, .int b), (3, .int c)]) (st' := [.int c, .ref 10]) rfl ?_
    refine En_callV rfl rfl rfl rfl rfl rfl rfl rfl tgz_10 (by decide +kernel) rfl (c_17 σ0 hσ0 c) (by decide) (by decide) (fun v7 σ8 h6 => ?_)
    obtain ⟨h9, h10, rfl, h11⟩ := h6
    have h12 := Fr_trans hF0 h10 (by decide +kernel)
    exact En_ret (v := none) rfl rfl rfl ⟨h9, h12, rfl, trivial⟩
  · refine En_Ps 2 (pc' := 10) (lv' := [(0, .ref 10), (1, .int a), (2, .int b), (3, .int c)]) (st' := [.int ((Int32.ofInt 4)), .int a]) rfl ?_
    refine En_icLt _ rfl (by decide : (Int32.ofInt 4).toInt = 4) rfl (fun h13 => ?_) (fun hx => by first | exact (q_be7bb035e7 hx h4 h5).elim | (exfalso; omega))
    refine En_Ps 2 (pc' := 22) (lv' := [(4, .int ((Int32.ofInt 0))), (0, .ref 10), (1, .int a), (2, .int b), (3, .int c)]) (st' := []) rfl ?_
    have key22 : ∀ (n22 : Nat) (σ15 : SG) (y14 : Int32), WT σ15 → Fr [(10, 5), (12, 0), (13, 0)] σ0 σ15 → (σ15 10)[4]? = some (Value.int z2) → 0 ≤ y14.toInt → y14.toInt ≤ 4 → -y14.toInt + 4 < (n22 : Int) → En 6 177 none mr_15 (P_15e σ0 a b c) 22 [(0, .ref 10), (1, .int a), (2, .int b), (3, .int c), (4, .int y14)] [] σ15 := by
      intro n22
      induction n22 with
      | zero =>
        intro σ15 y14 h16 h17 h18 h19 h20 h21
        first | exact (q_20d6385c6f h21 h20).elim | (exfalso; omega)
      | succ n22 ih22 =>
        intro σ15 y14 h16 h17 h18 h19 h20 h21
        refine En_Ps 2 (pc' := 25) (lv' := [(0, .ref 10), (1, .int a), (2, .int b), (3, .int c), (4, .int y14)]) (st' := [.ref 10, .int y14]) rfl ?_
        refine En_getI (j := 3) (l := 0) (u := 4) rfl rfl rfl tgz_10 (by decide +kernel) h16 (by decide +kernel) (fun z23 h22 h24 h25 => ?_)
        refine En_icGe _ rfl rfl rfl (fun h26 => ?_) (fun h26 => ?_)
        · exact En_ret (v := none) rfl rfl rfl ⟨h16, h17, rfl, trivial⟩
        · refine En_Ps 2 (pc' := 34) (lv' := [(0, .ref 10), (1, .int a), (2, .int b), (3, .int c), (4, .int y14)]) (st' := [.int y14, .int b]) rfl ?_
          refine En_callS rfl rfl rfl rfl rfl rfl rfl rfl rfl (c_108 σ15 h16 b y14) (by decide) (by decide) (fun v28 σ29 h27 => ?_)
          obtain ⟨h30, h31, z33, rfl, h32⟩ := h27
          have h34 := Fr_trans h17 h31 (by decide +kernel)
          refine En_iNe _ rfl rfl (fun h35 => ?_) (fun h35 => ?_)
          · refine En_Ps 1 (pc' := 77) (lv' := [(4, .int ((y14 + Int32.ofInt 1))), (0, .ref 10), (1, .int a), (2, .int b), (3, .int c)]) (st' := []) rfl ?_
            refine En_lv1 (addI rfl (by decide : (Int32.ofInt 1).toInt = 1) (by first | exact q_465ab79ac1 h19 | omega) (by first | exact q_f7282962fd h20 | omega)) (fun z36 h37 => ?_)
            refine En_Ps 1 (pc' := 22) (lv' := [(4, .int z36), (0, .ref 10), (1, .int a), (2, .int b), (3, .int c)]) (st' := []) rfl ?_
            refine En_lv (lv := [(0, .ref 10), (1, .int a), (2, .int b), (3, .int c), (4, .int z36)]) ⟨rfl, rfl, rfl, rfl, rfl, trivial⟩ ?_
            exact ih22 σ29 z36 h30 h34 ((h31 _ _ (inW tgz_10 (by decide +kernel))).trans h18) (by first | exact q_35104ce9d3 h37 h19 | omega) (by first | exact q_de42116b63 h37 h26 h25 | omega) (by first | exact q_3d8d70ace2 h37 h21 | omega)
          · refine En_Ps 1 (pc' := 41) (lv' := [(0, .ref 10), (1, .int a), (2, .int b), (3, .int c), (4, .int y14)]) (st' := [.ref 10]) rfl ?_
            refine En_getU (j := 1) (u := 12) (g' := 12) (q := 0) rfl rfl rfl tgz_10 (by decide +kernel) h30 (by decide +kernel) un_12_12 (fun h38 => ?_)
            refine En_Ps 2 (pc' := 47) (lv' := [(0, .ref 10), (1, .int a), (2, .int b), (3, .int c), (4, .int y14)]) (st' := [.int y14, .int a, .ref 12]) rfl ?_
            refine En_iast (l := 0) (u := 3) rfl rfl tgz_12 (by decide +kernel) (by first | exact q_58e6e51dcc hl_a | omega) (lnI (by decide +kernel : LN _ = 4) (by first | exact q_074a8b422d h13 | omega)) (FTsgl (by decide +kernel)) (rngI rfl (by first | exact q_58e6e51dcc h19 | omega) (by first | exact q_5ab2e90ecc h26 h25 | omega)) h30 h34 (by decide +kernel) (fun σ40 h41 h42 h43 h44 => ?_)
            refine En_Ps 4 (pc' := 52) (lv' := [(0, .ref 10), (1, .int a), (2, .int b), (3, .int c), (4, .int y14)]) (st' := [.int ((a + ((Int32.ofInt 1)))), .ref 10]) rfl ?_
            refine En_top (addI rfl (by decide : (Int32.ofInt 1).toInt = 1) (by first | exact q_465ab79ac1 hl_a | omega) (by first | exact q_d8bf7f475a h13 | omega)) (fun z45 h46 => ?_)
            refine En_Ps 4 (pc' := 57) (lv' := [(0, .ref 10), (1, .int a), (2, .int b), (3, .int c), (4, .int y14)]) (st' := [.int ((((Int32.ofInt 1)) <<< (y14 &&& 31))), .int b, .int z45, .ref 10]) rfl ?_
            refine En_rng (shl1_p 3 rfl (by omega) (by omega) (by decide)) (fun z47 h48 h49 => ?_)
            refine En_Ps 1 (pc' := 58) (lv' := [(0, .ref 10), (1, .int a), (2, .int b), (3, .int c), (4, .int y14)]) (st' := [.int ((b ||| z47)), .int z45, .ref 10]) rfl ?_
            refine En_hav (fun z50 => ?_)
            refine En_Ps 2 (pc' := 60) (lv' := [(0, .ref 10), (1, .int a), (2, .int b), (3, .int c), (4, .int y14)]) (st' := [.ref 10, .int c, .int z50, .int z45, .ref 10]) rfl ?_
            refine En_getU (j := 0) (u := 11) (g' := 11) (q := 0) rfl rfl rfl tgz_10 (by decide +kernel) h41 (by decide +kernel) un_11_11 (fun h51 => ?_)
            refine En_Ps 3 (pc' := 66) (lv' := [(0, .ref 10), (1, .int a), (2, .int b), (3, .int c), (4, .int y14)]) (st' := [.int ((a * ((Int32.ofInt 4)))), .ref 11, .int c, .int z50, .int z45, .ref 10]) rfl ?_
            refine En_top (mulI rfl (by decide : (Int32.ofInt 4).toInt = 4) (Z := 4 * a.toInt) (by first | exact q_37bd5d571c | omega) (by first | exact q_be45967ac2 hl_a | omega) (by first | exact q_2f65254717 h13 | omega)) (fun z53 h54 => ?_)
            refine En_Ps 2 (pc' := 69) (lv' := [(0, .ref 10), (1, .int a), (2, .int b), (3, .int c), (4, .int y14)]) (st' := [.int ((z53 + y14)), .ref 11, .int c, .int z50, .int z45, .ref 10]) rfl ?_
            refine En_top (addI rfl rfl (by first | exact q_1dc55d4c5f h19 h54 hl_a | omega) (by first | exact q_fae0873b70 h26 h54 h13 h25 | omega)) (fun z55 h56 => ?_)
            refine En_iald (l := (-2147483648)) (u := 2147483647) rfl rfl tgz_11 (by decide +kernel) h41 (by first | exact q_5eeacb4bec h56 h19 h54 hl_a | omega) (lnI (by decide +kernel : LN _ = 16) (by first | exact q_7d9dd94cfa h56 h26 h54 h13 h25 | omega)) (FTsgl (by decide +kernel)) (fun z58 h57 h59 h60 => ?_)
            refine En_Ps 1 (pc' := 71) (lv' := [(0, .ref 10), (1, .int a), (2, .int b), (3, .int c), (4, .int y14)]) (st' := [.int ((c + z58)), .int z50, .int z45, .ref 10]) rfl ?_
            refine En_hav (fun z61 => ?_)
            refine En_callS rfl rfl rfl rfl rfl rfl rfl rfl rfl (c_15d σ40 h41 z45 z50 z61 (geI rfl (by first | exact q_246139cee3 h46 hl_a | omega)) (leI rfl (by first | exact q_ddc5c16a68 h46 h13 | omega))) (by decide) (by decide) (fun v63 σ64 h62 => ?_)
            obtain ⟨h65, h66, rfl, h67⟩ := h62
            have h68 := Fr_trans h42 h66 (by decide +kernel)
            refine En_Ps 1 (pc' := 77) (lv' := [(4, .int ((y14 + Int32.ofInt 1))), (0, .ref 10), (1, .int a), (2, .int b), (3, .int c)]) (st' := []) rfl ?_
            refine En_lv1 (addI rfl (by decide : (Int32.ofInt 1).toInt = 1) (by first | exact q_465ab79ac1 h19 | omega) (by first | exact q_f7282962fd h20 | omega)) (fun z69 h70 => ?_)
            refine En_Ps 1 (pc' := 22) (lv' := [(4, .int z69), (0, .ref 10), (1, .int a), (2, .int b), (3, .int c)]) (st' := []) rfl ?_
            refine En_lv (lv := [(0, .ref 10), (1, .int a), (2, .int b), (3, .int c), (4, .int z69)]) ⟨rfl, rfl, rfl, rfl, rfl, trivial⟩ ?_
            exact ih22 σ64 z69 h65 h68 ((h66 _ _ (inW tgz_10 (by decide +kernel))).trans ((h44 _ _ (Or.inl (neTG tgz_10 tgz_12 (by decide)))).trans ((h31 _ _ (inW tgz_10 (by decide +kernel))).trans h18))) (by first | exact q_35104ce9d3 h70 h19 | omega) (by first | exact q_de42116b63 h70 h26 h25 | omega) (by first | exact q_3d8d70ace2 h70 h21 | omega)
    have := (by decide : (Int32.ofInt 0).toInt = 0)
    refine En_lv (lv := [(0, .ref 10), (1, .int a), (2, .int b), (3, .int c), (4, .int ((Int32.ofInt 0)))]) ⟨rfl, rfl, rfl, rfl, rfl, trivial⟩ ?_
    exact key22 (Int.toNat (4) + 1) σ0 ((Int32.ofInt 0)) hσ0 hF0 h1 (by decide) (by decide) (by first | exact toN_lt _ | omega)
/-- DoorSchool$Hanging.search(II)V -/
abbrev P_18 (σ0 : SG) (a : Int32) (b : Int32) : PO := fun v σ => WT σ ∧ Fr [(10, 3), (10, 4), (10, 5), (12, 0), (13, 0)] σ0 σ ∧ v = none ∧ True
set_option maxRecDepth 10000 in
set_option maxHeartbeats 4000000 in
theorem c_18 (σ0 : SG) (hσ0 : WT σ0) (a : Int32) (b : Int32) (hl_a : 0 ≤ a.toInt) (hu_a : a.toInt ≤ 4) (hl_b : 0 ≤ b.toInt) (hu_b : b.toInt ≤ 4) : En 7 201 none mr_18 (P_18 σ0 a b) 0 [(0, .ref 10), (1, .int a), (2, .int b)] [] σ0 := by
  have hF0 : Fr [(10, 3), (10, 4), (10, 5), (12, 0), (13, 0)] σ0 σ0 := Fr_rfl
  refine En_Ps 2 (pc' := 2) (lv' := [(0, .ref 10), (1, .int a), (2, .int b)]) (st' := [.int a, .ref 10]) rfl ?_
  refine En_put (j := 3) rfl rfl rfl tgz_10 (by decide +kernel) rfl (vI (l := 0) (u := 4) (by decide +kernel) rfl (by first | exact q_58e6e51dcc hl_a | omega) (by first | exact q_c82ed93a8c hu_a | omega)) hσ0 hF0 (by decide +kernel) (fun σ1 h2 h3 h4 h5 => ?_)
  refine En_Ps 2 (pc' := 7) (lv' := [(0, .ref 10), (1, .int a), (2, .int b)]) (st' := [.int b, .ref 10]) rfl ?_
  refine En_put (j := 4) rfl rfl rfl tgz_10 (by decide +kernel) rfl (vI (l := 0) (u := 4) (by decide +kernel) rfl (by first | exact q_58e6e51dcc hl_b | omega) (by first | exact q_c82ed93a8c hu_b | omega)) h2 h3 (by decide +kernel) (fun σ6 h7 h8 h9 h10 => ?_)
  refine En_Ps 2 (pc' := 13) (lv' := [(0, .ref 10), (1, .int a), (2, .int b)]) (st' := [.int (((Int8.ofInt 65).toInt32)), .ref 10]) rfl ?_
  refine En_put (j := 5) rfl rfl rfl tgz_10 (by decide +kernel) rfl (vF (by decide +kernel)) h7 h8 (by decide +kernel) (fun σ11 h12 h13 h14 h15 => ?_)
  refine En_Ps 4 (pc' := 20) (lv' := [(0, .ref 10), (1, .int a), (2, .int b)]) (st' := [.int ((Int32.ofInt 0)), .int ((Int32.ofInt 0)), .int ((Int32.ofInt 0)), .ref 10]) rfl ?_
  have := (by decide : ((Int32.ofInt 0)).toInt = 0)
  have := (by decide : ((Int32.ofInt 0)).toInt = 0)
  have := (by decide : ((Int32.ofInt 0)).toInt = 0)
  refine En_callS rfl rfl rfl rfl rfl rfl rfl rfl rfl (c_15e σ11 h12 ((Int32.ofInt 0)) ((Int32.ofInt 0)) ((Int32.ofInt 0)) (geI (by decide : (Int32.ofInt 0).toInt = 0) (by decide)) (leI (by decide : (Int32.ofInt 0).toInt = 0) (by decide))) (by decide) (by decide) (fun v17 σ18 h16 => ?_)
  obtain ⟨h19, h20, rfl, h21⟩ := h16
  have h22 := Fr_trans h13 h20 (by decide +kernel)
  exact En_ret (v := none) rfl rfl rfl ⟨h19, h22, rfl, trivial⟩
/-- DoorSchool$Learner.allKnocks()I -/
abbrev P_19 (σ0 : SG) : PO := fun v σ => WT σ ∧ Fr [] σ0 σ ∧ ∃ ret : Int32, v = some (Value.int ret) ∧ -ret.toInt ≤ 0 ∧ ret.toInt - 65535 ≤ 0
set_option maxRecDepth 10000 in
set_option maxHeartbeats 4000000 in
theorem c_19 (σ0 : SG) (hσ0 : WT σ0) : En 0 0 none mr_19 (P_19 σ0) 0 [(0, .ref 8)] [] σ0 := by
  have hF0 : Fr [] σ0 σ0 := Fr_rfl
  refine En_Ps 2 (pc' := 2) (lv' := [(0, .ref 8)]) (st' := [.ref 8, .int ((Int32.ofInt 1))]) rfl ?_
  refine En_getU (j := 0) (u := 4) (g' := 4) (q := 0) rfl rfl rfl tgz_8 (by decide +kernel) hσ0 (by decide +kernel) un_4_4 (fun h1 => ?_)
  refine En_getI (j := 0) (l := 0) (u := 16) rfl rfl rfl tgz_4 (by decide +kernel) hσ0 (by decide +kernel) (fun z4 h3 h5 h6 => ?_)
  refine En_Ps 1 (pc' := 9) (lv' := [(0, .ref 8)]) (st' := [.int ((((Int32.ofInt 1)) <<< (z4 &&& 31)))]) rfl ?_
  refine En_rng (shl1_p 16 rfl (by omega) (by omega) (by decide)) (fun z7 h8 h9 => ?_)
  refine En_Ps 2 (pc' := 11) (lv' := [(0, .ref 8)]) (st' := [.int ((z7 - ((Int32.ofInt 1))))]) rfl ?_
  refine En_top (subI rfl (by decide : (Int32.ofInt 1).toInt = 1) (by first | exact q_96dadfce4b h8 | omega) (by first | exact q_8661d4233b h9 | omega)) (fun z10 h11 => ?_)
  exact En_ret (v := some (Value.int z10)) rfl rfl rfl ⟨hσ0, hF0, z10, rfl, ⟨by first | exact q_a36023f969 h11 h8 | omega, by first | exact q_3bae1d5aac h11 h9 | omega⟩⟩
/-- DoorSchool.agree(III)Z -/
abbrev P_100 (σ0 : SG) (a : Int32) (b : Int32) (c : Int32) : PO := fun v σ => WT σ ∧ Fr [] σ0 σ ∧ ∃ ret : Int32, v = some (Value.int ret) ∧ -ret.toInt ≤ 0 ∧ ret.toInt - 1 ≤ 0
set_option maxRecDepth 10000 in
set_option maxHeartbeats 4000000 in
theorem c_100 (σ0 : SG) (hσ0 : WT σ0) (a : Int32) (b : Int32) (c : Int32) : En 0 0 none mr_100 (P_100 σ0 a b c) 0 [(0, .int a), (1, .int b), (2, .int c)] [] σ0 := by
  have hF0 : Fr [] σ0 σ0 := Fr_rfl
  refine En_Ps 4 (pc' := 4) (lv' := [(0, .int a), (1, .int b), (2, .int c)]) (st' := [.int ((a ^^^ ((Int32.ofInt (-1))))), .int b]) rfl ?_
  refine En_nam (fun z1 h2 => ?_)
  refine En_Ps 1 (pc' := 5) (lv' := [(0, .int a), (1, .int b), (2, .int c)]) (st' := [.int ((b &&& z1))]) rfl ?_
  refine En_nam (fun z3 h4 => ?_)
  refine En_iNe _ rfl rfl (fun h5 => ?_) (fun h5 => ?_)
  · refine En_Ps 1 (pc' := 19) (lv' := [(0, .int a), (1, .int b), (2, .int c)]) (st' := [.int ((Int32.ofInt 0))]) rfl ?_
    refine En_top (by decide : (Int32.ofInt 0).toInt = 0) (fun z6 h7 => ?_)
    exact En_ret (v := some (Value.int z6)) rfl rfl (retZ rfl rfl (by first | exact q_55451d0a83 h7 | omega) (by first | exact q_87849c3859 h7 | omega)) ⟨hσ0, hF0, z6, rfl, ⟨by first | exact q_097a37c2ae h7 | omega, by first | exact q_e269517bee h7 | omega⟩⟩
  · refine En_Ps 3 (pc' := 11) (lv' := [(0, .int a), (1, .int b), (2, .int c)]) (st' := [.int ((c &&& a))]) rfl ?_
    refine En_hav (fun z8 => ?_)
    refine En_iNe _ rfl rfl (fun h9 => ?_) (fun h9 => ?_)
    · refine En_Ps 1 (pc' := 19) (lv' := [(0, .int a), (1, .int b), (2, .int c)]) (st' := [.int ((Int32.ofInt 0))]) rfl ?_
      refine En_top (by decide : (Int32.ofInt 0).toInt = 0) (fun z10 h11 => ?_)
      exact En_ret (v := some (Value.int z10)) rfl rfl (retZ rfl rfl (by first | exact q_55451d0a83 h11 | omega) (by first | exact q_87849c3859 h11 | omega)) ⟨hσ0, hF0, z10, rfl, ⟨by first | exact q_097a37c2ae h11 | omega, by first | exact q_e269517bee h11 | omega⟩⟩
    · refine En_Ps 2 (pc' := 19) (lv' := [(0, .int a), (1, .int b), (2, .int c)]) (st' := [.int ((Int32.ofInt 1))]) rfl ?_
      refine En_top (by decide : (Int32.ofInt 1).toInt = 1) (fun z12 h13 => ?_)
      exact En_ret (v := some (Value.int z12)) rfl rfl (retZ rfl rfl (by first | exact q_2b07c97645 h13 | omega) (by first | exact q_d9e7cbb253 h13 | omega)) ⟨hσ0, hF0, z12, rfl, ⟨by first | exact q_ad3eee31ca h13 | omega, by first | exact q_81cf297dc4 h13 | omega⟩⟩
/-- DoorSchool$Rules.first(II)I -/
abbrev P_78 (σ0 : SG) (a : Int32) (b : Int32) : PO := fun v σ => WT σ ∧ Fr [] σ0 σ ∧ ∃ ret : Int32, v = some (Value.int ret) ∧ -ret.toInt - 1 ≤ 0 ∧ ret.toInt - 80 ≤ 0
set_option maxRecDepth 10000 in
set_option maxHeartbeats 4000000 in
theorem c_78 (σ0 : SG) (hσ0 : WT σ0) (a : Int32) (b : Int32) : En 1 22 none mr_78 (P_78 σ0 a b) 0 [(0, .ref 4), (1, .int a), (2, .int b)] [] σ0 := by
  have hF0 : Fr [] σ0 σ0 := Fr_rfl
  refine En_Ps 2 (pc' := 2) (lv' := [(3, .int ((Int32.ofInt 0))), (0, .ref 4), (1, .int a), (2, .int b)]) (st' := []) rfl ?_
  have key2 : ∀ (n2 : Nat) (σ2 : SG) (y1 : Int32), WT σ2 → Fr [] σ0 σ2 → 0 ≤ y1.toInt → y1.toInt ≤ 81 → -y1.toInt + 81 < (n2 : Int) → En 1 22 none mr_78 (P_78 σ0 a b) 2 [(0, .ref 4), (1, .int a), (2, .int b), (3, .int y1)] [] σ2 := by
    intro n2
    induction n2 with
    | zero =>
      intro σ2 y1 h3 h4 h5 h6 h7
      first | exact (q_ffef14d449 h7 h6).elim | (exfalso; omega)
    | succ n2 ih2 =>
      intro σ2 y1 h3 h4 h5 h6 h7
      refine En_Ps 2 (pc' := 4) (lv' := [(0, .ref 4), (1, .int a), (2, .int b), (3, .int y1)]) (st' := [.ref 4, .int y1]) rfl ?_
      refine En_getI (j := 1) (l := 0) (u := 81) rfl rfl rfl tgz_4 (by decide +kernel) h3 (by decide +kernel) (fun z9 h8 h10 h11 => ?_)
      refine En_icGe _ rfl rfl rfl (fun h12 => ?_) (fun h12 => ?_)
      · refine En_Ps 1 (pc' := 33) (lv' := [(0, .ref 4), (1, .int a), (2, .int b), (3, .int y1)]) (st' := [.int ((Int32.ofInt (-1)))]) rfl ?_
        refine En_top (by decide : (Int32.ofInt (-1)).toInt = -1) (fun z13 h14 => ?_)
        exact En_ret (v := some (Value.int z13)) rfl rfl rfl ⟨h3, h4, z13, rfl, ⟨by first | exact q_6ba54b61e9 h14 | omega, by first | exact q_ed1bd306dd h14 | omega⟩⟩
      · refine En_Ps 1 (pc' := 11) (lv' := [(0, .ref 4), (1, .int a), (2, .int b), (3, .int y1)]) (st' := [.ref 4]) rfl ?_
        refine En_getU (j := 4) (u := 7) (g' := 7) (q := 0) rfl rfl rfl tgz_4 (by decide +kernel) h3 (by decide +kernel) un_7_7 (fun h15 => ?_)
        refine En_Ps 1 (pc' := 15) (lv' := [(0, .ref 4), (1, .int a), (2, .int b), (3, .int y1)]) (st' := [.int y1, .ref 7]) rfl ?_
        refine En_iald (l := (-2147483648)) (u := 2147483647) rfl rfl tgz_7 (by decide +kernel) h3 (by first | exact q_58e6e51dcc h5 | omega) (lnI (by decide +kernel : LN _ = 81) (by first | exact q_a0e855914a h12 h11 | omega)) (FTsgl (by decide +kernel)) (fun z18 h17 h19 h20 => ?_)
        refine En_Ps 2 (pc' := 18) (lv' := [(0, .ref 4), (1, .int a), (2, .int b), (3, .int y1)]) (st' := [.int b, .int a, .int z18]) rfl ?_
        refine En_callS rfl rfl rfl rfl rfl rfl rfl rfl rfl (c_100 σ2 h3 z18 a b) (by decide) (by decide) (fun v22 σ23 h21 => ?_)
        obtain ⟨h24, h25, z27, rfl, h26⟩ := h21
        have h28 := Fr_trans h4 h25 (by decide +kernel)
        refine En_iEq _ rfl rfl (fun h29 => ?_) (fun h29 => ?_)
        · refine En_Ps 1 (pc' := 29) (lv' := [(3, .int ((y1 + Int32.ofInt 1))), (0, .ref 4), (1, .int a), (2, .int b)]) (st' := []) rfl ?_
          refine En_lv1 (addI rfl (by decide : (Int32.ofInt 1).toInt = 1) (by first | exact q_465ab79ac1 h5 | omega) (by first | exact q_d778ff18c8 h6 | omega)) (fun z30 h31 => ?_)
          refine En_Ps 1 (pc' := 2) (lv' := [(3, .int z30), (0, .ref 4), (1, .int a), (2, .int b)]) (st' := []) rfl ?_
          refine En_lv (lv := [(0, .ref 4), (1, .int a), (2, .int b), (3, .int z30)]) ⟨rfl, rfl, rfl, rfl, trivial⟩ ?_
          exact ih2 σ23 z30 h24 h28 (by first | exact q_35104ce9d3 h31 h5 | omega) (by first | exact q_798b104d48 h31 h12 h11 | omega) (by first | exact q_4ff790945b h31 h7 | omega)
        · refine En_Ps 1 (pc' := 25) (lv' := [(0, .ref 4), (1, .int a), (2, .int b), (3, .int y1)]) (st' := [.int y1]) rfl ?_
          exact En_ret (v := some (Value.int y1)) rfl rfl rfl ⟨h24, h28, y1, rfl, ⟨by first | exact q_565e7b05df h5 | omega, by first | exact q_6b56ae27a7 h12 h11 | omega⟩⟩
  have := (by decide : (Int32.ofInt 0).toInt = 0)
  refine En_lv (lv := [(0, .ref 4), (1, .int a), (2, .int b), (3, .int ((Int32.ofInt 0)))]) ⟨rfl, rfl, rfl, rfl, trivial⟩ ?_
  exact key2 (Int.toNat (81) + 1) σ0 ((Int32.ofInt 0)) hσ0 hF0 (by decide) (by decide) (by first | exact toN_lt _ | omega)
/-- DoorSchool$Learner.nearestOf(II)I -/
abbrev P_26 (σ0 : SG) (a : Int32) (b : Int32) : PO := fun v σ => WT σ ∧ Fr [] σ0 σ ∧ ∃ ret : Int32, v = some (Value.int ret) ∧ True
set_option maxRecDepth 10000 in
set_option maxHeartbeats 4000000 in
theorem c_26 (σ0 : SG) (hσ0 : WT σ0) (a : Int32) (b : Int32) (hl_b : 0 ≤ b.toInt) (hu_b : b.toInt ≤ 15) : En 0 0 none mr_26 (P_26 σ0 a b) 0 [(0, .ref 8), (1, .int a), (2, .int b)] [] σ0 := by
  have hF0 : Fr [] σ0 σ0 := Fr_rfl
  refine En_Ps 2 (pc' := 2) (lv' := [(3, .int ((Int32.ofInt 0))), (0, .ref 8), (1, .int a), (2, .int b)]) (st' := []) rfl ?_
  have key2 : ∀ (n2 : Nat) (σ2 : SG) (y1 : Int32), WT σ2 → Fr [] σ0 σ2 → 0 ≤ y1.toInt → y1.toInt ≤ 5 → -y1.toInt + 5 < (n2 : Int) → En 0 0 none mr_26 (P_26 σ0 a b) 2 [(0, .ref 8), (1, .int a), (2, .int b), (3, .int y1)] [] σ2 := by
    intro n2
    induction n2 with
    | zero =>
      intro σ2 y1 h3 h4 h5 h6 h7
      first | exact (q_94ef5d5129 h7 h6).elim | (exfalso; omega)
    | succ n2 ih2 =>
      intro σ2 y1 h3 h4 h5 h6 h7
      refine En_Ps 2 (pc' := 4) (lv' := [(0, .ref 8), (1, .int a), (2, .int b), (3, .int y1)]) (st' := [.int ((Int32.ofInt 5)), .int y1]) rfl ?_
      refine En_icGe _ rfl (by decide : (Int32.ofInt 5).toInt = 5) rfl (fun h8 => ?_) (fun h8 => ?_)
      · refine En_Ps 1 (pc' := 40) (lv' := [(0, .ref 8), (1, .int a), (2, .int b), (3, .int y1)]) (st' := [.int ((Int32.ofInt 0))]) rfl ?_
        refine En_top (by decide : (Int32.ofInt 0).toInt = 0) (fun z9 h10 => ?_)
        exact En_ret (v := some (Value.int z9)) rfl rfl rfl ⟨h3, h4, z9, rfl, trivial⟩
      · refine En_Ps 2 (pc' := 9) (lv' := [(0, .ref 8), (1, .int a), (2, .int b), (3, .int y1)]) (st' := [.ref 8, .int a]) rfl ?_
        refine En_getU (j := 1) (u := 9) (g' := 9) (q := 0) rfl rfl rfl tgz_8 (by decide +kernel) h3 (by decide +kernel) un_9_9 (fun h11 => ?_)
        refine En_Ps 3 (pc' := 15) (lv' := [(0, .ref 8), (1, .int a), (2, .int b), (3, .int y1)]) (st' := [.int ((b * ((Int32.ofInt 5)))), .ref 9, .int a]) rfl ?_
        refine En_top (mulI rfl (by decide : (Int32.ofInt 5).toInt = 5) (Z := 5 * b.toInt) (by first | exact q_361874dae7 | omega) (by first | exact q_c9e2f3c4aa hl_b | omega) (by first | exact q_082e7e3e85 hu_b | omega)) (fun z13 h14 => ?_)
        refine En_Ps 2 (pc' := 17) (lv' := [(0, .ref 8), (1, .int a), (2, .int b), (3, .int y1)]) (st' := [.int ((z13 + y1)), .ref 9, .int a]) rfl ?_
        refine En_top (addI rfl rfl (by first | exact q_89b509762f h5 h14 hl_b | omega) (by first | exact q_a819299aea h8 h14 hu_b | omega)) (fun z15 h16 => ?_)
        refine En_iald (l := (-2147483648)) (u := 2147483647) rfl rfl tgz_9 (by decide +kernel) h3 (by first | exact q_570e2d6fd6 h16 h5 h14 hl_b | omega) (lnI (by decide +kernel : LN _ = 80) (by first | exact q_06c6e7265f h16 h8 h14 hu_b | omega)) (FTsgl (by decide +kernel)) (fun z18 h17 h19 h20 => ?_)
        refine En_Ps 1 (pc' := 19) (lv' := [(0, .ref 8), (1, .int a), (2, .int b), (3, .int y1)]) (st' := [.int ((a &&& z18))]) rfl ?_
        refine En_hav (fun z21 => ?_)
        refine En_Ps 2 (pc' := 23) (lv' := [(4, .int z21), (0, .ref 8), (1, .int a), (2, .int b), (3, .int y1)]) (st' := [.int z21]) rfl ?_
        refine En_iEq _ rfl rfl (fun h22 => ?_) (fun h22 => ?_)
        · refine En_Ps 1 (pc' := 36) (lv' := [(3, .int ((y1 + Int32.ofInt 1))), (4, .int z21), (0, .ref 8), (1, .int a), (2, .int b)]) (st' := []) rfl ?_
          refine En_lv1 (addI rfl (by decide : (Int32.ofInt 1).toInt = 1) (by first | exact q_465ab79ac1 h5 | omega) (by first | exact q_829a0b1079 h8 | omega)) (fun z23 h24 => ?_)
          refine En_Ps 1 (pc' := 2) (lv' := [(3, .int z23), (4, .int z21), (0, .ref 8), (1, .int a), (2, .int b)]) (st' := []) rfl ?_
          refine En_lv (lv := [(0, .ref 8), (1, .int a), (2, .int b), (3, .int z23)]) ⟨rfl, rfl, rfl, rfl, trivial⟩ ?_
          exact ih2 σ2 z23 h3 h4 (by first | exact q_35104ce9d3 h24 h5 | omega) (by first | exact q_8f49ecd163 h24 h8 | omega) (by first | exact q_4f8c136792 h24 h7 | omega)
        · refine En_Ps 3 (pc' := 31) (lv' := [(4, .int z21), (0, .ref 8), (1, .int a), (2, .int b), (3, .int y1)]) (st' := [.int ((-z21)), .int z21]) rfl ?_
          refine En_hav (fun z25 => ?_)
          refine En_Ps 1 (pc' := 32) (lv' := [(4, .int z21), (0, .ref 8), (1, .int a), (2, .int b), (3, .int y1)]) (st' := [.int ((z21 &&& z25))]) rfl ?_
          refine En_hav (fun z26 => ?_)
          exact En_ret (v := some (Value.int z26)) rfl rfl rfl ⟨h3, h4, z26, rfl, trivial⟩
  have := (by decide : (Int32.ofInt 0).toInt = 0)
  refine En_lv (lv := [(0, .ref 8), (1, .int a), (2, .int b), (3, .int ((Int32.ofInt 0)))]) ⟨rfl, rfl, rfl, rfl, trivial⟩ ?_
  exact key2 (Int.toNat (5) + 1) σ0 ((Int32.ofInt 0)) hσ0 hF0 (by decide) (by decide) (by first | exact toN_lt _ | omega)
/-- DoorSchool$Learner.learnSet(III)I -/
abbrev P_23 (σ0 : SG) (a : Int32) (b : Int32) (c : Int32) : PO := fun v σ => WT σ ∧ Fr [] σ0 σ ∧ ∃ ret : Int32, v = some (Value.int ret) ∧ True
set_option maxRecDepth 10000 in
set_option maxHeartbeats 4000000 in
theorem c_23 (σ0 : SG) (hσ0 : WT σ0) (a : Int32) (b : Int32) (c : Int32) : En 2 45 none mr_23 (P_23 σ0 a b c) 0 [(0, .ref 8), (1, .int a), (2, .int b), (3, .int c)] [] σ0 := by
  have hF0 : Fr [] σ0 σ0 := Fr_rfl
  refine En_Ps 1 (pc' := 1) (lv' := [(0, .ref 8), (1, .int a), (2, .int b), (3, .int c)]) (st' := [.int a]) rfl ?_
  refine En_iNe _ rfl rfl (fun h1 => ?_) (fun h1 => ?_)
  · refine En_Ps 2 (pc' := 10) (lv' := [(0, .ref 8), (1, .int a), (2, .int b), (3, .int c)]) (st' := [.int ((Int32.ofInt 1)), .int a]) rfl ?_
    refine En_icNe _ rfl (by decide : (Int32.ofInt 1).toInt = 1) rfl (fun h2 => ?_) (fun h2 => ?_)
    · refine En_Ps 4 (pc' := 57) (lv' := [(5, .int ((Int32.ofInt 0))), (4, .int ((Int32.ofInt 0))), (0, .ref 8), (1, .int a), (2, .int b), (3, .int c)]) (st' := []) rfl ?_
      have key57 : ∀ (n57 : Nat) (σ5 : SG) (y3 : Int32) (y4 : Int32), WT σ5 → Fr [] σ0 σ5 → 0 ≤ y3.toInt → y3.toInt ≤ 65535 → 0 ≤ y4.toInt → y4.toInt ≤ 16 → -y4.toInt + 16 < (n57 : Int) → En 2 45 none mr_23 (P_23 σ0 a b c) 57 [(0, .ref 8), (1, .int a), (2, .int b), (3, .int c), (4, .int y3), (5, .int y4)] [] σ5 := by
        intro n57
        induction n57 with
        | zero =>
          intro σ5 y3 y4 h6 h7 h8 h9 h10 h11 h12
          first | exact (q_511f6d33ac h12 h11).elim | (exfalso; omega)
        | succ n57 ih57 =>
          intro σ5 y3 y4 h6 h7 h8 h9 h10 h11 h12
          refine En_Ps 2 (pc' := 60) (lv' := [(0, .ref 8), (1, .int a), (2, .int b), (3, .int c), (4, .int y3), (5, .int y4)]) (st' := [.ref 8, .int y4]) rfl ?_
          refine En_getU (j := 0) (u := 4) (g' := 4) (q := 0) rfl rfl rfl tgz_8 (by decide +kernel) h6 (by decide +kernel) un_4_4 (fun h13 => ?_)
          refine En_getI (j := 0) (l := 0) (u := 16) rfl rfl rfl tgz_4 (by decide +kernel) h6 (by decide +kernel) (fun z16 h15 h17 h18 => ?_)
          refine En_icGe _ rfl rfl rfl (fun h19 => ?_) (fun h19 => ?_)
          · refine En_Ps 1 (pc' := 98) (lv' := [(0, .ref 8), (1, .int a), (2, .int b), (3, .int c), (4, .int y3), (5, .int y4)]) (st' := [.int y3]) rfl ?_
            exact En_ret (v := some (Value.int y3)) rfl rfl rfl ⟨h6, h7, y3, rfl, trivial⟩
          · refine En_Ps 3 (pc' := 73) (lv' := [(0, .ref 8), (1, .int a), (2, .int b), (3, .int c), (4, .int y3), (5, .int y4)]) (st' := [.int y4, .int b, .ref 8]) rfl ?_
            refine En_callV rfl rfl rfl rfl rfl rfl rfl rfl tgz_8 (by decide +kernel) rfl (c_26 σ5 h6 b y4 (geI rfl (by first | exact q_58e6e51dcc h10 | omega)) (leI rfl (by first | exact q_3f0e495169 h19 h18 | omega))) (by decide) (by decide) (fun v21 σ22 h20 => ?_)
            obtain ⟨h23, h24, z26, rfl, h25⟩ := h20
            have h27 := Fr_trans h7 h24 (by decide +kernel)
            refine En_Ps 2 (pc' := 78) (lv' := [(0, .ref 8), (1, .int a), (2, .int b), (3, .int c), (4, .int y3), (5, .int y4)]) (st' := [.int ((z26 &&& c))]) rfl ?_
            refine En_hav (fun z28 => ?_)
            refine En_iEq _ rfl rfl (fun h29 => ?_) (fun h29 => ?_)
            · refine En_Ps 1 (pc' := 93) (lv' := [(5, .int ((y4 + Int32.ofInt 1))), (0, .ref 8), (1, .int a), (2, .int b), (3, .int c), (4, .int y3)]) (st' := []) rfl ?_
              refine En_lv1 (addI rfl (by decide : (Int32.ofInt 1).toInt = 1) (by first | exact q_465ab79ac1 h10 | omega) (by first | exact q_f3f8e04381 h11 | omega)) (fun z30 h31 => ?_)
              refine En_Ps 1 (pc' := 57) (lv' := [(5, .int z30), (0, .ref 8), (1, .int a), (2, .int b), (3, .int c), (4, .int y3)]) (st' := []) rfl ?_
              refine En_lv (lv := [(0, .ref 8), (1, .int a), (2, .int b), (3, .int c), (4, .int y3), (5, .int z30)]) ⟨rfl, rfl, rfl, rfl, rfl, rfl, trivial⟩ ?_
              exact ih57 σ22 y3 z30 h23 h27 (by first | exact q_58e6e51dcc h8 | omega) (by first | exact q_36eb0a70bf h9 | omega) (by first | exact q_35104ce9d3 h31 h10 | omega) (by first | exact q_eba8fd3b5f h31 h19 h18 | omega) (by first | exact q_c5d740bdff h31 h12 | omega)
            · refine En_Ps 4 (pc' := 87) (lv' := [(0, .ref 8), (1, .int a), (2, .int b), (3, .int c), (4, .int y3), (5, .int y4)]) (st' := [.int ((((Int32.ofInt 1)) <<< (y4 &&& 31))), .int y3]) rfl ?_
              refine En_rng (shl1_p 15 rfl (by omega) (by omega) (by decide)) (fun z32 h33 h34 => ?_)
              refine En_Ps 1 (pc' := 88) (lv' := [(0, .ref 8), (1, .int a), (2, .int b), (3, .int c), (4, .int y3), (5, .int y4)]) (st' := [.int ((y3 ||| z32))]) rfl ?_
              refine En_rng (l := 0) (u := 65535) (or_rng 16 rfl rfl (by omega) (by omega) (by omega) (by omega) (by decide)) (fun z35 h36 h37 => ?_)
              refine En_Ps 2 (pc' := 93) (lv' := [(5, .int ((y4 + Int32.ofInt 1))), (4, .int z35), (0, .ref 8), (1, .int a), (2, .int b), (3, .int c)]) (st' := []) rfl ?_
              refine En_lv1 (addI rfl (by decide : (Int32.ofInt 1).toInt = 1) (by first | exact q_465ab79ac1 h10 | omega) (by first | exact q_f3f8e04381 h11 | omega)) (fun z38 h39 => ?_)
              refine En_Ps 1 (pc' := 57) (lv' := [(5, .int z38), (4, .int z35), (0, .ref 8), (1, .int a), (2, .int b), (3, .int c)]) (st' := []) rfl ?_
              refine En_lv (lv := [(0, .ref 8), (1, .int a), (2, .int b), (3, .int c), (4, .int z35), (5, .int z38)]) ⟨rfl, rfl, rfl, rfl, rfl, rfl, trivial⟩ ?_
              exact ih57 σ22 z35 z38 h23 h27 (by first | exact q_58e6e51dcc h36 | omega) (by first | exact q_36eb0a70bf h37 | omega) (by first | exact q_35104ce9d3 h39 h10 | omega) (by first | exact q_eba8fd3b5f h39 h19 h18 | omega) (by first | exact q_c5d740bdff h39 h12 | omega)
      have := (by decide : (Int32.ofInt 0).toInt = 0)
      have := (by decide : (Int32.ofInt 0).toInt = 0)
      refine En_lv (lv := [(0, .ref 8), (1, .int a), (2, .int b), (3, .int c), (4, .int ((Int32.ofInt 0))), (5, .int ((Int32.ofInt 0)))]) ⟨rfl, rfl, rfl, rfl, rfl, rfl, trivial⟩ ?_
      exact key57 (Int.toNat (16) + 1) σ0 ((Int32.ofInt 0)) ((Int32.ofInt 0)) hσ0 hF0 (by decide) (by decide) (by decide) (by decide) (by first | exact toN_lt _ | omega)
    · refine En_Ps 1 (pc' := 14) (lv' := [(0, .ref 8), (1, .int a), (2, .int b), (3, .int c)]) (st' := [.ref 8]) rfl ?_
      refine En_getU (j := 0) (u := 4) (g' := 4) (q := 0) rfl rfl rfl tgz_8 (by decide +kernel) hσ0 (by decide +kernel) un_4_4 (fun h40 => ?_)
      refine En_Ps 3 (pc' := 20) (lv' := [(0, .ref 8), (1, .int a), (2, .int b), (3, .int c)]) (st' := [.int ((b &&& c)), .ref 4]) rfl ?_
      refine En_hav (fun z42 => ?_)
      refine En_Ps 4 (pc' := 24) (lv' := [(0, .ref 8), (1, .int a), (2, .int b), (3, .int c)]) (st' := [.int ((c ^^^ ((Int32.ofInt (-1))))), .int b, .int z42, .ref 4]) rfl ?_
      refine En_nam (fun z43 h44 => ?_)
      refine En_Ps 1 (pc' := 25) (lv' := [(0, .ref 8), (1, .int a), (2, .int b), (3, .int c)]) (st' := [.int ((b &&& z43)), .int z42, .ref 4]) rfl ?_
      refine En_nam (fun z45 h46 => ?_)
      refine En_callV rfl rfl rfl rfl rfl rfl rfl rfl tgz_4 (by decide +kernel) rfl (c_78 σ0 hσ0 z42 z45) (by decide) (by decide) (fun v48 σ49 h47 => ?_)
      obtain ⟨h50, h51, z53, rfl, h52⟩ := h47
      have h54 := Fr_trans hF0 h51 (by decide +kernel)
      refine En_Ps 3 (pc' := 33) (lv' := [(4, .int z53), (0, .ref 8), (1, .int a), (2, .int b), (3, .int c)]) (st' := [.int ((Int32.ofInt (-1))), .int z53]) rfl ?_
      refine En_icNe _ rfl (by decide : (Int32.ofInt (-1)).toInt = -1) rfl (fun h55 => ?_) (fun h55 => ?_)
      · refine En_Ps 1 (pc' := 41) (lv' := [(4, .int z53), (0, .ref 8), (1, .int a), (2, .int b), (3, .int c)]) (st' := [.ref 8]) rfl ?_
        refine En_getK (j := 0) ((h51 _ _ (inW tgz_8 (by decide +kernel))).trans h40) rfl rfl rfl tgz_8 (by decide +kernel) ?_
        refine En_getU (j := 4) (u := 7) (g' := 7) (q := 0) rfl rfl rfl tgz_4 (by decide +kernel) h50 (by decide +kernel) un_7_7 (fun h56 => ?_)
        refine En_Ps 1 (pc' := 49) (lv' := [(4, .int z53), (0, .ref 8), (1, .int a), (2, .int b), (3, .int c)]) (st' := [.int z53, .ref 7]) rfl ?_
        refine En_iald (l := (-2147483648)) (u := 2147483647) rfl rfl tgz_7 (by decide +kernel) h50 (by first | exact q_b1cade0df5 h55 h52.1 | omega) (lnI (by decide +kernel : LN _ = 81) (by first | exact q_3ac9ed8367 h52.2 | omega)) (FTsgl (by decide +kernel)) (fun z59 h58 h60 h61 => ?_)
        exact En_ret (v := some (Value.int z59)) rfl rfl rfl ⟨h50, h54, z59, rfl, trivial⟩
      · refine En_Ps 2 (pc' := 50) (lv' := [(4, .int z53), (0, .ref 8), (1, .int a), (2, .int b), (3, .int c)]) (st' := [.int ((Int32.ofInt 0))]) rfl ?_
        refine En_top (by decide : (Int32.ofInt 0).toInt = 0) (fun z62 h63 => ?_)
        exact En_ret (v := some (Value.int z62)) rfl rfl rfl ⟨h50, h54, z62, rfl, trivial⟩
  · refine En_Ps 3 (pc' := 7) (lv' := [(0, .ref 8), (1, .int a), (2, .int b), (3, .int c)]) (st' := [.int ((b &&& c))]) rfl ?_
    refine En_hav (fun z64 => ?_)
    exact En_ret (v := some (Value.int z64)) rfl rfl rfl ⟨hσ0, hF0, z64, rfl, trivial⟩
end
/-! 32.lx.c01 -/
section
/-- DoorSchool$Learner.errorsBy(II)I -/
abbrev P_20 (σ0 : SG) (a : Int32) (b : Int32) : PO := fun v σ => WT σ ∧ Fr [] σ0 σ ∧ ∃ ret : Int32, v = some (Value.int ret) ∧ True
set_option maxRecDepth 10000 in
set_option maxHeartbeats 4000000 in
theorem c_20 (σ0 : SG) (hσ0 : WT σ0) (a : Int32) (b : Int32) : En 3 70 none mr_20 (P_20 σ0 a b) 0 [(0, .ref 8), (1, .int a), (2, .int b)] [] σ0 := by
  have hF0 : Fr [] σ0 σ0 := Fr_rfl
  refine En_Ps 4 (pc' := 5) (lv' := [(4, .int ((Int32.ofInt 0))), (3, .int ((Int32.ofInt 0))), (0, .ref 8), (1, .int a), (2, .int b)]) (st' := []) rfl ?_
  have key5 : ∀ (n5 : Nat) (σ3 : SG) (y1 : Int32) (y2 : Int32), WT σ3 → Fr [] σ0 σ3 → 0 ≤ y2.toInt → y2.toInt ≤ 81 → -y2.toInt + 81 < (n5 : Int) → En 3 70 none mr_20 (P_20 σ0 a b) 5 [(0, .ref 8), (1, .int a), (2, .int b), (3, .int y1), (4, .int y2)] [] σ3 := by
    intro n5
    induction n5 with
    | zero =>
      intro σ3 y1 y2 h4 h5 h6 h7 h8
      first | exact (q_ffef14d449 h8 h7).elim | (exfalso; omega)
    | succ n5 ih5 =>
      intro σ3 y1 y2 h4 h5 h6 h7 h8
      refine En_Ps 2 (pc' := 8) (lv' := [(0, .ref 8), (1, .int a), (2, .int b), (3, .int y1), (4, .int y2)]) (st' := [.ref 8, .int y2]) rfl ?_
      refine En_getU (j := 0) (u := 4) (g' := 4) (q := 0) rfl rfl rfl tgz_8 (by decide +kernel) h4 (by decide +kernel) un_4_4 (fun h9 => ?_)
      refine En_getI (j := 1) (l := 0) (u := 81) rfl rfl rfl tgz_4 (by decide +kernel) h4 (by decide +kernel) (fun z12 h11 h13 h14 => ?_)
      refine En_icGe _ rfl rfl rfl (fun h15 => ?_) (fun h15 => ?_)
      · refine En_Ps 1 (pc' := 57) (lv' := [(0, .ref 8), (1, .int a), (2, .int b), (3, .int y1), (4, .int y2)]) (st' := [.int y1]) rfl ?_
        exact En_ret (v := some (Value.int y1)) rfl rfl rfl ⟨h4, h5, y1, rfl, trivial⟩
      · refine En_Ps 5 (pc' := 22) (lv' := [(0, .ref 8), (1, .int a), (2, .int b), (3, .int y1), (4, .int y2)]) (st' := [.ref 8, .int b, .int a, .ref 8, .int y1]) rfl ?_
        refine En_getK (j := 0) h9 rfl rfl rfl tgz_8 (by decide +kernel) ?_
        refine En_getU (j := 4) (u := 7) (g' := 7) (q := 0) rfl rfl rfl tgz_4 (by decide +kernel) h4 (by decide +kernel) un_7_7 (fun h16 => ?_)
        refine En_Ps 1 (pc' := 30) (lv' := [(0, .ref 8), (1, .int a), (2, .int b), (3, .int y1), (4, .int y2)]) (st' := [.int y2, .ref 7, .int b, .int a, .ref 8, .int y1]) rfl ?_
        refine En_iald (l := (-2147483648)) (u := 2147483647) rfl rfl tgz_7 (by decide +kernel) h4 (by first | exact q_58e6e51dcc h6 | omega) (lnI (by decide +kernel : LN _ = 81) (by first | exact q_a0e855914a h15 h14 | omega)) (FTsgl (by decide +kernel)) (fun z19 h18 h20 h21 => ?_)
        refine En_callV rfl rfl rfl rfl rfl rfl rfl rfl tgz_8 (by decide +kernel) rfl (c_23 σ3 h4 a b z19) (by decide) (by decide) (fun v23 σ24 h22 => ?_)
        obtain ⟨h25, h26, z28, rfl, h27⟩ := h22
        have h29 := Fr_trans h5 h26 (by decide +kernel)
        refine En_Ps 1 (pc' := 35) (lv' := [(0, .ref 8), (1, .int a), (2, .int b), (3, .int y1), (4, .int y2)]) (st' := [.ref 8, .int z28, .int y1]) rfl ?_
        refine En_getK (j := 0) ((h26 _ _ (inW tgz_8 (by decide +kernel))).trans h9) rfl rfl rfl tgz_8 (by decide +kernel) ?_
        refine En_getK (j := 4) ((h26 _ _ (inW tgz_4 (by decide +kernel))).trans h16) rfl rfl rfl tgz_4 (by decide +kernel) ?_
        refine En_Ps 1 (pc' := 43) (lv' := [(0, .ref 8), (1, .int a), (2, .int b), (3, .int y1), (4, .int y2)]) (st' := [.int y2, .ref 7, .int z28, .int y1]) rfl ?_
        refine En_ialdK ((h26 _ _ (inWa tgz_7 (by decide +kernel))).trans h18) rfl rfl tgz_7 (by decide +kernel) h25 (by first | exact q_58e6e51dcc h6 | omega) (lnI (by decide +kernel : LN _ = 81) (by first | exact q_a0e855914a h15 h14 | omega)) ?_
        refine En_Ps 1 (pc' := 45) (lv' := [(0, .ref 8), (1, .int a), (2, .int b), (3, .int y1), (4, .int y2)]) (st' := [.int ((z28 ^^^ z19)), .int y1]) rfl ?_
        refine En_hav (fun z31 => ?_)
        refine En_callS rfl rfl rfl rfl rfl rfl rfl rfl rfl (c_7 σ24 h25 z31) (by decide) (by decide) (fun v33 σ34 h32 => ?_)
        obtain ⟨h35, h36, z38, rfl, h37⟩ := h32
        have h39 := Fr_trans h29 h36 (by decide +kernel)
        refine En_Ps 1 (pc' := 49) (lv' := [(0, .ref 8), (1, .int a), (2, .int b), (3, .int y1), (4, .int y2)]) (st' := [.int ((y1 + z38))]) rfl ?_
        refine En_hav (fun z40 => ?_)
        refine En_Ps 2 (pc' := 53) (lv' := [(4, .int ((y2 + Int32.ofInt 1))), (3, .int z40), (0, .ref 8), (1, .int a), (2, .int b)]) (st' := []) rfl ?_
        refine En_lv1 (addI rfl (by decide : (Int32.ofInt 1).toInt = 1) (by first | exact q_465ab79ac1 h6 | omega) (by first | exact q_d778ff18c8 h7 | omega)) (fun z41 h42 => ?_)
        refine En_Ps 1 (pc' := 5) (lv' := [(4, .int z41), (3, .int z40), (0, .ref 8), (1, .int a), (2, .int b)]) (st' := []) rfl ?_
        refine En_lv (lv := [(0, .ref 8), (1, .int a), (2, .int b), (3, .int z40), (4, .int z41)]) ⟨rfl, rfl, rfl, rfl, rfl, trivial⟩ ?_
        exact ih5 σ34 z40 z41 h35 h39 (by first | exact q_35104ce9d3 h42 h6 | omega) (by first | exact q_798b104d48 h42 h15 h14 | omega) (by first | exact q_4ff790945b h42 h8 | omega)
  have := (by decide : (Int32.ofInt 0).toInt = 0)
  have := (by decide : (Int32.ofInt 0).toInt = 0)
  refine En_lv (lv := [(0, .ref 8), (1, .int a), (2, .int b), (3, .int ((Int32.ofInt 0))), (4, .int ((Int32.ofInt 0)))]) ⟨rfl, rfl, rfl, rfl, rfl, trivial⟩ ?_
  exact key5 (Int.toNat (81) + 1) σ0 ((Int32.ofInt 0)) ((Int32.ofInt 0)) hσ0 hF0 (by decide) (by decide) (by first | exact toN_lt _ | omega)
/-- DoorSchool$Lessons.said(I)I -/
abbrev P_39 (σ0 : SG) (s : Nat) (a : Int32) : PO := fun v σ => WT σ ∧ Fr [] σ0 σ ∧ ∃ ret : Int32, v = some (Value.int ret) ∧ -ret.toInt ≤ 0 ∧ ret.toInt - 65535 ≤ 0
set_option maxRecDepth 10000 in
set_option maxHeartbeats 4000000 in
theorem c_39 (σ0 : SG) (hσ0 : WT σ0) (s : Nat) (hs : TG s = 20) (a : Int32) : En 0 0 none mr_39 (P_39 σ0 s a) 0 [(0, .ref s), (1, .int a)] [] σ0 := by
  have hF0 : Fr [] σ0 σ0 := Fr_rfl
  refine En_Ps 4 (pc' := 4) (lv' := [(3, .int ((Int32.ofInt 0))), (2, .int ((Int32.ofInt 0))), (0, .ref s), (1, .int a)]) (st' := []) rfl ?_
  have key4 : ∀ (n4 : Nat) (σ3 : SG) (y1 : Int32) (y2 : Int32), WT σ3 → Fr [] σ0 σ3 → 0 ≤ y1.toInt → y1.toInt ≤ 65535 → 0 ≤ y2.toInt → y2.toInt ≤ 13 → -y2.toInt + 13 < (n4 : Int) → En 0 0 none mr_39 (P_39 σ0 s a) 4 [(0, .ref s), (1, .int a), (2, .int y1), (3, .int y2)] [] σ3 := by
    intro n4
    induction n4 with
    | zero =>
      intro σ3 y1 y2 h4 h5 h6 h7 h8 h9 h10
      first | exact (q_5583ec5aac h10 h9).elim | (exfalso; omega)
    | succ n4 ih4 =>
      intro σ3 y1 y2 h4 h5 h6 h7 h8 h9 h10
      refine En_Ps 2 (pc' := 6) (lv' := [(0, .ref s), (1, .int a), (2, .int y1), (3, .int y2)]) (st' := [.ref s, .int y2]) rfl ?_
      refine En_getI (j := 2) (l := 0) (u := 13) rfl rfl rfl hs (by decide +kernel) h4 (by decide +kernel) (fun z12 h11 h13 h14 => ?_)
      refine En_icGe _ rfl rfl rfl (fun h15 => ?_) (fun h15 => ?_)
      · refine En_Ps 1 (pc' := 40) (lv' := [(0, .ref s), (1, .int a), (2, .int y1), (3, .int y2)]) (st' := [.int y1]) rfl ?_
        exact En_ret (v := some (Value.int y1)) rfl rfl rfl ⟨h4, h5, y1, rfl, ⟨by first | exact q_c803b490ef h6 | omega, by first | exact q_e7edf0f95a h7 | omega⟩⟩
      · refine En_Ps 1 (pc' := 13) (lv' := [(0, .ref s), (1, .int a), (2, .int y1), (3, .int y2)]) (st' := [.ref s]) rfl ?_
        refine En_getR (j := 1) (g' := 22) (u := 0) rfl rfl rfl hs (by decide +kernel) h4 (by decide +kernel) (fun a17 h16 ha17 => ?_)
        refine En_Ps 1 (pc' := 17) (lv' := [(0, .ref s), (1, .int a), (2, .int y1), (3, .int y2)]) (st' := [.int y2, .ref a17]) rfl ?_
        refine En_iald (l := 0) (u := 1) rfl rfl ha17 (by decide +kernel) h4 (by first | exact q_58e6e51dcc h8 | omega) (lnI (by decide +kernel : LN _ = 13) (by first | exact q_314deb8953 h15 h14 | omega)) (FTsgl (by decide +kernel)) (fun z19 h18 h20 h21 => ?_)
        refine En_Ps 1 (pc' := 19) (lv' := [(0, .ref s), (1, .int a), (2, .int y1), (3, .int y2)]) (st' := [.int a, .int z19]) rfl ?_
        refine En_icNe _ rfl rfl rfl (fun h22 => ?_) (fun h22 => ?_)
        · refine En_Ps 1 (pc' := 36) (lv' := [(3, .int ((y2 + Int32.ofInt 1))), (0, .ref s), (1, .int a), (2, .int y1)]) (st' := []) rfl ?_
          refine En_lv1 (addI rfl (by decide : (Int32.ofInt 1).toInt = 1) (by first | exact q_465ab79ac1 h8 | omega) (by first | exact q_d22f73d43b h9 | omega)) (fun z23 h24 => ?_)
          refine En_Ps 1 (pc' := 4) (lv' := [(3, .int z23), (0, .ref s), (1, .int a), (2, .int y1)]) (st' := []) rfl ?_
          refine En_lv (lv := [(0, .ref s), (1, .int a), (2, .int y1), (3, .int z23)]) ⟨rfl, rfl, rfl, rfl, trivial⟩ ?_
          exact ih4 σ3 y1 z23 h4 h5 (by first | exact q_58e6e51dcc h6 | omega) (by first | exact q_36eb0a70bf h7 | omega) (by first | exact q_35104ce9d3 h24 h8 | omega) (by first | exact q_96e029a9d9 h24 h15 h14 | omega) (by first | exact q_20fedeb4b2 h24 h10 | omega)
        · refine En_Ps 3 (pc' := 25) (lv' := [(0, .ref s), (1, .int a), (2, .int y1), (3, .int y2)]) (st' := [.ref s, .int ((Int32.ofInt 1)), .int y1]) rfl ?_
          refine En_getR (j := 0) (g' := 21) (u := 0) rfl rfl rfl hs (by decide +kernel) h4 (by decide +kernel) (fun a26 h25 ha26 => ?_)
          refine En_Ps 1 (pc' := 29) (lv' := [(0, .ref s), (1, .int a), (2, .int y1), (3, .int y2)]) (st' := [.int y2, .ref a26, .int ((Int32.ofInt 1)), .int y1]) rfl ?_
          refine En_iald (l := 0) (u := 15) rfl rfl ha26 (by decide +kernel) h4 (by first | exact q_58e6e51dcc h8 | omega) (lnI (by decide +kernel : LN _ = 13) (by first | exact q_314deb8953 h15 h14 | omega)) (FTsgl (by decide +kernel)) (fun z28 h27 h29 h30 => ?_)
          refine En_Ps 1 (pc' := 31) (lv' := [(0, .ref s), (1, .int a), (2, .int y1), (3, .int y2)]) (st' := [.int ((((Int32.ofInt 1)) <<< (z28 &&& 31))), .int y1]) rfl ?_
          refine En_rng (shl1_p 15 rfl (by omega) (by omega) (by decide)) (fun z31 h32 h33 => ?_)
          refine En_Ps 1 (pc' := 32) (lv' := [(0, .ref s), (1, .int a), (2, .int y1), (3, .int y2)]) (st' := [.int ((y1 ||| z31))]) rfl ?_
          refine En_rng (l := 0) (u := 65535) (or_rng 16 rfl rfl (by omega) (by omega) (by omega) (by omega) (by decide)) (fun z34 h35 h36 => ?_)
          refine En_Ps 2 (pc' := 36) (lv' := [(3, .int ((y2 + Int32.ofInt 1))), (2, .int z34), (0, .ref s), (1, .int a)]) (st' := []) rfl ?_
          refine En_lv1 (addI rfl (by decide : (Int32.ofInt 1).toInt = 1) (by first | exact q_465ab79ac1 h8 | omega) (by first | exact q_d22f73d43b h9 | omega)) (fun z37 h38 => ?_)
          refine En_Ps 1 (pc' := 4) (lv' := [(3, .int z37), (2, .int z34), (0, .ref s), (1, .int a)]) (st' := []) rfl ?_
          refine En_lv (lv := [(0, .ref s), (1, .int a), (2, .int z34), (3, .int z37)]) ⟨rfl, rfl, rfl, rfl, trivial⟩ ?_
          exact ih4 σ3 z34 z37 h4 h5 (by first | exact q_58e6e51dcc h35 | omega) (by first | exact q_36eb0a70bf h36 | omega) (by first | exact q_35104ce9d3 h38 h8 | omega) (by first | exact q_96e029a9d9 h38 h15 h14 | omega) (by first | exact q_20fedeb4b2 h38 h10 | omega)
  have := (by decide : (Int32.ofInt 0).toInt = 0)
  have := (by decide : (Int32.ofInt 0).toInt = 0)
  refine En_lv (lv := [(0, .ref s), (1, .int a), (2, .int ((Int32.ofInt 0))), (3, .int ((Int32.ofInt 0)))]) ⟨rfl, rfl, rfl, rfl, trivial⟩ ?_
  exact key4 (Int.toNat (13) + 1) σ0 ((Int32.ofInt 0)) ((Int32.ofInt 0)) hσ0 hF0 (by decide) (by decide) (by decide) (by decide) (by first | exact toN_lt _ | omega)
/-- DoorSchool$Lessons.latestOf(I)I -/
abbrev P_36 (σ0 : SG) (s : Nat) (a : Int32) : PO := fun v σ => WT σ ∧ Fr [] σ0 σ ∧ ∃ ret : Int32, v = some (Value.int ret) ∧ -ret.toInt - 1 ≤ 0 ∧ ret.toInt - 12 ≤ 0
set_option maxRecDepth 10000 in
set_option maxHeartbeats 4000000 in
theorem c_36 (σ0 : SG) (hσ0 : WT σ0) (s : Nat) (hs : TG s = 20) (a : Int32) : En 0 0 none mr_36 (P_36 σ0 s a) 0 [(0, .ref s), (1, .int a)] [] σ0 := by
  have hF0 : Fr [] σ0 σ0 := Fr_rfl
  refine En_Ps 1 (pc' := 1) (lv' := [(0, .ref s), (1, .int a)]) (st' := [.ref s]) rfl ?_
  refine En_getI (j := 2) (l := 0) (u := 13) rfl rfl rfl hs (by decide +kernel) hσ0 (by decide +kernel) (fun z2 h1 h3 h4 => ?_)
  refine En_Ps 2 (pc' := 6) (lv' := [(0, .ref s), (1, .int a)]) (st' := [.int ((z2 - ((Int32.ofInt 1))))]) rfl ?_
  refine En_top (subI rfl (by decide : (Int32.ofInt 1).toInt = 1) (by first | exact q_93f9478bef h3 | omega) (by first | exact q_36ce509e97 h4 | omega)) (fun z5 h6 => ?_)
  refine En_Ps 1 (pc' := 7) (lv' := [(2, .int z5), (0, .ref s), (1, .int a)]) (st' := []) rfl ?_
  have key7 : ∀ (n7 : Nat) (σ8 : SG) (y7 : Int32), WT σ8 → Fr [] σ0 σ8 → (σ8 s)[2]? = some (Value.int z2) → (-1) ≤ y7.toInt → y7.toInt ≤ 12 → y7.toInt - z2.toInt + 1 ≤ 0 → y7.toInt + 1 < (n7 : Int) → En 0 0 none mr_36 (P_36 σ0 s a) 7 [(0, .ref s), (1, .int a), (2, .int y7)] [] σ8 := by
    intro n7
    induction n7 with
    | zero =>
      intro σ8 y7 h9 h10 h11 h12 h13 h14 h15
      first | exact (q_d30ca37d8c h12 h15).elim | (exfalso; omega)
    | succ n7 ih7 =>
      intro σ8 y7 h9 h10 h11 h12 h13 h14 h15
      refine En_Ps 1 (pc' := 8) (lv' := [(0, .ref s), (1, .int a), (2, .int y7)]) (st' := [.int y7]) rfl ?_
      refine En_iLt _ rfl rfl (fun h16 => ?_) (fun h16 => ?_)
      · refine En_Ps 1 (pc' := 30) (lv' := [(0, .ref s), (1, .int a), (2, .int y7)]) (st' := [.int ((Int32.ofInt (-1)))]) rfl ?_
        refine En_top (by decide : (Int32.ofInt (-1)).toInt = -1) (fun z17 h18 => ?_)
        exact En_ret (v := some (Value.int z17)) rfl rfl rfl ⟨h9, h10, z17, rfl, ⟨by first | exact q_6ba54b61e9 h18 | omega, by first | exact q_af8bea0708 h18 | omega⟩⟩
      · refine En_Ps 1 (pc' := 12) (lv' := [(0, .ref s), (1, .int a), (2, .int y7)]) (st' := [.ref s]) rfl ?_
        refine En_getR (j := 0) (g' := 21) (u := 0) rfl rfl rfl hs (by decide +kernel) h9 (by decide +kernel) (fun a20 h19 ha20 => ?_)
        refine En_Ps 1 (pc' := 16) (lv' := [(0, .ref s), (1, .int a), (2, .int y7)]) (st' := [.int y7, .ref a20]) rfl ?_
        refine En_iald (l := 0) (u := 15) rfl rfl ha20 (by decide +kernel) h9 (by first | exact q_58e6e51dcc h16 | omega) (lnI (by decide +kernel : LN _ = 13) (by first | exact q_eca5b91a1e h13 | omega)) (FTsgl (by decide +kernel)) (fun z22 h21 h23 h24 => ?_)
        refine En_Ps 1 (pc' := 18) (lv' := [(0, .ref s), (1, .int a), (2, .int y7)]) (st' := [.int a, .int z22]) rfl ?_
        refine En_icNe _ rfl rfl rfl (fun h25 => ?_) (fun h25 => ?_)
        · refine En_Ps 1 (pc' := 26) (lv' := [(2, .int ((y7 + Int32.ofInt (-1)))), (0, .ref s), (1, .int a)]) (st' := []) rfl ?_
          refine En_lv1 (addI rfl (by decide : (Int32.ofInt (-1)).toInt = -1) (by first | exact q_069e58d060 h16 | omega) (by first | exact q_22df3f42b4 h13 | omega)) (fun z26 h27 => ?_)
          refine En_Ps 1 (pc' := 7) (lv' := [(2, .int z26), (0, .ref s), (1, .int a)]) (st' := []) rfl ?_
          refine En_lv (lv := [(0, .ref s), (1, .int a), (2, .int z26)]) ⟨rfl, rfl, rfl, trivial⟩ ?_
          exact ih7 σ8 z26 h9 h10 h11 (by first | exact q_1dc8c15c2b h27 h16 | omega) (by first | exact q_bf87cd541d h27 h13 | omega) (by first | exact q_ad24c9502e h14 h27 | omega) (by first | exact q_03fcbe2dc3 h27 h15 | omega)
        · refine En_Ps 1 (pc' := 22) (lv' := [(0, .ref s), (1, .int a), (2, .int y7)]) (st' := [.int y7]) rfl ?_
          exact En_ret (v := some (Value.int y7)) rfl rfl rfl ⟨h9, h10, y7, rfl, ⟨by first | exact q_565e7b05df h16 | omega, by first | exact q_16c941e15c h13 | omega⟩⟩
  refine En_lv (lv := [(0, .ref s), (1, .int a), (2, .int z5)]) ⟨rfl, rfl, rfl, trivial⟩ ?_
  exact key7 (Int.toNat (z5.toInt + 1) + 1) σ0 z5 hσ0 hF0 h1 (by first | exact q_e2c277696c h6 h3 | omega) (by first | exact q_c1a695b5f4 h6 h4 | omega) (by first | exact q_8e6f8e4fd9 h6 | omega) (by first | exact toN_lt _ | omega)
/-- DoorSchool$Lessons.nearestTo(I)I -/
abbrev P_37 (σ0 : SG) (s : Nat) (a : Int32) : PO := fun v σ => WT σ ∧ Fr [] σ0 σ ∧ ∃ ret : Int32, v = some (Value.int ret) ∧ -ret.toInt - 1 ≤ 0 ∧ ret.toInt - 12 ≤ 0
set_option maxRecDepth 10000 in
set_option maxHeartbeats 4000000 in
theorem c_37 (σ0 : SG) (hσ0 : WT σ0) (s : Nat) (hs : TG s = 20) (a : Int32) : En 1 20 none mr_37 (P_37 σ0 s a) 0 [(0, .ref s), (1, .int a)] [] σ0 := by
  have hF0 : Fr [] σ0 σ0 := Fr_rfl
  refine En_Ps 6 (pc' := 7) (lv' := [(4, .int ((Int32.ofInt 0))), (3, .int ((Int32.ofInt 5))), (2, .int ((Int32.ofInt (-1)))), (0, .ref s), (1, .int a)]) (st' := []) rfl ?_
  have key7 : ∀ (n7 : Nat) (σ4 : SG) (y1 : Int32) (y2 : Int32) (y3 : Int32), WT σ4 → Fr [] σ0 σ4 → (-1) ≤ y1.toInt → y1.toInt ≤ 13 → 0 ≤ y2.toInt → y2.toInt ≤ 5 → 0 ≤ y3.toInt → y3.toInt ≤ 13 → y1.toInt - y3.toInt + 1 ≤ 0 → -y3.toInt + 13 < (n7 : Int) → En 1 20 none mr_37 (P_37 σ0 s a) 7 [(0, .ref s), (1, .int a), (2, .int y1), (3, .int y2), (4, .int y3)] [] σ4 := by
    intro n7
    induction n7 with
    | zero =>
      intro σ4 y1 y2 y3 h5 h6 h7 h8 h9 h10 h11 h12 h13 h14
      first | exact (q_5583ec5aac h14 h12).elim | (exfalso; omega)
    | succ n7 ih7 =>
      intro σ4 y1 y2 y3 h5 h6 h7 h8 h9 h10 h11 h12 h13 h14
      refine En_Ps 2 (pc' := 10) (lv' := [(0, .ref s), (1, .int a), (2, .int y1), (3, .int y2), (4, .int y3)]) (st' := [.ref s, .int y3]) rfl ?_
      refine En_getI (j := 2) (l := 0) (u := 13) rfl rfl rfl hs (by decide +kernel) h5 (by decide +kernel) (fun z16 h15 h17 h18 => ?_)
      refine En_icGe _ rfl rfl rfl (fun h19 => ?_) (fun h19 => ?_)
      · refine En_Ps 1 (pc' := 49) (lv' := [(0, .ref s), (1, .int a), (2, .int y1), (3, .int y2), (4, .int y3)]) (st' := [.int y1]) rfl ?_
        exact En_ret (v := some (Value.int y1)) rfl rfl rfl ⟨h5, h6, y1, rfl, ⟨by first | exact q_909eef6c0e h7 | omega, by first | exact q_e00fafdd26 h13 h12 | omega⟩⟩
      · refine En_Ps 1 (pc' := 17) (lv' := [(0, .ref s), (1, .int a), (2, .int y1), (3, .int y2), (4, .int y3)]) (st' := [.ref s]) rfl ?_
        refine En_getR (j := 0) (g' := 21) (u := 0) rfl rfl rfl hs (by decide +kernel) h5 (by decide +kernel) (fun a21 h20 ha21 => ?_)
        refine En_Ps 1 (pc' := 22) (lv' := [(0, .ref s), (1, .int a), (2, .int y1), (3, .int y2), (4, .int y3)]) (st' := [.int y3, .ref a21]) rfl ?_
        refine En_iald (l := 0) (u := 15) rfl rfl ha21 (by decide +kernel) h5 (by first | exact q_58e6e51dcc h11 | omega) (lnI (by decide +kernel : LN _ = 13) (by first | exact q_314deb8953 h19 h18 | omega)) (FTsgl (by decide +kernel)) (fun z23 h22 h24 h25 => ?_)
        refine En_Ps 2 (pc' := 25) (lv' := [(0, .ref s), (1, .int a), (2, .int y1), (3, .int y2), (4, .int y3)]) (st' := [.int ((z23 ^^^ a))]) rfl ?_
        refine En_hav (fun z26 => ?_)
        refine En_callS rfl rfl rfl rfl rfl rfl rfl rfl rfl (c_7 σ4 h5 z26) (by decide) (by decide) (fun v28 σ29 h27 => ?_)
        obtain ⟨h30, h31, z33, rfl, h32⟩ := h27
        have h34 := Fr_trans h6 h31 (by decide +kernel)
        refine En_Ps 3 (pc' := 33) (lv' := [(5, .int z33), (0, .ref s), (1, .int a), (2, .int y1), (3, .int y2), (4, .int y3)]) (st' := [.int y2, .int z33]) rfl ?_
        refine En_icGe _ rfl rfl rfl (fun h35 => ?_) (fun h35 => ?_)
        · refine En_Ps 1 (pc' := 45) (lv' := [(4, .int ((y3 + Int32.ofInt 1))), (5, .int z33), (0, .ref s), (1, .int a), (2, .int y1), (3, .int y2)]) (st' := []) rfl ?_
          refine En_lv1 (addI rfl (by decide : (Int32.ofInt 1).toInt = 1) (by first | exact q_465ab79ac1 h11 | omega) (by first | exact q_d22f73d43b h12 | omega)) (fun z36 h37 => ?_)
          refine En_Ps 1 (pc' := 7) (lv' := [(4, .int z36), (5, .int z33), (0, .ref s), (1, .int a), (2, .int y1), (3, .int y2)]) (st' := []) rfl ?_
          refine En_lv (lv := [(0, .ref s), (1, .int a), (2, .int y1), (3, .int y2), (4, .int z36)]) ⟨rfl, rfl, rfl, rfl, rfl, trivial⟩ ?_
          exact ih7 σ29 y1 y2 z36 h30 h34 (by first | exact q_77b189e83d h7 | omega) (by first | exact q_7991346fe8 h8 | omega) (by first | exact q_58e6e51dcc h9 | omega) (by first | exact q_d9092b5ca1 h10 | omega) (by first | exact q_35104ce9d3 h37 h11 | omega) (by first | exact q_96e029a9d9 h37 h19 h18 | omega) (by first | exact q_6591527e3e h13 h37 | omega) (by first | exact q_20fedeb4b2 h37 h14 | omega)
        · refine En_Ps 5 (pc' := 45) (lv' := [(4, .int ((y3 + Int32.ofInt 1))), (2, .int y3), (3, .int z33), (5, .int z33), (0, .ref s), (1, .int a)]) (st' := []) rfl ?_
          refine En_lv1 (addI rfl (by decide : (Int32.ofInt 1).toInt = 1) (by first | exact q_465ab79ac1 h11 | omega) (by first | exact q_d22f73d43b h12 | omega)) (fun z38 h39 => ?_)
          refine En_Ps 1 (pc' := 7) (lv' := [(4, .int z38), (2, .int y3), (3, .int z33), (5, .int z33), (0, .ref s), (1, .int a)]) (st' := []) rfl ?_
          refine En_lv (lv := [(0, .ref s), (1, .int a), (2, .int y3), (3, .int z33), (4, .int z38)]) ⟨rfl, rfl, rfl, rfl, rfl, trivial⟩ ?_
          exact ih7 σ29 y3 z33 z38 h30 h34 (by first | exact q_5b439548fc h11 | omega) (by first | exact q_7991346fe8 h12 | omega) (by first | exact q_ef1e8e38bf h32.1 | omega) (by first | exact q_126a3d8de2 h35 h10 | omega) (by first | exact q_35104ce9d3 h39 h11 | omega) (by first | exact q_96e029a9d9 h39 h19 h18 | omega) (by first | exact q_2fedec469a h39 | omega) (by first | exact q_20fedeb4b2 h39 h14 | omega)
  have := (by decide : (Int32.ofInt (-1)).toInt = -1)
  have := (by decide : (Int32.ofInt 5).toInt = 5)
  have := (by decide : (Int32.ofInt 0).toInt = 0)
  refine En_lv (lv := [(0, .ref s), (1, .int a), (2, .int ((Int32.ofInt (-1)))), (3, .int ((Int32.ofInt 5))), (4, .int ((Int32.ofInt 0)))]) ⟨rfl, rfl, rfl, rfl, rfl, trivial⟩ ?_
  exact key7 (Int.toNat (13) + 1) σ0 ((Int32.ofInt (-1))) ((Int32.ofInt 5)) ((Int32.ofInt 0)) hσ0 hF0 (by decide) (by decide) (by decide) (by decide) (by decide) (by decide) (by omega) (by first | exact toN_lt _ | omega)
/-- DoorSchool$Learner.learn(ILDoorSchool$Lessons;)I -/
abbrev P_22 (σ0 : SG) (a : Int32) (b : Nat) : PO := fun v σ => WT σ ∧ Fr [] σ0 σ ∧ ∃ ret : Int32, v = some (Value.int ret) ∧ True
set_option maxRecDepth 10000 in
set_option maxHeartbeats 4000000 in
theorem c_22 (σ0 : SG) (hσ0 : WT σ0) (a : Int32) (b : Nat) (hb : TG b = 20) : En 2 45 none mr_22 (P_22 σ0 a b) 0 [(0, .ref 8), (1, .int a), (2, .ref b)] [] σ0 := by
  have hF0 : Fr [] σ0 σ0 := Fr_rfl
  refine En_Ps 2 (pc' := 2) (lv' := [(0, .ref 8), (1, .int a), (2, .ref b)]) (st' := [.int ((Int32.ofInt 1)), .int a]) rfl ?_
  refine En_icNe _ rfl (by decide : (Int32.ofInt 1).toInt = 1) rfl (fun h1 => ?_) (fun h1 => ?_)
  · refine En_Ps 4 (pc' := 47) (lv' := [(4, .int ((Int32.ofInt 0))), (3, .int ((Int32.ofInt 0))), (0, .ref 8), (1, .int a), (2, .ref b)]) (st' := []) rfl ?_
    have key47 : ∀ (n47 : Nat) (σ4 : SG) (y2 : Int32) (y3 : Int32), WT σ4 → Fr [] σ0 σ4 → 0 ≤ y2.toInt → y2.toInt ≤ 65535 → 0 ≤ y3.toInt → y3.toInt ≤ 16 → -y3.toInt + 16 < (n47 : Int) → En 2 45 none mr_22 (P_22 σ0 a b) 47 [(0, .ref 8), (1, .int a), (2, .ref b), (3, .int y2), (4, .int y3)] [] σ4 := by
      intro n47
      induction n47 with
      | zero =>
        intro σ4 y2 y3 h5 h6 h7 h8 h9 h10 h11
        first | exact (q_511f6d33ac h11 h10).elim | (exfalso; omega)
      | succ n47 ih47 =>
        intro σ4 y2 y3 h5 h6 h7 h8 h9 h10 h11
        refine En_Ps 2 (pc' := 50) (lv' := [(0, .ref 8), (1, .int a), (2, .ref b), (3, .int y2), (4, .int y3)]) (st' := [.ref 8, .int y3]) rfl ?_
        refine En_getU (j := 0) (u := 4) (g' := 4) (q := 0) rfl rfl rfl tgz_8 (by decide +kernel) h5 (by decide +kernel) un_4_4 (fun h12 => ?_)
        refine En_getI (j := 0) (l := 0) (u := 16) rfl rfl rfl tgz_4 (by decide +kernel) h5 (by decide +kernel) (fun z15 h14 h16 h17 => ?_)
        refine En_icGe _ rfl rfl rfl (fun h18 => ?_) (fun h18 => ?_)
        · refine En_Ps 1 (pc' := 111) (lv' := [(0, .ref 8), (1, .int a), (2, .ref b), (3, .int y2), (4, .int y3)]) (st' := [.int y2]) rfl ?_
          exact En_ret (v := some (Value.int y2)) rfl rfl rfl ⟨h5, h6, y2, rfl, trivial⟩
        · refine En_Ps 1 (pc' := 60) (lv' := [(0, .ref 8), (1, .int a), (2, .ref b), (3, .int y2), (4, .int y3)]) (st' := [.int a]) rfl ?_
          refine En_iNe _ rfl rfl (fun h19 => ?_) (fun h19 => ?_)
          · refine En_Ps 2 (pc' := 75) (lv' := [(0, .ref 8), (1, .int a), (2, .ref b), (3, .int y2), (4, .int y3)]) (st' := [.int y3, .ref b]) rfl ?_
            refine En_callV rfl rfl rfl rfl rfl rfl rfl rfl hb (by decide +kernel) rfl (c_37 σ4 h5 b hb y3) (by decide) (by decide) (fun v21 σ22 h20 => ?_)
            obtain ⟨h23, h24, z26, rfl, h25⟩ := h20
            have h27 := Fr_trans h6 h24 (by decide +kernel)
            refine En_Ps 3 (pc' := 83) (lv' := [(5, .int z26), (0, .ref 8), (1, .int a), (2, .ref b), (3, .int y2), (4, .int y3)]) (st' := [.int ((Int32.ofInt (-1))), .int z26]) rfl ?_
            refine En_icEq _ rfl (by decide : (Int32.ofInt (-1)).toInt = -1) rfl (fun h28 => ?_) (fun h28 => ?_)
            · refine En_Ps 1 (pc' := 107) (lv' := [(4, .int ((y3 + Int32.ofInt 1))), (5, .int z26), (0, .ref 8), (1, .int a), (2, .ref b), (3, .int y2)]) (st' := []) rfl ?_
              refine En_lv1 (addI rfl (by decide : (Int32.ofInt 1).toInt = 1) (by first | exact q_465ab79ac1 h9 | omega) (by first | exact q_f3f8e04381 h10 | omega)) (fun z29 h30 => ?_)
              refine En_Ps 1 (pc' := 47) (lv' := [(4, .int z29), (5, .int z26), (0, .ref 8), (1, .int a), (2, .ref b), (3, .int y2)]) (st' := []) rfl ?_
              refine En_lv (lv := [(0, .ref 8), (1, .int a), (2, .ref b), (3, .int y2), (4, .int z29)]) ⟨rfl, rfl, rfl, rfl, rfl, trivial⟩ ?_
              exact ih47 σ22 y2 z29 h23 h27 (by first | exact q_58e6e51dcc h7 | omega) (by first | exact q_36eb0a70bf h8 | omega) (by first | exact q_35104ce9d3 h30 h9 | omega) (by first | exact q_eba8fd3b5f h30 h18 h17 | omega) (by first | exact q_c5d740bdff h30 h11 | omega)
            · refine En_Ps 1 (pc' := 87) (lv' := [(5, .int z26), (0, .ref 8), (1, .int a), (2, .ref b), (3, .int y2), (4, .int y3)]) (st' := [.ref b]) rfl ?_
              refine En_getR (j := 1) (g' := 22) (u := 0) rfl rfl rfl hb (by decide +kernel) h23 (by decide +kernel) (fun a32 h31 ha32 => ?_)
              refine En_Ps 1 (pc' := 92) (lv' := [(5, .int z26), (0, .ref 8), (1, .int a), (2, .ref b), (3, .int y2), (4, .int y3)]) (st' := [.int z26, .ref a32]) rfl ?_
              refine En_iald (l := 0) (u := 1) rfl rfl ha32 (by decide +kernel) h23 (by first | exact q_b1cade0df5 h28 h25.1 | omega) (lnI (by decide +kernel : LN _ = 13) (by first | exact q_f3cf35f0f9 h25.2 | omega)) (FTsgl (by decide +kernel)) (fun z34 h33 h35 h36 => ?_)
              refine En_Ps 1 (pc' := 94) (lv' := [(5, .int z26), (0, .ref 8), (1, .int a), (2, .ref b), (3, .int y2), (4, .int y3)]) (st' := [.int ((Int32.ofInt 1)), .int z34]) rfl ?_
              refine En_icNe _ rfl (by decide : (Int32.ofInt 1).toInt = 1) rfl (fun h37 => ?_) (fun h37 => ?_)
              · refine En_Ps 1 (pc' := 107) (lv' := [(4, .int ((y3 + Int32.ofInt 1))), (5, .int z26), (0, .ref 8), (1, .int a), (2, .ref b), (3, .int y2)]) (st' := []) rfl ?_
                refine En_lv1 (addI rfl (by decide : (Int32.ofInt 1).toInt = 1) (by first | exact q_465ab79ac1 h9 | omega) (by first | exact q_f3f8e04381 h10 | omega)) (fun z38 h39 => ?_)
                refine En_Ps 1 (pc' := 47) (lv' := [(4, .int z38), (5, .int z26), (0, .ref 8), (1, .int a), (2, .ref b), (3, .int y2)]) (st' := []) rfl ?_
                refine En_lv (lv := [(0, .ref 8), (1, .int a), (2, .ref b), (3, .int y2), (4, .int z38)]) ⟨rfl, rfl, rfl, rfl, rfl, trivial⟩ ?_
                exact ih47 σ22 y2 z38 h23 h27 (by first | exact q_58e6e51dcc h7 | omega) (by first | exact q_36eb0a70bf h8 | omega) (by first | exact q_35104ce9d3 h39 h9 | omega) (by first | exact q_eba8fd3b5f h39 h18 h17 | omega) (by first | exact q_c5d740bdff h39 h11 | omega)
              · refine En_Ps 4 (pc' := 102) (lv' := [(5, .int z26), (0, .ref 8), (1, .int a), (2, .ref b), (3, .int y2), (4, .int y3)]) (st' := [.int ((((Int32.ofInt 1)) <<< (y3 &&& 31))), .int y2]) rfl ?_
                refine En_rng (shl1_p 15 rfl (by omega) (by omega) (by decide)) (fun z40 h41 h42 => ?_)
                refine En_Ps 1 (pc' := 103) (lv' := [(5, .int z26), (0, .ref 8), (1, .int a), (2, .ref b), (3, .int y2), (4, .int y3)]) (st' := [.int ((y2 ||| z40))]) rfl ?_
                refine En_rng (l := 0) (u := 65535) (or_rng 16 rfl rfl (by omega) (by omega) (by omega) (by omega) (by decide)) (fun z43 h44 h45 => ?_)
                refine En_Ps 2 (pc' := 107) (lv' := [(4, .int ((y3 + Int32.ofInt 1))), (3, .int z43), (5, .int z26), (0, .ref 8), (1, .int a), (2, .ref b)]) (st' := []) rfl ?_
                refine En_lv1 (addI rfl (by decide : (Int32.ofInt 1).toInt = 1) (by first | exact q_465ab79ac1 h9 | omega) (by first | exact q_f3f8e04381 h10 | omega)) (fun z46 h47 => ?_)
                refine En_Ps 1 (pc' := 47) (lv' := [(4, .int z46), (3, .int z43), (5, .int z26), (0, .ref 8), (1, .int a), (2, .ref b)]) (st' := []) rfl ?_
                refine En_lv (lv := [(0, .ref 8), (1, .int a), (2, .ref b), (3, .int z43), (4, .int z46)]) ⟨rfl, rfl, rfl, rfl, rfl, trivial⟩ ?_
                exact ih47 σ22 z43 z46 h23 h27 (by first | exact q_58e6e51dcc h44 | omega) (by first | exact q_36eb0a70bf h45 | omega) (by first | exact q_35104ce9d3 h47 h9 | omega) (by first | exact q_eba8fd3b5f h47 h18 h17 | omega) (by first | exact q_c5d740bdff h47 h11 | omega)
          · refine En_Ps 2 (pc' := 66) (lv' := [(0, .ref 8), (1, .int a), (2, .ref b), (3, .int y2), (4, .int y3)]) (st' := [.int y3, .ref b]) rfl ?_
            refine En_callV rfl rfl rfl rfl rfl rfl rfl rfl hb (by decide +kernel) rfl (c_36 σ4 h5 b hb y3) (by decide) (by decide) (fun v49 σ50 h48 => ?_)
            obtain ⟨h51, h52, z54, rfl, h53⟩ := h48
            have h55 := Fr_trans h6 h52 (by decide +kernel)
            refine En_Ps 4 (pc' := 83) (lv' := [(5, .int z54), (0, .ref 8), (1, .int a), (2, .ref b), (3, .int y2), (4, .int y3)]) (st' := [.int ((Int32.ofInt (-1))), .int z54]) rfl ?_
            refine En_icEq _ rfl (by decide : (Int32.ofInt (-1)).toInt = -1) rfl (fun h56 => ?_) (fun h56 => ?_)
            · refine En_Ps 1 (pc' := 107) (lv' := [(4, .int ((y3 + Int32.ofInt 1))), (5, .int z54), (0, .ref 8), (1, .int a), (2, .ref b), (3, .int y2)]) (st' := []) rfl ?_
              refine En_lv1 (addI rfl (by decide : (Int32.ofInt 1).toInt = 1) (by first | exact q_465ab79ac1 h9 | omega) (by first | exact q_f3f8e04381 h10 | omega)) (fun z57 h58 => ?_)
              refine En_Ps 1 (pc' := 47) (lv' := [(4, .int z57), (5, .int z54), (0, .ref 8), (1, .int a), (2, .ref b), (3, .int y2)]) (st' := []) rfl ?_
              refine En_lv (lv := [(0, .ref 8), (1, .int a), (2, .ref b), (3, .int y2), (4, .int z57)]) ⟨rfl, rfl, rfl, rfl, rfl, trivial⟩ ?_
              exact ih47 σ50 y2 z57 h51 h55 (by first | exact q_58e6e51dcc h7 | omega) (by first | exact q_36eb0a70bf h8 | omega) (by first | exact q_35104ce9d3 h58 h9 | omega) (by first | exact q_eba8fd3b5f h58 h18 h17 | omega) (by first | exact q_c5d740bdff h58 h11 | omega)
            · refine En_Ps 1 (pc' := 87) (lv' := [(5, .int z54), (0, .ref 8), (1, .int a), (2, .ref b), (3, .int y2), (4, .int y3)]) (st' := [.ref b]) rfl ?_
              refine En_getR (j := 1) (g' := 22) (u := 0) rfl rfl rfl hb (by decide +kernel) h51 (by decide +kernel) (fun a60 h59 ha60 => ?_)
              refine En_Ps 1 (pc' := 92) (lv' := [(5, .int z54), (0, .ref 8), (1, .int a), (2, .ref b), (3, .int y2), (4, .int y3)]) (st' := [.int z54, .ref a60]) rfl ?_
              refine En_iald (l := 0) (u := 1) rfl rfl ha60 (by decide +kernel) h51 (by first | exact q_b1cade0df5 h56 h53.1 | omega) (lnI (by decide +kernel : LN _ = 13) (by first | exact q_f3cf35f0f9 h53.2 | omega)) (FTsgl (by decide +kernel)) (fun z62 h61 h63 h64 => ?_)
              refine En_Ps 1 (pc' := 94) (lv' := [(5, .int z54), (0, .ref 8), (1, .int a), (2, .ref b), (3, .int y2), (4, .int y3)]) (st' := [.int ((Int32.ofInt 1)), .int z62]) rfl ?_
              refine En_icNe _ rfl (by decide : (Int32.ofInt 1).toInt = 1) rfl (fun h65 => ?_) (fun h65 => ?_)
              · refine En_Ps 1 (pc' := 107) (lv' := [(4, .int ((y3 + Int32.ofInt 1))), (5, .int z54), (0, .ref 8), (1, .int a), (2, .ref b), (3, .int y2)]) (st' := []) rfl ?_
                refine En_lv1 (addI rfl (by decide : (Int32.ofInt 1).toInt = 1) (by first | exact q_465ab79ac1 h9 | omega) (by first | exact q_f3f8e04381 h10 | omega)) (fun z66 h67 => ?_)
                refine En_Ps 1 (pc' := 47) (lv' := [(4, .int z66), (5, .int z54), (0, .ref 8), (1, .int a), (2, .ref b), (3, .int y2)]) (st' := []) rfl ?_
                refine En_lv (lv := [(0, .ref 8), (1, .int a), (2, .ref b), (3, .int y2), (4, .int z66)]) ⟨rfl, rfl, rfl, rfl, rfl, trivial⟩ ?_
                exact ih47 σ50 y2 z66 h51 h55 (by first | exact q_58e6e51dcc h7 | omega) (by first | exact q_36eb0a70bf h8 | omega) (by first | exact q_35104ce9d3 h67 h9 | omega) (by first | exact q_eba8fd3b5f h67 h18 h17 | omega) (by first | exact q_c5d740bdff h67 h11 | omega)
              · refine En_Ps 4 (pc' := 102) (lv' := [(5, .int z54), (0, .ref 8), (1, .int a), (2, .ref b), (3, .int y2), (4, .int y3)]) (st' := [.int ((((Int32.ofInt 1)) <<< (y3 &&& 31))), .int y2]) rfl ?_
                refine En_rng (shl1_p 15 rfl (by omega) (by omega) (by decide)) (fun z68 h69 h70 => ?_)
                refine En_Ps 1 (pc' := 103) (lv' := [(5, .int z54), (0, .ref 8), (1, .int a), (2, .ref b), (3, .int y2), (4, .int y3)]) (st' := [.int ((y2 ||| z68))]) rfl ?_
                refine En_rng (l := 0) (u := 65535) (or_rng 16 rfl rfl (by omega) (by omega) (by omega) (by omega) (by decide)) (fun z71 h72 h73 => ?_)
                refine En_Ps 2 (pc' := 107) (lv' := [(4, .int ((y3 + Int32.ofInt 1))), (3, .int z71), (5, .int z54), (0, .ref 8), (1, .int a), (2, .ref b)]) (st' := []) rfl ?_
                refine En_lv1 (addI rfl (by decide : (Int32.ofInt 1).toInt = 1) (by first | exact q_465ab79ac1 h9 | omega) (by first | exact q_f3f8e04381 h10 | omega)) (fun z74 h75 => ?_)
                refine En_Ps 1 (pc' := 47) (lv' := [(4, .int z74), (3, .int z71), (5, .int z54), (0, .ref 8), (1, .int a), (2, .ref b)]) (st' := []) rfl ?_
                refine En_lv (lv := [(0, .ref 8), (1, .int a), (2, .ref b), (3, .int z71), (4, .int z74)]) ⟨rfl, rfl, rfl, rfl, rfl, trivial⟩ ?_
                exact ih47 σ50 z71 z74 h51 h55 (by first | exact q_58e6e51dcc h72 | omega) (by first | exact q_36eb0a70bf h73 | omega) (by first | exact q_35104ce9d3 h75 h9 | omega) (by first | exact q_eba8fd3b5f h75 h18 h17 | omega) (by first | exact q_c5d740bdff h75 h11 | omega)
    have := (by decide : (Int32.ofInt 0).toInt = 0)
    have := (by decide : (Int32.ofInt 0).toInt = 0)
    refine En_lv (lv := [(0, .ref 8), (1, .int a), (2, .ref b), (3, .int ((Int32.ofInt 0))), (4, .int ((Int32.ofInt 0)))]) ⟨rfl, rfl, rfl, rfl, rfl, trivial⟩ ?_
    exact key47 (Int.toNat (16) + 1) σ0 ((Int32.ofInt 0)) ((Int32.ofInt 0)) hσ0 hF0 (by decide) (by decide) (by decide) (by decide) (by first | exact toN_lt _ | omega)
  · refine En_Ps 1 (pc' := 6) (lv' := [(0, .ref 8), (1, .int a), (2, .ref b)]) (st' := [.ref 8]) rfl ?_
    refine En_getU (j := 0) (u := 4) (g' := 4) (q := 0) rfl rfl rfl tgz_8 (by decide +kernel) hσ0 (by decide +kernel) un_4_4 (fun h76 => ?_)
    refine En_Ps 2 (pc' := 11) (lv' := [(0, .ref 8), (1, .int a), (2, .ref b)]) (st' := [.int ((Int32.ofInt 1)), .ref b, .ref 4]) rfl ?_
    have := (by decide : ((Int32.ofInt 1)).toInt = 1)
    refine En_callV rfl rfl rfl rfl rfl rfl rfl rfl hb (by decide +kernel) rfl (c_39 σ0 hσ0 b hb ((Int32.ofInt 1))) (by decide) (by decide) (fun v79 σ80 h78 => ?_)
    obtain ⟨h81, h82, z84, rfl, h83⟩ := h78
    have h85 := Fr_trans hF0 h82 (by decide +kernel)
    refine En_Ps 2 (pc' := 16) (lv' := [(0, .ref 8), (1, .int a), (2, .ref b)]) (st' := [.int ((Int32.ofInt 0)), .ref b, .int z84, .ref 4]) rfl ?_
    have := (by decide : ((Int32.ofInt 0)).toInt = 0)
    refine En_callV rfl rfl rfl rfl rfl rfl rfl rfl hb (by decide +kernel) rfl (c_39 σ80 h81 b hb ((Int32.ofInt 0))) (by decide) (by decide) (fun v87 σ88 h86 => ?_)
    obtain ⟨h89, h90, z92, rfl, h91⟩ := h86
    have h93 := Fr_trans h85 h90 (by decide +kernel)
    refine En_callV rfl rfl rfl rfl rfl rfl rfl rfl tgz_4 (by decide +kernel) rfl (c_78 σ88 h89 z84 z92) (by decide) (by decide) (fun v95 σ96 h94 => ?_)
    obtain ⟨h97, h98, z100, rfl, h99⟩ := h94
    have h101 := Fr_trans h93 h98 (by decide +kernel)
    refine En_Ps 3 (pc' := 25) (lv' := [(3, .int z100), (0, .ref 8), (1, .int a), (2, .ref b)]) (st' := [.int ((Int32.ofInt (-1))), .int z100]) rfl ?_
    refine En_icNe _ rfl (by decide : (Int32.ofInt (-1)).toInt = -1) rfl (fun h102 => ?_) (fun h102 => ?_)
    · refine En_Ps 1 (pc' := 33) (lv' := [(3, .int z100), (0, .ref 8), (1, .int a), (2, .ref b)]) (st' := [.ref 8]) rfl ?_
      refine En_getK (j := 0) ((h98 _ _ (inW tgz_8 (by decide +kernel))).trans ((h90 _ _ (inW tgz_8 (by decide +kernel))).trans ((h82 _ _ (inW tgz_8 (by decide +kernel))).trans h76))) rfl rfl rfl tgz_8 (by decide +kernel) ?_
      refine En_getU (j := 4) (u := 7) (g' := 7) (q := 0) rfl rfl rfl tgz_4 (by decide +kernel) h97 (by decide +kernel) un_7_7 (fun h103 => ?_)
      refine En_Ps 1 (pc' := 40) (lv' := [(3, .int z100), (0, .ref 8), (1, .int a), (2, .ref b)]) (st' := [.int z100, .ref 7]) rfl ?_
      refine En_iald (l := (-2147483648)) (u := 2147483647) rfl rfl tgz_7 (by decide +kernel) h97 (by first | exact q_b1cade0df5 h102 h99.1 | omega) (lnI (by decide +kernel : LN _ = 81) (by first | exact q_3ac9ed8367 h99.2 | omega)) (FTsgl (by decide +kernel)) (fun z106 h105 h107 h108 => ?_)
      exact En_ret (v := some (Value.int z106)) rfl rfl rfl ⟨h97, h101, z106, rfl, trivial⟩
    · refine En_Ps 2 (pc' := 41) (lv' := [(3, .int z100), (0, .ref 8), (1, .int a), (2, .ref b)]) (st' := [.int ((Int32.ofInt 0))]) rfl ?_
      refine En_top (by decide : (Int32.ofInt 0).toInt = 0) (fun z109 h110 => ?_)
      exact En_ret (v := some (Value.int z109)) rfl rfl rfl ⟨h97, h101, z109, rfl, trivial⟩
/-- DoorSchool$Learner.learntWhole(II)I -/
abbrev P_24 (σ0 : SG) (a : Int32) (b : Int32) : PO := fun v σ => WT σ ∧ Fr [] σ0 σ ∧ ∃ ret : Int32, v = some (Value.int ret) ∧ -ret.toInt ≤ 0 ∧ ret.toInt - 81 ≤ 0
set_option maxRecDepth 10000 in
set_option maxHeartbeats 4000000 in
theorem c_24 (σ0 : SG) (hσ0 : WT σ0) (a : Int32) (b : Int32) : En 3 70 none mr_24 (P_24 σ0 a b) 0 [(0, .ref 8), (1, .int a), (2, .int b)] [] σ0 := by
  have hF0 : Fr [] σ0 σ0 := Fr_rfl
  refine En_Ps 4 (pc' := 5) (lv' := [(4, .int ((Int32.ofInt 0))), (3, .int ((Int32.ofInt 0))), (0, .ref 8), (1, .int a), (2, .int b)]) (st' := []) rfl ?_
  have key5 : ∀ (n5 : Nat) (σ3 : SG) (y1 : Int32) (y2 : Int32), WT σ3 → Fr [] σ0 σ3 → 0 ≤ y1.toInt → y1.toInt ≤ 81 → 0 ≤ y2.toInt → y2.toInt ≤ 81 → y1.toInt - y2.toInt ≤ 0 → -y2.toInt + 81 < (n5 : Int) → En 3 70 none mr_24 (P_24 σ0 a b) 5 [(0, .ref 8), (1, .int a), (2, .int b), (3, .int y1), (4, .int y2)] [] σ3 := by
    intro n5
    induction n5 with
    | zero =>
      intro σ3 y1 y2 h4 h5 h6 h7 h8 h9 h10 h11
      first | exact (q_ffef14d449 h11 h9).elim | (exfalso; omega)
    | succ n5 ih5 =>
      intro σ3 y1 y2 h4 h5 h6 h7 h8 h9 h10 h11
      refine En_Ps 2 (pc' := 8) (lv' := [(0, .ref 8), (1, .int a), (2, .int b), (3, .int y1), (4, .int y2)]) (st' := [.ref 8, .int y2]) rfl ?_
      refine En_getU (j := 0) (u := 4) (g' := 4) (q := 0) rfl rfl rfl tgz_8 (by decide +kernel) h4 (by decide +kernel) un_4_4 (fun h12 => ?_)
      refine En_getI (j := 1) (l := 0) (u := 81) rfl rfl rfl tgz_4 (by decide +kernel) h4 (by decide +kernel) (fun z15 h14 h16 h17 => ?_)
      refine En_icGe _ rfl rfl rfl (fun h18 => ?_) (fun h18 => ?_)
      · refine En_Ps 1 (pc' := 56) (lv' := [(0, .ref 8), (1, .int a), (2, .int b), (3, .int y1), (4, .int y2)]) (st' := [.int y1]) rfl ?_
        exact En_ret (v := some (Value.int y1)) rfl rfl rfl ⟨h4, h5, y1, rfl, ⟨by first | exact q_c803b490ef h6 | omega, by first | exact q_96a57adcaf h7 | omega⟩⟩
      · refine En_Ps 4 (pc' := 21) (lv' := [(0, .ref 8), (1, .int a), (2, .int b), (3, .int y1), (4, .int y2)]) (st' := [.ref 8, .int b, .int a, .ref 8]) rfl ?_
        refine En_getK (j := 0) h12 rfl rfl rfl tgz_8 (by decide +kernel) ?_
        refine En_getU (j := 4) (u := 7) (g' := 7) (q := 0) rfl rfl rfl tgz_4 (by decide +kernel) h4 (by decide +kernel) un_7_7 (fun h19 => ?_)
        refine En_Ps 1 (pc' := 29) (lv' := [(0, .ref 8), (1, .int a), (2, .int b), (3, .int y1), (4, .int y2)]) (st' := [.int y2, .ref 7, .int b, .int a, .ref 8]) rfl ?_
        refine En_iald (l := (-2147483648)) (u := 2147483647) rfl rfl tgz_7 (by decide +kernel) h4 (by first | exact q_58e6e51dcc h8 | omega) (lnI (by decide +kernel : LN _ = 81) (by first | exact q_a0e855914a h18 h17 | omega)) (FTsgl (by decide +kernel)) (fun z22 h21 h23 h24 => ?_)
        refine En_callV rfl rfl rfl rfl rfl rfl rfl rfl tgz_8 (by decide +kernel) rfl (c_23 σ3 h4 a b z22) (by decide) (by decide) (fun v26 σ27 h25 => ?_)
        obtain ⟨h28, h29, z31, rfl, h30⟩ := h25
        have h32 := Fr_trans h5 h29 (by decide +kernel)
        refine En_Ps 1 (pc' := 34) (lv' := [(0, .ref 8), (1, .int a), (2, .int b), (3, .int y1), (4, .int y2)]) (st' := [.ref 8, .int z31]) rfl ?_
        refine En_getK (j := 0) ((h29 _ _ (inW tgz_8 (by decide +kernel))).trans h12) rfl rfl rfl tgz_8 (by decide +kernel) ?_
        refine En_getK (j := 4) ((h29 _ _ (inW tgz_4 (by decide +kernel))).trans h19) rfl rfl rfl tgz_4 (by decide +kernel) ?_
        refine En_Ps 1 (pc' := 42) (lv' := [(0, .ref 8), (1, .int a), (2, .int b), (3, .int y1), (4, .int y2)]) (st' := [.int y2, .ref 7, .int z31]) rfl ?_
        refine En_ialdK ((h29 _ _ (inWa tgz_7 (by decide +kernel))).trans h21) rfl rfl tgz_7 (by decide +kernel) h28 (by first | exact q_58e6e51dcc h8 | omega) (lnI (by decide +kernel : LN _ = 81) (by first | exact q_a0e855914a h18 h17 | omega)) ?_
        refine En_icNe _ rfl rfl rfl (fun h34 => ?_) (fun h34 => ?_)
        · refine En_Ps 1 (pc' := 52) (lv' := [(4, .int ((y2 + Int32.ofInt 1))), (0, .ref 8), (1, .int a), (2, .int b), (3, .int y1)]) (st' := []) rfl ?_
          refine En_lv1 (addI rfl (by decide : (Int32.ofInt 1).toInt = 1) (by first | exact q_465ab79ac1 h8 | omega) (by first | exact q_d778ff18c8 h9 | omega)) (fun z35 h36 => ?_)
          refine En_Ps 1 (pc' := 5) (lv' := [(4, .int z35), (0, .ref 8), (1, .int a), (2, .int b), (3, .int y1)]) (st' := []) rfl ?_
          refine En_lv (lv := [(0, .ref 8), (1, .int a), (2, .int b), (3, .int y1), (4, .int z35)]) ⟨rfl, rfl, rfl, rfl, rfl, trivial⟩ ?_
          exact ih5 σ27 y1 z35 h28 h32 (by first | exact q_58e6e51dcc h6 | omega) (by first | exact q_938d18a0b8 h7 | omega) (by first | exact q_35104ce9d3 h36 h8 | omega) (by first | exact q_798b104d48 h36 h18 h17 | omega) (by first | exact q_3a5e225620 h10 h36 | omega) (by first | exact q_4ff790945b h36 h11 | omega)
        · refine En_Ps 1 (pc' := 49) (lv' := [(3, .int ((y1 + Int32.ofInt 1))), (0, .ref 8), (1, .int a), (2, .int b), (4, .int y2)]) (st' := []) rfl ?_
          refine En_lv1 (addI rfl (by decide : (Int32.ofInt 1).toInt = 1) (by first | exact q_465ab79ac1 h6 | omega) (by first | exact q_d778ff18c8 h7 | omega)) (fun z37 h38 => ?_)
          refine En_Ps 1 (pc' := 52) (lv' := [(4, .int ((y2 + Int32.ofInt 1))), (3, .int z37), (0, .ref 8), (1, .int a), (2, .int b)]) (st' := []) rfl ?_
          refine En_lv1 (addI rfl (by decide : (Int32.ofInt 1).toInt = 1) (by first | exact q_465ab79ac1 h8 | omega) (by first | exact q_d778ff18c8 h9 | omega)) (fun z39 h40 => ?_)
          refine En_Ps 1 (pc' := 5) (lv' := [(4, .int z39), (3, .int z37), (0, .ref 8), (1, .int a), (2, .int b)]) (st' := []) rfl ?_
          refine En_lv (lv := [(0, .ref 8), (1, .int a), (2, .int b), (3, .int z37), (4, .int z39)]) ⟨rfl, rfl, rfl, rfl, rfl, trivial⟩ ?_
          exact ih5 σ27 z37 z39 h28 h32 (by first | exact q_35104ce9d3 h38 h6 | omega) (by first | exact q_d53ed2728c h38 h10 h18 h17 | omega) (by first | exact q_35104ce9d3 h40 h8 | omega) (by first | exact q_798b104d48 h40 h18 h17 | omega) (by first | exact q_1ff421e7a2 h38 h40 h10 | omega) (by first | exact q_4ff790945b h40 h11 | omega)
  have := (by decide : (Int32.ofInt 0).toInt = 0)
  have := (by decide : (Int32.ofInt 0).toInt = 0)
  refine En_lv (lv := [(0, .ref 8), (1, .int a), (2, .int b), (3, .int ((Int32.ofInt 0))), (4, .int ((Int32.ofInt 0)))]) ⟨rfl, rfl, rfl, rfl, rfl, trivial⟩ ?_
  exact key5 (Int.toNat (81) + 1) σ0 ((Int32.ofInt 0)) ((Int32.ofInt 0)) hσ0 hF0 (by decide) (by decide) (by decide) (by decide) (by omega) (by first | exact toN_lt _ | omega)
/-- DoorSchool$Learner.teaches(III)Z -/
abbrev P_30 (σ0 : SG) (a : Int32) (b : Int32) (c : Int32) : PO := fun v σ => WT σ ∧ Fr [] σ0 σ ∧ ∃ ret : Int32, v = some (Value.int ret) ∧ -ret.toInt ≤ 0 ∧ ret.toInt - 1 ≤ 0
set_option maxRecDepth 10000 in
set_option maxHeartbeats 4000000 in
theorem c_30 (σ0 : SG) (hσ0 : WT σ0) (a : Int32) (b : Int32) (c : Int32) : En 3 70 none mr_30 (P_30 σ0 a b c) 0 [(0, .ref 8), (1, .int a), (2, .int b), (3, .int c)] [] σ0 := by
  have hF0 : Fr [] σ0 σ0 := Fr_rfl
  refine En_Ps 2 (pc' := 2) (lv' := [(0, .ref 8), (1, .int a), (2, .int b), (3, .int c)]) (st' := [.int ((Int32.ofInt 2)), .int a]) rfl ?_
  refine En_icEq _ rfl (by decide : (Int32.ofInt 2).toInt = 2) rfl (fun h1 => ?_) (fun h1 => ?_)
  · refine En_Ps 2 (pc' := 25) (lv' := [(4, .int ((Int32.ofInt 0))), (0, .ref 8), (1, .int a), (2, .int b), (3, .int c)]) (st' := []) rfl ?_
    have key25 : ∀ (n25 : Nat) (σ3 : SG) (y2 : Int32), WT σ3 → Fr [] σ0 σ3 → 0 ≤ y2.toInt → y2.toInt ≤ 16 → -y2.toInt + 16 < (n25 : Int) → En 3 70 none mr_30 (P_30 σ0 a b c) 25 [(0, .ref 8), (1, .int a), (2, .int b), (3, .int c), (4, .int y2)] [] σ3 := by
      intro n25
      induction n25 with
      | zero =>
        intro σ3 y2 h4 h5 h6 h7 h8
        first | exact (q_511f6d33ac h8 h7).elim | (exfalso; omega)
      | succ n25 ih25 =>
        intro σ3 y2 h4 h5 h6 h7 h8
        refine En_Ps 2 (pc' := 28) (lv' := [(0, .ref 8), (1, .int a), (2, .int b), (3, .int c), (4, .int y2)]) (st' := [.ref 8, .int y2]) rfl ?_
        refine En_getU (j := 0) (u := 4) (g' := 4) (q := 0) rfl rfl rfl tgz_8 (by decide +kernel) h4 (by decide +kernel) un_4_4 (fun h9 => ?_)
        refine En_getI (j := 0) (l := 0) (u := 16) rfl rfl rfl tgz_4 (by decide +kernel) h4 (by decide +kernel) (fun z12 h11 h13 h14 => ?_)
        refine En_icGe _ rfl rfl rfl (fun h15 => ?_) (fun h15 => ?_)
        · refine En_Ps 1 (pc' := 81) (lv' := [(0, .ref 8), (1, .int a), (2, .int b), (3, .int c), (4, .int y2)]) (st' := [.int ((Int32.ofInt 1))]) rfl ?_
          refine En_top (by decide : (Int32.ofInt 1).toInt = 1) (fun z16 h17 => ?_)
          exact En_ret (v := some (Value.int z16)) rfl rfl (retZ rfl rfl (by first | exact q_2b07c97645 h17 | omega) (by first | exact q_d9e7cbb253 h17 | omega)) ⟨h4, h5, z16, rfl, ⟨by first | exact q_ad3eee31ca h17 | omega, by first | exact q_81cf297dc4 h17 | omega⟩⟩
        · refine En_Ps 3 (pc' := 41) (lv' := [(0, .ref 8), (1, .int a), (2, .int b), (3, .int c), (4, .int y2)]) (st' := [.int y2, .int b, .ref 8]) rfl ?_
          refine En_callV rfl rfl rfl rfl rfl rfl rfl rfl tgz_8 (by decide +kernel) rfl (c_26 σ3 h4 b y2 (geI rfl (by first | exact q_58e6e51dcc h6 | omega)) (leI rfl (by first | exact q_3f0e495169 h15 h14 | omega))) (by decide) (by decide) (fun v19 σ20 h18 => ?_)
          obtain ⟨h21, h22, z24, rfl, h23⟩ := h18
          have h25 := Fr_trans h5 h22 (by decide +kernel)
          refine En_Ps 2 (pc' := 46) (lv' := [(0, .ref 8), (1, .int a), (2, .int b), (3, .int c), (4, .int y2)]) (st' := [.int ((z24 &&& c))]) rfl ?_
          refine En_hav (fun z26 => ?_)
          refine En_iEq _ rfl rfl (fun h27 => ?_) (fun h27 => ?_)
          · refine En_Ps 3 (pc' := 57) (lv' := [(0, .ref 8), (1, .int a), (2, .int b), (3, .int c), (4, .int y2)]) (st' := [.int y2, .int c, .int ((Int32.ofInt 0))]) rfl ?_
            refine En_callS rfl rfl rfl rfl rfl rfl rfl rfl rfl (c_108 σ20 h21 c y2) (by decide) (by decide) (fun v29 σ30 h28 => ?_)
            obtain ⟨h31, h32, z34, rfl, h33⟩ := h28
            have h35 := Fr_trans h25 h32 (by decide +kernel)
            refine En_Ps 1 (pc' := 61) (lv' := [(0, .ref 8), (1, .int a), (2, .int b), (3, .int c), (4, .int y2)]) (st' := [.int ((Int32.ofInt 1)), .int z34, .int ((Int32.ofInt 0))]) rfl ?_
            refine En_icNe _ rfl (by decide : (Int32.ofInt 1).toInt = 1) rfl (fun h36 => ?_) (fun h36 => ?_)
            · refine En_Ps 1 (pc' := 69) (lv' := [(0, .ref 8), (1, .int a), (2, .int b), (3, .int c), (4, .int y2)]) (st' := [.int ((Int32.ofInt 0)), .int ((Int32.ofInt 0))]) rfl ?_
              refine En_icEq _ (by decide : (Int32.ofInt 0).toInt = 0) (by decide : (Int32.ofInt 0).toInt = 0) rfl (fun h37 => ?_) (fun hx => by first | exact (q_4a39151843 hx).elim | (exfalso; omega))
              refine En_Ps 1 (pc' := 77) (lv' := [(4, .int ((y2 + Int32.ofInt 1))), (0, .ref 8), (1, .int a), (2, .int b), (3, .int c)]) (st' := []) rfl ?_
              refine En_lv1 (addI rfl (by decide : (Int32.ofInt 1).toInt = 1) (by first | exact q_465ab79ac1 h6 | omega) (by first | exact q_f3f8e04381 h7 | omega)) (fun z38 h39 => ?_)
              refine En_Ps 1 (pc' := 25) (lv' := [(4, .int z38), (0, .ref 8), (1, .int a), (2, .int b), (3, .int c)]) (st' := []) rfl ?_
              refine En_lv (lv := [(0, .ref 8), (1, .int a), (2, .int b), (3, .int c), (4, .int z38)]) ⟨rfl, rfl, rfl, rfl, rfl, trivial⟩ ?_
              exact ih25 σ30 z38 h31 h35 (by first | exact q_35104ce9d3 h39 h6 | omega) (by first | exact q_eba8fd3b5f h39 h15 h14 | omega) (by first | exact q_c5d740bdff h39 h8 | omega)
            · refine En_Ps 2 (pc' := 69) (lv' := [(0, .ref 8), (1, .int a), (2, .int b), (3, .int c), (4, .int y2)]) (st' := [.int ((Int32.ofInt 1)), .int ((Int32.ofInt 0))]) rfl ?_
              refine En_icEq _ (by decide : (Int32.ofInt 0).toInt = 0) (by decide : (Int32.ofInt 1).toInt = 1) rfl (fun hx => by first | exact (q_8c5bc2806d hx).elim | (exfalso; omega)) (fun h40 => ?_)
              refine En_Ps 1 (pc' := 73) (lv' := [(0, .ref 8), (1, .int a), (2, .int b), (3, .int c), (4, .int y2)]) (st' := [.int ((Int32.ofInt 0))]) rfl ?_
              refine En_top (by decide : (Int32.ofInt 0).toInt = 0) (fun z41 h42 => ?_)
              exact En_ret (v := some (Value.int z41)) rfl rfl (retZ rfl rfl (by first | exact q_55451d0a83 h42 | omega) (by first | exact q_87849c3859 h42 | omega)) ⟨h31, h35, z41, rfl, ⟨by first | exact q_097a37c2ae h42 | omega, by first | exact q_e269517bee h42 | omega⟩⟩
          · refine En_Ps 4 (pc' := 57) (lv' := [(0, .ref 8), (1, .int a), (2, .int b), (3, .int c), (4, .int y2)]) (st' := [.int y2, .int c, .int ((Int32.ofInt 1))]) rfl ?_
            refine En_callS rfl rfl rfl rfl rfl rfl rfl rfl rfl (c_108 σ20 h21 c y2) (by decide) (by decide) (fun v44 σ45 h43 => ?_)
            obtain ⟨h46, h47, z49, rfl, h48⟩ := h43
            have h50 := Fr_trans h25 h47 (by decide +kernel)
            refine En_Ps 1 (pc' := 61) (lv' := [(0, .ref 8), (1, .int a), (2, .int b), (3, .int c), (4, .int y2)]) (st' := [.int ((Int32.ofInt 1)), .int z49, .int ((Int32.ofInt 1))]) rfl ?_
            refine En_icNe _ rfl (by decide : (Int32.ofInt 1).toInt = 1) rfl (fun h51 => ?_) (fun h51 => ?_)
            · refine En_Ps 1 (pc' := 69) (lv' := [(0, .ref 8), (1, .int a), (2, .int b), (3, .int c), (4, .int y2)]) (st' := [.int ((Int32.ofInt 0)), .int ((Int32.ofInt 1))]) rfl ?_
              refine En_icEq _ (by decide : (Int32.ofInt 1).toInt = 1) (by decide : (Int32.ofInt 0).toInt = 0) rfl (fun hx => by first | exact (q_0561915bfe hx).elim | (exfalso; omega)) (fun h52 => ?_)
              refine En_Ps 1 (pc' := 73) (lv' := [(0, .ref 8), (1, .int a), (2, .int b), (3, .int c), (4, .int y2)]) (st' := [.int ((Int32.ofInt 0))]) rfl ?_
              refine En_top (by decide : (Int32.ofInt 0).toInt = 0) (fun z53 h54 => ?_)
              exact En_ret (v := some (Value.int z53)) rfl rfl (retZ rfl rfl (by first | exact q_55451d0a83 h54 | omega) (by first | exact q_87849c3859 h54 | omega)) ⟨h46, h50, z53, rfl, ⟨by first | exact q_097a37c2ae h54 | omega, by first | exact q_e269517bee h54 | omega⟩⟩
            · refine En_Ps 2 (pc' := 69) (lv' := [(0, .ref 8), (1, .int a), (2, .int b), (3, .int c), (4, .int y2)]) (st' := [.int ((Int32.ofInt 1)), .int ((Int32.ofInt 1))]) rfl ?_
              refine En_icEq _ (by decide : (Int32.ofInt 1).toInt = 1) (by decide : (Int32.ofInt 1).toInt = 1) rfl (fun h55 => ?_) (fun hx => by first | exact (q_e060c7ff4b hx).elim | (exfalso; omega))
              refine En_Ps 1 (pc' := 77) (lv' := [(4, .int ((y2 + Int32.ofInt 1))), (0, .ref 8), (1, .int a), (2, .int b), (3, .int c)]) (st' := []) rfl ?_
              refine En_lv1 (addI rfl (by decide : (Int32.ofInt 1).toInt = 1) (by first | exact q_465ab79ac1 h6 | omega) (by first | exact q_f3f8e04381 h7 | omega)) (fun z56 h57 => ?_)
              refine En_Ps 1 (pc' := 25) (lv' := [(4, .int z56), (0, .ref 8), (1, .int a), (2, .int b), (3, .int c)]) (st' := []) rfl ?_
              refine En_lv (lv := [(0, .ref 8), (1, .int a), (2, .int b), (3, .int c), (4, .int z56)]) ⟨rfl, rfl, rfl, rfl, rfl, trivial⟩ ?_
              exact ih25 σ45 z56 h46 h50 (by first | exact q_35104ce9d3 h57 h6 | omega) (by first | exact q_eba8fd3b5f h57 h15 h14 | omega) (by first | exact q_c5d740bdff h57 h8 | omega)
    have := (by decide : (Int32.ofInt 0).toInt = 0)
    refine En_lv (lv := [(0, .ref 8), (1, .int a), (2, .int b), (3, .int c), (4, .int ((Int32.ofInt 0)))]) ⟨rfl, rfl, rfl, rfl, rfl, trivial⟩ ?_
    exact key25 (Int.toNat (16) + 1) σ0 ((Int32.ofInt 0)) hσ0 hF0 (by decide) (by decide) (by first | exact toN_lt _ | omega)
  · refine En_Ps 4 (pc' := 9) (lv' := [(0, .ref 8), (1, .int a), (2, .int b), (3, .int c)]) (st' := [.int c, .int b, .int a, .ref 8]) rfl ?_
    refine En_callV rfl rfl rfl rfl rfl rfl rfl rfl tgz_8 (by decide +kernel) rfl (c_23 σ0 hσ0 a b c) (by decide) (by decide) (fun v59 σ60 h58 => ?_)
    obtain ⟨h61, h62, z64, rfl, h63⟩ := h58
    have h65 := Fr_trans hF0 h62 (by decide +kernel)
    refine En_Ps 1 (pc' := 13) (lv' := [(0, .ref 8), (1, .int a), (2, .int b), (3, .int c)]) (st' := [.int c, .int z64]) rfl ?_
    refine En_icNe _ rfl rfl rfl (fun h66 => ?_) (fun h66 => ?_)
    · refine En_Ps 1 (pc' := 21) (lv' := [(0, .ref 8), (1, .int a), (2, .int b), (3, .int c)]) (st' := [.int ((Int32.ofInt 0))]) rfl ?_
      refine En_top (by decide : (Int32.ofInt 0).toInt = 0) (fun z67 h68 => ?_)
      exact En_ret (v := some (Value.int z67)) rfl rfl (retZ rfl rfl (by first | exact q_55451d0a83 h68 | omega) (by first | exact q_87849c3859 h68 | omega)) ⟨h61, h65, z67, rfl, ⟨by first | exact q_097a37c2ae h68 | omega, by first | exact q_e269517bee h68 | omega⟩⟩
    · refine En_Ps 2 (pc' := 21) (lv' := [(0, .ref 8), (1, .int a), (2, .int b), (3, .int c)]) (st' := [.int ((Int32.ofInt 1))]) rfl ?_
      refine En_top (by decide : (Int32.ofInt 1).toInt = 1) (fun z69 h70 => ?_)
      exact En_ret (v := some (Value.int z69)) rfl rfl (retZ rfl rfl (by first | exact q_2b07c97645 h70 | omega) (by first | exact q_d9e7cbb253 h70 | omega)) ⟨h61, h65, z69, rfl, ⟨by first | exact q_ad3eee31ca h70 | omega, by first | exact q_81cf297dc4 h70 | omega⟩⟩
/-- DoorSchool$Learner.needed(II)I -/
abbrev P_27 (σ0 : SG) (a : Int32) (b : Int32) : PO := fun v σ => WT σ ∧ Fr [] σ0 σ ∧ ∃ ret : Int32, v = some (Value.int ret) ∧ -ret.toInt ≤ 0 ∧ ret.toInt - 65535 ≤ 0
set_option maxRecDepth 10000 in
set_option maxHeartbeats 4000000 in
theorem c_27 (σ0 : SG) (hσ0 : WT σ0) (a : Int32) (b : Int32) : En 4 94 none mr_27 (P_27 σ0 a b) 0 [(0, .ref 8), (1, .int a), (2, .int b)] [] σ0 := by
  have hF0 : Fr [] σ0 σ0 := Fr_rfl
  refine En_Ps 4 (pc' := 5) (lv' := [(4, .int ((Int32.ofInt 0))), (3, .int ((Int32.ofInt 0))), (0, .ref 8), (1, .int a), (2, .int b)]) (st' := []) rfl ?_
  have key5 : ∀ (n5 : Nat) (σ3 : SG) (y1 : Int32) (y2 : Int32), WT σ3 → Fr [] σ0 σ3 → 0 ≤ y1.toInt → y1.toInt ≤ 65535 → 0 ≤ y2.toInt → y2.toInt ≤ 16 → -y2.toInt + 16 < (n5 : Int) → En 4 94 none mr_27 (P_27 σ0 a b) 5 [(0, .ref 8), (1, .int a), (2, .int b), (3, .int y1), (4, .int y2)] [] σ3 := by
    intro n5
    induction n5 with
    | zero =>
      intro σ3 y1 y2 h4 h5 h6 h7 h8 h9 h10
      first | exact (q_511f6d33ac h10 h9).elim | (exfalso; omega)
    | succ n5 ih5 =>
      intro σ3 y1 y2 h4 h5 h6 h7 h8 h9 h10
      refine En_Ps 2 (pc' := 7) (lv' := [(0, .ref 8), (1, .int a), (2, .int b), (3, .int y1), (4, .int y2)]) (st' := [.int ((Int32.ofInt 2)), .int a]) rfl ?_
      refine En_icEq _ rfl (by decide : (Int32.ofInt 2).toInt = 2) rfl (fun h11 => ?_) (fun h11 => ?_)
      · refine En_Ps 1 (pc' := 56) (lv' := [(0, .ref 8), (1, .int a), (2, .int b), (3, .int y1), (4, .int y2)]) (st' := [.int y1]) rfl ?_
        exact En_ret (v := some (Value.int y1)) rfl rfl rfl ⟨h4, h5, y1, rfl, ⟨by first | exact q_c803b490ef h6 | omega, by first | exact q_e7edf0f95a h7 | omega⟩⟩
      · refine En_Ps 2 (pc' := 13) (lv' := [(0, .ref 8), (1, .int a), (2, .int b), (3, .int y1), (4, .int y2)]) (st' := [.ref 8, .int y2]) rfl ?_
        refine En_getU (j := 0) (u := 4) (g' := 4) (q := 0) rfl rfl rfl tgz_8 (by decide +kernel) h4 (by decide +kernel) un_4_4 (fun h12 => ?_)
        refine En_getI (j := 0) (l := 0) (u := 16) rfl rfl rfl tgz_4 (by decide +kernel) h4 (by decide +kernel) (fun z15 h14 h16 h17 => ?_)
        refine En_icGe _ rfl rfl rfl (fun h18 => ?_) (fun h18 => ?_)
        · refine En_Ps 1 (pc' := 56) (lv' := [(0, .ref 8), (1, .int a), (2, .int b), (3, .int y1), (4, .int y2)]) (st' := [.int y1]) rfl ?_
          exact En_ret (v := some (Value.int y1)) rfl rfl rfl ⟨h4, h5, y1, rfl, ⟨by first | exact q_c803b490ef h6 | omega, by first | exact q_e7edf0f95a h7 | omega⟩⟩
        · refine En_Ps 3 (pc' := 25) (lv' := [(0, .ref 8), (1, .int a), (2, .int b), (3, .int y1), (4, .int y2)]) (st' := [.ref 8, .int a, .ref 8]) rfl ?_
          refine En_callV rfl rfl rfl rfl rfl rfl rfl rfl tgz_8 (by decide +kernel) rfl (c_19 σ3 h4) (by decide) (by decide) (fun v20 σ21 h19 => ?_)
          obtain ⟨h22, h23, z25, rfl, h24⟩ := h19
          have h26 := Fr_trans h5 h23 (by decide +kernel)
          refine En_Ps 3 (pc' := 32) (lv' := [(0, .ref 8), (1, .int a), (2, .int b), (3, .int y1), (4, .int y2)]) (st' := [.int ((((Int32.ofInt 1)) <<< (y2 &&& 31))), .int z25, .int a, .ref 8]) rfl ?_
          refine En_rng (shl1_p 15 rfl (by omega) (by omega) (by decide)) (fun z27 h28 h29 => ?_)
          refine En_Ps 2 (pc' := 34) (lv' := [(0, .ref 8), (1, .int a), (2, .int b), (3, .int y1), (4, .int y2)]) (st' := [.int ((z27 ^^^ ((Int32.ofInt (-1))))), .int z25, .int a, .ref 8]) rfl ?_
          refine En_nam (fun z30 h31 => ?_)
          refine En_Ps 1 (pc' := 35) (lv' := [(0, .ref 8), (1, .int a), (2, .int b), (3, .int y1), (4, .int y2)]) (st' := [.int ((z25 &&& z30)), .int a, .ref 8]) rfl ?_
          refine En_nam (fun z32 h33 => ?_)
          obtain ⟨h34, h35⟩ := andn_rng h33 rfl (by omega) (by omega : _ ≤ (65535 : Int))
          refine En_Ps 1 (pc' := 36) (lv' := [(0, .ref 8), (1, .int a), (2, .int b), (3, .int y1), (4, .int y2)]) (st' := [.int b, .int z32, .int a, .ref 8]) rfl ?_
          refine En_callV rfl rfl rfl rfl rfl rfl rfl rfl tgz_8 (by decide +kernel) rfl (c_30 σ21 h22 a z32 b) (by decide) (by decide) (fun v37 σ38 h36 => ?_)
          obtain ⟨h39, h40, z42, rfl, h41⟩ := h36
          have h43 := Fr_trans h26 h40 (by decide +kernel)
          refine En_iNe _ rfl rfl (fun h44 => ?_) (fun h44 => ?_)
          · refine En_Ps 1 (pc' := 52) (lv' := [(4, .int ((y2 + Int32.ofInt 1))), (0, .ref 8), (1, .int a), (2, .int b), (3, .int y1)]) (st' := []) rfl ?_
            refine En_lv1 (addI rfl (by decide : (Int32.ofInt 1).toInt = 1) (by first | exact q_465ab79ac1 h8 | omega) (by first | exact q_f3f8e04381 h9 | omega)) (fun z45 h46 => ?_)
            refine En_Ps 1 (pc' := 5) (lv' := [(4, .int z45), (0, .ref 8), (1, .int a), (2, .int b), (3, .int y1)]) (st' := []) rfl ?_
            refine En_lv (lv := [(0, .ref 8), (1, .int a), (2, .int b), (3, .int y1), (4, .int z45)]) ⟨rfl, rfl, rfl, rfl, rfl, trivial⟩ ?_
            exact ih5 σ38 y1 z45 h39 h43 (by first | exact q_58e6e51dcc h6 | omega) (by first | exact q_36eb0a70bf h7 | omega) (by first | exact q_35104ce9d3 h46 h8 | omega) (by first | exact q_eba8fd3b5f h46 h18 h17 | omega) (by first | exact q_c5d740bdff h46 h10 | omega)
          · refine En_Ps 4 (pc' := 47) (lv' := [(0, .ref 8), (1, .int a), (2, .int b), (3, .int y1), (4, .int y2)]) (st' := [.int ((((Int32.ofInt 1)) <<< (y2 &&& 31))), .int y1]) rfl ?_
            refine En_rng (shl1_p 15 rfl (by omega) (by omega) (by decide)) (fun z47 h48 h49 => ?_)
            refine En_Ps 1 (pc' := 48) (lv' := [(0, .ref 8), (1, .int a), (2, .int b), (3, .int y1), (4, .int y2)]) (st' := [.int ((y1 ||| z47))]) rfl ?_
            refine En_rng (l := 0) (u := 65535) (or_rng 16 rfl rfl (by omega) (by omega) (by omega) (by omega) (by decide)) (fun z50 h51 h52 => ?_)
            refine En_Ps 2 (pc' := 52) (lv' := [(4, .int ((y2 + Int32.ofInt 1))), (3, .int z50), (0, .ref 8), (1, .int a), (2, .int b)]) (st' := []) rfl ?_
            refine En_lv1 (addI rfl (by decide : (Int32.ofInt 1).toInt = 1) (by first | exact q_465ab79ac1 h8 | omega) (by first | exact q_f3f8e04381 h9 | omega)) (fun z53 h54 => ?_)
            refine En_Ps 1 (pc' := 5) (lv' := [(4, .int z53), (3, .int z50), (0, .ref 8), (1, .int a), (2, .int b)]) (st' := []) rfl ?_
            refine En_lv (lv := [(0, .ref 8), (1, .int a), (2, .int b), (3, .int z50), (4, .int z53)]) ⟨rfl, rfl, rfl, rfl, rfl, trivial⟩ ?_
            exact ih5 σ38 z50 z53 h39 h43 (by first | exact q_58e6e51dcc h51 | omega) (by first | exact q_36eb0a70bf h52 | omega) (by first | exact q_35104ce9d3 h54 h8 | omega) (by first | exact q_eba8fd3b5f h54 h18 h17 | omega) (by first | exact q_c5d740bdff h54 h10 | omega)
  have := (by decide : (Int32.ofInt 0).toInt = 0)
  have := (by decide : (Int32.ofInt 0).toInt = 0)
  refine En_lv (lv := [(0, .ref 8), (1, .int a), (2, .int b), (3, .int ((Int32.ofInt 0))), (4, .int ((Int32.ofInt 0)))]) ⟨rfl, rfl, rfl, rfl, rfl, trivial⟩ ?_
  exact key5 (Int.toNat (16) + 1) σ0 ((Int32.ofInt 0)) ((Int32.ofInt 0)) hσ0 hF0 (by decide) (by decide) (by decide) (by decide) (by first | exact toN_lt _ | omega)
/-- DoorSchool$Learner.setBehind(I)I -/
abbrev P_28 (σ0 : SG) (a : Int32) : PO := fun v σ => WT σ ∧ Fr [] σ0 σ ∧ ∃ ret : Int32, v = some (Value.int ret) ∧ True
set_option maxRecDepth 10000 in
set_option maxHeartbeats 4000000 in
theorem c_28 (σ0 : SG) (hσ0 : WT σ0) (a : Int32) : En 1 20 none mr_28 (P_28 σ0 a) 0 [(0, .int a)] [] σ0 := by
  have hF0 : Fr [] σ0 σ0 := Fr_rfl
  refine En_Ps 1 (pc' := 1) (lv' := [(0, .int a)]) (st' := [.int a]) rfl ?_
  refine En_iNe _ rfl rfl (fun h1 => ?_) (fun h1 => ?_)
  · refine En_Ps 4 (pc' := 11) (lv' := [(0, .int a)]) (st' := [.int ((-a)), .int a, .int a]) rfl ?_
    refine En_hav (fun z2 => ?_)
    refine En_Ps 1 (pc' := 12) (lv' := [(0, .int a)]) (st' := [.int ((a &&& z2)), .int a]) rfl ?_
    refine En_hav (fun z3 => ?_)
    refine En_Ps 1 (pc' := 13) (lv' := [(0, .int a)]) (st' := [.int ((a + z3))]) rfl ?_
    refine En_hav (fun z4 => ?_)
    refine En_Ps 6 (pc' := 19) (lv' := [(1, .int z4), (0, .int a)]) (st' := [.int ((a ^^^ z4)), .int ((Int32.ofInt 1)), .int z4]) rfl ?_
    refine En_hav (fun z5 => ?_)
    refine En_callS rfl rfl rfl rfl rfl rfl rfl rfl rfl (c_7 σ0 hσ0 z5) (by decide) (by decide) (fun v7 σ8 h6 => ?_)
    obtain ⟨h9, h10, z12, rfl, h11⟩ := h6
    have h13 := Fr_trans hF0 h10 (by decide +kernel)
    refine En_Ps 2 (pc' := 24) (lv' := [(1, .int z4), (0, .int a)]) (st' := [.int ((z12 - ((Int32.ofInt 2)))), .int ((Int32.ofInt 1)), .int z4]) rfl ?_
    refine En_top (subI rfl (by decide : (Int32.ofInt 2).toInt = 2) (by first | exact q_494a6d6cbd h11.1 | omega) (by first | exact q_1a85466cfe h11.2 | omega)) (fun z14 h15 => ?_)
    refine En_Ps 1 (pc' := 25) (lv' := [(1, .int z4), (0, .int a)]) (st' := [.int ((((Int32.ofInt 1)) <<< (z14 &&& 31))), .int z4]) rfl ?_
    refine En_hav (fun z16 => ?_)
    refine En_Ps 2 (pc' := 27) (lv' := [(1, .int z4), (0, .int a)]) (st' := [.int ((z16 - ((Int32.ofInt 1)))), .int z4]) rfl ?_
    refine En_hav (fun z17 => ?_)
    refine En_Ps 1 (pc' := 28) (lv' := [(1, .int z4), (0, .int a)]) (st' := [.int ((z4 ||| z17))]) rfl ?_
    refine En_hav (fun z18 => ?_)
    exact En_ret (v := some (Value.int z18)) rfl rfl rfl ⟨h9, h13, z18, rfl, trivial⟩
  · refine En_Ps 1 (pc' := 6) (lv' := [(0, .int a)]) (st' := [.int ((65536 : Int32))]) rfl ?_
    refine En_top (by decide : (65536 : Int32).toInt = 65536) (fun z19 h20 => ?_)
    exact En_ret (v := some (Value.int z19)) rfl rfl rfl ⟨hσ0, hF0, z19, rfl, trivial⟩
/-- DoorSchool$Learner.leastSet(II)I -/
abbrev P_25 (σ0 : SG) (a : Int32) (b : Int32) : PO := fun v σ => WT σ ∧ Fr [] σ0 σ ∧ ∃ ret : Int32, v = some (Value.int ret) ∧ ret.toInt - 65535 ≤ 0
set_option maxRecDepth 10000 in
set_option maxHeartbeats 4000000 in
theorem c_25 (σ0 : SG) (hσ0 : WT σ0) (a : Int32) (b : Int32) : En 5 118 none mr_25 (P_25 σ0 a b) 0 [(0, .ref 8), (1, .int a), (2, .int b)] [] σ0 := by
  have hF0 : Fr [] σ0 σ0 := Fr_rfl
  refine En_Ps 3 (pc' := 3) (lv' := [(0, .ref 8), (1, .int a), (2, .int b)]) (st' := [.ref 8, .int a, .ref 8]) rfl ?_
  refine En_callV rfl rfl rfl rfl rfl rfl rfl rfl tgz_8 (by decide +kernel) rfl (c_19 σ0 hσ0) (by decide) (by decide) (fun v2 σ3 h1 => ?_)
  obtain ⟨h4, h5, z7, rfl, h6⟩ := h1
  have h8 := Fr_trans hF0 h5 (by decide +kernel)
  refine En_Ps 1 (pc' := 7) (lv' := [(0, .ref 8), (1, .int a), (2, .int b)]) (st' := [.int b, .int z7, .int a, .ref 8]) rfl ?_
  refine En_callV rfl rfl rfl rfl rfl rfl rfl rfl tgz_8 (by decide +kernel) rfl (c_30 σ3 h4 a z7 b) (by decide) (by decide) (fun v10 σ11 h9 => ?_)
  obtain ⟨h12, h13, z15, rfl, h14⟩ := h9
  have h16 := Fr_trans h8 h13 (by decide +kernel)
  refine En_iNe _ rfl rfl (fun h17 => ?_) (fun h17 => ?_)
  · refine En_Ps 3 (pc' := 18) (lv' := [(0, .ref 8), (1, .int a), (2, .int b)]) (st' := [.int b, .int a, .ref 8]) rfl ?_
    refine En_callV rfl rfl rfl rfl rfl rfl rfl rfl tgz_8 (by decide +kernel) rfl (c_27 σ11 h12 a b) (by decide) (by decide) (fun v19 σ20 h18 => ?_)
    obtain ⟨h21, h22, z24, rfl, h23⟩ := h18
    have h25 := Fr_trans h16 h22 (by decide +kernel)
    refine En_Ps 2 (pc' := 23) (lv' := [(3, .int z24), (0, .ref 8), (1, .int a), (2, .int b)]) (st' := [.int z24]) rfl ?_
    refine En_callS rfl rfl rfl rfl rfl rfl rfl rfl rfl (c_7 σ20 h21 z24) (by decide) (by decide) (fun v27 σ28 h26 => ?_)
    obtain ⟨h29, h30, z32, rfl, h31⟩ := h26
    have h33 := Fr_trans h25 h30 (by decide +kernel)
    refine En_Ps 1 (pc' := 28) (lv' := [(4, .int z32), (3, .int z24), (0, .ref 8), (1, .int a), (2, .int b)]) (st' := []) rfl ?_
    have key28 : ∀ (n28 : Nat) (σ35 : SG) (y34 : Int32), WT σ35 → Fr [] σ0 σ35 → 0 ≤ y34.toInt → y34.toInt ≤ 63 → -y34.toInt + 63 < (n28 : Int) → En 5 118 none mr_25 (P_25 σ0 a b) 28 [(0, .ref 8), (1, .int a), (2, .int b), (3, .int z24), (4, .int y34)] [] σ35 := by
      intro n28
      induction n28 with
      | zero =>
        intro σ35 y34 h36 h37 h38 h39 h40
        first | exact (q_a146501c70 h40 h39).elim | (exfalso; omega)
      | succ n28 ih28 =>
        intro σ35 y34 h36 h37 h38 h39 h40
        refine En_Ps 2 (pc' := 31) (lv' := [(0, .ref 8), (1, .int a), (2, .int b), (3, .int z24), (4, .int y34)]) (st' := [.ref 8, .int y34]) rfl ?_
        refine En_getU (j := 0) (u := 4) (g' := 4) (q := 0) rfl rfl rfl tgz_8 (by decide +kernel) h36 (by decide +kernel) un_4_4 (fun h41 => ?_)
        refine En_getI (j := 0) (l := 0) (u := 16) rfl rfl rfl tgz_4 (by decide +kernel) h36 (by decide +kernel) (fun z44 h43 h45 h46 => ?_)
        refine En_icGt _ rfl rfl rfl (fun h47 => ?_) (fun h47 => ?_)
        · refine En_Ps 1 (pc' := 112) (lv' := [(0, .ref 8), (1, .int a), (2, .int b), (3, .int z24), (4, .int y34)]) (st' := [.int ((Int32.ofInt (-1)))]) rfl ?_
          refine En_top (by decide : (Int32.ofInt (-1)).toInt = -1) (fun z48 h49 => ?_)
          exact En_ret (v := some (Value.int z48)) rfl rfl rfl ⟨h36, h37, z48, rfl, (by first | exact q_79866c756a h49 | omega)⟩
        · refine En_Ps 3 (pc' := 44) (lv' := [(0, .ref 8), (1, .int a), (2, .int b), (3, .int z24), (4, .int y34)]) (st' := [.int ((((Int32.ofInt 1)) <<< (y34 &&& 31)))]) rfl ?_
          refine En_rng (shl1_p 16 rfl (by omega) (by omega) (by decide)) (fun z50 h51 h52 => ?_)
          refine En_Ps 2 (pc' := 46) (lv' := [(0, .ref 8), (1, .int a), (2, .int b), (3, .int z24), (4, .int y34)]) (st' := [.int ((z50 - ((Int32.ofInt 1))))]) rfl ?_
          refine En_top (subI rfl (by decide : (Int32.ofInt 1).toInt = 1) (by first | exact q_96dadfce4b h51 | omega) (by first | exact q_8661d4233b h52 | omega)) (fun z53 h54 => ?_)
          refine En_Ps 3 (pc' := 51) (lv' := [(6, .int ((Int32.ofInt 0))), (5, .int z53), (0, .ref 8), (1, .int a), (2, .int b), (3, .int z24), (4, .int y34)]) (st' := []) rfl ?_
          have key51 : ∀ (n51 : Nat) (σ57 : SG) (y55 : Int32) (y56 : Int32), WT σ57 → Fr [] σ0 σ57 → (σ57 8)[0]? = some (Value.ref 4) → (σ57 4)[0]? = some (Value.int z44) → 0 ≤ y56.toInt → y56.toInt ≤ 65536 → -y56.toInt + 65536 < (n51 : Int) → En 5 118 none mr_25 (P_25 σ0 a b) 51 [(0, .ref 8), (1, .int a), (2, .int b), (3, .int z24), (4, .int y34), (5, .int y55), (6, .int y56)] [] σ57 := by
            intro n51
            induction n51 with
            | zero =>
              intro σ57 y55 y56 h58 h59 h60 h61 h62 h63 h64
              first | exact (q_ec59fb8a68 h64 h63).elim | (exfalso; omega)
            | succ n51 ih51 =>
              intro σ57 y55 y56 h58 h59 h60 h61 h62 h63 h64
              refine En_Ps 2 (pc' := 54) (lv' := [(0, .ref 8), (1, .int a), (2, .int b), (3, .int z24), (4, .int y34), (5, .int y55), (6, .int y56)]) (st' := [.ref 8, .int y56]) rfl ?_
              refine En_callV rfl rfl rfl rfl rfl rfl rfl rfl tgz_8 (by decide +kernel) rfl (c_19 σ57 h58) (by decide) (by decide) (fun v66 σ67 h65 => ?_)
              obtain ⟨h68, h69, z71, rfl, h70⟩ := h65
              have h72 := Fr_trans h59 h69 (by decide +kernel)
              refine En_icGt _ rfl rfl rfl (fun h73 => ?_) (fun h73 => ?_)
              · refine En_Ps 1 (pc' := 108) (lv' := [(4, .int ((y34 + Int32.ofInt 1))), (0, .ref 8), (1, .int a), (2, .int b), (3, .int z24), (5, .int y55), (6, .int y56)]) (st' := []) rfl ?_
                refine En_lv1 (addI rfl (by decide : (Int32.ofInt 1).toInt = 1) (by first | exact q_465ab79ac1 h38 | omega) (by first | exact q_d7c9db3423 h39 | omega)) (fun z74 h75 => ?_)
                refine En_Ps 1 (pc' := 28) (lv' := [(4, .int z74), (0, .ref 8), (1, .int a), (2, .int b), (3, .int z24), (5, .int y55), (6, .int y56)]) (st' := []) rfl ?_
                refine En_lv (lv := [(0, .ref 8), (1, .int a), (2, .int b), (3, .int z24), (4, .int z74)]) ⟨rfl, rfl, rfl, rfl, rfl, trivial⟩ ?_
                exact ih28 σ67 z74 h68 h72 (by first | exact q_35104ce9d3 h75 h38 | omega) (by first | exact q_13f3a24566 h75 h47 h46 | omega) (by first | exact q_46521c46ca h75 h40 | omega)
              · refine En_Ps 2 (pc' := 63) (lv' := [(0, .ref 8), (1, .int a), (2, .int b), (3, .int z24), (4, .int y34), (5, .int y55), (6, .int y56)]) (st' := [.ref 8, .int y55]) rfl ?_
                refine En_callV rfl rfl rfl rfl rfl rfl rfl rfl tgz_8 (by decide +kernel) rfl (c_19 σ67 h68) (by decide) (by decide) (fun v77 σ78 h76 => ?_)
                obtain ⟨h79, h80, z82, rfl, h81⟩ := h76
                have h83 := Fr_trans h72 h80 (by decide +kernel)
                refine En_icGt _ rfl rfl rfl (fun h84 => ?_) (fun h84 => ?_)
                · refine En_Ps 1 (pc' := 108) (lv' := [(4, .int ((y34 + Int32.ofInt 1))), (0, .ref 8), (1, .int a), (2, .int b), (3, .int z24), (5, .int y55), (6, .int y56)]) (st' := []) rfl ?_
                  refine En_lv1 (addI rfl (by decide : (Int32.ofInt 1).toInt = 1) (by first | exact q_465ab79ac1 h38 | omega) (by first | exact q_d7c9db3423 h39 | omega)) (fun z85 h86 => ?_)
                  refine En_Ps 1 (pc' := 28) (lv' := [(4, .int z85), (0, .ref 8), (1, .int a), (2, .int b), (3, .int z24), (5, .int y55), (6, .int y56)]) (st' := []) rfl ?_
                  refine En_lv (lv := [(0, .ref 8), (1, .int a), (2, .int b), (3, .int z24), (4, .int z85)]) ⟨rfl, rfl, rfl, rfl, rfl, trivial⟩ ?_
                  exact ih28 σ78 z85 h79 h83 (by first | exact q_35104ce9d3 h86 h38 | omega) (by first | exact q_13f3a24566 h86 h47 h46 | omega) (by first | exact q_46521c46ca h86 h40 | omega)
                · refine En_Ps 4 (pc' := 74) (lv' := [(0, .ref 8), (1, .int a), (2, .int b), (3, .int z24), (4, .int y34), (5, .int y55), (6, .int y56)]) (st' := [.int ((y55 ^^^ ((Int32.ofInt (-1))))), .int z24]) rfl ?_
                  refine En_nam (fun z87 h88 => ?_)
                  refine En_Ps 1 (pc' := 75) (lv' := [(0, .ref 8), (1, .int a), (2, .int b), (3, .int z24), (4, .int y34), (5, .int y55), (6, .int y56)]) (st' := [.int ((z24 &&& z87))]) rfl ?_
                  refine En_nam (fun z89 h90 => ?_)
                  obtain ⟨h91, h92⟩ := andn_rng h90 rfl (by omega) (by omega : _ ≤ (65535 : Int))
                  refine En_iNe _ rfl rfl (fun h93 => ?_) (fun h93 => ?_)
                  · refine En_Ps 1 (pc' := 94) (lv' := [(0, .ref 8), (1, .int a), (2, .int b), (3, .int z24), (4, .int y34), (5, .int y55), (6, .int y56)]) (st' := [.int y55]) rfl ?_
                    refine En_callS rfl rfl rfl rfl rfl rfl rfl rfl rfl (c_28 σ78 h79 y55) (by decide) (by decide) (fun v95 σ96 h94 => ?_)
                    obtain ⟨h97, h98, z100, rfl, h99⟩ := h94
                    have h101 := Fr_trans h83 h98 (by decide +kernel)
                    refine En_Ps 2 (pc' := 102) (lv' := [(6, .int ((y56 + Int32.ofInt 1))), (5, .int z100), (0, .ref 8), (1, .int a), (2, .int b), (3, .int z24), (4, .int y34)]) (st' := []) rfl ?_
                    refine En_lv1 (addI rfl (by decide : (Int32.ofInt 1).toInt = 1) (by first | exact q_465ab79ac1 h62 | omega) (by first | exact q_1d2cffc2f0 h63 | omega)) (fun z102 h103 => ?_)
                    refine En_Ps 1 (pc' := 51) (lv' := [(6, .int z102), (5, .int z100), (0, .ref 8), (1, .int a), (2, .int b), (3, .int z24), (4, .int y34)]) (st' := []) rfl ?_
                    refine En_lv (lv := [(0, .ref 8), (1, .int a), (2, .int b), (3, .int z24), (4, .int y34), (5, .int z100), (6, .int z102)]) ⟨rfl, rfl, rfl, rfl, rfl, rfl, rfl, trivial⟩ ?_
                    exact ih51 σ96 z100 z102 h97 h101 ((h98 _ _ (inW tgz_8 (by decide +kernel))).trans ((h80 _ _ (inW tgz_8 (by decide +kernel))).trans ((h69 _ _ (inW tgz_8 (by decide +kernel))).trans h60))) ((h98 _ _ (inW tgz_4 (by decide +kernel))).trans ((h80 _ _ (inW tgz_4 (by decide +kernel))).trans ((h69 _ _ (inW tgz_4 (by decide +kernel))).trans h61))) (by first | exact q_35104ce9d3 h103 h62 | omega) (by first | exact q_14f3993466 h103 h73 h70.2 | omega) (by first | exact q_baf82f6f45 h103 h64 | omega)
                  · refine En_Ps 4 (pc' := 83) (lv' := [(0, .ref 8), (1, .int a), (2, .int b), (3, .int z24), (4, .int y34), (5, .int y55), (6, .int y56)]) (st' := [.int b, .int y55, .int a, .ref 8]) rfl ?_
                    refine En_callV rfl rfl rfl rfl rfl rfl rfl rfl tgz_8 (by decide +kernel) rfl (c_30 σ78 h79 a y55 b) (by decide) (by decide) (fun v105 σ106 h104 => ?_)
                    obtain ⟨h107, h108, z110, rfl, h109⟩ := h104
                    have h111 := Fr_trans h83 h108 (by decide +kernel)
                    refine En_iEq _ rfl rfl (fun h112 => ?_) (fun h112 => ?_)
                    · refine En_Ps 1 (pc' := 94) (lv' := [(0, .ref 8), (1, .int a), (2, .int b), (3, .int z24), (4, .int y34), (5, .int y55), (6, .int y56)]) (st' := [.int y55]) rfl ?_
                      refine En_callS rfl rfl rfl rfl rfl rfl rfl rfl rfl (c_28 σ106 h107 y55) (by decide) (by decide) (fun v114 σ115 h113 => ?_)
                      obtain ⟨h116, h117, z119, rfl, h118⟩ := h113
                      have h120 := Fr_trans h111 h117 (by decide +kernel)
                      refine En_Ps 2 (pc' := 102) (lv' := [(6, .int ((y56 + Int32.ofInt 1))), (5, .int z119), (0, .ref 8), (1, .int a), (2, .int b), (3, .int z24), (4, .int y34)]) (st' := []) rfl ?_
                      refine En_lv1 (addI rfl (by decide : (Int32.ofInt 1).toInt = 1) (by first | exact q_465ab79ac1 h62 | omega) (by first | exact q_1d2cffc2f0 h63 | omega)) (fun z121 h122 => ?_)
                      refine En_Ps 1 (pc' := 51) (lv' := [(6, .int z121), (5, .int z119), (0, .ref 8), (1, .int a), (2, .int b), (3, .int z24), (4, .int y34)]) (st' := []) rfl ?_
                      refine En_lv (lv := [(0, .ref 8), (1, .int a), (2, .int b), (3, .int z24), (4, .int y34), (5, .int z119), (6, .int z121)]) ⟨rfl, rfl, rfl, rfl, rfl, rfl, rfl, trivial⟩ ?_
                      exact ih51 σ115 z119 z121 h116 h120 ((h117 _ _ (inW tgz_8 (by decide +kernel))).trans ((h108 _ _ (inW tgz_8 (by decide +kernel))).trans ((h80 _ _ (inW tgz_8 (by decide +kernel))).trans ((h69 _ _ (inW tgz_8 (by decide +kernel))).trans h60)))) ((h117 _ _ (inW tgz_4 (by decide +kernel))).trans ((h108 _ _ (inW tgz_4 (by decide +kernel))).trans ((h80 _ _ (inW tgz_4 (by decide +kernel))).trans ((h69 _ _ (inW tgz_4 (by decide +kernel))).trans h61)))) (by first | exact q_35104ce9d3 h122 h62 | omega) (by first | exact q_14f3993466 h122 h73 h70.2 | omega) (by first | exact q_baf82f6f45 h122 h64 | omega)
                    · refine En_Ps 1 (pc' := 91) (lv' := [(0, .ref 8), (1, .int a), (2, .int b), (3, .int z24), (4, .int y34), (5, .int y55), (6, .int y56)]) (st' := [.int y55]) rfl ?_
                      exact En_ret (v := some (Value.int y55)) rfl rfl rfl ⟨h107, h111, y55, rfl, (by first | exact q_71cd3a7d22 h84 h81.2 | omega)⟩
          have := (by decide : (Int32.ofInt 0).toInt = 0)
          refine En_lv (lv := [(0, .ref 8), (1, .int a), (2, .int b), (3, .int z24), (4, .int y34), (5, .int z53), (6, .int ((Int32.ofInt 0)))]) ⟨rfl, rfl, rfl, rfl, rfl, rfl, rfl, trivial⟩ ?_
          exact key51 (Int.toNat (65536) + 1) σ35 z53 ((Int32.ofInt 0)) h36 h37 h41 h43 (by decide) (by decide) (by first | exact toN_lt _ | omega)
    refine En_lv (lv := [(0, .ref 8), (1, .int a), (2, .int b), (3, .int z24), (4, .int z32)]) ⟨rfl, rfl, rfl, rfl, rfl, trivial⟩ ?_
    exact key28 (Int.toNat (-z32.toInt + 63) + 1) σ28 z32 h29 h33 (by first | exact q_ef1e8e38bf h31.1 | omega) (by first | exact q_3ea7e55eca h31.2 | omega) (by first | exact toN_lt _ | omega)
  · refine En_Ps 1 (pc' := 14) (lv' := [(0, .ref 8), (1, .int a), (2, .int b)]) (st' := [.int ((Int32.ofInt (-1)))]) rfl ?_
    refine En_top (by decide : (Int32.ofInt (-1)).toInt = -1) (fun z123 h124 => ?_)
    exact En_ret (v := some (Value.int z123)) rfl rfl rfl ⟨h12, h16, z123, rfl, (by first | exact q_79866c756a h124 | omega)⟩
/-- DoorSchool$Learner.setsOf(III)I -/
abbrev P_29 (σ0 : SG) (a : Int32) (b : Int32) (c : Int32) : PO := fun v σ => WT σ ∧ Fr [] σ0 σ ∧ ∃ ret : Int32, v = some (Value.int ret) ∧ -ret.toInt ≤ 0 ∧ ret.toInt - 65536 ≤ 0
set_option maxRecDepth 10000 in
set_option maxHeartbeats 4000000 in
theorem c_29 (σ0 : SG) (hσ0 : WT σ0) (a : Int32) (b : Int32) (c : Int32) : En 5 118 none mr_29 (P_29 σ0 a b c) 0 [(0, .ref 8), (1, .int a), (2, .int b), (3, .int c)] [] σ0 := by
  have hF0 : Fr [] σ0 σ0 := Fr_rfl
  refine En_Ps 3 (pc' := 3) (lv' := [(0, .ref 8), (1, .int a), (2, .int b), (3, .int c)]) (st' := [.ref 8, .int a, .ref 8]) rfl ?_
  refine En_callV rfl rfl rfl rfl rfl rfl rfl rfl tgz_8 (by decide +kernel) rfl (c_19 σ0 hσ0) (by decide) (by decide) (fun v2 σ3 h1 => ?_)
  obtain ⟨h4, h5, z7, rfl, h6⟩ := h1
  have h8 := Fr_trans hF0 h5 (by decide +kernel)
  refine En_Ps 1 (pc' := 7) (lv' := [(0, .ref 8), (1, .int a), (2, .int b), (3, .int c)]) (st' := [.int b, .int z7, .int a, .ref 8]) rfl ?_
  refine En_callV rfl rfl rfl rfl rfl rfl rfl rfl tgz_8 (by decide +kernel) rfl (c_30 σ3 h4 a z7 b) (by decide) (by decide) (fun v10 σ11 h9 => ?_)
  obtain ⟨h12, h13, z15, rfl, h14⟩ := h9
  have h16 := Fr_trans h8 h13 (by decide +kernel)
  refine En_iNe _ rfl rfl (fun h17 => ?_) (fun h17 => ?_)
  · refine En_Ps 3 (pc' := 18) (lv' := [(0, .ref 8), (1, .int a), (2, .int b), (3, .int c)]) (st' := [.int b, .int a, .ref 8]) rfl ?_
    refine En_callV rfl rfl rfl rfl rfl rfl rfl rfl tgz_8 (by decide +kernel) rfl (c_27 σ11 h12 a b) (by decide) (by decide) (fun v19 σ20 h18 => ?_)
    obtain ⟨h21, h22, z24, rfl, h23⟩ := h18
    have h25 := Fr_trans h16 h22 (by decide +kernel)
    refine En_Ps 6 (pc' := 29) (lv' := [(5, .int ((Int32.ofInt 0))), (4, .int z24), (0, .ref 8), (1, .int a), (2, .int b), (3, .int c)]) (st' := [.int ((((Int32.ofInt 1)) <<< (c &&& 31)))]) rfl ?_
    refine En_hav (fun z26 => ?_)
    refine En_Ps 2 (pc' := 31) (lv' := [(5, .int ((Int32.ofInt 0))), (4, .int z24), (0, .ref 8), (1, .int a), (2, .int b), (3, .int c)]) (st' := [.int ((z26 - ((Int32.ofInt 1))))]) rfl ?_
    refine En_hav (fun z27 => ?_)
    refine En_Ps 3 (pc' := 36) (lv' := [(7, .int ((Int32.ofInt 0))), (6, .int z27), (5, .int ((Int32.ofInt 0))), (4, .int z24), (0, .ref 8), (1, .int a), (2, .int b), (3, .int c)]) (st' := []) rfl ?_
    have key36 : ∀ (n36 : Nat) (σ31 : SG) (y28 : Int32) (y29 : Int32) (y30 : Int32), WT σ31 → Fr [] σ0 σ31 → 0 ≤ y28.toInt → y28.toInt ≤ 65536 → 0 ≤ y30.toInt → y30.toInt ≤ 65536 → y28.toInt - y30.toInt ≤ 0 → -y30.toInt + 65536 < (n36 : Int) → En 5 118 none mr_29 (P_29 σ0 a b c) 36 [(0, .ref 8), (1, .int a), (2, .int b), (3, .int c), (4, .int z24), (5, .int y28), (6, .int y29), (7, .int y30)] [] σ31 := by
      intro n36
      induction n36 with
      | zero =>
        intro σ31 y28 y29 y30 h32 h33 h34 h35 h36 h37 h38 h39
        first | exact (q_ec59fb8a68 h39 h37).elim | (exfalso; omega)
      | succ n36 ih36 =>
        intro σ31 y28 y29 y30 h32 h33 h34 h35 h36 h37 h38 h39
        refine En_Ps 2 (pc' := 39) (lv' := [(0, .ref 8), (1, .int a), (2, .int b), (3, .int c), (4, .int z24), (5, .int y28), (6, .int y29), (7, .int y30)]) (st' := [.ref 8, .int y30]) rfl ?_
        refine En_callV rfl rfl rfl rfl rfl rfl rfl rfl tgz_8 (by decide +kernel) rfl (c_19 σ31 h32) (by decide) (by decide) (fun v41 σ42 h40 => ?_)
        obtain ⟨h43, h44, z46, rfl, h45⟩ := h40
        have h47 := Fr_trans h33 h44 (by decide +kernel)
        refine En_icGt _ rfl rfl rfl (fun h48 => ?_) (fun h48 => ?_)
        · refine En_Ps 1 (pc' := 93) (lv' := [(0, .ref 8), (1, .int a), (2, .int b), (3, .int c), (4, .int z24), (5, .int y28), (6, .int y29), (7, .int y30)]) (st' := [.int y28]) rfl ?_
          exact En_ret (v := some (Value.int y28)) rfl rfl rfl ⟨h43, h47, y28, rfl, ⟨by first | exact q_c803b490ef h34 | omega, by first | exact q_9e830a46d8 h35 | omega⟩⟩
        · refine En_Ps 2 (pc' := 48) (lv' := [(0, .ref 8), (1, .int a), (2, .int b), (3, .int c), (4, .int z24), (5, .int y28), (6, .int y29), (7, .int y30)]) (st' := [.ref 8, .int y29]) rfl ?_
          refine En_callV rfl rfl rfl rfl rfl rfl rfl rfl tgz_8 (by decide +kernel) rfl (c_19 σ42 h43) (by decide) (by decide) (fun v50 σ51 h49 => ?_)
          obtain ⟨h52, h53, z55, rfl, h54⟩ := h49
          have h56 := Fr_trans h47 h53 (by decide +kernel)
          refine En_icGt _ rfl rfl rfl (fun h57 => ?_) (fun h57 => ?_)
          · refine En_Ps 1 (pc' := 93) (lv' := [(0, .ref 8), (1, .int a), (2, .int b), (3, .int c), (4, .int z24), (5, .int y28), (6, .int y29), (7, .int y30)]) (st' := [.int y28]) rfl ?_
            exact En_ret (v := some (Value.int y28)) rfl rfl rfl ⟨h52, h56, y28, rfl, ⟨by first | exact q_c803b490ef h34 | omega, by first | exact q_9e830a46d8 h35 | omega⟩⟩
          · refine En_Ps 4 (pc' := 60) (lv' := [(0, .ref 8), (1, .int a), (2, .int b), (3, .int c), (4, .int z24), (5, .int y28), (6, .int y29), (7, .int y30)]) (st' := [.int ((y29 ^^^ ((Int32.ofInt (-1))))), .int z24]) rfl ?_
            refine En_nam (fun z58 h59 => ?_)
            refine En_Ps 1 (pc' := 61) (lv' := [(0, .ref 8), (1, .int a), (2, .int b), (3, .int c), (4, .int z24), (5, .int y28), (6, .int y29), (7, .int y30)]) (st' := [.int ((z24 &&& z58))]) rfl ?_
            refine En_nam (fun z60 h61 => ?_)
            obtain ⟨h62, h63⟩ := andn_rng h61 rfl (by omega) (by omega : _ ≤ (65535 : Int))
            refine En_iNe _ rfl rfl (fun h64 => ?_) (fun h64 => ?_)
            · refine En_Ps 1 (pc' := 80) (lv' := [(0, .ref 8), (1, .int a), (2, .int b), (3, .int c), (4, .int z24), (5, .int y28), (6, .int y29), (7, .int y30)]) (st' := [.int y29]) rfl ?_
              refine En_callS rfl rfl rfl rfl rfl rfl rfl rfl rfl (c_28 σ51 h52 y29) (by decide) (by decide) (fun v66 σ67 h65 => ?_)
              obtain ⟨h68, h69, z71, rfl, h70⟩ := h65
              have h72 := Fr_trans h56 h69 (by decide +kernel)
              refine En_Ps 2 (pc' := 88) (lv' := [(7, .int ((y30 + Int32.ofInt 1))), (6, .int z71), (0, .ref 8), (1, .int a), (2, .int b), (3, .int c), (4, .int z24), (5, .int y28)]) (st' := []) rfl ?_
              refine En_lv1 (addI rfl (by decide : (Int32.ofInt 1).toInt = 1) (by first | exact q_465ab79ac1 h36 | omega) (by first | exact q_1d2cffc2f0 h37 | omega)) (fun z73 h74 => ?_)
              refine En_Ps 1 (pc' := 36) (lv' := [(7, .int z73), (6, .int z71), (0, .ref 8), (1, .int a), (2, .int b), (3, .int c), (4, .int z24), (5, .int y28)]) (st' := []) rfl ?_
              refine En_lv (lv := [(0, .ref 8), (1, .int a), (2, .int b), (3, .int c), (4, .int z24), (5, .int y28), (6, .int z71), (7, .int z73)]) ⟨rfl, rfl, rfl, rfl, rfl, rfl, rfl, rfl, trivial⟩ ?_
              exact ih36 σ67 y28 z71 z73 h68 h72 (by first | exact q_58e6e51dcc h34 | omega) (by first | exact q_85cee82ad3 h35 | omega) (by first | exact q_35104ce9d3 h74 h36 | omega) (by first | exact q_14f3993466 h74 h48 h45.2 | omega) (by first | exact q_3a5e225620 h38 h74 | omega) (by first | exact q_baf82f6f45 h74 h39 | omega)
            · refine En_Ps 4 (pc' := 69) (lv' := [(0, .ref 8), (1, .int a), (2, .int b), (3, .int c), (4, .int z24), (5, .int y28), (6, .int y29), (7, .int y30)]) (st' := [.int b, .int y29, .int a, .ref 8]) rfl ?_
              refine En_callV rfl rfl rfl rfl rfl rfl rfl rfl tgz_8 (by decide +kernel) rfl (c_30 σ51 h52 a y29 b) (by decide) (by decide) (fun v76 σ77 h75 => ?_)
              obtain ⟨h78, h79, z81, rfl, h80⟩ := h75
              have h82 := Fr_trans h56 h79 (by decide +kernel)
              refine En_iEq _ rfl rfl (fun h83 => ?_) (fun h83 => ?_)
              · refine En_Ps 1 (pc' := 80) (lv' := [(0, .ref 8), (1, .int a), (2, .int b), (3, .int c), (4, .int z24), (5, .int y28), (6, .int y29), (7, .int y30)]) (st' := [.int y29]) rfl ?_
                refine En_callS rfl rfl rfl rfl rfl rfl rfl rfl rfl (c_28 σ77 h78 y29) (by decide) (by decide) (fun v85 σ86 h84 => ?_)
                obtain ⟨h87, h88, z90, rfl, h89⟩ := h84
                have h91 := Fr_trans h82 h88 (by decide +kernel)
                refine En_Ps 2 (pc' := 88) (lv' := [(7, .int ((y30 + Int32.ofInt 1))), (6, .int z90), (0, .ref 8), (1, .int a), (2, .int b), (3, .int c), (4, .int z24), (5, .int y28)]) (st' := []) rfl ?_
                refine En_lv1 (addI rfl (by decide : (Int32.ofInt 1).toInt = 1) (by first | exact q_465ab79ac1 h36 | omega) (by first | exact q_1d2cffc2f0 h37 | omega)) (fun z92 h93 => ?_)
                refine En_Ps 1 (pc' := 36) (lv' := [(7, .int z92), (6, .int z90), (0, .ref 8), (1, .int a), (2, .int b), (3, .int c), (4, .int z24), (5, .int y28)]) (st' := []) rfl ?_
                refine En_lv (lv := [(0, .ref 8), (1, .int a), (2, .int b), (3, .int c), (4, .int z24), (5, .int y28), (6, .int z90), (7, .int z92)]) ⟨rfl, rfl, rfl, rfl, rfl, rfl, rfl, rfl, trivial⟩ ?_
                exact ih36 σ86 y28 z90 z92 h87 h91 (by first | exact q_58e6e51dcc h34 | omega) (by first | exact q_85cee82ad3 h35 | omega) (by first | exact q_35104ce9d3 h93 h36 | omega) (by first | exact q_14f3993466 h93 h48 h45.2 | omega) (by first | exact q_3a5e225620 h38 h93 | omega) (by first | exact q_baf82f6f45 h93 h39 | omega)
              · refine En_Ps 1 (pc' := 78) (lv' := [(5, .int ((y28 + Int32.ofInt 1))), (0, .ref 8), (1, .int a), (2, .int b), (3, .int c), (4, .int z24), (6, .int y29), (7, .int y30)]) (st' := []) rfl ?_
                refine En_lv1 (addI rfl (by decide : (Int32.ofInt 1).toInt = 1) (by first | exact q_465ab79ac1 h34 | omega) (by first | exact q_1d2cffc2f0 h35 | omega)) (fun z94 h95 => ?_)
                refine En_Ps 1 (pc' := 80) (lv' := [(5, .int z94), (0, .ref 8), (1, .int a), (2, .int b), (3, .int c), (4, .int z24), (6, .int y29), (7, .int y30)]) (st' := [.int y29]) rfl ?_
                refine En_callS rfl rfl rfl rfl rfl rfl rfl rfl rfl (c_28 σ77 h78 y29) (by decide) (by decide) (fun v97 σ98 h96 => ?_)
                obtain ⟨h99, h100, z102, rfl, h101⟩ := h96
                have h103 := Fr_trans h82 h100 (by decide +kernel)
                refine En_Ps 2 (pc' := 88) (lv' := [(7, .int ((y30 + Int32.ofInt 1))), (6, .int z102), (5, .int z94), (0, .ref 8), (1, .int a), (2, .int b), (3, .int c), (4, .int z24)]) (st' := []) rfl ?_
                refine En_lv1 (addI rfl (by decide : (Int32.ofInt 1).toInt = 1) (by first | exact q_465ab79ac1 h36 | omega) (by first | exact q_1d2cffc2f0 h37 | omega)) (fun z104 h105 => ?_)
                refine En_Ps 1 (pc' := 36) (lv' := [(7, .int z104), (6, .int z102), (5, .int z94), (0, .ref 8), (1, .int a), (2, .int b), (3, .int c), (4, .int z24)]) (st' := []) rfl ?_
                refine En_lv (lv := [(0, .ref 8), (1, .int a), (2, .int b), (3, .int c), (4, .int z24), (5, .int z94), (6, .int z102), (7, .int z104)]) ⟨rfl, rfl, rfl, rfl, rfl, rfl, rfl, rfl, trivial⟩ ?_
                exact ih36 σ98 z94 z102 z104 h99 h103 (by first | exact q_35104ce9d3 h95 h34 | omega) (by first | exact q_9fadb21f72 h95 h38 h48 h45.2 | omega) (by first | exact q_35104ce9d3 h105 h36 | omega) (by first | exact q_14f3993466 h105 h48 h45.2 | omega) (by first | exact q_1ff421e7a2 h95 h105 h38 | omega) (by first | exact q_baf82f6f45 h105 h39 | omega)
    have := (by decide : (Int32.ofInt 0).toInt = 0)
    have := (by decide : (Int32.ofInt 0).toInt = 0)
    refine En_lv (lv := [(0, .ref 8), (1, .int a), (2, .int b), (3, .int c), (4, .int z24), (5, .int ((Int32.ofInt 0))), (6, .int z27), (7, .int ((Int32.ofInt 0)))]) ⟨rfl, rfl, rfl, rfl, rfl, rfl, rfl, rfl, trivial⟩ ?_
    exact key36 (Int.toNat (65536) + 1) σ20 ((Int32.ofInt 0)) z27 ((Int32.ofInt 0)) h21 h25 (by decide) (by decide) (by decide) (by decide) (by omega) (by first | exact toN_lt _ | omega)
  · refine En_Ps 1 (pc' := 14) (lv' := [(0, .ref 8), (1, .int a), (2, .int b), (3, .int c)]) (st' := [.int ((Int32.ofInt 0))]) rfl ?_
    refine En_top (by decide : (Int32.ofInt 0).toInt = 0) (fun z106 h107 => ?_)
    exact En_ret (v := some (Value.int z106)) rfl rfl rfl ⟨h12, h16, z106, rfl, ⟨by first | exact q_097a37c2ae h107 | omega, by first | exact q_7cc8f582df h107 | omega⟩⟩
end
/-! 32.lx.c02 -/
section
/-- DoorSchool$Lessons.allAs(I)I -/
abbrev P_32 (σ0 : SG) (s : Nat) (a : Int32) : PO := fun v σ => WT σ ∧ Fr [] σ0 σ ∧ ∃ ret : Int32, v = some (Value.int ret) ∧ -ret.toInt ≤ 0 ∧ ret.toInt - 65535 ≤ 0
set_option maxRecDepth 10000 in
set_option maxHeartbeats 4000000 in
theorem c_32 (σ0 : SG) (hσ0 : WT σ0) (s : Nat) (hs : TG s = 20) (a : Int32) : En 1 21 none mr_32 (P_32 σ0 s a) 0 [(0, .ref s), (1, .int a)] [] σ0 := by
  have hF0 : Fr [] σ0 σ0 := Fr_rfl
  refine En_Ps 4 (pc' := 4) (lv' := [(3, .int ((Int32.ofInt 0))), (2, .int ((Int32.ofInt 0))), (0, .ref s), (1, .int a)]) (st' := []) rfl ?_
  have key4 : ∀ (n4 : Nat) (σ3 : SG) (y1 : Int32) (y2 : Int32), WT σ3 → Fr [] σ0 σ3 → 0 ≤ y1.toInt → y1.toInt ≤ 65535 → 0 ≤ y2.toInt → y2.toInt ≤ 13 → -y2.toInt + 13 < (n4 : Int) → En 1 21 none mr_32 (P_32 σ0 s a) 4 [(0, .ref s), (1, .int a), (2, .int y1), (3, .int y2)] [] σ3 := by
    intro n4
    induction n4 with
    | zero =>
      intro σ3 y1 y2 h4 h5 h6 h7 h8 h9 h10
      first | exact (q_5583ec5aac h10 h9).elim | (exfalso; omega)
    | succ n4 ih4 =>
      intro σ3 y1 y2 h4 h5 h6 h7 h8 h9 h10
      refine En_Ps 2 (pc' := 6) (lv' := [(0, .ref s), (1, .int a), (2, .int y1), (3, .int y2)]) (st' := [.ref s, .int y2]) rfl ?_
      refine En_getI (j := 2) (l := 0) (u := 13) rfl rfl rfl hs (by decide +kernel) h4 (by decide +kernel) (fun z12 h11 h13 h14 => ?_)
      refine En_icGe _ rfl rfl rfl (fun h15 => ?_) (fun h15 => ?_)
      · refine En_Ps 1 (pc' := 44) (lv' := [(0, .ref s), (1, .int a), (2, .int y1), (3, .int y2)]) (st' := [.int y1]) rfl ?_
        exact En_ret (v := some (Value.int y1)) rfl rfl rfl ⟨h4, h5, y1, rfl, ⟨by first | exact q_c803b490ef h6 | omega, by first | exact q_e7edf0f95a h7 | omega⟩⟩
      · refine En_Ps 2 (pc' := 14) (lv' := [(0, .ref s), (1, .int a), (2, .int y1), (3, .int y2)]) (st' := [.ref s, .int a]) rfl ?_
        refine En_getR (j := 0) (g' := 21) (u := 0) rfl rfl rfl hs (by decide +kernel) h4 (by decide +kernel) (fun a17 h16 ha17 => ?_)
        refine En_Ps 1 (pc' := 18) (lv' := [(0, .ref s), (1, .int a), (2, .int y1), (3, .int y2)]) (st' := [.int y2, .ref a17, .int a]) rfl ?_
        refine En_iald (l := 0) (u := 15) rfl rfl ha17 (by decide +kernel) h4 (by first | exact q_58e6e51dcc h8 | omega) (lnI (by decide +kernel : LN _ = 13) (by first | exact q_314deb8953 h15 h14 | omega)) (FTsgl (by decide +kernel)) (fun z19 h18 h20 h21 => ?_)
        refine En_callS rfl rfl rfl rfl rfl rfl rfl rfl rfl (c_108 σ3 h4 a z19) (by decide) (by decide) (fun v23 σ24 h22 => ?_)
        obtain ⟨h25, h26, z28, rfl, h27⟩ := h22
        have h29 := Fr_trans h5 h26 (by decide +kernel)
        refine En_Ps 1 (pc' := 23) (lv' := [(0, .ref s), (1, .int a), (2, .int y1), (3, .int y2)]) (st' := [.ref s, .int z28]) rfl ?_
        refine En_getR (j := 1) (g' := 22) (u := 0) rfl rfl rfl hs (by decide +kernel) h25 (by decide +kernel) (fun a31 h30 ha31 => ?_)
        refine En_Ps 1 (pc' := 27) (lv' := [(0, .ref s), (1, .int a), (2, .int y1), (3, .int y2)]) (st' := [.int y2, .ref a31, .int z28]) rfl ?_
        refine En_iald (l := 0) (u := 1) rfl rfl ha31 (by decide +kernel) h25 (by first | exact q_58e6e51dcc h8 | omega) (lnI (by decide +kernel : LN _ = 13) (by first | exact q_314deb8953 h15 h14 | omega)) (FTsgl (by decide +kernel)) (fun z33 h32 h34 h35 => ?_)
        refine En_icNe _ rfl rfl rfl (fun h36 => ?_) (fun h36 => ?_)
        · refine En_Ps 1 (pc' := 40) (lv' := [(3, .int ((y2 + Int32.ofInt 1))), (0, .ref s), (1, .int a), (2, .int y1)]) (st' := []) rfl ?_
          refine En_lv1 (addI rfl (by decide : (Int32.ofInt 1).toInt = 1) (by first | exact q_465ab79ac1 h8 | omega) (by first | exact q_d22f73d43b h9 | omega)) (fun z37 h38 => ?_)
          refine En_Ps 1 (pc' := 4) (lv' := [(3, .int z37), (0, .ref s), (1, .int a), (2, .int y1)]) (st' := []) rfl ?_
          refine En_lv (lv := [(0, .ref s), (1, .int a), (2, .int y1), (3, .int z37)]) ⟨rfl, rfl, rfl, rfl, trivial⟩ ?_
          exact ih4 σ24 y1 z37 h25 h29 (by first | exact q_58e6e51dcc h6 | omega) (by first | exact q_36eb0a70bf h7 | omega) (by first | exact q_35104ce9d3 h38 h8 | omega) (by first | exact q_96e029a9d9 h38 h15 h14 | omega) (by first | exact q_20fedeb4b2 h38 h10 | omega)
        · refine En_Ps 4 (pc' := 35) (lv' := [(0, .ref s), (1, .int a), (2, .int y1), (3, .int y2)]) (st' := [.int ((((Int32.ofInt 1)) <<< (y2 &&& 31))), .int y1]) rfl ?_
          refine En_rng (shl1_p 12 rfl (by omega) (by omega) (by decide)) (fun z39 h40 h41 => ?_)
          refine En_Ps 1 (pc' := 36) (lv' := [(0, .ref s), (1, .int a), (2, .int y1), (3, .int y2)]) (st' := [.int ((y1 ||| z39))]) rfl ?_
          refine En_rng (l := 0) (u := 65535) (or_rng 16 rfl rfl (by omega) (by omega) (by omega) (by omega) (by decide)) (fun z42 h43 h44 => ?_)
          refine En_Ps 2 (pc' := 40) (lv' := [(3, .int ((y2 + Int32.ofInt 1))), (2, .int z42), (0, .ref s), (1, .int a)]) (st' := []) rfl ?_
          refine En_lv1 (addI rfl (by decide : (Int32.ofInt 1).toInt = 1) (by first | exact q_465ab79ac1 h8 | omega) (by first | exact q_d22f73d43b h9 | omega)) (fun z45 h46 => ?_)
          refine En_Ps 1 (pc' := 4) (lv' := [(3, .int z45), (2, .int z42), (0, .ref s), (1, .int a)]) (st' := []) rfl ?_
          refine En_lv (lv := [(0, .ref s), (1, .int a), (2, .int z42), (3, .int z45)]) ⟨rfl, rfl, rfl, rfl, trivial⟩ ?_
          exact ih4 σ24 z42 z45 h25 h29 (by first | exact q_58e6e51dcc h43 | omega) (by first | exact q_36eb0a70bf h44 | omega) (by first | exact q_35104ce9d3 h46 h8 | omega) (by first | exact q_96e029a9d9 h46 h15 h14 | omega) (by first | exact q_20fedeb4b2 h46 h10 | omega)
  have := (by decide : (Int32.ofInt 0).toInt = 0)
  have := (by decide : (Int32.ofInt 0).toInt = 0)
  refine En_lv (lv := [(0, .ref s), (1, .int a), (2, .int ((Int32.ofInt 0))), (3, .int ((Int32.ofInt 0)))]) ⟨rfl, rfl, rfl, rfl, trivial⟩ ?_
  exact key4 (Int.toNat (13) + 1) σ0 ((Int32.ofInt 0)) ((Int32.ofInt 0)) hσ0 hF0 (by decide) (by decide) (by decide) (by decide) (by first | exact toN_lt _ | omega)
/-- DoorSchool$Lessons.firstNotAs(I)I -/
abbrev P_34 (σ0 : SG) (s : Nat) (a : Int32) : PO := fun v σ => WT σ ∧ Fr [] σ0 σ ∧ ∃ ret : Int32, v = some (Value.int ret) ∧ -ret.toInt - 1 ≤ 0 ∧ ret.toInt - 12 ≤ 0
set_option maxRecDepth 10000 in
set_option maxHeartbeats 4000000 in
theorem c_34 (σ0 : SG) (hσ0 : WT σ0) (s : Nat) (hs : TG s = 20) (a : Int32) : En 1 21 none mr_34 (P_34 σ0 s a) 0 [(0, .ref s), (1, .int a)] [] σ0 := by
  have hF0 : Fr [] σ0 σ0 := Fr_rfl
  refine En_Ps 2 (pc' := 2) (lv' := [(2, .int ((Int32.ofInt 0))), (0, .ref s), (1, .int a)]) (st' := []) rfl ?_
  have key2 : ∀ (n2 : Nat) (σ2 : SG) (y1 : Int32), WT σ2 → Fr [] σ0 σ2 → 0 ≤ y1.toInt → y1.toInt ≤ 13 → -y1.toInt + 13 < (n2 : Int) → En 1 21 none mr_34 (P_34 σ0 s a) 2 [(0, .ref s), (1, .int a), (2, .int y1)] [] σ2 := by
    intro n2
    induction n2 with
    | zero =>
      intro σ2 y1 h3 h4 h5 h6 h7
      first | exact (q_5583ec5aac h7 h6).elim | (exfalso; omega)
    | succ n2 ih2 =>
      intro σ2 y1 h3 h4 h5 h6 h7
      refine En_Ps 2 (pc' := 4) (lv' := [(0, .ref s), (1, .int a), (2, .int y1)]) (st' := [.ref s, .int y1]) rfl ?_
      refine En_getI (j := 2) (l := 0) (u := 13) rfl rfl rfl hs (by decide +kernel) h3 (by decide +kernel) (fun z9 h8 h10 h11 => ?_)
      refine En_icGe _ rfl rfl rfl (fun h12 => ?_) (fun h12 => ?_)
      · refine En_Ps 1 (pc' := 38) (lv' := [(0, .ref s), (1, .int a), (2, .int y1)]) (st' := [.int ((Int32.ofInt (-1)))]) rfl ?_
        refine En_top (by decide : (Int32.ofInt (-1)).toInt = -1) (fun z13 h14 => ?_)
        exact En_ret (v := some (Value.int z13)) rfl rfl rfl ⟨h3, h4, z13, rfl, ⟨by first | exact q_6ba54b61e9 h14 | omega, by first | exact q_af8bea0708 h14 | omega⟩⟩
      · refine En_Ps 2 (pc' := 12) (lv' := [(0, .ref s), (1, .int a), (2, .int y1)]) (st' := [.ref s, .int a]) rfl ?_
        refine En_getR (j := 0) (g' := 21) (u := 0) rfl rfl rfl hs (by decide +kernel) h3 (by decide +kernel) (fun a16 h15 ha16 => ?_)
        refine En_Ps 1 (pc' := 16) (lv' := [(0, .ref s), (1, .int a), (2, .int y1)]) (st' := [.int y1, .ref a16, .int a]) rfl ?_
        refine En_iald (l := 0) (u := 15) rfl rfl ha16 (by decide +kernel) h3 (by first | exact q_58e6e51dcc h5 | omega) (lnI (by decide +kernel : LN _ = 13) (by first | exact q_314deb8953 h12 h11 | omega)) (FTsgl (by decide +kernel)) (fun z18 h17 h19 h20 => ?_)
        refine En_callS rfl rfl rfl rfl rfl rfl rfl rfl rfl (c_108 σ2 h3 a z18) (by decide) (by decide) (fun v22 σ23 h21 => ?_)
        obtain ⟨h24, h25, z27, rfl, h26⟩ := h21
        have h28 := Fr_trans h4 h25 (by decide +kernel)
        refine En_Ps 1 (pc' := 21) (lv' := [(0, .ref s), (1, .int a), (2, .int y1)]) (st' := [.ref s, .int z27]) rfl ?_
        refine En_getR (j := 1) (g' := 22) (u := 0) rfl rfl rfl hs (by decide +kernel) h24 (by decide +kernel) (fun a30 h29 ha30 => ?_)
        refine En_Ps 1 (pc' := 25) (lv' := [(0, .ref s), (1, .int a), (2, .int y1)]) (st' := [.int y1, .ref a30, .int z27]) rfl ?_
        refine En_iald (l := 0) (u := 1) rfl rfl ha30 (by decide +kernel) h24 (by first | exact q_58e6e51dcc h5 | omega) (lnI (by decide +kernel : LN _ = 13) (by first | exact q_314deb8953 h12 h11 | omega)) (FTsgl (by decide +kernel)) (fun z32 h31 h33 h34 => ?_)
        refine En_icEq _ rfl rfl rfl (fun h35 => ?_) (fun h35 => ?_)
        · refine En_Ps 1 (pc' := 34) (lv' := [(2, .int ((y1 + Int32.ofInt 1))), (0, .ref s), (1, .int a)]) (st' := []) rfl ?_
          refine En_lv1 (addI rfl (by decide : (Int32.ofInt 1).toInt = 1) (by first | exact q_465ab79ac1 h5 | omega) (by first | exact q_d22f73d43b h6 | omega)) (fun z36 h37 => ?_)
          refine En_Ps 1 (pc' := 2) (lv' := [(2, .int z36), (0, .ref s), (1, .int a)]) (st' := []) rfl ?_
          refine En_lv (lv := [(0, .ref s), (1, .int a), (2, .int z36)]) ⟨rfl, rfl, rfl, trivial⟩ ?_
          exact ih2 σ23 z36 h24 h28 (by first | exact q_35104ce9d3 h37 h5 | omega) (by first | exact q_96e029a9d9 h37 h12 h11 | omega) (by first | exact q_20fedeb4b2 h37 h7 | omega)
        · refine En_Ps 1 (pc' := 30) (lv' := [(0, .ref s), (1, .int a), (2, .int y1)]) (st' := [.int y1]) rfl ?_
          exact En_ret (v := some (Value.int y1)) rfl rfl rfl ⟨h24, h28, y1, rfl, ⟨by first | exact q_565e7b05df h5 | omega, by first | exact q_8ee767184a h12 h11 | omega⟩⟩
  have := (by decide : (Int32.ofInt 0).toInt = 0)
  refine En_lv (lv := [(0, .ref s), (1, .int a), (2, .int ((Int32.ofInt 0)))]) ⟨rfl, rfl, rfl, trivial⟩ ?_
  exact key2 (Int.toNat (13) + 1) σ0 ((Int32.ofInt 0)) hσ0 hF0 (by decide) (by decide) (by first | exact toN_lt _ | omega)
/-- DoorSchool$Plan.exists()Z -/
abbrev P_43 (σ0 : SG) (s : Nat) : PO := fun v σ => WT σ ∧ Fr [] σ0 σ ∧ ∃ ret : Int32, v = some (Value.int ret) ∧ -ret.toInt ≤ 0 ∧ ret.toInt - 1 ≤ 0
set_option maxRecDepth 10000 in
set_option maxHeartbeats 4000000 in
theorem c_43 (σ0 : SG) (hσ0 : WT σ0) (s : Nat) (hs : TG s = 18) : En 0 0 none mr_43 (P_43 σ0 s) 0 [(0, .ref s)] [] σ0 := by
  have hF0 : Fr [] σ0 σ0 := Fr_rfl
  refine En_Ps 1 (pc' := 1) (lv' := [(0, .ref s)]) (st' := [.ref s]) rfl ?_
  refine En_getI (j := 0) (l := 0) (u := 1601) rfl rfl rfl hs (by decide +kernel) hσ0 (by decide +kernel) (fun z2 h1 h3 h4 => ?_)
  refine En_iLe _ rfl rfl (fun h5 => ?_) (fun h5 => ?_)
  · refine En_Ps 1 (pc' := 12) (lv' := [(0, .ref s)]) (st' := [.int ((Int32.ofInt 0))]) rfl ?_
    refine En_top (by decide : (Int32.ofInt 0).toInt = 0) (fun z6 h7 => ?_)
    exact En_ret (v := some (Value.int z6)) rfl rfl (retZ rfl rfl (by first | exact q_55451d0a83 h7 | omega) (by first | exact q_87849c3859 h7 | omega)) ⟨hσ0, hF0, z6, rfl, ⟨by first | exact q_097a37c2ae h7 | omega, by first | exact q_e269517bee h7 | omega⟩⟩
  · refine En_Ps 2 (pc' := 12) (lv' := [(0, .ref s)]) (st' := [.int ((Int32.ofInt 1))]) rfl ?_
    refine En_top (by decide : (Int32.ofInt 1).toInt = 1) (fun z8 h9 => ?_)
    exact En_ret (v := some (Value.int z8)) rfl rfl (retZ rfl rfl (by first | exact q_2b07c97645 h9 | omega) (by first | exact q_d9e7cbb253 h9 | omega)) ⟨hσ0, hF0, z8, rfl, ⟨by first | exact q_ad3eee31ca h9 | omega, by first | exact q_81cf297dc4 h9 | omega⟩⟩
/-- DoorSchool$Plan.knocks()I -/
abbrev P_51 (σ0 : SG) (s : Nat) (sg : Int32) : PO := fun v σ => WT σ ∧ Fr [] σ0 σ ∧ ∃ ret : Int32, v = some (Value.int ret) ∧ -ret.toInt + 1 ≤ 0 ∧ ret.toInt - 16 ≤ 0
set_option maxRecDepth 10000 in
set_option maxHeartbeats 4000000 in
theorem c_51 (σ0 : SG) (hσ0 : WT σ0) (s : Nat) (hs : TG s = 18) (sg : Int32) (h_sg : (σ0 s)[1]? = some (Value.int sg)) (hp0 : -sg.toInt ≤ 0) : En 0 0 none mr_51 (P_51 σ0 s sg) 0 [(0, .ref s)] [] σ0 := by
  obtain ⟨hl_sg, hu_sg⟩ := WT_int hσ0 (g := 18) hs (by decide +kernel) (l := (-1)) (u := 4) (by decide +kernel) h_sg
  have hF0 : Fr [] σ0 σ0 := Fr_rfl
  refine En_Ps 2 (pc' := 2) (lv' := [(0, .ref s)]) (st' := [.ref s, .int ((Int32.ofInt 1))]) rfl ?_
  refine En_getK (j := 1) h_sg rfl rfl rfl hs (by decide +kernel) ?_
  refine En_Ps 1 (pc' := 6) (lv' := [(0, .ref s)]) (st' := [.int ((((Int32.ofInt 1)) <<< (sg &&& 31)))]) rfl ?_
  refine En_rng (shl1_p 4 rfl (by omega) (by omega) (by decide)) (fun z1 h2 h3 => ?_)
  exact En_ret (v := some (Value.int z1)) rfl rfl rfl ⟨hσ0, hF0, z1, rfl, ⟨by first | exact q_996bab80f3 h2 | omega, by first | exact q_774c92aa9b h3 | omega⟩⟩
/-- DoorSchool$Plan.isDeeds(I)Z -/
abbrev P_46 (σ0 : SG) (s : Nat) (a : Int32) (sg : Int32) : PO := fun v σ => WT σ ∧ Fr [] σ0 σ ∧ ∃ ret : Int32, v = some (Value.int ret) ∧ -ret.toInt ≤ 0 ∧ ret.toInt - 1 ≤ 0 ∧ (ret.toInt - 1 ≤ 0 ∧ -ret.toInt + 1 ≤ 0 → -a.toInt ≤ 0 ∧ a.toInt - 65535 ≤ 0)
set_option maxRecDepth 10000 in
set_option maxHeartbeats 4000000 in
theorem c_46 (σ0 : SG) (hσ0 : WT σ0) (s : Nat) (hs : TG s = 18) (a : Int32) (sg : Int32) (h_sg : (σ0 s)[1]? = some (Value.int sg)) (hp0 : -sg.toInt ≤ 0) : En 1 20 none mr_46 (P_46 σ0 s a sg) 0 [(0, .ref s), (1, .int a)] [] σ0 := by
  obtain ⟨hl_sg, hu_sg⟩ := WT_int hσ0 (g := 18) hs (by decide +kernel) (l := (-1)) (u := 4) (by decide +kernel) h_sg
  have hF0 : Fr [] σ0 σ0 := Fr_rfl
  refine En_Ps 1 (pc' := 1) (lv' := [(0, .ref s), (1, .int a)]) (st' := [.ref s]) rfl ?_
  refine En_callV rfl rfl rfl rfl rfl rfl rfl rfl hs (by decide +kernel) rfl (c_43 σ0 hσ0 s hs) (by decide) (by decide) (fun v2 σ3 h1 => ?_)
  obtain ⟨h4, h5, z7, rfl, h6⟩ := h1
  have h8 := Fr_trans hF0 h5 (by decide +kernel)
  refine En_iEq _ rfl rfl (fun h9 => ?_) (fun h9 => ?_)
  · refine En_Ps 1 (pc' := 26) (lv' := [(0, .ref s), (1, .int a)]) (st' := [.int ((Int32.ofInt 0))]) rfl ?_
    refine En_top (by decide : (Int32.ofInt 0).toInt = 0) (fun z10 h11 => ?_)
    exact En_ret (v := some (Value.int z10)) rfl rfl (retZ rfl rfl (by first | exact q_55451d0a83 h11 | omega) (by first | exact q_87849c3859 h11 | omega)) ⟨h4, h8, z10, rfl, ⟨by first | exact q_097a37c2ae h11 | omega, by first | exact q_e269517bee h11 | omega, fun _ => by omega⟩⟩
  · refine En_Ps 1 (pc' := 8) (lv' := [(0, .ref s), (1, .int a)]) (st' := [.int a]) rfl ?_
    refine En_iLt _ rfl rfl (fun h12 => ?_) (fun h12 => ?_)
    · refine En_Ps 1 (pc' := 26) (lv' := [(0, .ref s), (1, .int a)]) (st' := [.int ((Int32.ofInt 0))]) rfl ?_
      refine En_top (by decide : (Int32.ofInt 0).toInt = 0) (fun z13 h14 => ?_)
      exact En_ret (v := some (Value.int z13)) rfl rfl (retZ rfl rfl (by first | exact q_55451d0a83 h14 | omega) (by first | exact q_87849c3859 h14 | omega)) ⟨h4, h8, z13, rfl, ⟨by first | exact q_097a37c2ae h14 | omega, by first | exact q_e269517bee h14 | omega, fun _ => by omega⟩⟩
    · refine En_Ps 3 (pc' := 14) (lv' := [(0, .ref s), (1, .int a)]) (st' := [.ref s, .int ((Int32.ofInt 1)), .int a]) rfl ?_
      refine En_callV rfl rfl rfl rfl rfl rfl rfl rfl hs (by decide +kernel) rfl (c_51 σ3 h4 s hs sg ((h5 _ _ (inW hs (by decide +kernel))).trans h_sg) (by first | exact q_a555021d16 hp0 | omega)) (by decide) (by decide) (fun v16 σ17 h15 => ?_)
      obtain ⟨h18, h19, z21, rfl, h20⟩ := h15
      have h22 := Fr_trans h8 h19 (by decide +kernel)
      refine En_Ps 1 (pc' := 18) (lv' := [(0, .ref s), (1, .int a)]) (st' := [.int ((((Int32.ofInt 1)) <<< (z21 &&& 31))), .int a]) rfl ?_
      refine En_rng (shl1_p 16 rfl (by omega) (by omega) (by decide)) (fun z23 h24 h25 => ?_)
      refine En_icGe _ rfl rfl rfl (fun h26 => ?_) (fun h26 => ?_)
      · refine En_Ps 1 (pc' := 26) (lv' := [(0, .ref s), (1, .int a)]) (st' := [.int ((Int32.ofInt 0))]) rfl ?_
        refine En_top (by decide : (Int32.ofInt 0).toInt = 0) (fun z27 h28 => ?_)
        exact En_ret (v := some (Value.int z27)) rfl rfl (retZ rfl rfl (by first | exact q_55451d0a83 h28 | omega) (by first | exact q_87849c3859 h28 | omega)) ⟨h18, h22, z27, rfl, ⟨by first | exact q_097a37c2ae h28 | omega, by first | exact q_e269517bee h28 | omega, fun _ => by omega⟩⟩
      · refine En_Ps 2 (pc' := 26) (lv' := [(0, .ref s), (1, .int a)]) (st' := [.int ((Int32.ofInt 1))]) rfl ?_
        refine En_top (by decide : (Int32.ofInt 1).toInt = 1) (fun z29 h30 => ?_)
        exact En_ret (v := some (Value.int z29)) rfl rfl (retZ rfl rfl (by first | exact q_2b07c97645 h30 | omega) (by first | exact q_d9e7cbb253 h30 | omega)) ⟨h18, h22, z29, rfl, ⟨by first | exact q_ad3eee31ca h30 | omega, by first | exact q_81cf297dc4 h30 | omega, fun _ => by omega⟩⟩
/-- DoorSchool$Plan.isDoor(I)Z -/
abbrev P_47 (σ0 : SG) (s : Nat) (a : Int32) : PO := fun v σ => WT σ ∧ Fr [] σ0 σ ∧ ∃ ret : Int32, v = some (Value.int ret) ∧ -ret.toInt ≤ 0 ∧ ret.toInt - 1 ≤ 0 ∧ (ret.toInt - 1 ≤ 0 ∧ -ret.toInt + 1 ≤ 0 → -a.toInt ≤ 0 ∧ a.toInt - 3 ≤ 0)
set_option maxRecDepth 10000 in
set_option maxHeartbeats 4000000 in
theorem c_47 (σ0 : SG) (hσ0 : WT σ0) (s : Nat) (hs : TG s = 18) (a : Int32) : En 0 0 none mr_47 (P_47 σ0 s a) 0 [(0, .ref s), (1, .int a)] [] σ0 := by
  have hF0 : Fr [] σ0 σ0 := Fr_rfl
  refine En_Ps 1 (pc' := 1) (lv' := [(0, .ref s), (1, .int a)]) (st' := [.int a]) rfl ?_
  refine En_iLt _ rfl rfl (fun h1 => ?_) (fun h1 => ?_)
  · refine En_Ps 1 (pc' := 17) (lv' := [(0, .ref s), (1, .int a)]) (st' := [.int ((Int32.ofInt 0))]) rfl ?_
    refine En_top (by decide : (Int32.ofInt 0).toInt = 0) (fun z2 h3 => ?_)
    exact En_ret (v := some (Value.int z2)) rfl rfl (retZ rfl rfl (by first | exact q_55451d0a83 h3 | omega) (by first | exact q_87849c3859 h3 | omega)) ⟨hσ0, hF0, z2, rfl, ⟨by first | exact q_097a37c2ae h3 | omega, by first | exact q_e269517bee h3 | omega, fun _ => by omega⟩⟩
  · refine En_Ps 2 (pc' := 6) (lv' := [(0, .ref s), (1, .int a)]) (st' := [.ref s, .int a]) rfl ?_
    refine En_getI (j := 3) (l := 0) (u := 4) rfl rfl rfl hs (by decide +kernel) hσ0 (by decide +kernel) (fun z5 h4 h6 h7 => ?_)
    refine En_icGe _ rfl rfl rfl (fun h8 => ?_) (fun h8 => ?_)
    · refine En_Ps 1 (pc' := 17) (lv' := [(0, .ref s), (1, .int a)]) (st' := [.int ((Int32.ofInt 0))]) rfl ?_
      refine En_top (by decide : (Int32.ofInt 0).toInt = 0) (fun z9 h10 => ?_)
      exact En_ret (v := some (Value.int z9)) rfl rfl (retZ rfl rfl (by first | exact q_55451d0a83 h10 | omega) (by first | exact q_87849c3859 h10 | omega)) ⟨hσ0, hF0, z9, rfl, ⟨by first | exact q_097a37c2ae h10 | omega, by first | exact q_e269517bee h10 | omega, fun _ => by omega⟩⟩
    · refine En_Ps 2 (pc' := 17) (lv' := [(0, .ref s), (1, .int a)]) (st' := [.int ((Int32.ofInt 1))]) rfl ?_
      refine En_top (by decide : (Int32.ofInt 1).toInt = 1) (fun z11 h12 => ?_)
      exact En_ret (v := some (Value.int z11)) rfl rfl (retZ rfl rfl (by first | exact q_2b07c97645 h12 | omega) (by first | exact q_d9e7cbb253 h12 | omega)) ⟨hσ0, hF0, z11, rfl, ⟨by first | exact q_ad3eee31ca h12 | omega, by first | exact q_81cf297dc4 h12 | omega, fun _ => by omega⟩⟩
/-- DoorSchool$Plan.isHouse(I)Z -/
abbrev P_48 (σ0 : SG) (s : Nat) (a : Int32) : PO := fun v σ => WT σ ∧ Fr [] σ0 σ ∧ ∃ ret : Int32, v = some (Value.int ret) ∧ -ret.toInt ≤ 0 ∧ ret.toInt - 1 ≤ 0 ∧ (ret.toInt - 1 ≤ 0 ∧ -ret.toInt + 1 ≤ 0 → -a.toInt ≤ 0 ∧ a.toInt - 3 ≤ 0)
set_option maxRecDepth 10000 in
set_option maxHeartbeats 4000000 in
theorem c_48 (σ0 : SG) (hσ0 : WT σ0) (s : Nat) (hs : TG s = 18) (a : Int32) : En 0 0 none mr_48 (P_48 σ0 s a) 0 [(0, .ref s), (1, .int a)] [] σ0 := by
  have hF0 : Fr [] σ0 σ0 := Fr_rfl
  refine En_Ps 1 (pc' := 1) (lv' := [(0, .ref s), (1, .int a)]) (st' := [.int a]) rfl ?_
  refine En_iLt _ rfl rfl (fun h1 => ?_) (fun h1 => ?_)
  · refine En_Ps 1 (pc' := 17) (lv' := [(0, .ref s), (1, .int a)]) (st' := [.int ((Int32.ofInt 0))]) rfl ?_
    refine En_top (by decide : (Int32.ofInt 0).toInt = 0) (fun z2 h3 => ?_)
    exact En_ret (v := some (Value.int z2)) rfl rfl (retZ rfl rfl (by first | exact q_55451d0a83 h3 | omega) (by first | exact q_87849c3859 h3 | omega)) ⟨hσ0, hF0, z2, rfl, ⟨by first | exact q_097a37c2ae h3 | omega, by first | exact q_e269517bee h3 | omega, fun _ => by omega⟩⟩
  · refine En_Ps 2 (pc' := 6) (lv' := [(0, .ref s), (1, .int a)]) (st' := [.ref s, .int a]) rfl ?_
    refine En_getI (j := 8) (l := 0) (u := 4) rfl rfl rfl hs (by decide +kernel) hσ0 (by decide +kernel) (fun z5 h4 h6 h7 => ?_)
    refine En_icGe _ rfl rfl rfl (fun h8 => ?_) (fun h8 => ?_)
    · refine En_Ps 1 (pc' := 17) (lv' := [(0, .ref s), (1, .int a)]) (st' := [.int ((Int32.ofInt 0))]) rfl ?_
      refine En_top (by decide : (Int32.ofInt 0).toInt = 0) (fun z9 h10 => ?_)
      exact En_ret (v := some (Value.int z9)) rfl rfl (retZ rfl rfl (by first | exact q_55451d0a83 h10 | omega) (by first | exact q_87849c3859 h10 | omega)) ⟨hσ0, hF0, z9, rfl, ⟨by first | exact q_097a37c2ae h10 | omega, by first | exact q_e269517bee h10 | omega, fun _ => by omega⟩⟩
    · refine En_Ps 2 (pc' := 17) (lv' := [(0, .ref s), (1, .int a)]) (st' := [.int ((Int32.ofInt 1))]) rfl ?_
      refine En_top (by decide : (Int32.ofInt 1).toInt = 1) (fun z11 h12 => ?_)
      exact En_ret (v := some (Value.int z11)) rfl rfl (retZ rfl rfl (by first | exact q_2b07c97645 h12 | omega) (by first | exact q_d9e7cbb253 h12 | omega)) ⟨hσ0, hF0, z11, rfl, ⟨by first | exact q_ad3eee31ca h12 | omega, by first | exact q_81cf297dc4 h12 | omega, fun _ => by omega⟩⟩
/-- DoorSchool$Plan.isKnock(I)Z -/
abbrev P_49 (σ0 : SG) (s : Nat) (a : Int32) (sg : Int32) : PO := fun v σ => WT σ ∧ Fr [] σ0 σ ∧ ∃ ret : Int32, v = some (Value.int ret) ∧ -ret.toInt ≤ 0 ∧ ret.toInt - 1 ≤ 0 ∧ (ret.toInt - 1 ≤ 0 ∧ -ret.toInt + 1 ≤ 0 → -a.toInt ≤ 0 ∧ a.toInt - 15 ≤ 0)
set_option maxRecDepth 10000 in
set_option maxHeartbeats 4000000 in
theorem c_49 (σ0 : SG) (hσ0 : WT σ0) (s : Nat) (hs : TG s = 18) (a : Int32) (sg : Int32) (h_sg : (σ0 s)[1]? = some (Value.int sg)) (hp0 : -sg.toInt ≤ 0) : En 1 20 none mr_49 (P_49 σ0 s a sg) 0 [(0, .ref s), (1, .int a)] [] σ0 := by
  obtain ⟨hl_sg, hu_sg⟩ := WT_int hσ0 (g := 18) hs (by decide +kernel) (l := (-1)) (u := 4) (by decide +kernel) h_sg
  have hF0 : Fr [] σ0 σ0 := Fr_rfl
  refine En_Ps 1 (pc' := 1) (lv' := [(0, .ref s), (1, .int a)]) (st' := [.ref s]) rfl ?_
  refine En_callV rfl rfl rfl rfl rfl rfl rfl rfl hs (by decide +kernel) rfl (c_43 σ0 hσ0 s hs) (by decide) (by decide) (fun v2 σ3 h1 => ?_)
  obtain ⟨h4, h5, z7, rfl, h6⟩ := h1
  have h8 := Fr_trans hF0 h5 (by decide +kernel)
  refine En_iEq _ rfl rfl (fun h9 => ?_) (fun h9 => ?_)
  · refine En_Ps 1 (pc' := 24) (lv' := [(0, .ref s), (1, .int a)]) (st' := [.int ((Int32.ofInt 0))]) rfl ?_
    refine En_top (by decide : (Int32.ofInt 0).toInt = 0) (fun z10 h11 => ?_)
    exact En_ret (v := some (Value.int z10)) rfl rfl (retZ rfl rfl (by first | exact q_55451d0a83 h11 | omega) (by first | exact q_87849c3859 h11 | omega)) ⟨h4, h8, z10, rfl, ⟨by first | exact q_097a37c2ae h11 | omega, by first | exact q_e269517bee h11 | omega, fun _ => by omega⟩⟩
  · refine En_Ps 1 (pc' := 8) (lv' := [(0, .ref s), (1, .int a)]) (st' := [.int a]) rfl ?_
    refine En_iLt _ rfl rfl (fun h12 => ?_) (fun h12 => ?_)
    · refine En_Ps 1 (pc' := 24) (lv' := [(0, .ref s), (1, .int a)]) (st' := [.int ((Int32.ofInt 0))]) rfl ?_
      refine En_top (by decide : (Int32.ofInt 0).toInt = 0) (fun z13 h14 => ?_)
      exact En_ret (v := some (Value.int z13)) rfl rfl (retZ rfl rfl (by first | exact q_55451d0a83 h14 | omega) (by first | exact q_87849c3859 h14 | omega)) ⟨h4, h8, z13, rfl, ⟨by first | exact q_097a37c2ae h14 | omega, by first | exact q_e269517bee h14 | omega, fun _ => by omega⟩⟩
    · refine En_Ps 2 (pc' := 13) (lv' := [(0, .ref s), (1, .int a)]) (st' := [.ref s, .int a]) rfl ?_
      refine En_callV rfl rfl rfl rfl rfl rfl rfl rfl hs (by decide +kernel) rfl (c_51 σ3 h4 s hs sg ((h5 _ _ (inW hs (by decide +kernel))).trans h_sg) (by first | exact q_a555021d16 hp0 | omega)) (by decide) (by decide) (fun v16 σ17 h15 => ?_)
      obtain ⟨h18, h19, z21, rfl, h20⟩ := h15
      have h22 := Fr_trans h8 h19 (by decide +kernel)
      refine En_icGe _ rfl rfl rfl (fun h23 => ?_) (fun h23 => ?_)
      · refine En_Ps 1 (pc' := 24) (lv' := [(0, .ref s), (1, .int a)]) (st' := [.int ((Int32.ofInt 0))]) rfl ?_
        refine En_top (by decide : (Int32.ofInt 0).toInt = 0) (fun z24 h25 => ?_)
        exact En_ret (v := some (Value.int z24)) rfl rfl (retZ rfl rfl (by first | exact q_55451d0a83 h25 | omega) (by first | exact q_87849c3859 h25 | omega)) ⟨h18, h22, z24, rfl, ⟨by first | exact q_097a37c2ae h25 | omega, by first | exact q_e269517bee h25 | omega, fun _ => by omega⟩⟩
      · refine En_Ps 2 (pc' := 24) (lv' := [(0, .ref s), (1, .int a)]) (st' := [.int ((Int32.ofInt 1))]) rfl ?_
        refine En_top (by decide : (Int32.ofInt 1).toInt = 1) (fun z26 h27 => ?_)
        exact En_ret (v := some (Value.int z26)) rfl rfl (retZ rfl rfl (by first | exact q_2b07c97645 h27 | omega) (by first | exact q_d9e7cbb253 h27 | omega)) ⟨h18, h22, z26, rfl, ⟨by first | exact q_ad3eee31ca h27 | omega, by first | exact q_81cf297dc4 h27 | omega, fun _ => by omega⟩⟩
/-- DoorSchool$Plan.isRule(II)Z -/
abbrev P_50 (σ0 : SG) (s : Nat) (a : Int32) (b : Int32) (sg : Int32) : PO := fun v σ => WT σ ∧ Fr [] σ0 σ ∧ ∃ ret : Int32, v = some (Value.int ret) ∧ -ret.toInt ≤ 0 ∧ ret.toInt - 1 ≤ 0 ∧ (ret.toInt - 1 ≤ 0 ∧ -ret.toInt + 1 ≤ 0 → -a.toInt ≤ 0 ∧ a.toInt - 15 ≤ 0 ∧ -b.toInt ≤ 0 ∧ b.toInt - 15 ≤ 0)
set_option maxRecDepth 10000 in
set_option maxHeartbeats 4000000 in
theorem c_50 (σ0 : SG) (hσ0 : WT σ0) (s : Nat) (hs : TG s = 18) (a : Int32) (b : Int32) (sg : Int32) (h_sg : (σ0 s)[1]? = some (Value.int sg)) (hp0 : -sg.toInt ≤ 0) : En 2 41 none mr_50 (P_50 σ0 s a b sg) 0 [(0, .ref s), (1, .int a), (2, .int b)] [] σ0 := by
  obtain ⟨hl_sg, hu_sg⟩ := WT_int hσ0 (g := 18) hs (by decide +kernel) (l := (-1)) (u := 4) (by decide +kernel) h_sg
  have hF0 : Fr [] σ0 σ0 := Fr_rfl
  refine En_Ps 2 (pc' := 2) (lv' := [(0, .ref s), (1, .int a), (2, .int b)]) (st' := [.int a, .ref s]) rfl ?_
  refine En_callV rfl rfl rfl rfl rfl rfl rfl rfl hs (by decide +kernel) rfl (c_49 σ0 hσ0 s hs a sg h_sg (by first | exact q_a555021d16 hp0 | omega)) (by decide) (by decide) (fun v2 σ3 h1 => ?_)
  obtain ⟨h4, h5, z7, rfl, h6⟩ := h1
  have h8 := Fr_trans hF0 h5 (by decide +kernel)
  refine En_iEq _ rfl rfl (fun h9 => ?_) (fun h9 => ?_)
  · refine En_Ps 1 (pc' := 21) (lv' := [(0, .ref s), (1, .int a), (2, .int b)]) (st' := [.int ((Int32.ofInt 0))]) rfl ?_
    refine En_top (by decide : (Int32.ofInt 0).toInt = 0) (fun z10 h11 => ?_)
    exact En_ret (v := some (Value.int z10)) rfl rfl (retZ rfl rfl (by first | exact q_55451d0a83 h11 | omega) (by first | exact q_87849c3859 h11 | omega)) ⟨h4, h8, z10, rfl, ⟨by first | exact q_097a37c2ae h11 | omega, by first | exact q_e269517bee h11 | omega, fun _ => by omega⟩⟩
  · refine En_Ps 4 (pc' := 12) (lv' := [(0, .ref s), (1, .int a), (2, .int b)]) (st' := [.int ((a ^^^ ((Int32.ofInt (-1))))), .int b]) rfl ?_
    refine En_nam (fun z12 h13 => ?_)
    refine En_Ps 1 (pc' := 13) (lv' := [(0, .ref s), (1, .int a), (2, .int b)]) (st' := [.int ((b &&& z12))]) rfl ?_
    refine En_nam (fun z14 h15 => ?_)
    refine En_iNe _ rfl rfl (fun h16 => ?_) (fun h16 => ?_)
    · refine En_Ps 1 (pc' := 21) (lv' := [(0, .ref s), (1, .int a), (2, .int b)]) (st' := [.int ((Int32.ofInt 0))]) rfl ?_
      refine En_top (by decide : (Int32.ofInt 0).toInt = 0) (fun z17 h18 => ?_)
      exact En_ret (v := some (Value.int z17)) rfl rfl (retZ rfl rfl (by first | exact q_55451d0a83 h18 | omega) (by first | exact q_87849c3859 h18 | omega)) ⟨h4, h8, z17, rfl, ⟨by first | exact q_097a37c2ae h18 | omega, by first | exact q_e269517bee h18 | omega, fun _ => by omega⟩⟩
    · obtain ⟨h19, h20⟩ := andn_zero h15 h13 h16 rfl rfl (by omega)
      refine En_Ps 2 (pc' := 21) (lv' := [(0, .ref s), (1, .int a), (2, .int b)]) (st' := [.int ((Int32.ofInt 1))]) rfl ?_
      refine En_top (by decide : (Int32.ofInt 1).toInt = 1) (fun z21 h22 => ?_)
      exact En_ret (v := some (Value.int z21)) rfl rfl (retZ rfl rfl (by first | exact q_2b07c97645 h22 | omega) (by first | exact q_d9e7cbb253 h22 | omega)) ⟨h4, h8, z21, rfl, ⟨by first | exact q_ad3eee31ca h22 | omega, by first | exact q_81cf297dc4 h22 | omega, fun _ => by omega⟩⟩
/-- DoorSchool$Plan.modelOf(I)LDoorSchool$Door; -/
abbrev P_52 (σ0 : SG) (s : Nat) (a : Int32) : PO := fun v σ => WT σ ∧ Fr [] σ0 σ ∧ ∃ ret : Nat, TG ret = 28 ∧ v = some (Value.ref ret) ∧ True
set_option maxRecDepth 10000 in
set_option maxHeartbeats 4000000 in
theorem c_52 (σ0 : SG) (hσ0 : WT σ0) (s : Nat) (hs : TG s = 18) (a : Int32) (hl_a : 0 ≤ a.toInt) (hu_a : a.toInt ≤ 3) : En 0 0 none mr_52 (P_52 σ0 s a) 0 [(0, .ref s), (1, .int a)] [] σ0 := by
  have hF0 : Fr [] σ0 σ0 := Fr_rfl
  refine En_Ps 1 (pc' := 1) (lv' := [(0, .ref s), (1, .int a)]) (st' := [.ref s]) rfl ?_
  refine En_getR (j := 4) (g' := 19) (u := 0) rfl rfl rfl hs (by decide +kernel) hσ0 (by decide +kernel) (fun a2 h1 ha2 => ?_)
  refine En_Ps 1 (pc' := 5) (lv' := [(0, .ref s), (1, .int a)]) (st' := [.int a, .ref a2]) rfl ?_
  refine En_aald (g' := 28) (u := 0) rfl rfl ha2 (by decide +kernel) hσ0 (by first | exact q_58e6e51dcc hl_a | omega) (lnI (by decide +kernel : LN _ = 4) (by first | exact q_f3bb6f88f7 hu_a | omega)) (FTsgl (by decide +kernel)) (fun a4 h3 ha4 => ?_)
  refine En_getI (j := 3) (l := (-1)) (u := 3) rfl rfl rfl ha4 (by decide +kernel) hσ0 (by decide +kernel) (fun z6 h5 h7 h8 => ?_)
  refine En_Ps 3 (pc' := 12) (lv' := [(2, .int z6), (0, .ref s), (1, .int a)]) (st' := [.int ((Int32.ofInt (-1))), .int z6]) rfl ?_
  refine En_icNe _ rfl (by decide : (Int32.ofInt (-1)).toInt = -1) rfl (fun h9 => ?_) (fun h9 => ?_)
  · refine En_Ps 1 (pc' := 25) (lv' := [(2, .int z6), (0, .ref s), (1, .int a)]) (st' := [.ref s]) rfl ?_
    refine En_getK (j := 4) h1 rfl rfl rfl hs (by decide +kernel) ?_
    refine En_Ps 1 (pc' := 29) (lv' := [(2, .int z6), (0, .ref s), (1, .int a)]) (st' := [.int z6, .ref a2]) rfl ?_
    refine En_aald (g' := 28) (u := 0) rfl rfl ha2 (by decide +kernel) hσ0 (by first | exact q_eab05c2344 h9 h7 | omega) (lnI (by decide +kernel : LN _ = 4) (by first | exact q_f3bb6f88f7 h8 | omega)) (FTsgl (by decide +kernel)) (fun a11 h10 ha11 => ?_)
    exact En_ret (v := some (Value.ref a11)) rfl rfl rfl ⟨hσ0, hF0, a11, ha11, rfl, trivial⟩
  · refine En_Ps 1 (pc' := 16) (lv' := [(2, .int z6), (0, .ref s), (1, .int a)]) (st' := [.ref s]) rfl ?_
    refine En_getK (j := 4) h1 rfl rfl rfl hs (by decide +kernel) ?_
    refine En_Ps 1 (pc' := 20) (lv' := [(2, .int z6), (0, .ref s), (1, .int a)]) (st' := [.int a, .ref a2]) rfl ?_
    refine En_aald (g' := 28) (u := 0) rfl rfl ha2 (by decide +kernel) hσ0 (by first | exact q_58e6e51dcc hl_a | omega) (lnI (by decide +kernel : LN _ = 4) (by first | exact q_f3bb6f88f7 hu_a | omega)) (FTsgl (by decide +kernel)) (fun a13 h12 ha13 => ?_)
    refine En_Ps 1 (pc' := 30) (lv' := [(2, .int z6), (0, .ref s), (1, .int a)]) (st' := [.ref a13]) rfl ?_
    exact En_ret (v := some (Value.ref a13)) rfl rfl rfl ⟨hσ0, hF0, a13, ha13, rfl, trivial⟩
end
/-! 32.lx.c06 -/
section
/-- DoorSchool$Rules.deedsOf(II)I -/
abbrev P_77 (σ0 : SG) (a : Int32) (b : Int32) : PO := fun v σ => WT σ ∧ Fr [] σ0 σ ∧ ∃ ret : Int32, v = some (Value.int ret) ∧ -ret.toInt ≤ 0 ∧ ret.toInt - 65535 ≤ 0
set_option maxRecDepth 10000 in
set_option maxHeartbeats 4000000 in
theorem c_77 (σ0 : SG) (hσ0 : WT σ0) (a : Int32) (b : Int32) : En 0 0 none mr_77 (P_77 σ0 a b) 0 [(0, .ref 4), (1, .int a), (2, .int b)] [] σ0 := by
  have hF0 : Fr [] σ0 σ0 := Fr_rfl
  refine En_Ps 4 (pc' := 5) (lv' := [(4, .int ((Int32.ofInt 0))), (3, .int ((Int32.ofInt 0))), (0, .ref 4), (1, .int a), (2, .int b)]) (st' := []) rfl ?_
  have key5 : ∀ (n5 : Nat) (σ3 : SG) (y1 : Int32) (y2 : Int32), WT σ3 → Fr [] σ0 σ3 → 0 ≤ y1.toInt → y1.toInt ≤ 65535 → 0 ≤ y2.toInt → y2.toInt ≤ 16 → -y2.toInt + 16 < (n5 : Int) → En 0 0 none mr_77 (P_77 σ0 a b) 5 [(0, .ref 4), (1, .int a), (2, .int b), (3, .int y1), (4, .int y2)] [] σ3 := by
    intro n5
    induction n5 with
    | zero =>
      intro σ3 y1 y2 h4 h5 h6 h7 h8 h9 h10
      first | exact (q_511f6d33ac h10 h9).elim | (exfalso; omega)
    | succ n5 ih5 =>
      intro σ3 y1 y2 h4 h5 h6 h7 h8 h9 h10
      refine En_Ps 2 (pc' := 8) (lv' := [(0, .ref 4), (1, .int a), (2, .int b), (3, .int y1), (4, .int y2)]) (st' := [.ref 4, .int y2]) rfl ?_
      refine En_getI (j := 0) (l := 0) (u := 16) rfl rfl rfl tgz_4 (by decide +kernel) h4 (by decide +kernel) (fun z12 h11 h13 h14 => ?_)
      refine En_icGe _ rfl rfl rfl (fun h15 => ?_) (fun h15 => ?_)
      · refine En_Ps 1 (pc' := 36) (lv' := [(0, .ref 4), (1, .int a), (2, .int b), (3, .int y1), (4, .int y2)]) (st' := [.int y1]) rfl ?_
        exact En_ret (v := some (Value.int y1)) rfl rfl rfl ⟨h4, h5, y1, rfl, ⟨by first | exact q_c803b490ef h6 | omega, by first | exact q_e7edf0f95a h7 | omega⟩⟩
      · refine En_Ps 3 (pc' := 18) (lv' := [(0, .ref 4), (1, .int a), (2, .int b), (3, .int y1), (4, .int y2)]) (st' := [.int ((y2 &&& a))]) rfl ?_
        refine En_rng (l := 0) (u := 15) (andx_rng rfl (by omega) (by omega)) (fun z16 h17 h18 => ?_)
        refine En_Ps 1 (pc' := 19) (lv' := [(0, .ref 4), (1, .int a), (2, .int b), (3, .int y1), (4, .int y2)]) (st' := [.int b, .int z16]) rfl ?_
        refine En_icNe _ rfl rfl rfl (fun h19 => ?_) (fun h19 => ?_)
        · refine En_Ps 1 (pc' := 32) (lv' := [(4, .int ((y2 + Int32.ofInt 1))), (0, .ref 4), (1, .int a), (2, .int b), (3, .int y1)]) (st' := []) rfl ?_
          refine En_lv1 (addI rfl (by decide : (Int32.ofInt 1).toInt = 1) (by first | exact q_465ab79ac1 h8 | omega) (by first | exact q_f3f8e04381 h9 | omega)) (fun z20 h21 => ?_)
          refine En_Ps 1 (pc' := 5) (lv' := [(4, .int z20), (0, .ref 4), (1, .int a), (2, .int b), (3, .int y1)]) (st' := []) rfl ?_
          refine En_lv (lv := [(0, .ref 4), (1, .int a), (2, .int b), (3, .int y1), (4, .int z20)]) ⟨rfl, rfl, rfl, rfl, rfl, trivial⟩ ?_
          exact ih5 σ3 y1 z20 h4 h5 (by first | exact q_58e6e51dcc h6 | omega) (by first | exact q_36eb0a70bf h7 | omega) (by first | exact q_35104ce9d3 h21 h8 | omega) (by first | exact q_eba8fd3b5f h21 h15 h14 | omega) (by first | exact q_c5d740bdff h21 h10 | omega)
        · refine En_Ps 4 (pc' := 27) (lv' := [(0, .ref 4), (1, .int a), (2, .int b), (3, .int y1), (4, .int y2)]) (st' := [.int ((((Int32.ofInt 1)) <<< (y2 &&& 31))), .int y1]) rfl ?_
          refine En_rng (shl1_p 15 rfl (by omega) (by omega) (by decide)) (fun z22 h23 h24 => ?_)
          refine En_Ps 1 (pc' := 28) (lv' := [(0, .ref 4), (1, .int a), (2, .int b), (3, .int y1), (4, .int y2)]) (st' := [.int ((y1 ||| z22))]) rfl ?_
          refine En_rng (l := 0) (u := 65535) (or_rng 16 rfl rfl (by omega) (by omega) (by omega) (by omega) (by decide)) (fun z25 h26 h27 => ?_)
          refine En_Ps 2 (pc' := 32) (lv' := [(4, .int ((y2 + Int32.ofInt 1))), (3, .int z25), (0, .ref 4), (1, .int a), (2, .int b)]) (st' := []) rfl ?_
          refine En_lv1 (addI rfl (by decide : (Int32.ofInt 1).toInt = 1) (by first | exact q_465ab79ac1 h8 | omega) (by first | exact q_f3f8e04381 h9 | omega)) (fun z28 h29 => ?_)
          refine En_Ps 1 (pc' := 5) (lv' := [(4, .int z28), (3, .int z25), (0, .ref 4), (1, .int a), (2, .int b)]) (st' := []) rfl ?_
          refine En_lv (lv := [(0, .ref 4), (1, .int a), (2, .int b), (3, .int z25), (4, .int z28)]) ⟨rfl, rfl, rfl, rfl, rfl, trivial⟩ ?_
          exact ih5 σ3 z25 z28 h4 h5 (by first | exact q_58e6e51dcc h26 | omega) (by first | exact q_36eb0a70bf h27 | omega) (by first | exact q_35104ce9d3 h29 h8 | omega) (by first | exact q_eba8fd3b5f h29 h15 h14 | omega) (by first | exact q_c5d740bdff h29 h10 | omega)
  have := (by decide : (Int32.ofInt 0).toInt = 0)
  have := (by decide : (Int32.ofInt 0).toInt = 0)
  refine En_lv (lv := [(0, .ref 4), (1, .int a), (2, .int b), (3, .int ((Int32.ofInt 0))), (4, .int ((Int32.ofInt 0)))]) ⟨rfl, rfl, rfl, rfl, rfl, trivial⟩ ?_
  exact key5 (Int.toNat (16) + 1) σ0 ((Int32.ofInt 0)) ((Int32.ofInt 0)) hσ0 hF0 (by decide) (by decide) (by decide) (by decide) (by first | exact toN_lt _ | omega)
/-- DoorSchool$Rules.howMany(II)I -/
abbrev P_79 (σ0 : SG) (a : Int32) (b : Int32) : PO := fun v σ => WT σ ∧ Fr [] σ0 σ ∧ ∃ ret : Int32, v = some (Value.int ret) ∧ -ret.toInt ≤ 0 ∧ ret.toInt - 81 ≤ 0
set_option maxRecDepth 10000 in
set_option maxHeartbeats 4000000 in
theorem c_79 (σ0 : SG) (hσ0 : WT σ0) (a : Int32) (b : Int32) : En 1 22 none mr_79 (P_79 σ0 a b) 0 [(0, .ref 4), (1, .int a), (2, .int b)] [] σ0 := by
  have hF0 : Fr [] σ0 σ0 := Fr_rfl
  refine En_Ps 4 (pc' := 5) (lv' := [(4, .int ((Int32.ofInt 0))), (3, .int ((Int32.ofInt 0))), (0, .ref 4), (1, .int a), (2, .int b)]) (st' := []) rfl ?_
  have key5 : ∀ (n5 : Nat) (σ3 : SG) (y1 : Int32) (y2 : Int32), WT σ3 → Fr [] σ0 σ3 → 0 ≤ y1.toInt → y1.toInt ≤ 81 → 0 ≤ y2.toInt → y2.toInt ≤ 81 → y1.toInt - y2.toInt ≤ 0 → -y2.toInt + 81 < (n5 : Int) → En 1 22 none mr_79 (P_79 σ0 a b) 5 [(0, .ref 4), (1, .int a), (2, .int b), (3, .int y1), (4, .int y2)] [] σ3 := by
    intro n5
    induction n5 with
    | zero =>
      intro σ3 y1 y2 h4 h5 h6 h7 h8 h9 h10 h11
      first | exact (q_ffef14d449 h11 h9).elim | (exfalso; omega)
    | succ n5 ih5 =>
      intro σ3 y1 y2 h4 h5 h6 h7 h8 h9 h10 h11
      refine En_Ps 2 (pc' := 8) (lv' := [(0, .ref 4), (1, .int a), (2, .int b), (3, .int y1), (4, .int y2)]) (st' := [.ref 4, .int y2]) rfl ?_
      refine En_getI (j := 1) (l := 0) (u := 81) rfl rfl rfl tgz_4 (by decide +kernel) h4 (by decide +kernel) (fun z13 h12 h14 h15 => ?_)
      refine En_icGe _ rfl rfl rfl (fun h16 => ?_) (fun h16 => ?_)
      · refine En_Ps 1 (pc' := 39) (lv' := [(0, .ref 4), (1, .int a), (2, .int b), (3, .int y1), (4, .int y2)]) (st' := [.int y1]) rfl ?_
        exact En_ret (v := some (Value.int y1)) rfl rfl rfl ⟨h4, h5, y1, rfl, ⟨by first | exact q_c803b490ef h6 | omega, by first | exact q_96a57adcaf h7 | omega⟩⟩
      · refine En_Ps 1 (pc' := 15) (lv' := [(0, .ref 4), (1, .int a), (2, .int b), (3, .int y1), (4, .int y2)]) (st' := [.ref 4]) rfl ?_
        refine En_getU (j := 4) (u := 7) (g' := 7) (q := 0) rfl rfl rfl tgz_4 (by decide +kernel) h4 (by decide +kernel) un_7_7 (fun h17 => ?_)
        refine En_Ps 1 (pc' := 20) (lv' := [(0, .ref 4), (1, .int a), (2, .int b), (3, .int y1), (4, .int y2)]) (st' := [.int y2, .ref 7]) rfl ?_
        refine En_iald (l := (-2147483648)) (u := 2147483647) rfl rfl tgz_7 (by decide +kernel) h4 (by first | exact q_58e6e51dcc h8 | omega) (lnI (by decide +kernel : LN _ = 81) (by first | exact q_a0e855914a h16 h15 | omega)) (FTsgl (by decide +kernel)) (fun z20 h19 h21 h22 => ?_)
        refine En_Ps 2 (pc' := 23) (lv' := [(0, .ref 4), (1, .int a), (2, .int b), (3, .int y1), (4, .int y2)]) (st' := [.int b, .int a, .int z20]) rfl ?_
        refine En_callS rfl rfl rfl rfl rfl rfl rfl rfl rfl (c_100 σ3 h4 z20 a b) (by decide) (by decide) (fun v24 σ25 h23 => ?_)
        obtain ⟨h26, h27, z29, rfl, h28⟩ := h23
        have h30 := Fr_trans h5 h27 (by decide +kernel)
        refine En_iEq _ rfl rfl (fun h31 => ?_) (fun h31 => ?_)
        · refine En_Ps 1 (pc' := 35) (lv' := [(4, .int ((y2 + Int32.ofInt 1))), (0, .ref 4), (1, .int a), (2, .int b), (3, .int y1)]) (st' := []) rfl ?_
          refine En_lv1 (addI rfl (by decide : (Int32.ofInt 1).toInt = 1) (by first | exact q_465ab79ac1 h8 | omega) (by first | exact q_d778ff18c8 h9 | omega)) (fun z32 h33 => ?_)
          refine En_Ps 1 (pc' := 5) (lv' := [(4, .int z32), (0, .ref 4), (1, .int a), (2, .int b), (3, .int y1)]) (st' := []) rfl ?_
          refine En_lv (lv := [(0, .ref 4), (1, .int a), (2, .int b), (3, .int y1), (4, .int z32)]) ⟨rfl, rfl, rfl, rfl, rfl, trivial⟩ ?_
          exact ih5 σ25 y1 z32 h26 h30 (by first | exact q_58e6e51dcc h6 | omega) (by first | exact q_938d18a0b8 h7 | omega) (by first | exact q_35104ce9d3 h33 h8 | omega) (by first | exact q_798b104d48 h33 h16 h15 | omega) (by first | exact q_3a5e225620 h10 h33 | omega) (by first | exact q_4ff790945b h33 h11 | omega)
        · refine En_Ps 1 (pc' := 32) (lv' := [(3, .int ((y1 + Int32.ofInt 1))), (0, .ref 4), (1, .int a), (2, .int b), (4, .int y2)]) (st' := []) rfl ?_
          refine En_lv1 (addI rfl (by decide : (Int32.ofInt 1).toInt = 1) (by first | exact q_465ab79ac1 h6 | omega) (by first | exact q_d778ff18c8 h7 | omega)) (fun z34 h35 => ?_)
          refine En_Ps 1 (pc' := 35) (lv' := [(4, .int ((y2 + Int32.ofInt 1))), (3, .int z34), (0, .ref 4), (1, .int a), (2, .int b)]) (st' := []) rfl ?_
          refine En_lv1 (addI rfl (by decide : (Int32.ofInt 1).toInt = 1) (by first | exact q_465ab79ac1 h8 | omega) (by first | exact q_d778ff18c8 h9 | omega)) (fun z36 h37 => ?_)
          refine En_Ps 1 (pc' := 5) (lv' := [(4, .int z36), (3, .int z34), (0, .ref 4), (1, .int a), (2, .int b)]) (st' := []) rfl ?_
          refine En_lv (lv := [(0, .ref 4), (1, .int a), (2, .int b), (3, .int z34), (4, .int z36)]) ⟨rfl, rfl, rfl, rfl, rfl, trivial⟩ ?_
          exact ih5 σ25 z34 z36 h26 h30 (by first | exact q_35104ce9d3 h35 h6 | omega) (by first | exact q_d53ed2728c h35 h10 h16 h15 | omega) (by first | exact q_35104ce9d3 h37 h8 | omega) (by first | exact q_798b104d48 h37 h16 h15 | omega) (by first | exact q_1ff421e7a2 h35 h37 h10 | omega) (by first | exact q_4ff790945b h37 h11 | omega)
  have := (by decide : (Int32.ofInt 0).toInt = 0)
  have := (by decide : (Int32.ofInt 0).toInt = 0)
  refine En_lv (lv := [(0, .ref 4), (1, .int a), (2, .int b), (3, .int ((Int32.ofInt 0))), (4, .int ((Int32.ofInt 0)))]) ⟨rfl, rfl, rfl, rfl, rfl, trivial⟩ ?_
  exact key5 (Int.toNat (81) + 1) σ0 ((Int32.ofInt 0)) ((Int32.ofInt 0)) hσ0 hF0 (by decide) (by decide) (by decide) (by decide) (by omega) (by first | exact toN_lt _ | omega)
/-- DoorSchool$Rules.placeOf(I)I -/
abbrev P_81 (σ0 : SG) (a : Int32) : PO := fun v σ => WT σ ∧ Fr [] σ0 σ ∧ ∃ ret : Int32, v = some (Value.int ret) ∧ -ret.toInt - 1 ≤ 0 ∧ ret.toInt - 80 ≤ 0
set_option maxRecDepth 10000 in
set_option maxHeartbeats 4000000 in
theorem c_81 (σ0 : SG) (hσ0 : WT σ0) (a : Int32) : En 0 0 none mr_81 (P_81 σ0 a) 0 [(0, .ref 4), (1, .int a)] [] σ0 := by
  have hF0 : Fr [] σ0 σ0 := Fr_rfl
  refine En_Ps 2 (pc' := 2) (lv' := [(2, .int ((Int32.ofInt 0))), (0, .ref 4), (1, .int a)]) (st' := []) rfl ?_
  have key2 : ∀ (n2 : Nat) (σ2 : SG) (y1 : Int32), WT σ2 → Fr [] σ0 σ2 → 0 ≤ y1.toInt → y1.toInt ≤ 81 → -y1.toInt + 81 < (n2 : Int) → En 0 0 none mr_81 (P_81 σ0 a) 2 [(0, .ref 4), (1, .int a), (2, .int y1)] [] σ2 := by
    intro n2
    induction n2 with
    | zero =>
      intro σ2 y1 h3 h4 h5 h6 h7
      first | exact (q_ffef14d449 h7 h6).elim | (exfalso; omega)
    | succ n2 ih2 =>
      intro σ2 y1 h3 h4 h5 h6 h7
      refine En_Ps 2 (pc' := 4) (lv' := [(0, .ref 4), (1, .int a), (2, .int y1)]) (st' := [.ref 4, .int y1]) rfl ?_
      refine En_getI (j := 1) (l := 0) (u := 81) rfl rfl rfl tgz_4 (by decide +kernel) h3 (by decide +kernel) (fun z9 h8 h10 h11 => ?_)
      refine En_icGe _ rfl rfl rfl (fun h12 => ?_) (fun h12 => ?_)
      · refine En_Ps 1 (pc' := 29) (lv' := [(0, .ref 4), (1, .int a), (2, .int y1)]) (st' := [.int ((Int32.ofInt (-1)))]) rfl ?_
        refine En_top (by decide : (Int32.ofInt (-1)).toInt = -1) (fun z13 h14 => ?_)
        exact En_ret (v := some (Value.int z13)) rfl rfl rfl ⟨h3, h4, z13, rfl, ⟨by first | exact q_6ba54b61e9 h14 | omega, by first | exact q_ed1bd306dd h14 | omega⟩⟩
      · refine En_Ps 1 (pc' := 11) (lv' := [(0, .ref 4), (1, .int a), (2, .int y1)]) (st' := [.ref 4]) rfl ?_
        refine En_getU (j := 4) (u := 7) (g' := 7) (q := 0) rfl rfl rfl tgz_4 (by decide +kernel) h3 (by decide +kernel) un_7_7 (fun h15 => ?_)
        refine En_Ps 1 (pc' := 15) (lv' := [(0, .ref 4), (1, .int a), (2, .int y1)]) (st' := [.int y1, .ref 7]) rfl ?_
        refine En_iald (l := (-2147483648)) (u := 2147483647) rfl rfl tgz_7 (by decide +kernel) h3 (by first | exact q_58e6e51dcc h5 | omega) (lnI (by decide +kernel : LN _ = 81) (by first | exact q_a0e855914a h12 h11 | omega)) (FTsgl (by decide +kernel)) (fun z18 h17 h19 h20 => ?_)
        refine En_Ps 1 (pc' := 17) (lv' := [(0, .ref 4), (1, .int a), (2, .int y1)]) (st' := [.int a, .int z18]) rfl ?_
        refine En_icNe _ rfl rfl rfl (fun h21 => ?_) (fun h21 => ?_)
        · refine En_Ps 1 (pc' := 25) (lv' := [(2, .int ((y1 + Int32.ofInt 1))), (0, .ref 4), (1, .int a)]) (st' := []) rfl ?_
          refine En_lv1 (addI rfl (by decide : (Int32.ofInt 1).toInt = 1) (by first | exact q_465ab79ac1 h5 | omega) (by first | exact q_d778ff18c8 h6 | omega)) (fun z22 h23 => ?_)
          refine En_Ps 1 (pc' := 2) (lv' := [(2, .int z22), (0, .ref 4), (1, .int a)]) (st' := []) rfl ?_
          refine En_lv (lv := [(0, .ref 4), (1, .int a), (2, .int z22)]) ⟨rfl, rfl, rfl, trivial⟩ ?_
          exact ih2 σ2 z22 h3 h4 (by first | exact q_35104ce9d3 h23 h5 | omega) (by first | exact q_798b104d48 h23 h12 h11 | omega) (by first | exact q_4ff790945b h23 h7 | omega)
        · refine En_Ps 1 (pc' := 21) (lv' := [(0, .ref 4), (1, .int a), (2, .int y1)]) (st' := [.int y1]) rfl ?_
          exact En_ret (v := some (Value.int y1)) rfl rfl rfl ⟨h3, h4, y1, rfl, ⟨by first | exact q_565e7b05df h5 | omega, by first | exact q_6b56ae27a7 h12 h11 | omega⟩⟩
  have := (by decide : (Int32.ofInt 0).toInt = 0)
  refine En_lv (lv := [(0, .ref 4), (1, .int a), (2, .int ((Int32.ofInt 0)))]) ⟨rfl, rfl, rfl, trivial⟩ ?_
  exact key2 (Int.toNat (81) + 1) σ0 ((Int32.ofInt 0)) hσ0 hF0 (by decide) (by decide) (by first | exact toN_lt _ | omega)
end
/-! 32.lx.c07 -/
section
/-- DoorSchool$Rules.surely(IIZ)I -/
abbrev P_83 (σ0 : SG) (a : Int32) (b : Int32) (c : Int32) : PO := fun v σ => WT σ ∧ Fr [] σ0 σ ∧ ∃ ret : Int32, v = some (Value.int ret) ∧ -ret.toInt ≤ 0 ∧ ret.toInt - 65535 ≤ 0
set_option maxRecDepth 10000 in
set_option maxHeartbeats 4000000 in
theorem c_83 (σ0 : SG) (hσ0 : WT σ0) (a : Int32) (b : Int32) (c : Int32) (hl_c : 0 ≤ c.toInt) (hu_c : c.toInt ≤ 1) : En 1 22 none mr_83 (P_83 σ0 a b c) 0 [(0, .ref 4), (1, .int a), (2, .int b), (3, .int c)] [] σ0 := by
  have hF0 : Fr [] σ0 σ0 := Fr_rfl
  refine En_Ps 2 (pc' := 2) (lv' := [(0, .ref 4), (1, .int a), (2, .int b), (3, .int c)]) (st' := [.ref 4, .int ((Int32.ofInt 1))]) rfl ?_
  refine En_getI (j := 0) (l := 0) (u := 16) rfl rfl rfl tgz_4 (by decide +kernel) hσ0 (by decide +kernel) (fun z2 h1 h3 h4 => ?_)
  refine En_Ps 1 (pc' := 6) (lv' := [(0, .ref 4), (1, .int a), (2, .int b), (3, .int c)]) (st' := [.int ((((Int32.ofInt 1)) <<< (z2 &&& 31)))]) rfl ?_
  refine En_rng (shl1_p 16 rfl (by omega) (by omega) (by decide)) (fun z5 h6 h7 => ?_)
  refine En_Ps 2 (pc' := 8) (lv' := [(0, .ref 4), (1, .int a), (2, .int b), (3, .int c)]) (st' := [.int ((z5 - ((Int32.ofInt 1))))]) rfl ?_
  refine En_top (subI rfl (by decide : (Int32.ofInt 1).toInt = 1) (by first | exact q_96dadfce4b h6 | omega) (by first | exact q_8661d4233b h7 | omega)) (fun z8 h9 => ?_)
  refine En_Ps 3 (pc' := 13) (lv' := [(5, .int ((Int32.ofInt 0))), (4, .int z8), (0, .ref 4), (1, .int a), (2, .int b), (3, .int c)]) (st' := []) rfl ?_
  have key13 : ∀ (n13 : Nat) (σ12 : SG) (y10 : Int32) (y11 : Int32), WT σ12 → Fr [] σ0 σ12 → (σ12 4)[0]? = some (Value.int z2) → 0 ≤ y10.toInt → y10.toInt ≤ 65535 → 0 ≤ y11.toInt → y11.toInt ≤ 81 → -y11.toInt + 81 < (n13 : Int) → En 1 22 none mr_83 (P_83 σ0 a b c) 13 [(0, .ref 4), (1, .int a), (2, .int b), (3, .int c), (4, .int y10), (5, .int y11)] [] σ12 := by
    intro n13
    induction n13 with
    | zero =>
      intro σ12 y10 y11 h13 h14 h15 h16 h17 h18 h19 h20
      first | exact (q_ffef14d449 h20 h19).elim | (exfalso; omega)
    | succ n13 ih13 =>
      intro σ12 y10 y11 h13 h14 h15 h16 h17 h18 h19 h20
      refine En_Ps 2 (pc' := 16) (lv' := [(0, .ref 4), (1, .int a), (2, .int b), (3, .int c), (4, .int y10), (5, .int y11)]) (st' := [.ref 4, .int y11]) rfl ?_
      refine En_getI (j := 1) (l := 0) (u := 81) rfl rfl rfl tgz_4 (by decide +kernel) h13 (by decide +kernel) (fun z22 h21 h23 h24 => ?_)
      refine En_icGe _ rfl rfl rfl (fun h25 => ?_) (fun h25 => ?_)
      · refine En_Ps 1 (pc' := 73) (lv' := [(0, .ref 4), (1, .int a), (2, .int b), (3, .int c), (4, .int y10), (5, .int y11)]) (st' := [.int y10]) rfl ?_
        exact En_ret (v := some (Value.int y10)) rfl rfl rfl ⟨h13, h14, y10, rfl, ⟨by first | exact q_c803b490ef h16 | omega, by first | exact q_e7edf0f95a h17 | omega⟩⟩
      · refine En_Ps 1 (pc' := 23) (lv' := [(0, .ref 4), (1, .int a), (2, .int b), (3, .int c), (4, .int y10), (5, .int y11)]) (st' := [.ref 4]) rfl ?_
        refine En_getU (j := 4) (u := 7) (g' := 7) (q := 0) rfl rfl rfl tgz_4 (by decide +kernel) h13 (by decide +kernel) un_7_7 (fun h26 => ?_)
        refine En_Ps 1 (pc' := 28) (lv' := [(0, .ref 4), (1, .int a), (2, .int b), (3, .int c), (4, .int y10), (5, .int y11)]) (st' := [.int y11, .ref 7]) rfl ?_
        refine En_iald (l := (-2147483648)) (u := 2147483647) rfl rfl tgz_7 (by decide +kernel) h13 (by first | exact q_58e6e51dcc h18 | omega) (lnI (by decide +kernel : LN _ = 81) (by first | exact q_a0e855914a h25 h24 | omega)) (FTsgl (by decide +kernel)) (fun z29 h28 h30 h31 => ?_)
        refine En_Ps 2 (pc' := 31) (lv' := [(0, .ref 4), (1, .int a), (2, .int b), (3, .int c), (4, .int y10), (5, .int y11)]) (st' := [.int b, .int a, .int z29]) rfl ?_
        refine En_callS rfl rfl rfl rfl rfl rfl rfl rfl rfl (c_100 σ12 h13 z29 a b) (by decide) (by decide) (fun v33 σ34 h32 => ?_)
        obtain ⟨h35, h36, z38, rfl, h37⟩ := h32
        have h39 := Fr_trans h14 h36 (by decide +kernel)
        refine En_iEq _ rfl rfl (fun h40 => ?_) (fun h40 => ?_)
        · refine En_Ps 1 (pc' := 68) (lv' := [(5, .int ((y11 + Int32.ofInt 1))), (0, .ref 4), (1, .int a), (2, .int b), (3, .int c), (4, .int y10)]) (st' := []) rfl ?_
          refine En_lv1 (addI rfl (by decide : (Int32.ofInt 1).toInt = 1) (by first | exact q_465ab79ac1 h18 | omega) (by first | exact q_d778ff18c8 h19 | omega)) (fun z41 h42 => ?_)
          refine En_Ps 1 (pc' := 13) (lv' := [(5, .int z41), (0, .ref 4), (1, .int a), (2, .int b), (3, .int c), (4, .int y10)]) (st' := []) rfl ?_
          refine En_lv (lv := [(0, .ref 4), (1, .int a), (2, .int b), (3, .int c), (4, .int y10), (5, .int z41)]) ⟨rfl, rfl, rfl, rfl, rfl, rfl, trivial⟩ ?_
          exact ih13 σ34 y10 z41 h35 h39 ((h36 _ _ (inW tgz_4 (by decide +kernel))).trans h15) (by first | exact q_58e6e51dcc h16 | omega) (by first | exact q_36eb0a70bf h17 | omega) (by first | exact q_35104ce9d3 h42 h18 | omega) (by first | exact q_798b104d48 h42 h25 h24 | omega) (by first | exact q_4ff790945b h42 h20 | omega)
        · refine En_Ps 2 (pc' := 40) (lv' := [(0, .ref 4), (1, .int a), (2, .int b), (3, .int c), (4, .int y10), (5, .int y11)]) (st' := [.int c, .int y10]) rfl ?_
          refine En_iEq _ rfl rfl (fun h43 => ?_) (fun h43 => ?_)
          · refine En_Ps 1 (pc' := 54) (lv' := [(0, .ref 4), (1, .int a), (2, .int b), (3, .int c), (4, .int y10), (5, .int y11)]) (st' := [.ref 4, .int y10]) rfl ?_
            refine En_getK (j := 4) ((h36 _ _ (inW tgz_4 (by decide +kernel))).trans h26) rfl rfl rfl tgz_4 (by decide +kernel) ?_
            refine En_Ps 1 (pc' := 59) (lv' := [(0, .ref 4), (1, .int a), (2, .int b), (3, .int c), (4, .int y10), (5, .int y11)]) (st' := [.int y11, .ref 7, .int y10]) rfl ?_
            refine En_ialdK ((h36 _ _ (inWa tgz_7 (by decide +kernel))).trans h28) rfl rfl tgz_7 (by decide +kernel) h35 (by first | exact q_58e6e51dcc h18 | omega) (lnI (by decide +kernel : LN _ = 81) (by first | exact q_a0e855914a h25 h24 | omega)) ?_
            refine En_Ps 2 (pc' := 62) (lv' := [(0, .ref 4), (1, .int a), (2, .int b), (3, .int c), (4, .int y10), (5, .int y11)]) (st' := [.int ((z29 ^^^ ((Int32.ofInt (-1))))), .int y10]) rfl ?_
            refine En_nam (fun z45 h46 => ?_)
            refine En_Ps 1 (pc' := 63) (lv' := [(0, .ref 4), (1, .int a), (2, .int b), (3, .int c), (4, .int y10), (5, .int y11)]) (st' := [.int ((y10 &&& z45))]) rfl ?_
            refine En_nam (fun z47 h48 => ?_)
            obtain ⟨h49, h50⟩ := andn_rng h48 rfl (by omega) (by omega : _ ≤ (65535 : Int))
            refine En_Ps 2 (pc' := 68) (lv' := [(5, .int ((y11 + Int32.ofInt 1))), (4, .int z47), (0, .ref 4), (1, .int a), (2, .int b), (3, .int c)]) (st' := []) rfl ?_
            refine En_lv1 (addI rfl (by decide : (Int32.ofInt 1).toInt = 1) (by first | exact q_465ab79ac1 h18 | omega) (by first | exact q_d778ff18c8 h19 | omega)) (fun z51 h52 => ?_)
            refine En_Ps 1 (pc' := 13) (lv' := [(5, .int z51), (4, .int z47), (0, .ref 4), (1, .int a), (2, .int b), (3, .int c)]) (st' := []) rfl ?_
            refine En_lv (lv := [(0, .ref 4), (1, .int a), (2, .int b), (3, .int c), (4, .int z47), (5, .int z51)]) ⟨rfl, rfl, rfl, rfl, rfl, rfl, trivial⟩ ?_
            exact ih13 σ34 z47 z51 h35 h39 ((h36 _ _ (inW tgz_4 (by decide +kernel))).trans h15) (by omega) (by omega) (by first | exact q_35104ce9d3 h52 h18 | omega) (by first | exact q_798b104d48 h52 h25 h24 | omega) (by first | exact q_4ff790945b h52 h20 | omega)
          · refine En_Ps 1 (pc' := 44) (lv' := [(0, .ref 4), (1, .int a), (2, .int b), (3, .int c), (4, .int y10), (5, .int y11)]) (st' := [.ref 4, .int y10]) rfl ?_
            refine En_getK (j := 4) ((h36 _ _ (inW tgz_4 (by decide +kernel))).trans h26) rfl rfl rfl tgz_4 (by decide +kernel) ?_
            refine En_Ps 1 (pc' := 49) (lv' := [(0, .ref 4), (1, .int a), (2, .int b), (3, .int c), (4, .int y10), (5, .int y11)]) (st' := [.int y11, .ref 7, .int y10]) rfl ?_
            refine En_ialdK ((h36 _ _ (inWa tgz_7 (by decide +kernel))).trans h28) rfl rfl tgz_7 (by decide +kernel) h35 (by first | exact q_58e6e51dcc h18 | omega) (lnI (by decide +kernel : LN _ = 81) (by first | exact q_a0e855914a h25 h24 | omega)) ?_
            refine En_Ps 2 (pc' := 63) (lv' := [(0, .ref 4), (1, .int a), (2, .int b), (3, .int c), (4, .int y10), (5, .int y11)]) (st' := [.int ((y10 &&& z29))]) rfl ?_
            refine En_rng (l := 0) (u := 65535) (andx_rng rfl (by omega) (by omega)) (fun z54 h55 h56 => ?_)
            refine En_Ps 2 (pc' := 68) (lv' := [(5, .int ((y11 + Int32.ofInt 1))), (4, .int z54), (0, .ref 4), (1, .int a), (2, .int b), (3, .int c)]) (st' := []) rfl ?_
            refine En_lv1 (addI rfl (by decide : (Int32.ofInt 1).toInt = 1) (by first | exact q_465ab79ac1 h18 | omega) (by first | exact q_d778ff18c8 h19 | omega)) (fun z57 h58 => ?_)
            refine En_Ps 1 (pc' := 13) (lv' := [(5, .int z57), (4, .int z54), (0, .ref 4), (1, .int a), (2, .int b), (3, .int c)]) (st' := []) rfl ?_
            refine En_lv (lv := [(0, .ref 4), (1, .int a), (2, .int b), (3, .int c), (4, .int z54), (5, .int z57)]) ⟨rfl, rfl, rfl, rfl, rfl, rfl, trivial⟩ ?_
            exact ih13 σ34 z54 z57 h35 h39 ((h36 _ _ (inW tgz_4 (by decide +kernel))).trans h15) (by first | exact q_58e6e51dcc h55 | omega) (by first | exact q_36eb0a70bf h56 | omega) (by first | exact q_35104ce9d3 h58 h18 | omega) (by first | exact q_798b104d48 h58 h25 h24 | omega) (by first | exact q_4ff790945b h58 h20 | omega)
  have := (by decide : (Int32.ofInt 0).toInt = 0)
  refine En_lv (lv := [(0, .ref 4), (1, .int a), (2, .int b), (3, .int c), (4, .int z8), (5, .int ((Int32.ofInt 0)))]) ⟨rfl, rfl, rfl, rfl, rfl, rfl, trivial⟩ ?_
  exact key13 (Int.toNat (81) + 1) σ0 z8 ((Int32.ofInt 0)) hσ0 hF0 h1 (by first | exact q_00529e3716 h9 h6 | omega) (by first | exact q_4255f5efe7 h9 h7 | omega) (by decide) (by decide) (by first | exact toN_lt _ | omega)
/-- DoorSchool$Slot.begin(II)V -/
abbrev P_84 (σ0 : SG) (s : Nat) (a : Int32) (b : Int32) : PO := fun v σ => WT σ ∧ Fr [(33, 1), (33, 2), (33, 3), (34, 0)] σ0 σ ∧ v = none ∧ True
set_option maxRecDepth 10000 in
set_option maxHeartbeats 4000000 in
theorem c_84 (σ0 : SG) (hσ0 : WT σ0) (s : Nat) (hs : TG s = 33) (a : Int32) (b : Int32) (hl_a : 0 ≤ a.toInt) (hu_a : a.toInt ≤ 3) (hl_b : 0 ≤ b.toInt) (hu_b : b.toInt ≤ 60) : En 1 24 none mr_84 (P_84 σ0 s a b) 0 [(0, .ref s), (1, .int a), (2, .int b)] [] σ0 := by
  have hF0 : Fr [(33, 1), (33, 2), (33, 3), (34, 0)] σ0 σ0 := Fr_rfl
  refine En_Ps 2 (pc' := 2) (lv' := [(0, .ref s), (1, .int a), (2, .int b)]) (st' := [.int ((Int32.ofInt 1)), .ref s]) rfl ?_
  refine En_put (j := 1) rfl rfl rfl hs (by decide +kernel) (okZ (by decide : (Int32.ofInt 1).toInt = 1) (by decide) (by decide)) (vI (l := 0) (u := 1) (by decide +kernel) (by decide : (Int32.ofInt 1).toInt = 1) (by decide) (by decide)) hσ0 hF0 (by decide +kernel) (fun σ1 h2 h3 h4 h5 => ?_)
  refine En_Ps 2 (pc' := 7) (lv' := [(0, .ref s), (1, .int a), (2, .int b)]) (st' := [.int a, .ref s]) rfl ?_
  refine En_put (j := 2) rfl rfl rfl hs (by decide +kernel) rfl (vI (l := 0) (u := 3) (by decide +kernel) rfl (by first | exact q_58e6e51dcc hl_a | omega) (by first | exact q_da5e9b976f hu_a | omega)) h2 h3 (by decide +kernel) (fun σ6 h7 h8 h9 h10 => ?_)
  refine En_Ps 2 (pc' := 12) (lv' := [(0, .ref s), (1, .int a), (2, .int b)]) (st' := [.int b, .ref s]) rfl ?_
  refine En_put (j := 3) rfl rfl rfl hs (by decide +kernel) rfl (vI (l := 0) (u := 60) (by decide +kernel) rfl (by first | exact q_58e6e51dcc hl_b | omega) (by first | exact q_d3912a5755 hu_b | omega)) h7 h8 (by decide +kernel) (fun σ11 h12 h13 h14 h15 => ?_)
  refine En_Ps 1 (pc' := 16) (lv' := [(0, .ref s), (1, .int a), (2, .int b)]) (st' := [.ref s]) rfl ?_
  refine En_getR (j := 0) (g' := 34) (u := 0) rfl rfl rfl hs (by decide +kernel) h12 (by decide +kernel) (fun a17 h16 ha17 => ?_)
  refine En_Ps 1 (pc' := 20) (lv' := [(0, .ref s), (1, .int a), (2, .int b)]) (st' := [.long ((Int64.ofNat 0)), .ref a17]) rfl ?_
  have := (by decide : ((Int64.ofNat 0)).toInt = 0)
  refine En_callS rfl rfl rfl rfl rfl rfl rfl rfl rfl (c_9a σ11 h12 a17 ha17 ((Int64.ofNat 0))) (by decide) (by decide) (fun v19 σ20 h18 => ?_)
  obtain ⟨h21, h22, rfl, h23⟩ := h18
  have h24 := Fr_trans h13 h22 (by decide +kernel)
  exact En_ret (v := none) rfl rfl rfl ⟨h21, h24, rfl, trivial⟩
/-- DoorSchool$Slot.has(II)Z -/
abbrev P_85 (σ0 : SG) (s : Nat) (a : Int32) (b : Int32) (sz : Int32) : PO := fun v σ => WT σ ∧ Fr [] σ0 σ ∧ ∃ ret : Int32, v = some (Value.int ret) ∧ -ret.toInt ≤ 0 ∧ ret.toInt - 1 ≤ 0 ∧ (-ret.toInt + 1 ≤ 0 → -b.toInt ≤ 0 ∧ -a.toInt ≤ 0 ∧ a.toInt + b.toInt - sz.toInt ≤ 0) ∧ (ret.toInt ≤ 0 ∧ -ret.toInt ≤ 0 → -b.toInt - 2147483648 ≤ 0 ∧ b.toInt - 2147483647 ≤ 0) ∧ (ret.toInt - 1 ≤ 0 ∧ -ret.toInt + 1 ≤ 0 → -a.toInt ≤ 0 ∧ a.toInt - 60 ≤ 0 ∧ -b.toInt ≤ 0 ∧ b.toInt - 60 ≤ 0)
set_option maxRecDepth 10000 in
set_option maxHeartbeats 4000000 in
theorem c_85 (σ0 : SG) (hσ0 : WT σ0) (s : Nat) (hs : TG s = 33) (a : Int32) (b : Int32) (sz : Int32) (h_sz : (σ0 s)[3]? = some (Value.int sz)) : En 0 0 none mr_85 (P_85 σ0 s a b sz) 0 [(0, .ref s), (1, .int a), (2, .int b)] [] σ0 := by
  obtain ⟨hl_sz, hu_sz⟩ := WT_int hσ0 (g := 33) hs (by decide +kernel) (l := 0) (u := 60) (by decide +kernel) h_sz
  have := Int32.le_toInt b
  have := Int32.toInt_lt b
  have hF0 : Fr [] σ0 σ0 := Fr_rfl
  refine En_Ps 1 (pc' := 1) (lv' := [(0, .ref s), (1, .int a), (2, .int b)]) (st' := [.int b]) rfl ?_
  refine En_iLt _ rfl rfl (fun h1 => ?_) (fun h1 => ?_)
  · refine En_Ps 1 (pc' := 23) (lv' := [(0, .ref s), (1, .int a), (2, .int b)]) (st' := [.int ((Int32.ofInt 0))]) rfl ?_
    refine En_top (by decide : (Int32.ofInt 0).toInt = 0) (fun z2 h3 => ?_)
    exact En_ret (v := some (Value.int z2)) rfl rfl (retZ rfl rfl (by first | exact q_55451d0a83 h3 | omega) (by first | exact q_87849c3859 h3 | omega)) ⟨hσ0, hF0, z2, rfl, ⟨by first | exact q_097a37c2ae h3 | omega, by first | exact q_e269517bee h3 | omega, fun _ => by omega, fun _ => by omega, fun _ => by omega⟩⟩
  · refine En_Ps 1 (pc' := 5) (lv' := [(0, .ref s), (1, .int a), (2, .int b)]) (st' := [.int a]) rfl ?_
    refine En_iLt _ rfl rfl (fun h4 => ?_) (fun h4 => ?_)
    · refine En_Ps 1 (pc' := 23) (lv' := [(0, .ref s), (1, .int a), (2, .int b)]) (st' := [.int ((Int32.ofInt 0))]) rfl ?_
      refine En_top (by decide : (Int32.ofInt 0).toInt = 0) (fun z5 h6 => ?_)
      exact En_ret (v := some (Value.int z5)) rfl rfl (retZ rfl rfl (by first | exact q_55451d0a83 h6 | omega) (by first | exact q_87849c3859 h6 | omega)) ⟨hσ0, hF0, z5, rfl, ⟨by first | exact q_097a37c2ae h6 | omega, by first | exact q_e269517bee h6 | omega, fun _ => by omega, fun _ => by omega, fun _ => by omega⟩⟩
    · refine En_Ps 2 (pc' := 10) (lv' := [(0, .ref s), (1, .int a), (2, .int b)]) (st' := [.ref s, .int a]) rfl ?_
      refine En_getK (j := 3) h_sz rfl rfl rfl hs (by decide +kernel) ?_
      refine En_Ps 2 (pc' := 15) (lv' := [(0, .ref s), (1, .int a), (2, .int b)]) (st' := [.int ((sz - b)), .int a]) rfl ?_
      refine En_top (subI rfl rfl (by omega) (by first | exact q_335971d0af hu_sz h1 | omega)) (fun z7 h8 => ?_)
      refine En_icGt _ rfl rfl rfl (fun h9 => ?_) (fun h9 => ?_)
      · refine En_Ps 1 (pc' := 23) (lv' := [(0, .ref s), (1, .int a), (2, .int b)]) (st' := [.int ((Int32.ofInt 0))]) rfl ?_
        refine En_top (by decide : (Int32.ofInt 0).toInt = 0) (fun z10 h11 => ?_)
        exact En_ret (v := some (Value.int z10)) rfl rfl (retZ rfl rfl (by first | exact q_55451d0a83 h11 | omega) (by first | exact q_87849c3859 h11 | omega)) ⟨hσ0, hF0, z10, rfl, ⟨by first | exact q_097a37c2ae h11 | omega, by first | exact q_e269517bee h11 | omega, fun _ => by omega, fun _ => by omega, fun _ => by omega⟩⟩
      · refine En_Ps 2 (pc' := 23) (lv' := [(0, .ref s), (1, .int a), (2, .int b)]) (st' := [.int ((Int32.ofInt 1))]) rfl ?_
        refine En_top (by decide : (Int32.ofInt 1).toInt = 1) (fun z12 h13 => ?_)
        exact En_ret (v := some (Value.int z12)) rfl rfl (retZ rfl rfl (by first | exact q_2b07c97645 h13 | omega) (by first | exact q_d9e7cbb253 h13 | omega)) ⟨hσ0, hF0, z12, rfl, ⟨by first | exact q_ad3eee31ca h13 | omega, by first | exact q_81cf297dc4 h13 | omega, fun _ => by omega, fun _ => by omega, fun _ => by omega⟩⟩
/-- DoorSchool$Slot.isPairs(I)Z -/
abbrev P_87 (σ0 : SG) (s : Nat) (a : Int32) : PO := fun v σ => WT σ ∧ Fr [] σ0 σ ∧ ∃ ret : Int32, v = some (Value.int ret) ∧ -ret.toInt ≤ 0 ∧ ret.toInt - 1 ≤ 0
set_option maxRecDepth 10000 in
set_option maxHeartbeats 4000000 in
theorem c_87 (σ0 : SG) (hσ0 : WT σ0) (s : Nat) (hs : TG s = 33) (a : Int32) : En 0 0 none mr_87 (P_87 σ0 s a) 0 [(0, .ref s), (1, .int a)] [] σ0 := by
  have hF0 : Fr [] σ0 σ0 := Fr_rfl
  refine En_Ps 2 (pc' := 2) (lv' := [(2, .int ((Int32.ofInt 0))), (0, .ref s), (1, .int a)]) (st' := []) rfl ?_
  have key2 : ∀ (n2 : Nat) (σ2 : SG) (y1 : Int32), WT σ2 → Fr [] σ0 σ2 → 0 ≤ y1.toInt → y1.toInt ≤ 60 → -y1.toInt + 60 < (n2 : Int) → En 0 0 none mr_87 (P_87 σ0 s a) 2 [(0, .ref s), (1, .int a), (2, .int y1)] [] σ2 := by
    intro n2
    induction n2 with
    | zero =>
      intro σ2 y1 h3 h4 h5 h6 h7
      first | exact (q_98ae87e5bf h7 h6).elim | (exfalso; omega)
    | succ n2 ih2 =>
      intro σ2 y1 h3 h4 h5 h6 h7
      refine En_Ps 3 (pc' := 5) (lv' := [(0, .ref s), (1, .int a), (2, .int y1)]) (st' := [.int ((y1 + ((Int32.ofInt 1))))]) rfl ?_
      refine En_top (addI rfl (by decide : (Int32.ofInt 1).toInt = 1) (by first | exact q_465ab79ac1 h5 | omega) (by first | exact q_232407ab69 h6 | omega)) (fun z8 h9 => ?_)
      refine En_Ps 1 (pc' := 6) (lv' := [(0, .ref s), (1, .int a), (2, .int y1)]) (st' := [.ref s, .int z8]) rfl ?_
      refine En_getI (j := 3) (l := 0) (u := 60) rfl rfl rfl hs (by decide +kernel) h3 (by decide +kernel) (fun z11 h10 h12 h13 => ?_)
      refine En_icGe _ rfl rfl rfl (fun h14 => ?_) (fun h14 => ?_)
      · refine En_Ps 1 (pc' := 65) (lv' := [(0, .ref s), (1, .int a), (2, .int y1)]) (st' := [.ref s]) rfl ?_
        refine En_getK (j := 3) h10 rfl rfl rfl hs (by decide +kernel) ?_
        refine En_Ps 1 (pc' := 69) (lv' := [(0, .ref s), (1, .int a), (2, .int y1)]) (st' := [.int ((Int32.ofInt 2)), .int z11]) rfl ?_
        refine En_irem (c := 2) rfl rfl (by decide : (Int32.ofInt 2).toInt = 2) (by omega) (by decide) (fun z15 h16 => ?_)
        refine En_iNe _ rfl rfl (fun h17 => ?_) (fun h17 => ?_)
        · refine En_Ps 1 (pc' := 78) (lv' := [(0, .ref s), (1, .int a), (2, .int y1)]) (st' := [.int ((Int32.ofInt 0))]) rfl ?_
          refine En_top (by decide : (Int32.ofInt 0).toInt = 0) (fun z18 h19 => ?_)
          exact En_ret (v := some (Value.int z18)) rfl rfl (retZ rfl rfl (by first | exact q_55451d0a83 h19 | omega) (by first | exact q_87849c3859 h19 | omega)) ⟨h3, h4, z18, rfl, ⟨by first | exact q_097a37c2ae h19 | omega, by first | exact q_e269517bee h19 | omega⟩⟩
        · refine En_Ps 2 (pc' := 78) (lv' := [(0, .ref s), (1, .int a), (2, .int y1)]) (st' := [.int ((Int32.ofInt 1))]) rfl ?_
          refine En_top (by decide : (Int32.ofInt 1).toInt = 1) (fun z20 h21 => ?_)
          exact En_ret (v := some (Value.int z20)) rfl rfl (retZ rfl rfl (by first | exact q_2b07c97645 h21 | omega) (by first | exact q_d9e7cbb253 h21 | omega)) ⟨h3, h4, z20, rfl, ⟨by first | exact q_ad3eee31ca h21 | omega, by first | exact q_81cf297dc4 h21 | omega⟩⟩
      · refine En_Ps 1 (pc' := 13) (lv' := [(0, .ref s), (1, .int a), (2, .int y1)]) (st' := [.ref s]) rfl ?_
        refine En_getR (j := 0) (g' := 34) (u := 0) rfl rfl rfl hs (by decide +kernel) h3 (by decide +kernel) (fun a23 h22 ha23 => ?_)
        refine En_Ps 1 (pc' := 17) (lv' := [(0, .ref s), (1, .int a), (2, .int y1)]) (st' := [.int y1, .ref a23]) rfl ?_
        refine En_lald (l := (-9223372036854775808)) (u := 9223372036854775807) rfl rfl ha23 (by decide +kernel) h3 (by first | exact q_58e6e51dcc h5 | omega) (lnI (by decide +kernel : LN _ = 60) (by first | exact q_1f992a1ee2 h9 h14 h13 | omega)) (FTsgl (by decide +kernel)) (fun z25 h24 h26 h27 => ?_)
        refine En_Ps 2 (pc' := 20) (lv' := [(3, .long z25), (0, .ref s), (1, .int a), (2, .int y1)]) (st' := [.ref s]) rfl ?_
        refine En_getK (j := 0) h22 rfl rfl rfl hs (by decide +kernel) ?_
        refine En_Ps 3 (pc' := 26) (lv' := [(3, .long z25), (0, .ref s), (1, .int a), (2, .int y1)]) (st' := [.int ((y1 + ((Int32.ofInt 1)))), .ref a23]) rfl ?_
        refine En_top (addI rfl (by decide : (Int32.ofInt 1).toInt = 1) (by first | exact q_465ab79ac1 h5 | omega) (by first | exact q_232407ab69 h6 | omega)) (fun z28 h29 => ?_)
        refine En_lald (l := (-9223372036854775808)) (u := 9223372036854775807) rfl rfl ha23 (by decide +kernel) h3 (by first | exact q_35104ce9d3 h29 h5 | omega) (lnI (by decide +kernel : LN _ = 60) (by first | exact q_5b68d032b0 h29 h9 h14 h13 | omega)) (FTsgl (by decide +kernel)) (fun z31 h30 h32 h33 => ?_)
        refine En_Ps 4 (pc' := 32) (lv' := [(5, .long z31), (3, .long z25), (0, .ref s), (1, .int a), (2, .int y1)]) (st' := [.int (lg_cmp z25 ((Int64.ofNat 0)))]) rfl ?_
        refine En_lgLt _ rfl (by decide : (Int64.ofNat 0).toInt = 0) rfl (fun h34 => ?_) (fun h34 => ?_)
        · refine En_Ps 1 (pc' := 57) (lv' := [(5, .long z31), (3, .long z25), (0, .ref s), (1, .int a), (2, .int y1)]) (st' := [.int ((Int32.ofInt 0))]) rfl ?_
          refine En_top (by decide : (Int32.ofInt 0).toInt = 0) (fun z35 h36 => ?_)
          exact En_ret (v := some (Value.int z35)) rfl rfl (retZ rfl rfl (by first | exact q_55451d0a83 h36 | omega) (by first | exact q_87849c3859 h36 | omega)) ⟨h3, h4, z35, rfl, ⟨by first | exact q_097a37c2ae h36 | omega, by first | exact q_e269517bee h36 | omega⟩⟩
        · refine En_Ps 4 (pc' := 39) (lv' := [(5, .long z31), (3, .long z25), (0, .ref s), (1, .int a), (2, .int y1)]) (st' := [.int (lg_cmp z25 a.toInt64)]) rfl ?_
          refine En_lgGe _ rfl (i2lI rfl) rfl (fun h37 => ?_) (fun h37 => ?_)
          · refine En_Ps 1 (pc' := 57) (lv' := [(5, .long z31), (3, .long z25), (0, .ref s), (1, .int a), (2, .int y1)]) (st' := [.int ((Int32.ofInt 0))]) rfl ?_
            refine En_top (by decide : (Int32.ofInt 0).toInt = 0) (fun z38 h39 => ?_)
            exact En_ret (v := some (Value.int z38)) rfl rfl (retZ rfl rfl (by first | exact q_55451d0a83 h39 | omega) (by first | exact q_87849c3859 h39 | omega)) ⟨h3, h4, z38, rfl, ⟨by first | exact q_097a37c2ae h39 | omega, by first | exact q_e269517bee h39 | omega⟩⟩
          · refine En_Ps 3 (pc' := 46) (lv' := [(5, .long z31), (3, .long z25), (0, .ref s), (1, .int a), (2, .int y1)]) (st' := [.int (lg_cmp z31 ((Int64.ofNat 0)))]) rfl ?_
            refine En_lgLt _ rfl (by decide : (Int64.ofNat 0).toInt = 0) rfl (fun h40 => ?_) (fun h40 => ?_)
            · refine En_Ps 1 (pc' := 57) (lv' := [(5, .long z31), (3, .long z25), (0, .ref s), (1, .int a), (2, .int y1)]) (st' := [.int ((Int32.ofInt 0))]) rfl ?_
              refine En_top (by decide : (Int32.ofInt 0).toInt = 0) (fun z41 h42 => ?_)
              exact En_ret (v := some (Value.int z41)) rfl rfl (retZ rfl rfl (by first | exact q_55451d0a83 h42 | omega) (by first | exact q_87849c3859 h42 | omega)) ⟨h3, h4, z41, rfl, ⟨by first | exact q_097a37c2ae h42 | omega, by first | exact q_e269517bee h42 | omega⟩⟩
            · refine En_Ps 3 (pc' := 53) (lv' := [(5, .long z31), (3, .long z25), (0, .ref s), (1, .int a), (2, .int y1)]) (st' := [.int (lg_cmp z31 ((Int64.ofNat 1)))]) rfl ?_
              refine En_lgLe _ rfl (by decide : (Int64.ofNat 1).toInt = 1) rfl (fun h43 => ?_) (fun h43 => ?_)
              · refine En_Ps 1 (pc' := 61) (lv' := [(2, .int ((y1 + Int32.ofInt 2))), (5, .long z31), (3, .long z25), (0, .ref s), (1, .int a)]) (st' := []) rfl ?_
                refine En_lv1 (addI rfl (by decide : (Int32.ofInt 2).toInt = 2) (by first | exact q_f7bbb7a326 h5 | omega) (by first | exact q_f6c848b1e9 h6 | omega)) (fun z44 h45 => ?_)
                refine En_Ps 1 (pc' := 2) (lv' := [(2, .int z44), (5, .long z31), (3, .long z25), (0, .ref s), (1, .int a)]) (st' := []) rfl ?_
                refine En_lv (lv := [(0, .ref s), (1, .int a), (2, .int z44)]) ⟨rfl, rfl, rfl, trivial⟩ ?_
                exact ih2 σ2 z44 h3 h4 (by first | exact q_8f6627763a h45 h5 | omega) (by first | exact q_1b7405be80 h45 h9 h14 h13 | omega) (by first | exact q_84b996d9f0 h45 h7 | omega)
              · refine En_Ps 1 (pc' := 57) (lv' := [(5, .long z31), (3, .long z25), (0, .ref s), (1, .int a), (2, .int y1)]) (st' := [.int ((Int32.ofInt 0))]) rfl ?_
                refine En_top (by decide : (Int32.ofInt 0).toInt = 0) (fun z46 h47 => ?_)
                exact En_ret (v := some (Value.int z46)) rfl rfl (retZ rfl rfl (by first | exact q_55451d0a83 h47 | omega) (by first | exact q_87849c3859 h47 | omega)) ⟨h3, h4, z46, rfl, ⟨by first | exact q_097a37c2ae h47 | omega, by first | exact q_e269517bee h47 | omega⟩⟩
  have := (by decide : (Int32.ofInt 0).toInt = 0)
  refine En_lv (lv := [(0, .ref s), (1, .int a), (2, .int ((Int32.ofInt 0)))]) ⟨rfl, rfl, rfl, trivial⟩ ?_
  exact key2 (Int.toNat (60) + 1) σ0 ((Int32.ofInt 0)) hσ0 hF0 (by decide) (by decide) (by first | exact toN_lt _ | omega)
/-- DoorSchool$Slot.put(IJ)V -/
abbrev P_88 (σ0 : SG) (s : Nat) (a : Int32) (b : Int64) : PO := fun v σ => WT σ ∧ Fr [(34, 0)] σ0 σ ∧ v = none ∧ True
set_option maxRecDepth 10000 in
set_option maxHeartbeats 4000000 in
theorem c_88 (σ0 : SG) (hσ0 : WT σ0) (s : Nat) (hs : TG s = 33) (a : Int32) (b : Int64) (hl_a : 0 ≤ a.toInt) (hu_a : a.toInt ≤ 59) : En 0 0 none mr_88 (P_88 σ0 s a b) 0 [(0, .ref s), (1, .int a), (2, .long b)] [] σ0 := by
  have hF0 : Fr [(34, 0)] σ0 σ0 := Fr_rfl
  refine En_Ps 3 (pc' := 5) (lv' := [(0, .ref s), (1, .int a), (2, .long b)]) (st' := [.ref s, .int (((Int8.ofInt 8).toInt32)), .int (((Int8.ofInt 64).toInt32))]) rfl ?_
  refine En_getI (j := 2) (l := 0) (u := 3) rfl rfl rfl hs (by decide +kernel) hσ0 (by decide +kernel) (fun z2 h1 h3 h4 => ?_)
  refine En_Ps 1 (pc' := 9) (lv' := [(0, .ref s), (1, .int a), (2, .long b)]) (st' := [.int (((((Int8.ofInt 8).toInt32)) <<< (z2 &&& 31))), .int (((Int8.ofInt 64).toInt32))]) rfl ?_
  refine En_hav (fun z5 => ?_)
  refine En_Ps 1 (pc' := 10) (lv' := [(0, .ref s), (1, .int a), (2, .long b)]) (st' := [.int (((((Int8.ofInt 64).toInt32)) - z5))]) rfl ?_
  refine En_hav (fun z6 => ?_)
  refine En_Ps 2 (pc' := 13) (lv' := [(4, .int z6), (0, .ref s), (1, .int a), (2, .long b)]) (st' := [.ref s]) rfl ?_
  refine En_getR (j := 0) (g' := 34) (u := 0) rfl rfl rfl hs (by decide +kernel) hσ0 (by decide +kernel) (fun a8 h7 ha8 => ?_)
  refine En_Ps 4 (pc' := 21) (lv' := [(4, .int z6), (0, .ref s), (1, .int a), (2, .long b)]) (st' := [.long ((b <<< (z6.toInt64 &&& 63))), .int a, .ref a8]) rfl ?_
  refine En_havL (fun z9 => ?_)
  refine En_Ps 2 (pc' := 24) (lv' := [(4, .int z6), (0, .ref s), (1, .int a), (2, .long b)]) (st' := [.long ((z9 >>> (z6.toInt64 &&& 63))), .int a, .ref a8]) rfl ?_
  refine En_havL (fun z10 => ?_)
  refine En_last (l := (-9223372036854775808)) (u := 9223372036854775807) rfl rfl ha8 (by decide +kernel) (by first | exact q_58e6e51dcc hl_a | omega) (lnI (by decide +kernel : LN _ = 60) (by first | exact q_060ff3ca01 hu_a | omega)) (FTsgl (by decide +kernel)) (fullL _) hσ0 hF0 (by decide +kernel) (fun σ11 h12 h13 h14 h15 => ?_)
  exact En_ret (v := none) rfl rfl rfl ⟨h12, h13, rfl, trivial⟩
/-- DoorSchool$Slot.said(I)I -/
abbrev P_89 (σ0 : SG) (s : Nat) (a : Int32) : PO := fun v σ => WT σ ∧ Fr [] σ0 σ ∧ ∃ ret : Int32, v = some (Value.int ret) ∧ True
set_option maxRecDepth 10000 in
set_option maxHeartbeats 4000000 in
theorem c_89 (σ0 : SG) (hσ0 : WT σ0) (s : Nat) (hs : TG s = 33) (a : Int32) : En 0 0 none mr_89 (P_89 σ0 s a) 0 [(0, .ref s), (1, .int a)] [] σ0 := by
  have hF0 : Fr [] σ0 σ0 := Fr_rfl
  refine En_Ps 4 (pc' := 4) (lv' := [(3, .int ((Int32.ofInt 0))), (2, .int ((Int32.ofInt 0))), (0, .ref s), (1, .int a)]) (st' := []) rfl ?_
  have key4 : ∀ (n4 : Nat) (σ3 : SG) (y1 : Int32) (y2 : Int32), WT σ3 → Fr [] σ0 σ3 → 0 ≤ y2.toInt → y2.toInt ≤ 60 → -y2.toInt + 60 < (n4 : Int) → En 0 0 none mr_89 (P_89 σ0 s a) 4 [(0, .ref s), (1, .int a), (2, .int y1), (3, .int y2)] [] σ3 := by
    intro n4
    induction n4 with
    | zero =>
      intro σ3 y1 y2 h4 h5 h6 h7 h8
      first | exact (q_98ae87e5bf h8 h7).elim | (exfalso; omega)
    | succ n4 ih4 =>
      intro σ3 y1 y2 h4 h5 h6 h7 h8
      refine En_Ps 3 (pc' := 7) (lv' := [(0, .ref s), (1, .int a), (2, .int y1), (3, .int y2)]) (st' := [.int ((y2 + ((Int32.ofInt 1))))]) rfl ?_
      refine En_top (addI rfl (by decide : (Int32.ofInt 1).toInt = 1) (by first | exact q_465ab79ac1 h6 | omega) (by first | exact q_232407ab69 h7 | omega)) (fun z9 h10 => ?_)
      refine En_Ps 1 (pc' := 8) (lv' := [(0, .ref s), (1, .int a), (2, .int y1), (3, .int y2)]) (st' := [.ref s, .int z9]) rfl ?_
      refine En_getI (j := 3) (l := 0) (u := 60) rfl rfl rfl hs (by decide +kernel) h4 (by decide +kernel) (fun z12 h11 h13 h14 => ?_)
      refine En_icGe _ rfl rfl rfl (fun h15 => ?_) (fun h15 => ?_)
      · refine En_Ps 1 (pc' := 47) (lv' := [(0, .ref s), (1, .int a), (2, .int y1), (3, .int y2)]) (st' := [.int y1]) rfl ?_
        exact En_ret (v := some (Value.int y1)) rfl rfl rfl ⟨h4, h5, y1, rfl, trivial⟩
      · refine En_Ps 1 (pc' := 15) (lv' := [(0, .ref s), (1, .int a), (2, .int y1), (3, .int y2)]) (st' := [.ref s]) rfl ?_
        refine En_getR (j := 0) (g' := 34) (u := 0) rfl rfl rfl hs (by decide +kernel) h4 (by decide +kernel) (fun a17 h16 ha17 => ?_)
        refine En_Ps 3 (pc' := 21) (lv' := [(0, .ref s), (1, .int a), (2, .int y1), (3, .int y2)]) (st' := [.int ((y2 + ((Int32.ofInt 1)))), .ref a17]) rfl ?_
        refine En_top (addI rfl (by decide : (Int32.ofInt 1).toInt = 1) (by first | exact q_465ab79ac1 h6 | omega) (by first | exact q_232407ab69 h7 | omega)) (fun z18 h19 => ?_)
        refine En_lald (l := (-9223372036854775808)) (u := 9223372036854775807) rfl rfl ha17 (by decide +kernel) h4 (by first | exact q_35104ce9d3 h19 h6 | omega) (lnI (by decide +kernel : LN _ = 60) (by first | exact q_5b68d032b0 h19 h10 h15 h14 | omega)) (FTsgl (by decide +kernel)) (fun z21 h20 h22 h23 => ?_)
        refine En_Ps 3 (pc' := 25) (lv' := [(0, .ref s), (1, .int a), (2, .int y1), (3, .int y2)]) (st' := [.int (lg_cmp z21 a.toInt64)]) rfl ?_
        refine En_lgNe _ rfl (i2lI rfl) rfl (fun h24 => ?_) (fun h24 => ?_)
        · refine En_Ps 1 (pc' := 43) (lv' := [(3, .int ((y2 + Int32.ofInt 2))), (0, .ref s), (1, .int a), (2, .int y1)]) (st' := []) rfl ?_
          refine En_lv1 (addI rfl (by decide : (Int32.ofInt 2).toInt = 2) (by first | exact q_f7bbb7a326 h6 | omega) (by first | exact q_f6c848b1e9 h7 | omega)) (fun z25 h26 => ?_)
          refine En_Ps 1 (pc' := 4) (lv' := [(3, .int z25), (0, .ref s), (1, .int a), (2, .int y1)]) (st' := []) rfl ?_
          refine En_lv (lv := [(0, .ref s), (1, .int a), (2, .int y1), (3, .int z25)]) ⟨rfl, rfl, rfl, rfl, trivial⟩ ?_
          exact ih4 σ3 y1 z25 h4 h5 (by first | exact q_8f6627763a h26 h6 | omega) (by first | exact q_1b7405be80 h26 h10 h15 h14 | omega) (by first | exact q_84b996d9f0 h26 h8 | omega)
        · refine En_Ps 3 (pc' := 31) (lv' := [(0, .ref s), (1, .int a), (2, .int y1), (3, .int y2)]) (st' := [.ref s, .int ((Int32.ofInt 1)), .int y1]) rfl ?_
          refine En_getK (j := 0) h16 rfl rfl rfl hs (by decide +kernel) ?_
          refine En_Ps 1 (pc' := 35) (lv' := [(0, .ref s), (1, .int a), (2, .int y1), (3, .int y2)]) (st' := [.int y2, .ref a17, .int ((Int32.ofInt 1)), .int y1]) rfl ?_
          refine En_lald (l := (-9223372036854775808)) (u := 9223372036854775807) rfl rfl ha17 (by decide +kernel) h4 (by first | exact q_58e6e51dcc h6 | omega) (lnI (by decide +kernel : LN _ = 60) (by first | exact q_1f992a1ee2 h10 h15 h14 | omega)) (FTsgl (by decide +kernel)) (fun z28 h27 h29 h30 => ?_)
          refine En_Ps 1 (pc' := 37) (lv' := [(0, .ref s), (1, .int a), (2, .int y1), (3, .int y2)]) (st' := [.int ((z28.toInt32)), .int ((Int32.ofInt 1)), .int y1]) rfl ?_
          refine En_hav (fun z31 => ?_)
          refine En_Ps 1 (pc' := 38) (lv' := [(0, .ref s), (1, .int a), (2, .int y1), (3, .int y2)]) (st' := [.int ((((Int32.ofInt 1)) <<< (z31 &&& 31))), .int y1]) rfl ?_
          refine En_hav (fun z32 => ?_)
          refine En_Ps 1 (pc' := 39) (lv' := [(0, .ref s), (1, .int a), (2, .int y1), (3, .int y2)]) (st' := [.int ((y1 ||| z32))]) rfl ?_
          refine En_hav (fun z33 => ?_)
          refine En_Ps 2 (pc' := 43) (lv' := [(3, .int ((y2 + Int32.ofInt 2))), (2, .int z33), (0, .ref s), (1, .int a)]) (st' := []) rfl ?_
          refine En_lv1 (addI rfl (by decide : (Int32.ofInt 2).toInt = 2) (by first | exact q_f7bbb7a326 h6 | omega) (by first | exact q_f6c848b1e9 h7 | omega)) (fun z34 h35 => ?_)
          refine En_Ps 1 (pc' := 4) (lv' := [(3, .int z34), (2, .int z33), (0, .ref s), (1, .int a)]) (st' := []) rfl ?_
          refine En_lv (lv := [(0, .ref s), (1, .int a), (2, .int z33), (3, .int z34)]) ⟨rfl, rfl, rfl, rfl, trivial⟩ ?_
          exact ih4 σ3 z33 z34 h4 h5 (by first | exact q_8f6627763a h35 h6 | omega) (by first | exact q_1b7405be80 h35 h10 h15 h14 | omega) (by first | exact q_84b996d9f0 h35 h8 | omega)
  have := (by decide : (Int32.ofInt 0).toInt = 0)
  have := (by decide : (Int32.ofInt 0).toInt = 0)
  refine En_lv (lv := [(0, .ref s), (1, .int a), (2, .int ((Int32.ofInt 0))), (3, .int ((Int32.ofInt 0)))]) ⟨rfl, rfl, rfl, rfl, trivial⟩ ?_
  exact key4 (Int.toNat (60) + 1) σ0 ((Int32.ofInt 0)) ((Int32.ofInt 0)) hσ0 hF0 (by decide) (by decide) (by first | exact toN_lt _ | omega)
/-- DoorSchool$Timetable.isEarlier()Z -/
abbrev P_94 (σ0 : SG) : PO := fun v σ => WT σ ∧ Fr [] σ0 σ ∧ ∃ ret : Int32, v = some (Value.int ret) ∧ -ret.toInt ≤ 0 ∧ ret.toInt - 1 ≤ 0
set_option maxRecDepth 10000 in
set_option maxHeartbeats 4000000 in
theorem c_94 (σ0 : SG) (hσ0 : WT σ0) : En 0 0 none mr_94 (P_94 σ0) 0 [(0, .ref 14)] [] σ0 := by
  have hF0 : Fr [] σ0 σ0 := Fr_rfl
  refine En_Ps 2 (pc' := 2) (lv' := [(1, .int ((Int32.ofInt 0))), (0, .ref 14)]) (st' := []) rfl ?_
  have key2 : ∀ (n2 : Nat) (σ2 : SG) (y1 : Int32), WT σ2 → Fr [] σ0 σ2 → 0 ≤ y1.toInt → y1.toInt ≤ 6 → -y1.toInt + 6 < (n2 : Int) → En 0 0 none mr_94 (P_94 σ0) 2 [(0, .ref 14), (1, .int y1)] [] σ2 := by
    intro n2
    induction n2 with
    | zero =>
      intro σ2 y1 h3 h4 h5 h6 h7
      first | exact (q_1c67ffb2e6 h7 h6).elim | (exfalso; omega)
    | succ n2 ih2 =>
      intro σ2 y1 h3 h4 h5 h6 h7
      refine En_Ps 2 (pc' := 5) (lv' := [(0, .ref 14), (1, .int y1)]) (st' := [.int (((Int8.ofInt 6).toInt32)), .int y1]) rfl ?_
      refine En_icGe _ rfl (by decide : ((Int8.ofInt 6).toInt32).toInt = 6) rfl (fun h8 => ?_) (fun h8 => ?_)
      · refine En_Ps 1 (pc' := 51) (lv' := [(0, .ref 14), (1, .int y1)]) (st' := [.int ((Int32.ofInt 0))]) rfl ?_
        refine En_top (by decide : (Int32.ofInt 0).toInt = 0) (fun z9 h10 => ?_)
        exact En_ret (v := some (Value.int z9)) rfl rfl (retZ rfl rfl (by first | exact q_55451d0a83 h10 | omega) (by first | exact q_87849c3859 h10 | omega)) ⟨h3, h4, z9, rfl, ⟨by first | exact q_097a37c2ae h10 | omega, by first | exact q_e269517bee h10 | omega⟩⟩
      · refine En_Ps 1 (pc' := 9) (lv' := [(0, .ref 14), (1, .int y1)]) (st' := [.ref 14]) rfl ?_
        refine En_getU (j := 1) (u := 16) (g' := 16) (q := 0) rfl rfl rfl tgz_14 (by decide +kernel) h3 (by decide +kernel) un_16_16 (fun h11 => ?_)
        refine En_Ps 1 (pc' := 13) (lv' := [(0, .ref 14), (1, .int y1)]) (st' := [.int y1, .ref 16]) rfl ?_
        refine En_iald (l := 0) (u := 54) rfl rfl tgz_16 (by decide +kernel) h3 (by first | exact q_58e6e51dcc h5 | omega) (lnI (by decide +kernel : LN _ = 6) (by first | exact q_ab9991d2ad h8 | omega)) (FTsgl (by decide +kernel)) (fun z14 h13 h15 h16 => ?_)
        refine En_Ps 1 (pc' := 15) (lv' := [(0, .ref 14), (1, .int y1)]) (st' := [.ref 14, .int z14]) rfl ?_
        refine En_getU (j := 2) (u := 17) (g' := 17) (q := 0) rfl rfl rfl tgz_14 (by decide +kernel) h3 (by decide +kernel) un_17_17 (fun h17 => ?_)
        refine En_Ps 1 (pc' := 19) (lv' := [(0, .ref 14), (1, .int y1)]) (st' := [.int y1, .ref 17, .int z14]) rfl ?_
        refine En_iald (l := 0) (u := 54) rfl rfl tgz_17 (by decide +kernel) h3 (by first | exact q_58e6e51dcc h5 | omega) (lnI (by decide +kernel : LN _ = 6) (by first | exact q_ab9991d2ad h8 | omega)) (FTsgl (by decide +kernel)) (fun z20 h19 h21 h22 => ?_)
        refine En_icEq _ rfl rfl rfl (fun h23 => ?_) (fun h23 => ?_)
        · refine En_Ps 1 (pc' := 47) (lv' := [(1, .int ((y1 + Int32.ofInt 1))), (0, .ref 14)]) (st' := []) rfl ?_
          refine En_lv1 (addI rfl (by decide : (Int32.ofInt 1).toInt = 1) (by first | exact q_465ab79ac1 h5 | omega) (by first | exact q_2918abfa70 h8 | omega)) (fun z24 h25 => ?_)
          refine En_Ps 1 (pc' := 2) (lv' := [(1, .int z24), (0, .ref 14)]) (st' := []) rfl ?_
          refine En_lv (lv := [(0, .ref 14), (1, .int z24)]) ⟨rfl, rfl, trivial⟩ ?_
          exact ih2 σ2 z24 h3 h4 (by first | exact q_35104ce9d3 h25 h5 | omega) (by first | exact q_13d1e79bb8 h25 h8 | omega) (by first | exact q_18a3ecfd63 h25 h7 | omega)
        · refine En_Ps 1 (pc' := 24) (lv' := [(0, .ref 14), (1, .int y1)]) (st' := [.ref 14]) rfl ?_
          refine En_getK (j := 1) h11 rfl rfl rfl tgz_14 (by decide +kernel) ?_
          refine En_Ps 1 (pc' := 28) (lv' := [(0, .ref 14), (1, .int y1)]) (st' := [.int y1, .ref 16]) rfl ?_
          refine En_ialdK h13 rfl rfl tgz_16 (by decide +kernel) h3 (by first | exact q_58e6e51dcc h5 | omega) (lnI (by decide +kernel : LN _ = 6) (by first | exact q_ab9991d2ad h8 | omega)) ?_
          refine En_Ps 1 (pc' := 30) (lv' := [(0, .ref 14), (1, .int y1)]) (st' := [.ref 14, .int z14]) rfl ?_
          refine En_getK (j := 2) h17 rfl rfl rfl tgz_14 (by decide +kernel) ?_
          refine En_Ps 1 (pc' := 34) (lv' := [(0, .ref 14), (1, .int y1)]) (st' := [.int y1, .ref 17, .int z14]) rfl ?_
          refine En_ialdK h19 rfl rfl tgz_17 (by decide +kernel) h3 (by first | exact q_58e6e51dcc h5 | omega) (lnI (by decide +kernel : LN _ = 6) (by first | exact q_ab9991d2ad h8 | omega)) ?_
          refine En_icGe _ rfl rfl rfl (fun h28 => ?_) (fun h28 => ?_)
          · refine En_Ps 1 (pc' := 43) (lv' := [(0, .ref 14), (1, .int y1)]) (st' := [.int ((Int32.ofInt 0))]) rfl ?_
            refine En_top (by decide : (Int32.ofInt 0).toInt = 0) (fun z29 h30 => ?_)
            exact En_ret (v := some (Value.int z29)) rfl rfl (retZ rfl rfl (by first | exact q_55451d0a83 h30 | omega) (by first | exact q_87849c3859 h30 | omega)) ⟨h3, h4, z29, rfl, ⟨by first | exact q_097a37c2ae h30 | omega, by first | exact q_e269517bee h30 | omega⟩⟩
          · refine En_Ps 2 (pc' := 43) (lv' := [(0, .ref 14), (1, .int y1)]) (st' := [.int ((Int32.ofInt 1))]) rfl ?_
            refine En_top (by decide : (Int32.ofInt 1).toInt = 1) (fun z31 h32 => ?_)
            exact En_ret (v := some (Value.int z31)) rfl rfl (retZ rfl rfl (by first | exact q_2b07c97645 h32 | omega) (by first | exact q_d9e7cbb253 h32 | omega)) ⟨h3, h4, z31, rfl, ⟨by first | exact q_ad3eee31ca h32 | omega, by first | exact q_81cf297dc4 h32 | omega⟩⟩
  have := (by decide : (Int32.ofInt 0).toInt = 0)
  refine En_lv (lv := [(0, .ref 14), (1, .int ((Int32.ofInt 0)))]) ⟨rfl, rfl, trivial⟩ ?_
  exact key2 (Int.toNat (6) + 1) σ0 ((Int32.ofInt 0)) hσ0 hF0 (by decide) (by decide) (by first | exact toN_lt _ | omega)
end
/-! 32.lx.c08 -/
section
/-- DoorSchool.doneBy(I)I -/
abbrev P_114 (σ0 : SG) (a : Int32) (p : Nat) (sg : Int32) : PO := fun v σ => WT σ ∧ Fr [] σ0 σ ∧ ∃ ret : Int32, v = some (Value.int ret) ∧ True
set_option maxRecDepth 10000 in
set_option maxHeartbeats 4000000 in
theorem c_114 (σ0 : SG) (hσ0 : WT σ0) (a : Int32) (hl_a : 0 ≤ a.toInt) (hu_a : a.toInt ≤ 3) (p : Nat) (hp : TG p = 18) (h_p : (σ0 0)[9]? = some (Value.ref p)) (sg : Int32) (h_sg : (σ0 p)[1]? = some (Value.int sg)) (hp0 : -sg.toInt ≤ 0) : En 3 70 none mr_114 (P_114 σ0 a p sg) 0 [(0, .ref 0), (1, .int a)] [] σ0 := by
  obtain ⟨hl_sg, hu_sg⟩ := WT_int hσ0 (g := 18) hp (by decide +kernel) (l := (-1)) (u := 4) (by decide +kernel) h_sg
  have hF0 : Fr [] σ0 σ0 := Fr_rfl
  refine En_Ps 1 (pc' := 1) (lv' := [(0, .ref 0), (1, .int a)]) (st' := [.ref 0]) rfl ?_
  refine En_getK (j := 9) h_p rfl rfl rfl tgz_0 (by decide +kernel) ?_
  refine En_Ps 1 (pc' := 5) (lv' := [(0, .ref 0), (1, .int a)]) (st' := [.int a, .ref p]) rfl ?_
  refine En_callV rfl rfl rfl rfl rfl rfl rfl rfl hp (by decide +kernel) rfl (c_52 σ0 hσ0 p hp a (geI rfl (by first | exact q_58e6e51dcc hl_a | omega)) (leI rfl (by first | exact q_da5e9b976f hu_a | omega))) (by decide) (by decide) (fun v2 σ3 h1 => ?_)
  obtain ⟨h4, h5, a7, ha7, rfl, h6⟩ := h1
  have h8 := Fr_trans hF0 h5 (by decide +kernel)
  refine En_Ps 2 (pc' := 10) (lv' := [(2, .ref a7), (0, .ref 0), (1, .int a)]) (st' := [.ref 0]) rfl ?_
  refine En_getU (j := 3) (u := 8) (g' := 8) (q := 0) rfl rfl rfl tgz_0 (by decide +kernel) h4 (by decide +kernel) un_8_8 (fun h9 => ?_)
  refine En_Ps 1 (pc' := 14) (lv' := [(2, .ref a7), (0, .ref 0), (1, .int a)]) (st' := [.ref a7, .ref 8]) rfl ?_
  refine En_getI (j := 1) (l := 0) (u := 2) rfl rfl rfl ha7 (by decide +kernel) h4 (by decide +kernel) (fun z12 h11 h13 h14 => ?_)
  refine En_Ps 1 (pc' := 18) (lv' := [(2, .ref a7), (0, .ref 0), (1, .int a)]) (st' := [.ref a7, .int z12, .ref 8]) rfl ?_
  refine En_getR (j := 0) (g' := 20) (u := 0) rfl rfl rfl ha7 (by decide +kernel) h4 (by decide +kernel) (fun a16 h15 ha16 => ?_)
  refine En_callV rfl rfl rfl rfl rfl rfl rfl rfl tgz_8 (by decide +kernel) rfl (c_22 σ3 h4 z12 a16 ha16) (by decide) (by decide) (fun v18 σ19 h17 => ?_)
  obtain ⟨h20, h21, z23, rfl, h22⟩ := h17
  have h24 := Fr_trans h8 h21 (by decide +kernel)
  exact En_ret (v := some (Value.int z23)) rfl rfl rfl ⟨h20, h24, z23, rfl, trivial⟩
/-- DoorSchool.alike(I)I -/
abbrev P_101 (σ0 : SG) (a : Int32) (p : Nat) (sg : Int32) : PO := fun v σ => WT σ ∧ Fr [] σ0 σ ∧ ∃ ret : Int32, v = some (Value.int ret) ∧ -ret.toInt - 2 ≤ 0 ∧ ret.toInt - 15 ≤ 0
set_option maxRecDepth 10000 in
set_option maxHeartbeats 4000000 in
theorem c_101 (σ0 : SG) (hσ0 : WT σ0) (a : Int32) (p : Nat) (hp : TG p = 18) (h_p : (σ0 0)[9]? = some (Value.ref p)) (sg : Int32) (h_sg : (σ0 p)[1]? = some (Value.int sg)) (hp0 : -sg.toInt ≤ 0) : En 4 92 none mr_101 (P_101 σ0 a p sg) 0 [(0, .ref 0), (1, .int a)] [] σ0 := by
  obtain ⟨hl_sg, hu_sg⟩ := WT_int hσ0 (g := 18) hp (by decide +kernel) (l := (-1)) (u := 4) (by decide +kernel) h_sg
  have hF0 : Fr [] σ0 σ0 := Fr_rfl
  refine En_Ps 1 (pc' := 1) (lv' := [(0, .ref 0), (1, .int a)]) (st' := [.ref 0]) rfl ?_
  refine En_getK (j := 9) h_p rfl rfl rfl tgz_0 (by decide +kernel) ?_
  refine En_Ps 1 (pc' := 5) (lv' := [(0, .ref 0), (1, .int a)]) (st' := [.int a, .ref p]) rfl ?_
  refine En_callV rfl rfl rfl rfl rfl rfl rfl rfl hp (by decide +kernel) rfl (c_47 σ0 hσ0 p hp a) (by decide) (by decide) (fun v2 σ3 h1 => ?_)
  obtain ⟨h4, h5, z7, rfl, h6⟩ := h1
  have h8 := Fr_trans hF0 h5 (by decide +kernel)
  refine En_iNe _ rfl rfl (fun h9 => ?_) (fun h9 => ?_)
  · refine En_Ps 4 (pc' := 18) (lv' := [(3, .int ((Int32.ofInt 0))), (2, .int ((Int32.ofInt 0))), (0, .ref 0), (1, .int a)]) (st' := []) rfl ?_
    have key18 : ∀ (n18 : Nat) (σ12 : SG) (y10 : Int32) (y11 : Int32), WT σ12 → Fr [] σ0 σ12 → (σ12 0)[9]? = some (Value.ref p) → (σ12 p)[1]? = some (Value.int sg) → 0 ≤ y10.toInt → y10.toInt ≤ 15 → 0 ≤ y11.toInt → y11.toInt ≤ 4 → -y11.toInt + 4 < (n18 : Int) → En 4 92 none mr_101 (P_101 σ0 a p sg) 18 [(0, .ref 0), (1, .int a), (2, .int y10), (3, .int y11)] [] σ12 := by
      intro n18
      induction n18 with
      | zero =>
        intro σ12 y10 y11 h13 h14 h15 h16 h17 h18 h19 h20 h21
        first | exact (q_20d6385c6f h21 h20).elim | (exfalso; omega)
      | succ n18 ih18 =>
        intro σ12 y10 y11 h13 h14 h15 h16 h17 h18 h19 h20 h21
        refine En_Ps 2 (pc' := 20) (lv' := [(0, .ref 0), (1, .int a), (2, .int y10), (3, .int y11)]) (st' := [.ref 0, .int y11]) rfl ?_
        refine En_getK (j := 9) h15 rfl rfl rfl tgz_0 (by decide +kernel) ?_
        refine En_getI (j := 3) (l := 0) (u := 4) rfl rfl rfl hp (by decide +kernel) h13 (by decide +kernel) (fun z23 h22 h24 h25 => ?_)
        refine En_icGe _ rfl rfl rfl (fun h26 => ?_) (fun h26 => ?_)
        · refine En_Ps 1 (pc' := 60) (lv' := [(0, .ref 0), (1, .int a), (2, .int y10), (3, .int y11)]) (st' := [.int y10]) rfl ?_
          exact En_ret (v := some (Value.int y10)) rfl rfl rfl ⟨h13, h14, y10, rfl, ⟨by first | exact q_ea7f0ffdb1 h17 | omega, by first | exact q_867a9ac627 h18 | omega⟩⟩
        · refine En_Ps 2 (pc' := 31) (lv' := [(0, .ref 0), (1, .int a), (2, .int y10), (3, .int y11)]) (st' := [.int a, .int y11]) rfl ?_
          refine En_icEq _ rfl rfl rfl (fun h27 => ?_) (fun h27 => ?_)
          · refine En_Ps 1 (pc' := 56) (lv' := [(3, .int ((y11 + Int32.ofInt 1))), (0, .ref 0), (1, .int a), (2, .int y10)]) (st' := []) rfl ?_
            refine En_lv1 (addI rfl (by decide : (Int32.ofInt 1).toInt = 1) (by first | exact q_465ab79ac1 h19 | omega) (by first | exact q_f7282962fd h20 | omega)) (fun z28 h29 => ?_)
            refine En_Ps 1 (pc' := 18) (lv' := [(3, .int z28), (0, .ref 0), (1, .int a), (2, .int y10)]) (st' := []) rfl ?_
            refine En_lv (lv := [(0, .ref 0), (1, .int a), (2, .int y10), (3, .int z28)]) ⟨rfl, rfl, rfl, rfl, trivial⟩ ?_
            exact ih18 σ12 y10 z28 h13 h14 h15 h16 (by first | exact q_58e6e51dcc h17 | omega) (by first | exact q_5a4d8a7e08 h18 | omega) (by first | exact q_35104ce9d3 h29 h19 | omega) (by first | exact q_de42116b63 h29 h26 h25 | omega) (by first | exact q_3d8d70ace2 h29 h21 | omega)
          · refine En_Ps 2 (pc' := 36) (lv' := [(0, .ref 0), (1, .int a), (2, .int y10), (3, .int y11)]) (st' := [.int y11, .ref 0]) rfl ?_
            refine En_callV rfl rfl rfl rfl rfl rfl rfl rfl tgz_0 (by decide +kernel) rfl (c_114 σ12 h13 y11 (geI rfl (by first | exact q_58e6e51dcc h19 | omega)) (leI rfl (by first | exact q_5ab2e90ecc h26 h25 | omega)) p hp h15 sg h16 (by first | exact q_a555021d16 hp0 | omega)) (by decide) (by decide) (fun v31 σ32 h30 => ?_)
            obtain ⟨h33, h34, z36, rfl, h35⟩ := h30
            have h37 := Fr_trans h14 h34 (by decide +kernel)
            refine En_Ps 2 (pc' := 41) (lv' := [(0, .ref 0), (1, .int a), (2, .int y10), (3, .int y11)]) (st' := [.int a, .ref 0, .int z36]) rfl ?_
            refine En_callV rfl rfl rfl rfl rfl rfl rfl rfl tgz_0 (by decide +kernel) rfl (c_114 σ32 h33 a (geI rfl (by omega)) (leI rfl (by omega)) p hp ((h34 _ _ (inW tgz_0 (by decide +kernel))).trans h15) sg ((h34 _ _ (inW hp (by decide +kernel))).trans h16) (by first | exact q_a555021d16 hp0 | omega)) (by decide) (by decide) (fun v39 σ40 h38 => ?_)
            obtain ⟨h41, h42, z44, rfl, h43⟩ := h38
            have h45 := Fr_trans h37 h42 (by decide +kernel)
            refine En_icNe _ rfl rfl rfl (fun h46 => ?_) (fun h46 => ?_)
            · refine En_Ps 1 (pc' := 56) (lv' := [(3, .int ((y11 + Int32.ofInt 1))), (0, .ref 0), (1, .int a), (2, .int y10)]) (st' := []) rfl ?_
              refine En_lv1 (addI rfl (by decide : (Int32.ofInt 1).toInt = 1) (by first | exact q_465ab79ac1 h19 | omega) (by first | exact q_f7282962fd h20 | omega)) (fun z47 h48 => ?_)
              refine En_Ps 1 (pc' := 18) (lv' := [(3, .int z47), (0, .ref 0), (1, .int a), (2, .int y10)]) (st' := []) rfl ?_
              refine En_lv (lv := [(0, .ref 0), (1, .int a), (2, .int y10), (3, .int z47)]) ⟨rfl, rfl, rfl, rfl, trivial⟩ ?_
              exact ih18 σ40 y10 z47 h41 h45 ((h42 _ _ (inW tgz_0 (by decide +kernel))).trans ((h34 _ _ (inW tgz_0 (by decide +kernel))).trans h15)) ((h42 _ _ (inW hp (by decide +kernel))).trans ((h34 _ _ (inW hp (by decide +kernel))).trans h16)) (by first | exact q_58e6e51dcc h17 | omega) (by first | exact q_5a4d8a7e08 h18 | omega) (by first | exact q_35104ce9d3 h48 h19 | omega) (by first | exact q_de42116b63 h48 h26 h25 | omega) (by first | exact q_3d8d70ace2 h48 h21 | omega)
            · refine En_Ps 4 (pc' := 51) (lv' := [(0, .ref 0), (1, .int a), (2, .int y10), (3, .int y11)]) (st' := [.int ((((Int32.ofInt 1)) <<< (y11 &&& 31))), .int y10]) rfl ?_
              refine En_rng (shl1_p 3 rfl (by omega) (by omega) (by decide)) (fun z49 h50 h51 => ?_)
              refine En_Ps 1 (pc' := 52) (lv' := [(0, .ref 0), (1, .int a), (2, .int y10), (3, .int y11)]) (st' := [.int ((y10 ||| z49))]) rfl ?_
              refine En_rng (l := 0) (u := 15) (or_rng 4 rfl rfl (by omega) (by omega) (by omega) (by omega) (by decide)) (fun z52 h53 h54 => ?_)
              refine En_Ps 2 (pc' := 56) (lv' := [(3, .int ((y11 + Int32.ofInt 1))), (2, .int z52), (0, .ref 0), (1, .int a)]) (st' := []) rfl ?_
              refine En_lv1 (addI rfl (by decide : (Int32.ofInt 1).toInt = 1) (by first | exact q_465ab79ac1 h19 | omega) (by first | exact q_f7282962fd h20 | omega)) (fun z55 h56 => ?_)
              refine En_Ps 1 (pc' := 18) (lv' := [(3, .int z55), (2, .int z52), (0, .ref 0), (1, .int a)]) (st' := []) rfl ?_
              refine En_lv (lv := [(0, .ref 0), (1, .int a), (2, .int z52), (3, .int z55)]) ⟨rfl, rfl, rfl, rfl, trivial⟩ ?_
              exact ih18 σ40 z52 z55 h41 h45 ((h42 _ _ (inW tgz_0 (by decide +kernel))).trans ((h34 _ _ (inW tgz_0 (by decide +kernel))).trans h15)) ((h42 _ _ (inW hp (by decide +kernel))).trans ((h34 _ _ (inW hp (by decide +kernel))).trans h16)) (by first | exact q_58e6e51dcc h53 | omega) (by first | exact q_5a4d8a7e08 h54 | omega) (by first | exact q_35104ce9d3 h56 h19 | omega) (by first | exact q_de42116b63 h56 h26 h25 | omega) (by first | exact q_3d8d70ace2 h56 h21 | omega)
    have := (by decide : (Int32.ofInt 0).toInt = 0)
    have := (by decide : (Int32.ofInt 0).toInt = 0)
    refine En_lv (lv := [(0, .ref 0), (1, .int a), (2, .int ((Int32.ofInt 0))), (3, .int ((Int32.ofInt 0)))]) ⟨rfl, rfl, rfl, rfl, trivial⟩ ?_
    exact key18 (Int.toNat (4) + 1) σ3 ((Int32.ofInt 0)) ((Int32.ofInt 0)) h4 h8 ((h5 _ _ (inW tgz_0 (by decide +kernel))).trans h_p) ((h5 _ _ (inW hp (by decide +kernel))).trans h_sg) (by decide) (by decide) (by decide) (by decide) (by first | exact toN_lt _ | omega)
  · refine En_Ps 1 (pc' := 13) (lv' := [(0, .ref 0), (1, .int a)]) (st' := [.int (((Int8.ofInt (-2)).toInt32))]) rfl ?_
    refine En_top (by decide : ((Int8.ofInt (-2)).toInt32).toInt = -2) (fun z57 h58 => ?_)
    exact En_ret (v := some (Value.int z57)) rfl rfl rfl ⟨h4, h8, z57, rfl, ⟨by first | exact q_f35c5d346c h58 | omega, by first | exact q_12a74e12a3 h58 | omega⟩⟩
/-- DoorSchool.houseDeeds(I)I -/
abbrev P_139 (σ0 : SG) (a : Int32) (p : Nat) (sg : Int32) : PO := fun v σ => WT σ ∧ Fr [] σ0 σ ∧ ∃ ret : Int32, v = some (Value.int ret) ∧ -ret.toInt ≤ 0 ∧ ret.toInt - 65535 ≤ 0
set_option maxRecDepth 10000 in
set_option maxHeartbeats 4000000 in
theorem c_139 (σ0 : SG) (hσ0 : WT σ0) (a : Int32) (hl_a : 0 ≤ a.toInt) (hu_a : a.toInt ≤ 3) (p : Nat) (hp : TG p = 18) (h_p : (σ0 0)[9]? = some (Value.ref p)) (sg : Int32) (h_sg : (σ0 p)[1]? = some (Value.int sg)) (hp0 : -sg.toInt ≤ 0) : En 1 24 none mr_139 (P_139 σ0 a p sg) 0 [(0, .ref 0), (1, .int a)] [] σ0 := by
  obtain ⟨hl_sg, hu_sg⟩ := WT_int hσ0 (g := 18) hp (by decide +kernel) (l := (-1)) (u := 4) (by decide +kernel) h_sg
  have hF0 : Fr [] σ0 σ0 := Fr_rfl
  refine En_Ps 1 (pc' := 1) (lv' := [(0, .ref 0), (1, .int a)]) (st' := [.ref 0]) rfl ?_
  refine En_getU (j := 2) (u := 4) (g' := 4) (q := 0) rfl rfl rfl tgz_0 (by decide +kernel) hσ0 (by decide +kernel) un_4_4 (fun h1 => ?_)
  refine En_Ps 1 (pc' := 5) (lv' := [(0, .ref 0), (1, .int a)]) (st' := [.ref 0, .ref 4]) rfl ?_
  refine En_getK (j := 9) h_p rfl rfl rfl tgz_0 (by decide +kernel) ?_
  refine En_getR (j := 9) (g' := 23) (u := 0) rfl rfl rfl hp (by decide +kernel) hσ0 (by decide +kernel) (fun a4 h3 ha4 => ?_)
  refine En_Ps 1 (pc' := 12) (lv' := [(0, .ref 0), (1, .int a)]) (st' := [.int a, .ref a4, .ref 4]) rfl ?_
  refine En_iald (l := 0) (u := 15) rfl rfl ha4 (by decide +kernel) hσ0 (by first | exact q_58e6e51dcc hl_a | omega) (lnI (by decide +kernel : LN _ = 4) (by first | exact q_f3bb6f88f7 hu_a | omega)) (FTsgl (by decide +kernel)) (fun z6 h5 h7 h8 => ?_)
  refine En_Ps 1 (pc' := 14) (lv' := [(0, .ref 0), (1, .int a)]) (st' := [.ref 0, .int z6, .ref 4]) rfl ?_
  refine En_getK (j := 9) h_p rfl rfl rfl tgz_0 (by decide +kernel) ?_
  refine En_getR (j := 10) (g' := 24) (u := 0) rfl rfl rfl hp (by decide +kernel) hσ0 (by decide +kernel) (fun a10 h9 ha10 => ?_)
  refine En_Ps 1 (pc' := 21) (lv' := [(0, .ref 0), (1, .int a)]) (st' := [.int a, .ref a10, .int z6, .ref 4]) rfl ?_
  refine En_iald (l := 0) (u := 15) rfl rfl ha10 (by decide +kernel) hσ0 (by first | exact q_58e6e51dcc hl_a | omega) (lnI (by decide +kernel : LN _ = 4) (by first | exact q_f3bb6f88f7 hu_a | omega)) (FTsgl (by decide +kernel)) (fun z12 h11 h13 h14 => ?_)
  refine En_callV rfl rfl rfl rfl rfl rfl rfl rfl tgz_4 (by decide +kernel) rfl (c_77 σ0 hσ0 z6 z12) (by decide) (by decide) (fun v16 σ17 h15 => ?_)
  obtain ⟨h18, h19, z21, rfl, h20⟩ := h15
  have h22 := Fr_trans hF0 h19 (by decide +kernel)
  exact En_ret (v := some (Value.int z21)) rfl rfl rfl ⟨h18, h22, z21, rfl, ⟨by first | exact q_a555021d16 h20.1 | omega, by first | exact q_ef123ba13c h20.2 | omega⟩⟩
end
