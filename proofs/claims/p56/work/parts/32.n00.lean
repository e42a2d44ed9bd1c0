/-- java/lang/Integer.bitCount(I)I of a small set -/
abbrev P_7ax (σ0 : SG) (a : Int32) : PO := fun v σ => WT σ ∧ Fr [] σ0 σ ∧ ∃ ret : Int32, v = some (.int ret) ∧ -ret.toInt ≤ 0 ∧ ret.toInt - 4 ≤ 0 ∧ ret.toInt = bcI a.toInt
set_option maxRecDepth 10000 in
set_option maxHeartbeats 4000000 in
theorem c_7ax (σ0 : SG) (hσ0 : WT σ0) (a : Int32) (hl_a : 0 ≤ a.toInt) (hu_a : a.toInt ≤ 15) : En 0 0 none mr_7 (P_7ax σ0 a) 0 [(0, .int a)] [] σ0 := by
  have hF0 : Fr [] σ0 σ0 := Fr_rfl
  refine En_Ps 41 (pc' := 52) (lv' := [(0, .int ((((((((a - (((a.toUInt32 >>> ((Int32.ofInt 1).toUInt32 &&& Int32.toUInt32 31)).toInt32) &&& (1431655765 : Int32))) &&& (858993459 : Int32)) + ((((a - (((a.toUInt32 >>> ((Int32.ofInt 1).toUInt32 &&& Int32.toUInt32 31)).toInt32) &&& (1431655765 : Int32))).toUInt32 >>> ((Int32.ofInt 2).toUInt32 &&& Int32.toUInt32 31)).toInt32) &&& (858993459 : Int32))) + (((((a - (((a.toUInt32 >>> ((Int32.ofInt 1).toUInt32 &&& Int32.toUInt32 31)).toInt32) &&& (1431655765 : Int32))) &&& (858993459 : Int32)) + ((((a - (((a.toUInt32 >>> ((Int32.ofInt 1).toUInt32 &&& Int32.toUInt32 31)).toInt32) &&& (1431655765 : Int32))).toUInt32 >>> ((Int32.ofInt 2).toUInt32 &&& Int32.toUInt32 31)).toInt32) &&& (858993459 : Int32))).toUInt32 >>> ((Int32.ofInt 4).toUInt32 &&& Int32.toUInt32 31)).toInt32)) &&& (252645135 : Int32)) + (((((((a - (((a.toUInt32 >>> ((Int32.ofInt 1).toUInt32 &&& Int32.toUInt32 31)).toInt32) &&& (1431655765 : Int32))) &&& (858993459 : Int32)) + ((((a - (((a.toUInt32 >>> ((Int32.ofInt 1).toUInt32 &&& Int32.toUInt32 31)).toInt32) &&& (1431655765 : Int32))).toUInt32 >>> ((Int32.ofInt 2).toUInt32 &&& Int32.toUInt32 31)).toInt32) &&& (858993459 : Int32))) + (((((a - (((a.toUInt32 >>> ((Int32.ofInt 1).toUInt32 &&& Int32.toUInt32 31)).toInt32) &&& (1431655765 : Int32))) &&& (858993459 : Int32)) + ((((a - (((a.toUInt32 >>> ((Int32.ofInt 1).toUInt32 &&& Int32.toUInt32 31)).toInt32) &&& (1431655765 : Int32))).toUInt32 >>> ((Int32.ofInt 2).toUInt32 &&& Int32.toUInt32 31)).toInt32) &&& (858993459 : Int32))).toUInt32 >>> ((Int32.ofInt 4).toUInt32 &&& Int32.toUInt32 31)).toInt32)) &&& (252645135 : Int32)).toUInt32 >>> (((Int8.ofInt 8).toInt32).toUInt32 &&& Int32.toUInt32 31)).toInt32)) + ((((((((a - (((a.toUInt32 >>> ((Int32.ofInt 1).toUInt32 &&& Int32.toUInt32 31)).toInt32) &&& (1431655765 : Int32))) &&& (858993459 : Int32)) + ((((a - (((a.toUInt32 >>> ((Int32.ofInt 1).toUInt32 &&& Int32.toUInt32 31)).toInt32) &&& (1431655765 : Int32))).toUInt32 >>> ((Int32.ofInt 2).toUInt32 &&& Int32.toUInt32 31)).toInt32) &&& (858993459 : Int32))) + (((((a - (((a.toUInt32 >>> ((Int32.ofInt 1).toUInt32 &&& Int32.toUInt32 31)).toInt32) &&& (1431655765 : Int32))) &&& (858993459 : Int32)) + ((((a - (((a.toUInt32 >>> ((Int32.ofInt 1).toUInt32 &&& Int32.toUInt32 31)).toInt32) &&& (1431655765 : Int32))).toUInt32 >>> ((Int32.ofInt 2).toUInt32 &&& Int32.toUInt32 31)).toInt32) &&& (858993459 : Int32))).toUInt32 >>> ((Int32.ofInt 4).toUInt32 &&& Int32.toUInt32 31)).toInt32)) &&& (252645135 : Int32)) + (((((((a - (((a.toUInt32 >>> ((Int32.ofInt 1).toUInt32 &&& Int32.toUInt32 31)).toInt32) &&& (1431655765 : Int32))) &&& (858993459 : Int32)) + ((((a - (((a.toUInt32 >>> ((Int32.ofInt 1).toUInt32 &&& Int32.toUInt32 31)).toInt32) &&& (1431655765 : Int32))).toUInt32 >>> ((Int32.ofInt 2).toUInt32 &&& Int32.toUInt32 31)).toInt32) &&& (858993459 : Int32))) + (((((a - (((a.toUInt32 >>> ((Int32.ofInt 1).toUInt32 &&& Int32.toUInt32 31)).toInt32) &&& (1431655765 : Int32))) &&& (858993459 : Int32)) + ((((a - (((a.toUInt32 >>> ((Int32.ofInt 1).toUInt32 &&& Int32.toUInt32 31)).toInt32) &&& (1431655765 : Int32))).toUInt32 >>> ((Int32.ofInt 2).toUInt32 &&& Int32.toUInt32 31)).toInt32) &&& (858993459 : Int32))).toUInt32 >>> ((Int32.ofInt 4).toUInt32 &&& Int32.toUInt32 31)).toInt32)) &&& (252645135 : Int32)).toUInt32 >>> (((Int8.ofInt 8).toInt32).toUInt32 &&& Int32.toUInt32 31)).toInt32)).toUInt32 >>> (((Int8.ofInt 16).toInt32).toUInt32 &&& Int32.toUInt32 31)).toInt32))))]) (st' := [.int (((((((((a - (((a.toUInt32 >>> ((Int32.ofInt 1).toUInt32 &&& Int32.toUInt32 31)).toInt32) &&& (1431655765 : Int32))) &&& (858993459 : Int32)) + ((((a - (((a.toUInt32 >>> ((Int32.ofInt 1).toUInt32 &&& Int32.toUInt32 31)).toInt32) &&& (1431655765 : Int32))).toUInt32 >>> ((Int32.ofInt 2).toUInt32 &&& Int32.toUInt32 31)).toInt32) &&& (858993459 : Int32))) + (((((a - (((a.toUInt32 >>> ((Int32.ofInt 1).toUInt32 &&& Int32.toUInt32 31)).toInt32) &&& (1431655765 : Int32))) &&& (858993459 : Int32)) + ((((a - (((a.toUInt32 >>> ((Int32.ofInt 1).toUInt32 &&& Int32.toUInt32 31)).toInt32) &&& (1431655765 : Int32))).toUInt32 >>> ((Int32.ofInt 2).toUInt32 &&& Int32.toUInt32 31)).toInt32) &&& (858993459 : Int32))).toUInt32 >>> ((Int32.ofInt 4).toUInt32 &&& Int32.toUInt32 31)).toInt32)) &&& (252645135 : Int32)) + (((((((a - (((a.toUInt32 >>> ((Int32.ofInt 1).toUInt32 &&& Int32.toUInt32 31)).toInt32) &&& (1431655765 : Int32))) &&& (858993459 : Int32)) + ((((a - (((a.toUInt32 >>> ((Int32.ofInt 1).toUInt32 &&& Int32.toUInt32 31)).toInt32) &&& (1431655765 : Int32))).toUInt32 >>> ((Int32.ofInt 2).toUInt32 &&& Int32.toUInt32 31)).toInt32) &&& (858993459 : Int32))) + (((((a - (((a.toUInt32 >>> ((Int32.ofInt 1).toUInt32 &&& Int32.toUInt32 31)).toInt32) &&& (1431655765 : Int32))) &&& (858993459 : Int32)) + ((((a - (((a.toUInt32 >>> ((Int32.ofInt 1).toUInt32 &&& Int32.toUInt32 31)).toInt32) &&& (1431655765 : Int32))).toUInt32 >>> ((Int32.ofInt 2).toUInt32 &&& Int32.toUInt32 31)).toInt32) &&& (858993459 : Int32))).toUInt32 >>> ((Int32.ofInt 4).toUInt32 &&& Int32.toUInt32 31)).toInt32)) &&& (252645135 : Int32)).toUInt32 >>> (((Int8.ofInt 8).toInt32).toUInt32 &&& Int32.toUInt32 31)).toInt32)) + ((((((((a - (((a.toUInt32 >>> ((Int32.ofInt 1).toUInt32 &&& Int32.toUInt32 31)).toInt32) &&& (1431655765 : Int32))) &&& (858993459 : Int32)) + ((((a - (((a.toUInt32 >>> ((Int32.ofInt 1).toUInt32 &&& Int32.toUInt32 31)).toInt32) &&& (1431655765 : Int32))).toUInt32 >>> ((Int32.ofInt 2).toUInt32 &&& Int32.toUInt32 31)).toInt32) &&& (858993459 : Int32))) + (((((a - (((a.toUInt32 >>> ((Int32.ofInt 1).toUInt32 &&& Int32.toUInt32 31)).toInt32) &&& (1431655765 : Int32))) &&& (858993459 : Int32)) + ((((a - (((a.toUInt32 >>> ((Int32.ofInt 1).toUInt32 &&& Int32.toUInt32 31)).toInt32) &&& (1431655765 : Int32))).toUInt32 >>> ((Int32.ofInt 2).toUInt32 &&& Int32.toUInt32 31)).toInt32) &&& (858993459 : Int32))).toUInt32 >>> ((Int32.ofInt 4).toUInt32 &&& Int32.toUInt32 31)).toInt32)) &&& (252645135 : Int32)) + (((((((a - (((a.toUInt32 >>> ((Int32.ofInt 1).toUInt32 &&& Int32.toUInt32 31)).toInt32) &&& (1431655765 : Int32))) &&& (858993459 : Int32)) + ((((a - (((a.toUInt32 >>> ((Int32.ofInt 1).toUInt32 &&& Int32.toUInt32 31)).toInt32) &&& (1431655765 : Int32))).toUInt32 >>> ((Int32.ofInt 2).toUInt32 &&& Int32.toUInt32 31)).toInt32) &&& (858993459 : Int32))) + (((((a - (((a.toUInt32 >>> ((Int32.ofInt 1).toUInt32 &&& Int32.toUInt32 31)).toInt32) &&& (1431655765 : Int32))) &&& (858993459 : Int32)) + ((((a - (((a.toUInt32 >>> ((Int32.ofInt 1).toUInt32 &&& Int32.toUInt32 31)).toInt32) &&& (1431655765 : Int32))).toUInt32 >>> ((Int32.ofInt 2).toUInt32 &&& Int32.toUInt32 31)).toInt32) &&& (858993459 : Int32))).toUInt32 >>> ((Int32.ofInt 4).toUInt32 &&& Int32.toUInt32 31)).toInt32)) &&& (252645135 : Int32)).toUInt32 >>> (((Int8.ofInt 8).toInt32).toUInt32 &&& Int32.toUInt32 31)).toInt32)).toUInt32 >>> (((Int8.ofInt 16).toInt32).toUInt32 &&& Int32.toUInt32 31)).toInt32)) &&& ((Int8.ofInt 63).toInt32)))]) rfl ?_
  refine En_nam (fun z hz => ?_)
  have hb := bits_small (fun x => ((((((((x - (((x.toUInt32 >>> ((Int32.ofInt 1).toUInt32 &&& Int32.toUInt32 31)).toInt32) &&& (1431655765 : Int32))) &&& (858993459 : Int32)) + ((((x - (((x.toUInt32 >>> ((Int32.ofInt 1).toUInt32 &&& Int32.toUInt32 31)).toInt32) &&& (1431655765 : Int32))).toUInt32 >>> ((Int32.ofInt 2).toUInt32 &&& Int32.toUInt32 31)).toInt32) &&& (858993459 : Int32))) + (((((x - (((x.toUInt32 >>> ((Int32.ofInt 1).toUInt32 &&& Int32.toUInt32 31)).toInt32) &&& (1431655765 : Int32))) &&& (858993459 : Int32)) + ((((x - (((x.toUInt32 >>> ((Int32.ofInt 1).toUInt32 &&& Int32.toUInt32 31)).toInt32) &&& (1431655765 : Int32))).toUInt32 >>> ((Int32.ofInt 2).toUInt32 &&& Int32.toUInt32 31)).toInt32) &&& (858993459 : Int32))).toUInt32 >>> ((Int32.ofInt 4).toUInt32 &&& Int32.toUInt32 31)).toInt32)) &&& (252645135 : Int32)) + (((((((x - (((x.toUInt32 >>> ((Int32.ofInt 1).toUInt32 &&& Int32.toUInt32 31)).toInt32) &&& (1431655765 : Int32))) &&& (858993459 : Int32)) + ((((x - (((x.toUInt32 >>> ((Int32.ofInt 1).toUInt32 &&& Int32.toUInt32 31)).toInt32) &&& (1431655765 : Int32))).toUInt32 >>> ((Int32.ofInt 2).toUInt32 &&& Int32.toUInt32 31)).toInt32) &&& (858993459 : Int32))) + (((((x - (((x.toUInt32 >>> ((Int32.ofInt 1).toUInt32 &&& Int32.toUInt32 31)).toInt32) &&& (1431655765 : Int32))) &&& (858993459 : Int32)) + ((((x - (((x.toUInt32 >>> ((Int32.ofInt 1).toUInt32 &&& Int32.toUInt32 31)).toInt32) &&& (1431655765 : Int32))).toUInt32 >>> ((Int32.ofInt 2).toUInt32 &&& Int32.toUInt32 31)).toInt32) &&& (858993459 : Int32))).toUInt32 >>> ((Int32.ofInt 4).toUInt32 &&& Int32.toUInt32 31)).toInt32)) &&& (252645135 : Int32)).toUInt32 >>> (((Int8.ofInt 8).toInt32).toUInt32 &&& Int32.toUInt32 31)).toInt32)) + ((((((((x - (((x.toUInt32 >>> ((Int32.ofInt 1).toUInt32 &&& Int32.toUInt32 31)).toInt32) &&& (1431655765 : Int32))) &&& (858993459 : Int32)) + ((((x - (((x.toUInt32 >>> ((Int32.ofInt 1).toUInt32 &&& Int32.toUInt32 31)).toInt32) &&& (1431655765 : Int32))).toUInt32 >>> ((Int32.ofInt 2).toUInt32 &&& Int32.toUInt32 31)).toInt32) &&& (858993459 : Int32))) + (((((x - (((x.toUInt32 >>> ((Int32.ofInt 1).toUInt32 &&& Int32.toUInt32 31)).toInt32) &&& (1431655765 : Int32))) &&& (858993459 : Int32)) + ((((x - (((x.toUInt32 >>> ((Int32.ofInt 1).toUInt32 &&& Int32.toUInt32 31)).toInt32) &&& (1431655765 : Int32))).toUInt32 >>> ((Int32.ofInt 2).toUInt32 &&& Int32.toUInt32 31)).toInt32) &&& (858993459 : Int32))).toUInt32 >>> ((Int32.ofInt 4).toUInt32 &&& Int32.toUInt32 31)).toInt32)) &&& (252645135 : Int32)) + (((((((x - (((x.toUInt32 >>> ((Int32.ofInt 1).toUInt32 &&& Int32.toUInt32 31)).toInt32) &&& (1431655765 : Int32))) &&& (858993459 : Int32)) + ((((x - (((x.toUInt32 >>> ((Int32.ofInt 1).toUInt32 &&& Int32.toUInt32 31)).toInt32) &&& (1431655765 : Int32))).toUInt32 >>> ((Int32.ofInt 2).toUInt32 &&& Int32.toUInt32 31)).toInt32) &&& (858993459 : Int32))) + (((((x - (((x.toUInt32 >>> ((Int32.ofInt 1).toUInt32 &&& Int32.toUInt32 31)).toInt32) &&& (1431655765 : Int32))) &&& (858993459 : Int32)) + ((((x - (((x.toUInt32 >>> ((Int32.ofInt 1).toUInt32 &&& Int32.toUInt32 31)).toInt32) &&& (1431655765 : Int32))).toUInt32 >>> ((Int32.ofInt 2).toUInt32 &&& Int32.toUInt32 31)).toInt32) &&& (858993459 : Int32))).toUInt32 >>> ((Int32.ofInt 4).toUInt32 &&& Int32.toUInt32 31)).toInt32)) &&& (252645135 : Int32)).toUInt32 >>> (((Int8.ofInt 8).toInt32).toUInt32 &&& Int32.toUInt32 31)).toInt32)).toUInt32 >>> (((Int8.ofInt 16).toInt32).toUInt32 &&& Int32.toUInt32 31)).toInt32)) &&& ((Int8.ofInt 63).toInt32))) hz (by decide +kernel) hl_a hu_a
  have hr := bcI_rng a.toInt
  exact En_ret (v := some (.int z)) rfl rfl rfl ⟨hσ0, hF0, z, rfl, (by omega)⟩
/-- java/lang/Integer.bitCount(I)I -/
abbrev P_7bx (σ0 : SG) (a : Int32) : PO := fun v σ => WT σ ∧ Fr [] σ0 σ ∧ ∃ ret : Int32, v = some (.int ret) ∧ -ret.toInt ≤ 0 ∧ ret.toInt - 63 ≤ 0
set_option maxRecDepth 10000 in
set_option maxHeartbeats 4000000 in
theorem c_7bx (σ0 : SG) (hσ0 : WT σ0) (a : Int32) : En 0 0 none mr_7 (P_7bx σ0 a) 0 [(0, .int a)] [] σ0 := by
  have hF0 : Fr [] σ0 σ0 := Fr_rfl
  refine En_Ps 4 (pc' := 4) (lv' := [(0, .int a)]) (st' := [.int (((a.toUInt32 >>> (((Int32.ofInt 1)).toUInt32 &&& Int32.toUInt32 31)).toInt32)), .int a]) rfl ?_
  refine En_hav (fun z1 => ?_)
  refine En_Ps 2 (pc' := 8) (lv' := [(0, .int a)]) (st' := [.int ((z1 &&& ((1431655765 : Int32)))), .int a]) rfl ?_
  refine En_rng (l := 0) (u := 1431655765) (andR_rng (by decide : (1431655765 : Int32).toInt = 1431655765) (by decide)) (fun z2 h3 h4 => ?_)
  refine En_Ps 1 (pc' := 9) (lv' := [(0, .int a)]) (st' := [.int ((a - z2))]) rfl ?_
  refine En_hav (fun z5 => ?_)
  refine En_Ps 4 (pc' := 15) (lv' := [(0, .int z5)]) (st' := [.int ((z5 &&& ((858993459 : Int32))))]) rfl ?_
  refine En_rng (l := 0) (u := 858993459) (andR_rng (by decide : (858993459 : Int32).toInt = 858993459) (by decide)) (fun z6 h7 h8 => ?_)
  refine En_Ps 3 (pc' := 18) (lv' := [(0, .int z5)]) (st' := [.int (((z5.toUInt32 >>> (((Int32.ofInt 2)).toUInt32 &&& Int32.toUInt32 31)).toInt32)), .int z6]) rfl ?_
  refine En_hav (fun z9 => ?_)
  refine En_Ps 2 (pc' := 22) (lv' := [(0, .int z5)]) (st' := [.int ((z9 &&& ((858993459 : Int32)))), .int z6]) rfl ?_
  refine En_rng (l := 0) (u := 858993459) (andR_rng (by decide : (858993459 : Int32).toInt = 858993459) (by decide)) (fun z10 h11 h12 => ?_)
  refine En_Ps 1 (pc' := 23) (lv' := [(0, .int z5)]) (st' := [.int ((z6 + z10))]) rfl ?_
  refine En_top (addI rfl rfl (by first | exact q_3bb374bebc h7 h11 | omega) (by first | exact q_ce39e5e0e0 h8 h12 | omega)) (fun z13 h14 => ?_)
  refine En_Ps 5 (pc' := 28) (lv' := [(0, .int z13)]) (st' := [.int (((z13.toUInt32 >>> (((Int32.ofInt 4)).toUInt32 &&& Int32.toUInt32 31)).toInt32)), .int z13]) rfl ?_
  refine En_hav (fun z15 => ?_)
  refine En_Ps 1 (pc' := 29) (lv' := [(0, .int z13)]) (st' := [.int ((z13 + z15))]) rfl ?_
  refine En_hav (fun z16 => ?_)
  refine En_Ps 2 (pc' := 33) (lv' := [(0, .int z13)]) (st' := [.int ((z16 &&& ((252645135 : Int32))))]) rfl ?_
  refine En_rng (l := 0) (u := 252645135) (andR_rng (by decide : (252645135 : Int32).toInt = 252645135) (by decide)) (fun z17 h18 h19 => ?_)
  refine En_Ps 5 (pc' := 39) (lv' := [(0, .int z17)]) (st' := [.int (((z17.toUInt32 >>> ((((Int8.ofInt 8).toInt32)).toUInt32 &&& Int32.toUInt32 31)).toInt32)), .int z17]) rfl ?_
  refine En_hav (fun z20 => ?_)
  refine En_Ps 1 (pc' := 40) (lv' := [(0, .int z17)]) (st' := [.int ((z17 + z20))]) rfl ?_
  refine En_hav (fun z21 => ?_)
  refine En_Ps 5 (pc' := 46) (lv' := [(0, .int z21)]) (st' := [.int (((z21.toUInt32 >>> ((((Int8.ofInt 16).toInt32)).toUInt32 &&& Int32.toUInt32 31)).toInt32)), .int z21]) rfl ?_
  refine En_hav (fun z22 => ?_)
  refine En_Ps 1 (pc' := 47) (lv' := [(0, .int z21)]) (st' := [.int ((z21 + z22))]) rfl ?_
  refine En_hav (fun z23 => ?_)
  refine En_Ps 4 (pc' := 52) (lv' := [(0, .int z23)]) (st' := [.int ((z23 &&& (((Int8.ofInt 63).toInt32))))]) rfl ?_
  refine En_rng (l := 0) (u := 63) (andR_rng (by decide : ((Int8.ofInt 63).toInt32).toInt = 63) (by decide)) (fun z24 h25 h26 => ?_)
  exact En_ret (v := some (.int z24)) rfl rfl rfl ⟨hσ0, hF0, z24, rfl, ⟨by first | exact q_c803b490ef h25 | omega, by first | exact q_ac3306975b h26 | omega⟩⟩
/-- java/util/Arrays.fill([II)V -/
abbrev P_8ax (σ0 : SG) (a : Nat) (b : Int32) : PO := fun v σ => WT σ ∧ Fr [(26, 0)] σ0 σ ∧ v = none ∧ ((∀ k : Int, 0 ≤ k → k < 6 → ci σ a k = 0) ∧ ∀ b q : Nat, b ≠ a → (σ b)[q]? = (σ0 b)[q]?)
set_option maxRecDepth 10000 in
set_option maxHeartbeats 4000000 in
theorem c_8ax (σ0 : SG) (hσ0 : WT σ0) (a : Nat) (ha : TG a = 26) (b : Int32) (hl_b : 0 ≤ b.toInt) (hu_b : b.toInt ≤ 0) : En 0 0 none mr_8 (P_8ax σ0 a b) 0 [(0, .ref a), (1, .int b)] [] σ0 := by
  have hF0 : Fr [(26, 0)] σ0 σ0 := Fr_rfl
  refine En_Ps 3 (pc' := 3) (lv' := [(2, .int ((Int32.ofInt 0))), (0, .ref a), (1, .int b)]) (st' := [.ref a]) rfl ?_
  refine En_alenN (n := 6) rfl ha (by decide +kernel) (by decide +kernel) hσ0 ?_
  refine En_Ps 1 (pc' := 5) (lv' := [(3, .int ((Int32.ofNat 6))), (2, .int ((Int32.ofInt 0))), (0, .ref a), (1, .int b)]) (st' := []) rfl ?_
  have key5 : ∀ (n5 : Nat) (σ2 : SG) (y1 : Int32), WT σ2 → Fr [(26, 0)] σ0 σ2 → 0 ≤ y1.toInt → y1.toInt ≤ 6 → -y1.toInt + 6 < (n5 : Int) → FZi σ2 a y1.toInt → (∀ b q : Nat, b ≠ a → (σ2 b)[q]? = (σ0 b)[q]?) → En 0 0 none mr_8 (P_8ax σ0 a b) 5 [(0, .ref a), (1, .int b), (2, .int y1), (3, .int ((Int32.ofNat 6)))] [] σ2 := by
    intro n5
    induction n5 with
    | zero =>
      intro σ2 y1 h3 h4 h5 h6 h7 h8 h9
      first | exact (q_1c67ffb2e6 h7 h6).elim | (exfalso; omega)
    | succ n5 ih5 =>
      intro σ2 y1 h3 h4 h5 h6 h7 h8 h9
      refine En_Ps 2 (pc' := 7) (lv' := [(0, .ref a), (1, .int b), (2, .int y1), (3, .int ((Int32.ofNat 6)))]) (st' := [.int ((Int32.ofNat 6)), .int y1]) rfl ?_
      refine En_icGe _ rfl (by decide : (Int32.ofNat 6).toInt = 6) rfl (fun h10 => ?_) (fun h10 => ?_)
      · exact En_ret (v := none) rfl rfl rfl ⟨h3, h4, rfl, ⟨FZi_x h8 (by omega), h9⟩⟩
      · refine En_Ps 3 (pc' := 13) (lv' := [(0, .ref a), (1, .int b), (2, .int y1), (3, .int ((Int32.ofNat 6)))]) (st' := [.int b, .int y1, .ref a]) rfl ?_
        refine En_iast (l := 0) (u := 63) rfl rfl ha (by decide +kernel) (by first | exact q_58e6e51dcc h5 | omega) (lnI (by decide +kernel : LN _ = 6) (by first | exact q_ab9991d2ad h10 | omega)) (FTsgl (by decide +kernel)) (rngI rfl (by first | exact q_58e6e51dcc hl_b | omega) (by first | exact q_6903924f0e hu_b | omega)) h3 h4 (by decide +kernel) (fun σ11 h12 h13 h14 h15 => ?_)
        refine En_Ps 1 (pc' := 17) (lv' := [(2, .int ((y1 + Int32.ofInt 1))), (0, .ref a), (1, .int b), (3, .int ((Int32.ofNat 6)))]) (st' := []) rfl ?_
        refine En_lv1 (addI rfl (by decide : (Int32.ofInt 1).toInt = 1) (by first | exact q_465ab79ac1 h5 | omega) (by first | exact q_2918abfa70 h10 | omega)) (fun z16 h17 => ?_)
        refine En_Ps 1 (pc' := 5) (lv' := [(2, .int z16), (0, .ref a), (1, .int b), (3, .int ((Int32.ofNat 6)))]) (st' := []) rfl ?_
        refine En_lv (lv := [(0, .ref a), (1, .int b), (2, .int z16), (3, .int ((Int32.ofNat 6)))]) ⟨rfl, rfl, rfl, rfl, trivial⟩ ?_
        exact ih5 σ11 z16 h12 h13 (by first | exact q_35104ce9d3 h17 h5 | omega) (by first | exact q_13d1e79bb8 h17 h10 | omega) (by first | exact q_18a3ecfd63 h17 h7 | omega) (FZi_s h8 h14 h15 (by omega) (by omega) (by omega)) (NE_s h9 h15)
  have := (by decide : (Int32.ofInt 0).toInt = 0)
  refine En_lv (lv := [(0, .ref a), (1, .int b), (2, .int ((Int32.ofInt 0))), (3, .int ((Int32.ofNat 6)))]) ⟨rfl, rfl, rfl, rfl, trivial⟩ ?_
  exact key5 (Int.toNat (6) + 1) σ0 ((Int32.ofInt 0)) hσ0 hF0 (by decide) (by decide) (by first | exact toN_lt _ | omega) (FZi_0 (by decide)) (fun _ _ _ => rfl)
/-- DoorSchool$Door.begin(II)V -/
abbrev P_12x (σ0 : SG) (s : Nat) (a : Int32) (b : Int32) (l : Nat) : PO := fun v σ => WT σ ∧ Fr [(20, 2), (28, 1), (28, 2), (28, 3)] σ0 σ ∧ v = none ∧ BGNp σ0 σ s l a.toInt b.toInt
set_option maxRecDepth 10000 in
set_option maxHeartbeats 4000000 in
theorem c_12x (σ0 : SG) (hσ0 : WT σ0) (s : Nat) (hs : TG s = 28) (a : Int32) (b : Int32) (hl_a : 0 ≤ a.toInt) (hu_a : a.toInt ≤ 2) (hl_b : 0 ≤ b.toInt) (hu_b : b.toInt ≤ 50) (l : Nat) (hl : TG l = 20) (h_l : (σ0 s)[0]? = some (.ref l)) : En 0 0 none mr_12 (P_12x σ0 s a b l) 0 [(0, .ref s), (1, .int a), (2, .int b)] [] σ0 := by
  have hF0 : Fr [(20, 2), (28, 1), (28, 2), (28, 3)] σ0 σ0 := Fr_rfl
  refine En_Ps 2 (pc' := 2) (lv' := [(0, .ref s), (1, .int a), (2, .int b)]) (st' := [.int a, .ref s]) rfl ?_
  refine En_put (j := 1) rfl rfl rfl hs (by decide +kernel) rfl (vI (l := 0) (u := 2) (by decide +kernel) rfl (by first | exact q_58e6e51dcc hl_a | omega) (by first | exact q_a85463bd0d hu_a | omega)) hσ0 hF0 (by decide +kernel) (fun σ1 h2 h3 h4 h5 => ?_)
  refine En_Ps 2 (pc' := 7) (lv' := [(0, .ref s), (1, .int a), (2, .int b)]) (st' := [.int b, .ref s]) rfl ?_
  refine En_put (j := 2) rfl rfl rfl hs (by decide +kernel) rfl (vI (l := 0) (u := 50) (by decide +kernel) rfl (by first | exact q_58e6e51dcc hl_b | omega) (by first | exact q_2eaa18fab1 hu_b | omega)) h2 h3 (by decide +kernel) (fun σ6 h7 h8 h9 h10 => ?_)
  refine En_Ps 2 (pc' := 12) (lv' := [(0, .ref s), (1, .int a), (2, .int b)]) (st' := [.int ((Int32.ofInt (-1))), .ref s]) rfl ?_
  refine En_put (j := 3) rfl rfl rfl hs (by decide +kernel) rfl (vI (l := (-1)) (u := 3) (by decide +kernel) (by decide : (Int32.ofInt (-1)).toInt = -1) (by decide) (by decide)) h7 h8 (by decide +kernel) (fun σ11 h12 h13 h14 h15 => ?_)
  refine En_Ps 1 (pc' := 16) (lv' := [(0, .ref s), (1, .int a), (2, .int b)]) (st' := [.ref s]) rfl ?_
  refine En_getK (j := 0) ((h15 _ _ (Or.inr (by decide))).trans ((h10 _ _ (Or.inr (by decide))).trans ((h5 _ _ (Or.inr (by decide))).trans h_l))) rfl rfl rfl hs (by decide +kernel) ?_
  refine En_Ps 1 (pc' := 20) (lv' := [(0, .ref s), (1, .int a), (2, .int b)]) (st' := [.int ((Int32.ofInt 0)), .ref l]) rfl ?_
  refine En_put (j := 2) rfl rfl rfl hl (by decide +kernel) rfl (vI (l := 0) (u := 13) (by decide +kernel) (by decide : (Int32.ofInt 0).toInt = 0) (by decide) (by decide)) h12 h13 (by decide +kernel) (fun σ16 h17 h18 h19 h20 => ?_)
  exact En_ret (v := none) rfl rfl rfl ⟨h17, h18, rfl, BGN_mk h4 h5 h9 h10 h14 h15 h19 h20 hs hl rfl rfl (by decide) (by decide)⟩
/-- DoorSchool$Lessons.takeFrom(LDoorSchool$Lessons;)V -/
abbrev P_40x (σ0 : SG) (s : Nat) (a : Nat) (kn : Nat) (op : Nat) (ak : Nat) (ao : Nat) (az : Int32) : PO := fun v σ => WT σ ∧ Fr [(20, 2), (21, 0), (22, 0)] σ0 σ ∧ v = none ∧ LTF σ0 σ s kn op a ak ao
set_option maxRecDepth 10000 in
set_option maxHeartbeats 4000000 in
theorem c_40x (σ0 : SG) (hσ0 : WT σ0) (s : Nat) (hs : TG s = 20) (a : Nat) (ha : TG a = 20) (kn : Nat) (hkn : TG kn = 21) (h_kn : (σ0 s)[0]? = some (.ref kn)) (op : Nat) (hop : TG op = 22) (h_op : (σ0 s)[1]? = some (.ref op)) (ak : Nat) (hak : TG ak = 21) (h_ak : (σ0 a)[0]? = some (.ref ak)) (ao : Nat) (hao : TG ao = 22) (h_ao : (σ0 a)[1]? = some (.ref ao)) (az : Int32) (h_az : (σ0 a)[2]? = some (.int az)) (hs1 : kn = s + 1 ∧ op = s + 2) (ht1 : ak = a + 1 ∧ ao = a + 2) (hd1 : s + 3 ≤ a ∨ a + 3 ≤ s) : En 1 60 none mr_40 (P_40x σ0 s a kn op ak ao az) 0 [(0, .ref s), (1, .ref a)] [] σ0 := by
  obtain ⟨hl_az, hu_az⟩ := WT_int hσ0 (g := 20) ha (by decide +kernel) (l := 0) (u := 13) (by decide +kernel) h_az
  have hF0 : Fr [(20, 2), (21, 0), (22, 0)] σ0 σ0 := Fr_rfl
  refine En_Ps 2 (pc' := 2) (lv' := [(0, .ref s), (1, .ref a)]) (st' := [.ref a, .ref s]) rfl ?_
  refine En_getK (j := 2) h_az rfl rfl rfl ha (by decide +kernel) ?_
  refine En_put (j := 2) rfl rfl rfl hs (by decide +kernel) rfl (vI (l := 0) (u := 13) (by decide +kernel) rfl (by first | exact q_58e6e51dcc hl_az | omega) (by first | exact q_7991346fe8 hu_az | omega)) hσ0 hF0 (by decide +kernel) (fun σ1 h2 h3 h4 h5 => ?_)
  refine En_Ps 1 (pc' := 9) (lv' := [(0, .ref s), (1, .ref a)]) (st' := [.ref a]) rfl ?_
  refine En_getK (j := 0) ((h5 _ _ (Or.inr (by decide))).trans h_ak) rfl rfl rfl ha (by decide +kernel) ?_
  refine En_Ps 2 (pc' := 14) (lv' := [(0, .ref s), (1, .ref a)]) (st' := [.ref s, .int ((Int32.ofInt 0)), .ref ak]) rfl ?_
  refine En_getK (j := 0) ((h5 _ _ (Or.inr (by decide))).trans h_kn) rfl rfl rfl hs (by decide +kernel) ?_
  refine En_Ps 2 (pc' := 20) (lv' := [(0, .ref s), (1, .ref a)]) (st' := [.int (((Int8.ofInt 13).toInt32)), .int ((Int32.ofInt 0)), .ref kn, .int ((Int32.ofInt 0)), .ref ak]) rfl ?_
  refine En_copyX (n0 := 13) (n1 := 13) (by decide : ((Int8.ofInt 13).toInt32).toInt = 13) (by decide : (Int32.ofInt 0).toInt = 0) (by decide : (Int32.ofInt 0).toInt = 0) rfl rfl rfl rfl hak hkn (by decide +kernel) (by decide +kernel) (by decide +kernel) (by decide +kernel) (by decide +kernel) (by omega) (by omega) (by omega) (by omega) (by omega) h2 h3 (by decide +kernel) (fun σ6 h7 h8 h9 h10 => ?_)
  have h11 := ROW_mk (n := 13) h9 h10 (by decide) (by decide) (by decide)
  refine En_Ps 1 (pc' := 24) (lv' := [(0, .ref s), (1, .ref a)]) (st' := [.ref a]) rfl ?_
  refine En_getK (j := 1) ((h9 _ _ (neTG ha hkn (by decide))).trans ((h5 _ _ (Or.inr (by decide))).trans h_ao)) rfl rfl rfl ha (by decide +kernel) ?_
  refine En_Ps 2 (pc' := 29) (lv' := [(0, .ref s), (1, .ref a)]) (st' := [.ref s, .int ((Int32.ofInt 0)), .ref ao]) rfl ?_
  refine En_getK (j := 1) ((h9 _ _ (neTG hs hkn (by decide))).trans ((h5 _ _ (Or.inr (by decide))).trans h_op)) rfl rfl rfl hs (by decide +kernel) ?_
  refine En_Ps 2 (pc' := 35) (lv' := [(0, .ref s), (1, .ref a)]) (st' := [.int (((Int8.ofInt 13).toInt32)), .int ((Int32.ofInt 0)), .ref op, .int ((Int32.ofInt 0)), .ref ao]) rfl ?_
  refine En_copyX (n0 := 13) (n1 := 13) (by decide : ((Int8.ofInt 13).toInt32).toInt = 13) (by decide : (Int32.ofInt 0).toInt = 0) (by decide : (Int32.ofInt 0).toInt = 0) rfl rfl rfl rfl hao hop (by decide +kernel) (by decide +kernel) (by decide +kernel) (by decide +kernel) (by decide +kernel) (by omega) (by omega) (by omega) (by omega) (by omega) h7 h8 (by decide +kernel) (fun σ12 h13 h14 h15 h16 => ?_)
  have h17 := ROW_mk (n := 13) h15 h16 (by decide) (by decide) (by decide)
  exact En_ret (v := none) rfl rfl rfl ⟨h13, h14, rfl, LTF_mk h_az h4 h5 h11 h17 (by omega) (by omega) (by omega) (by omega) (by omega) (by omega)⟩
/-- DoorSchool$Door.takeFrom(LDoorSchool$Door;)V -/
abbrev P_14x (σ0 : SG) (s : Nat) (a : Nat) (l : Nat) (kn : Nat) (op : Nat) (al : Nat) (ak : Nat) (ao : Nat) : PO := fun v σ => WT σ ∧ Fr [(20, 2), (21, 0), (22, 0), (28, 1), (28, 2), (28, 3)] σ0 σ ∧ v = none ∧ DTF σ0 σ s l kn op a al ak ao
set_option maxRecDepth 10000 in
set_option maxHeartbeats 4000000 in
theorem c_14x (σ0 : SG) (hσ0 : WT σ0) (s : Nat) (hs : TG s = 28) (a : Nat) (ha : TG a = 28) (l : Nat) (hl : TG l = 20) (h_l : (σ0 s)[0]? = some (.ref l)) (kn : Nat) (hkn : TG kn = 21) (h_kn : (σ0 l)[0]? = some (.ref kn)) (op : Nat) (hop : TG op = 22) (h_op : (σ0 l)[1]? = some (.ref op)) (al : Nat) (hal : TG al = 20) (h_al : (σ0 a)[0]? = some (.ref al)) (ak : Nat) (hak : TG ak = 21) (h_ak : (σ0 al)[0]? = some (.ref ak)) (ao : Nat) (hao : TG ao = 22) (h_ao : (σ0 al)[1]? = some (.ref ao)) (hs1 : l = s + 1 ∧ kn = s + 2 ∧ op = s + 3) (ht1 : al = a + 1 ∧ ak = a + 2 ∧ ao = a + 3) (hd1 : s + 4 ≤ a ∨ a + 4 ≤ s) : En 2 81 none mr_14 (P_14x σ0 s a l kn op al ak ao) 0 [(0, .ref s), (1, .ref a)] [] σ0 := by
  have hF0 : Fr [(20, 2), (21, 0), (22, 0), (28, 1), (28, 2), (28, 3)] σ0 σ0 := Fr_rfl
  refine En_Ps 2 (pc' := 2) (lv' := [(0, .ref s), (1, .ref a)]) (st' := [.ref a, .ref s]) rfl ?_
  refine En_getI (j := 1) (l := 0) (u := 2) rfl rfl rfl ha (by decide +kernel) hσ0 (by decide +kernel) (fun z2 h1 h3 h4 => ?_)
  refine En_Ps 1 (pc' := 6) (lv' := [(0, .ref s), (1, .ref a)]) (st' := [.ref a, .int z2, .ref s]) rfl ?_
  refine En_getI (j := 2) (l := 0) (u := 50) rfl rfl rfl ha (by decide +kernel) hσ0 (by decide +kernel) (fun z6 h5 h7 h8 => ?_)
  refine En_callV rfl rfl rfl rfl rfl rfl rfl rfl hs (by decide +kernel) rfl (c_12x σ0 hσ0 s hs z2 z6 (geI rfl (by first | exact q_58e6e51dcc h3 | omega)) (leI rfl (by first | exact q_a85463bd0d h4 | omega)) (geI rfl (by first | exact q_58e6e51dcc h7 | omega)) (leI rfl (by first | exact q_2eaa18fab1 h8 | omega)) l hl h_l) (by decide) (by decide) (fun v10 σ11 h9 => ?_)
  obtain ⟨h12, h13, rfl, h14⟩ := h9
  have h15 := h14
  have h16 := Fr_trans hF0 h13 (by decide +kernel)
  refine En_Ps 2 (pc' := 14) (lv' := [(0, .ref s), (1, .ref a)]) (st' := [.ref a, .ref s]) rfl ?_
  refine En_getI (j := 3) (l := (-1)) (u := 3) rfl rfl rfl ha (by decide +kernel) h12 (by decide +kernel) (fun z18 h17 h19 h20 => ?_)
  have h21 := (h15.2.2.2.2 _ _ (by omega) (by omega) (by omega) (by omega)).symm.trans h17
  refine En_put (j := 3) rfl rfl rfl hs (by decide +kernel) rfl (vI (l := (-1)) (u := 3) (by decide +kernel) rfl (by first | exact q_77b189e83d h19 | omega) (by first | exact q_da5e9b976f h20 | omega)) h12 h16 (by decide +kernel) (fun σ22 h23 h24 h25 h26 => ?_)
  refine En_Ps 1 (pc' := 21) (lv' := [(0, .ref s), (1, .ref a)]) (st' := [.ref s]) rfl ?_
  refine En_getK (j := 0) ((h26 _ _ (Or.inr (by decide))).trans ((h13 _ _ (inW hs (by decide +kernel))).trans h_l)) rfl rfl rfl hs (by decide +kernel) ?_
  refine En_Ps 1 (pc' := 25) (lv' := [(0, .ref s), (1, .ref a)]) (st' := [.ref a, .ref l]) rfl ?_
  refine En_getK (j := 0) ((h26 _ _ (Or.inr (by decide))).trans ((h13 _ _ (inW ha (by decide +kernel))).trans h_al)) rfl rfl rfl ha (by decide +kernel) ?_
  obtain ⟨z28, h27, h29, h30⟩ := WT_peekI h23 hal (by decide +kernel : FT 20 2 = (0, 0, 13)) (by decide +kernel)
  refine En_callV rfl rfl rfl rfl rfl rfl rfl rfl hl (by decide +kernel) rfl (c_40x σ22 h23 l hl al hal kn hkn ((h26 _ _ (Or.inr (by decide))).trans ((h13 _ _ (inW hl (by decide +kernel))).trans h_kn)) op hop ((h26 _ _ (Or.inr (by decide))).trans ((h13 _ _ (inW hl (by decide +kernel))).trans h_op)) ak hak ((h26 _ _ (Or.inr (by decide))).trans ((h13 _ _ (inW hal (by decide +kernel))).trans h_ak)) ao hao ((h26 _ _ (Or.inr (by decide))).trans ((h13 _ _ (inW hal (by decide +kernel))).trans h_ao)) z28 h27 (by omega) (by omega) (by omega)) (by decide) (by decide) (fun v32 σ33 h31 => ?_)
  obtain ⟨h34, h35, rfl, h36⟩ := h31
  have h37 := h36
  have h38 := Fr_trans h24 h35 (by decide +kernel)
  exact En_ret (v := none) rfl rfl rfl ⟨h34, h38, rfl, DTF_mk h15 (ci_at (j := 1) h1 rfl) (ci_at (j := 2) h5 rfl) h21 h25 h26 h37 hs1 ht1 hd1⟩
/-- DoorSchool$Lessons.putIn(III)V -/
abbrev P_38ax (σ0 : SG) (s : Nat) (a : Int32) (b : Int32) (c : Int32) (kn : Nat) (op : Nat) (sz : Int32) : PO := fun v σ => WT σ ∧ Fr [(20, 2), (21, 0), (22, 0)] σ0 σ ∧ ∃ sz1 : Int32, (σ s)[2]? = some (.int sz1) ∧ v = none ∧ -sz1.toInt + 1 ≤ 0 ∧ sz1.toInt - 13 ≤ 0 ∧ -sz1.toInt + sz.toInt + 1 ≤ 0 ∧ sz1.toInt - sz.toInt - 1 ≤ 0 ∧ ADDp σ0 σ s kn op sz.toInt b.toInt c.toInt
set_option maxRecDepth 10000 in
set_option maxHeartbeats 4000000 in
theorem c_38ax (σ0 : SG) (hσ0 : WT σ0) (s : Nat) (hs : TG s = 20) (a : Int32) (b : Int32) (c : Int32) (hl_a : 0 ≤ a.toInt) (hu_a : a.toInt ≤ 12) (hl_b : 0 ≤ b.toInt) (hu_b : b.toInt ≤ 15) (hl_c : 0 ≤ c.toInt) (hu_c : c.toInt ≤ 1) (kn : Nat) (hkn : TG kn = 21) (h_kn : (σ0 s)[0]? = some (.ref kn)) (op : Nat) (hop : TG op = 22) (h_op : (σ0 s)[1]? = some (.ref op)) (sz : Int32) (h_sz : (σ0 s)[2]? = some (.int sz)) (hp0 : a.toInt - sz.toInt ≤ 0) (hp1 : -a.toInt + sz.toInt ≤ 0) (hp2 : sz.toInt - 12 ≤ 0) : En 0 0 none mr_38 (P_38ax σ0 s a b c kn op sz) 0 [(0, .ref s), (1, .int a), (2, .int b), (3, .int c)] [] σ0 := by
  obtain ⟨hl_sz, hu_sz⟩ := WT_int hσ0 (g := 20) hs (by decide +kernel) (l := 0) (u := 13) (by decide +kernel) h_sz
  have hF0 : Fr [(20, 2), (21, 0), (22, 0)] σ0 σ0 := Fr_rfl
  refine En_Ps 1 (pc' := 1) (lv' := [(0, .ref s), (1, .int a), (2, .int b), (3, .int c)]) (st' := [.int a]) rfl ?_
  refine En_iLt _ rfl rfl (fun hx => by first | exact (q_ca2574f947 hl_a hx).elim | (exfalso; omega)) (fun h1 => ?_)
  refine En_Ps 2 (pc' := 6) (lv' := [(0, .ref s), (1, .int a), (2, .int b), (3, .int c)]) (st' := [.ref s, .int a]) rfl ?_
  refine En_getK (j := 2) h_sz rfl rfl rfl hs (by decide +kernel) ?_
  refine En_icGt _ rfl rfl rfl (fun hx => by first | exact (q_c9193cb1c8 hp0 hx).elim | (exfalso; omega)) (fun h2 => ?_)
  refine En_Ps 1 (pc' := 13) (lv' := [(0, .ref s), (1, .int a), (2, .int b), (3, .int c)]) (st' := [.ref s]) rfl ?_
  refine En_getK (j := 2) h_sz rfl rfl rfl hs (by decide +kernel) ?_
  refine En_Ps 1 (pc' := 18) (lv' := [(0, .ref s), (1, .int a), (2, .int b), (3, .int c)]) (st' := [.int (((Int8.ofInt 13).toInt32)), .int sz]) rfl ?_
  refine En_icLt _ rfl (by decide : ((Int8.ofInt 13).toInt32).toInt = 13) rfl (fun h3 => ?_) (fun hx => by first | exact (q_ab9047be28 hx hp2).elim | (exfalso; omega))
  refine En_Ps 1 (pc' := 23) (lv' := [(0, .ref s), (1, .int a), (2, .int b), (3, .int c)]) (st' := [.ref s]) rfl ?_
  refine En_getK (j := 2) h_sz rfl rfl rfl hs (by decide +kernel) ?_
  refine En_Ps 3 (pc' := 31) (lv' := [(4, .int sz), (0, .ref s), (1, .int a), (2, .int b), (3, .int c)]) (st' := [.int a, .int sz]) rfl ?_
  refine En_icLe _ rfl rfl rfl (fun h4 => ?_) (fun hx => by first | exact (q_938346e14a hx hp1).elim | (exfalso; omega))
  refine En_Ps 1 (pc' := 73) (lv' := [(4, .int sz), (0, .ref s), (1, .int a), (2, .int b), (3, .int c)]) (st' := [.ref s]) rfl ?_
  refine En_getK (j := 0) h_kn rfl rfl rfl hs (by decide +kernel) ?_
  refine En_Ps 2 (pc' := 78) (lv' := [(4, .int sz), (0, .ref s), (1, .int a), (2, .int b), (3, .int c)]) (st' := [.int b, .int a, .ref kn]) rfl ?_
  refine En_iast (l := 0) (u := 15) rfl rfl hkn (by decide +kernel) (by first | exact q_58e6e51dcc hl_a | omega) (lnI (by decide +kernel : LN _ = 13) (by first | exact q_eca5b91a1e hu_a | omega)) (FTsgl (by decide +kernel)) (rngI rfl (by first | exact q_58e6e51dcc hl_b | omega) (by first | exact q_5a4d8a7e08 hu_b | omega)) hσ0 hF0 (by decide +kernel) (fun σ5 h6 h7 h8 h9 => ?_)
  refine En_Ps 1 (pc' := 80) (lv' := [(4, .int sz), (0, .ref s), (1, .int a), (2, .int b), (3, .int c)]) (st' := [.ref s]) rfl ?_
  refine En_getK (j := 1) ((h9 _ _ (Or.inl (neTG hs hkn (by decide)))).trans h_op) rfl rfl rfl hs (by decide +kernel) ?_
  refine En_Ps 2 (pc' := 85) (lv' := [(4, .int sz), (0, .ref s), (1, .int a), (2, .int b), (3, .int c)]) (st' := [.int c, .int a, .ref op]) rfl ?_
  refine En_iast (l := 0) (u := 1) rfl rfl hop (by decide +kernel) (by first | exact q_58e6e51dcc hl_a | omega) (lnI (by decide +kernel : LN _ = 13) (by first | exact q_eca5b91a1e hu_a | omega)) (FTsgl (by decide +kernel)) (rngI rfl (by first | exact q_58e6e51dcc hl_c | omega) (by first | exact q_9d0c30f9c5 hu_c | omega)) h6 h7 (by decide +kernel) (fun σ10 h11 h12 h13 h14 => ?_)
  refine En_Ps 2 (pc' := 88) (lv' := [(4, .int sz), (0, .ref s), (1, .int a), (2, .int b), (3, .int c)]) (st' := [.ref s, .ref s]) rfl ?_
  refine En_getK (j := 2) ((h14 _ _ (Or.inl (neTG hs hop (by decide)))).trans ((h9 _ _ (Or.inl (neTG hs hkn (by decide)))).trans h_sz)) rfl rfl rfl hs (by decide +kernel) ?_
  refine En_Ps 2 (pc' := 93) (lv' := [(4, .int sz), (0, .ref s), (1, .int a), (2, .int b), (3, .int c)]) (st' := [.int ((sz + ((Int32.ofInt 1)))), .ref s]) rfl ?_
  refine En_top (addI rfl (by decide : (Int32.ofInt 1).toInt = 1) (by first | exact q_465ab79ac1 hl_sz | omega) (by first | exact q_bf43a41d51 hp2 | omega)) (fun z15 h16 => ?_)
  refine En_put (j := 2) rfl rfl rfl hs (by decide +kernel) rfl (vI (l := 0) (u := 13) (by decide +kernel) rfl (by first | exact q_35104ce9d3 h16 hl_sz | omega) (by first | exact q_ef750b473d h16 hp2 | omega)) h11 h12 (by decide +kernel) (fun σ17 h18 h19 h20 h21 => ?_)
  exact En_ret (v := none) rfl rfl rfl ⟨h18, h19, z15, h20, rfl, ⟨by first | exact q_eeff886842 h16 hl_sz | omega, by first | exact q_2993df89fb h16 hp2 | omega, by first | exact q_0f0670fdd6 h16 | omega, by first | exact q_9a409ce733 h16 | omega, (by have e9 : a.toInt = sz.toInt := (by omega); rw [← e9]; exact ADD_mk h8 h9 h13 h14 h20 h21 hs hkn hop rfl rfl (by omega))⟩⟩
/-- DoorSchool$Lessons.putIn(III)V -/
abbrev P_38bx (σ0 : SG) (s : Nat) (a : Int32) (b : Int32) (c : Int32) (kn : Nat) (op : Nat) (sz : Int32) : PO := fun v σ => WT σ ∧ Fr [(20, 2), (21, 0), (22, 0)] σ0 σ ∧ ∃ sz1 : Int32, (σ s)[2]? = some (.int sz1) ∧ v = none ∧ -sz1.toInt + 1 ≤ 0 ∧ sz1.toInt - 13 ≤ 0 ∧ -sz1.toInt + sz.toInt + 1 ≤ 0 ∧ sz1.toInt - sz.toInt - 1 ≤ 0 ∧ PTp σ0 σ s kn op a.toInt sz.toInt b.toInt c.toInt
set_option maxRecDepth 10000 in
set_option maxHeartbeats 4000000 in
theorem c_38bx (σ0 : SG) (hσ0 : WT σ0) (s : Nat) (hs : TG s = 20) (a : Int32) (b : Int32) (c : Int32) (hl_a : 0 ≤ a.toInt) (hu_a : a.toInt ≤ 12) (hl_b : 0 ≤ b.toInt) (hu_b : b.toInt ≤ 15) (hl_c : 0 ≤ c.toInt) (hu_c : c.toInt ≤ 1) (kn : Nat) (hkn : TG kn = 21) (h_kn : (σ0 s)[0]? = some (.ref kn)) (op : Nat) (hop : TG op = 22) (h_op : (σ0 s)[1]? = some (.ref op)) (sz : Int32) (h_sz : (σ0 s)[2]? = some (.int sz)) (hp0 : a.toInt - sz.toInt ≤ 0) (hp1 : sz.toInt - 12 ≤ 0) : En 0 0 none mr_38 (P_38bx σ0 s a b c kn op sz) 0 [(0, .ref s), (1, .int a), (2, .int b), (3, .int c)] [] σ0 := by
  obtain ⟨hl_sz, hu_sz⟩ := WT_int hσ0 (g := 20) hs (by decide +kernel) (l := 0) (u := 13) (by decide +kernel) h_sz
  have hF0 : Fr [(20, 2), (21, 0), (22, 0)] σ0 σ0 := Fr_rfl
  refine En_Ps 1 (pc' := 1) (lv' := [(0, .ref s), (1, .int a), (2, .int b), (3, .int c)]) (st' := [.int a]) rfl ?_
  refine En_iLt _ rfl rfl (fun hx => by first | exact (q_ca2574f947 hl_a hx).elim | (exfalso; omega)) (fun h1 => ?_)
  refine En_Ps 2 (pc' := 6) (lv' := [(0, .ref s), (1, .int a), (2, .int b), (3, .int c)]) (st' := [.ref s, .int a]) rfl ?_
  refine En_getK (j := 2) h_sz rfl rfl rfl hs (by decide +kernel) ?_
  refine En_icGt _ rfl rfl rfl (fun hx => by first | exact (q_c9193cb1c8 hp0 hx).elim | (exfalso; omega)) (fun h2 => ?_)
  refine En_Ps 1 (pc' := 13) (lv' := [(0, .ref s), (1, .int a), (2, .int b), (3, .int c)]) (st' := [.ref s]) rfl ?_
  refine En_getK (j := 2) h_sz rfl rfl rfl hs (by decide +kernel) ?_
  refine En_Ps 1 (pc' := 18) (lv' := [(0, .ref s), (1, .int a), (2, .int b), (3, .int c)]) (st' := [.int (((Int8.ofInt 13).toInt32)), .int sz]) rfl ?_
  refine En_icLt _ rfl (by decide : ((Int8.ofInt 13).toInt32).toInt = 13) rfl (fun h3 => ?_) (fun hx => by first | exact (q_ab9047be28 hx hp1).elim | (exfalso; omega))
  refine En_Ps 1 (pc' := 23) (lv' := [(0, .ref s), (1, .int a), (2, .int b), (3, .int c)]) (st' := [.ref s]) rfl ?_
  refine En_getK (j := 2) h_sz rfl rfl rfl hs (by decide +kernel) ?_
  refine En_Ps 1 (pc' := 28) (lv' := [(4, .int sz), (0, .ref s), (1, .int a), (2, .int b), (3, .int c)]) (st' := []) rfl ?_
  have key28 : ∀ (n28 : Nat) (σ5 : SG) (y4 : Int32), WT σ5 → Fr [(20, 2), (21, 0), (22, 0)] σ0 σ5 → (σ5 s)[0]? = some (.ref kn) → (σ5 s)[1]? = some (.ref op) → (σ5 s)[2]? = some (.int sz) → 0 ≤ y4.toInt → y4.toInt ≤ 12 → a.toInt - y4.toInt ≤ 0 → y4.toInt - sz.toInt ≤ 0 → y4.toInt - a.toInt < (n28 : Int) → PTI σ0 σ5 kn op sz.toInt y4.toInt → En 0 0 none mr_38 (P_38bx σ0 s a b c kn op sz) 28 [(0, .ref s), (1, .int a), (2, .int b), (3, .int c), (4, .int y4)] [] σ5 := by
    intro n28
    induction n28 with
    | zero =>
      intro σ5 y4 h6 h7 h8 h9 h10 h11 h12 h13 h14 h15 h16
      first | exact (q_14257feae7 h13 h15).elim | (exfalso; omega)
    | succ n28 ih28 =>
      intro σ5 y4 h6 h7 h8 h9 h10 h11 h12 h13 h14 h15 h16
      refine En_Ps 2 (pc' := 31) (lv' := [(0, .ref s), (1, .int a), (2, .int b), (3, .int c), (4, .int y4)]) (st' := [.int a, .int y4]) rfl ?_
      refine En_icLe _ rfl rfl rfl (fun h17 => ?_) (fun h17 => ?_)
      · refine En_Ps 1 (pc' := 73) (lv' := [(0, .ref s), (1, .int a), (2, .int b), (3, .int c), (4, .int y4)]) (st' := [.ref s]) rfl ?_
        refine En_getK (j := 0) h8 rfl rfl rfl hs (by decide +kernel) ?_
        refine En_Ps 2 (pc' := 78) (lv' := [(0, .ref s), (1, .int a), (2, .int b), (3, .int c), (4, .int y4)]) (st' := [.int b, .int a, .ref kn]) rfl ?_
        refine En_iast (l := 0) (u := 15) rfl rfl hkn (by decide +kernel) (by first | exact q_58e6e51dcc hl_a | omega) (lnI (by decide +kernel : LN _ = 13) (by first | exact q_eca5b91a1e hu_a | omega)) (FTsgl (by decide +kernel)) (rngI rfl (by first | exact q_58e6e51dcc hl_b | omega) (by first | exact q_5a4d8a7e08 hu_b | omega)) h6 h7 (by decide +kernel) (fun σ18 h19 h20 h21 h22 => ?_)
        refine En_Ps 1 (pc' := 80) (lv' := [(0, .ref s), (1, .int a), (2, .int b), (3, .int c), (4, .int y4)]) (st' := [.ref s]) rfl ?_
        refine En_getK (j := 1) ((h22 _ _ (Or.inl (neTG hs hkn (by decide)))).trans h9) rfl rfl rfl hs (by decide +kernel) ?_
        refine En_Ps 2 (pc' := 85) (lv' := [(0, .ref s), (1, .int a), (2, .int b), (3, .int c), (4, .int y4)]) (st' := [.int c, .int a, .ref op]) rfl ?_
        refine En_iast (l := 0) (u := 1) rfl rfl hop (by decide +kernel) (by first | exact q_58e6e51dcc hl_a | omega) (lnI (by decide +kernel : LN _ = 13) (by first | exact q_eca5b91a1e hu_a | omega)) (FTsgl (by decide +kernel)) (rngI rfl (by first | exact q_58e6e51dcc hl_c | omega) (by first | exact q_9d0c30f9c5 hu_c | omega)) h19 h20 (by decide +kernel) (fun σ23 h24 h25 h26 h27 => ?_)
        refine En_Ps 2 (pc' := 88) (lv' := [(0, .ref s), (1, .int a), (2, .int b), (3, .int c), (4, .int y4)]) (st' := [.ref s, .ref s]) rfl ?_
        refine En_getK (j := 2) ((h27 _ _ (Or.inl (neTG hs hop (by decide)))).trans ((h22 _ _ (Or.inl (neTG hs hkn (by decide)))).trans h10)) rfl rfl rfl hs (by decide +kernel) ?_
        refine En_Ps 2 (pc' := 93) (lv' := [(0, .ref s), (1, .int a), (2, .int b), (3, .int c), (4, .int y4)]) (st' := [.int ((sz + ((Int32.ofInt 1)))), .ref s]) rfl ?_
        refine En_top (addI rfl (by decide : (Int32.ofInt 1).toInt = 1) (by first | exact q_465ab79ac1 hl_sz | omega) (by first | exact q_bf43a41d51 hp1 | omega)) (fun z28 h29 => ?_)
        refine En_put (j := 2) rfl rfl rfl hs (by decide +kernel) rfl (vI (l := 0) (u := 13) (by decide +kernel) rfl (by first | exact q_35104ce9d3 h29 hl_sz | omega) (by first | exact q_ef750b473d h29 hp1 | omega)) h24 h25 (by decide +kernel) (fun σ30 h31 h32 h33 h34 => ?_)
        exact En_ret (v := none) rfl rfl rfl ⟨h31, h32, z28, h33, rfl, ⟨by first | exact q_eeff886842 h29 hl_sz | omega, by first | exact q_2993df89fb h29 hp1 | omega, by first | exact q_0f0670fdd6 h29 | omega, by first | exact q_9a409ce733 h29 | omega, PTI_x h16 (by omega) h21 h22 h26 h27 h33 h34 rfl (by omega) (neTG hkn hop (by decide)) (neTG hkn hs (by decide)) (neTG hop hs (by decide)) (by omega)⟩⟩
      · refine En_Ps 1 (pc' := 35) (lv' := [(0, .ref s), (1, .int a), (2, .int b), (3, .int c), (4, .int y4)]) (st' := [.ref s]) rfl ?_
        refine En_getK (j := 0) h8 rfl rfl rfl hs (by decide +kernel) ?_
        refine En_Ps 2 (pc' := 41) (lv' := [(0, .ref s), (1, .int a), (2, .int b), (3, .int c), (4, .int y4)]) (st' := [.ref s, .int y4, .ref kn]) rfl ?_
        refine En_getK (j := 0) h8 rfl rfl rfl hs (by decide +kernel) ?_
        refine En_Ps 3 (pc' := 48) (lv' := [(0, .ref s), (1, .int a), (2, .int b), (3, .int c), (4, .int y4)]) (st' := [.int ((y4 - ((Int32.ofInt 1)))), .ref kn, .int y4, .ref kn]) rfl ?_
        refine En_top (subI rfl (by decide : (Int32.ofInt 1).toInt = 1) (by first | exact q_93f9478bef h11 | omega) (by first | exact q_5f4a85dce3 h12 | omega)) (fun z35 h36 => ?_)
        refine En_iald (l := 0) (u := 15) rfl rfl hkn (by decide +kernel) h6 (by first | exact q_33d4421f1e h36 h17 hl_a | omega) (lnI (by decide +kernel : LN _ = 13) (by first | exact q_5fc37093b9 h36 h12 | omega)) (FTsgl (by decide +kernel)) (fun z38 h37 h39 h40 => ?_)
        refine En_iast (l := 0) (u := 15) rfl rfl hkn (by decide +kernel) (by first | exact q_58e6e51dcc h11 | omega) (lnI (by decide +kernel : LN _ = 13) (by first | exact q_eca5b91a1e h12 | omega)) (FTsgl (by decide +kernel)) (rngI rfl (by first | exact q_58e6e51dcc h39 | omega) (by first | exact q_5a4d8a7e08 h40 | omega)) h6 h7 (by decide +kernel) (fun σ41 h42 h43 h44 h45 => ?_)
        refine En_Ps 1 (pc' := 51) (lv' := [(0, .ref s), (1, .int a), (2, .int b), (3, .int c), (4, .int y4)]) (st' := [.ref s]) rfl ?_
        refine En_getK (j := 1) ((h45 _ _ (Or.inl (neTG hs hkn (by decide)))).trans h9) rfl rfl rfl hs (by decide +kernel) ?_
        refine En_Ps 2 (pc' := 57) (lv' := [(0, .ref s), (1, .int a), (2, .int b), (3, .int c), (4, .int y4)]) (st' := [.ref s, .int y4, .ref op]) rfl ?_
        refine En_getK (j := 1) ((h45 _ _ (Or.inl (neTG hs hkn (by decide)))).trans h9) rfl rfl rfl hs (by decide +kernel) ?_
        refine En_Ps 3 (pc' := 64) (lv' := [(0, .ref s), (1, .int a), (2, .int b), (3, .int c), (4, .int y4)]) (st' := [.int ((y4 - ((Int32.ofInt 1)))), .ref op, .int y4, .ref op]) rfl ?_
        refine En_top (subI rfl (by decide : (Int32.ofInt 1).toInt = 1) (by first | exact q_93f9478bef h11 | omega) (by first | exact q_5f4a85dce3 h12 | omega)) (fun z46 h47 => ?_)
        refine En_iald (l := 0) (u := 1) rfl rfl hop (by decide +kernel) h42 (by first | exact q_33d4421f1e h47 h17 hl_a | omega) (lnI (by decide +kernel : LN _ = 13) (by first | exact q_5fc37093b9 h47 h12 | omega)) (FTsgl (by decide +kernel)) (fun z49 h48 h50 h51 => ?_)
        refine En_iast (l := 0) (u := 1) rfl rfl hop (by decide +kernel) (by first | exact q_58e6e51dcc h11 | omega) (lnI (by decide +kernel : LN _ = 13) (by first | exact q_eca5b91a1e h12 | omega)) (FTsgl (by decide +kernel)) (rngI rfl (by first | exact q_58e6e51dcc h50 | omega) (by first | exact q_9d0c30f9c5 h51 | omega)) h42 h43 (by decide +kernel) (fun σ52 h53 h54 h55 h56 => ?_)
        refine En_Ps 1 (pc' := 69) (lv' := [(4, .int ((y4 + Int32.ofInt (-1)))), (0, .ref s), (1, .int a), (2, .int b), (3, .int c)]) (st' := []) rfl ?_
        refine En_lv1 (addI rfl (by decide : (Int32.ofInt (-1)).toInt = -1) (by first | exact q_069e58d060 h11 | omega) (by first | exact q_22df3f42b4 h12 | omega)) (fun z57 h58 => ?_)
        refine En_Ps 1 (pc' := 28) (lv' := [(4, .int z57), (0, .ref s), (1, .int a), (2, .int b), (3, .int c)]) (st' := []) rfl ?_
        refine En_lv (lv := [(0, .ref s), (1, .int a), (2, .int b), (3, .int c), (4, .int z57)]) ⟨rfl, rfl, rfl, rfl, rfl, trivial⟩ ?_
        exact ih28 σ52 z57 h53 h54 ((h56 _ _ (Or.inl (neTG hs hop (by decide)))).trans ((h45 _ _ (Or.inl (neTG hs hkn (by decide)))).trans h8)) ((h56 _ _ (Or.inl (neTG hs hop (by decide)))).trans ((h45 _ _ (Or.inl (neTG hs hkn (by decide)))).trans h9)) ((h56 _ _ (Or.inl (neTG hs hop (by decide)))).trans ((h45 _ _ (Or.inl (neTG hs hkn (by decide)))).trans h10)) (by first | exact q_f5ee678ee2 h58 h17 hl_a | omega) (by first | exact q_bf87cd541d h58 h12 | omega) (by first | exact q_4fa3e3f0d6 h17 h58 | omega) (by first | exact q_fbcec499c6 h14 h58 | omega) (by first | exact q_60d27c56d4 h58 h15 | omega) (PTI_s (J := y4.toInt) (J' := y4.toInt - 1) h16 (neTG hkn hop (by decide)) (by rw [show y4.toInt - 1 = z35.toInt by omega]; exact h37) h44 h45 (by rw [show y4.toInt - 1 = z46.toInt by omega]; exact h48) h55 h56 (by omega) (by omega) (by omega) (by omega) (by omega))
  refine En_lv (lv := [(0, .ref s), (1, .int a), (2, .int b), (3, .int c), (4, .int sz)]) ⟨rfl, rfl, rfl, rfl, rfl, trivial⟩ ?_
  exact key28 (Int.toNat (sz.toInt - a.toInt) + 1) σ0 sz hσ0 hF0 h_kn h_op h_sz (by first | exact q_58e6e51dcc hl_sz | omega) (by first | exact q_b48fc66505 hp1 | omega) (by first | exact q_f67127b06c hp0 | omega) (by first | exact q_1bb76abeaf | omega) (by first | exact toN_lt _ | omega) (PTI_0 rfl)
/-- DoorSchool$Lessons.add(II)V -/
abbrev P_31x (σ0 : SG) (s : Nat) (a : Int32) (b : Int32) (kn : Nat) (op : Nat) (sz : Int32) : PO := fun v σ => WT σ ∧ Fr [(20, 2), (21, 0), (22, 0)] σ0 σ ∧ ∃ sz1 : Int32, (σ s)[2]? = some (.int sz1) ∧ v = none ∧ -sz1.toInt + 1 ≤ 0 ∧ sz1.toInt - 13 ≤ 0 ∧ -sz1.toInt + sz.toInt + 1 ≤ 0 ∧ sz1.toInt - sz.toInt - 1 ≤ 0 ∧ ADDp σ0 σ s kn op sz.toInt a.toInt b.toInt
set_option maxRecDepth 10000 in
set_option maxHeartbeats 4000000 in
theorem c_31x (σ0 : SG) (hσ0 : WT σ0) (s : Nat) (hs : TG s = 20) (a : Int32) (b : Int32) (hl_a : 0 ≤ a.toInt) (hu_a : a.toInt ≤ 15) (hl_b : 0 ≤ b.toInt) (hu_b : b.toInt ≤ 1) (kn : Nat) (hkn : TG kn = 21) (h_kn : (σ0 s)[0]? = some (.ref kn)) (op : Nat) (hop : TG op = 22) (h_op : (σ0 s)[1]? = some (.ref op)) (sz : Int32) (h_sz : (σ0 s)[2]? = some (.int sz)) (hp0 : sz.toInt - 12 ≤ 0) : En 1 24 none mr_31 (P_31x σ0 s a b kn op sz) 0 [(0, .ref s), (1, .int a), (2, .int b)] [] σ0 := by
  obtain ⟨hl_sz, hu_sz⟩ := WT_int hσ0 (g := 20) hs (by decide +kernel) (l := 0) (u := 13) (by decide +kernel) h_sz
  have hF0 : Fr [(20, 2), (21, 0), (22, 0)] σ0 σ0 := Fr_rfl
  refine En_Ps 2 (pc' := 2) (lv' := [(0, .ref s), (1, .int a), (2, .int b)]) (st' := [.ref s, .ref s]) rfl ?_
  refine En_getK (j := 2) h_sz rfl rfl rfl hs (by decide +kernel) ?_
  refine En_Ps 2 (pc' := 7) (lv' := [(0, .ref s), (1, .int a), (2, .int b)]) (st' := [.int b, .int a, .int sz, .ref s]) rfl ?_
  refine En_callV rfl rfl rfl rfl rfl rfl rfl rfl hs (by decide +kernel) rfl (c_38ax σ0 hσ0 s hs sz a b (geI rfl (by first | exact q_58e6e51dcc hl_sz | omega)) (leI rfl (by first | exact q_b48fc66505 hp0 | omega)) (geI rfl (by first | exact q_58e6e51dcc hl_a | omega)) (leI rfl (by first | exact q_5a4d8a7e08 hu_a | omega)) (geI rfl (by first | exact q_58e6e51dcc hl_b | omega)) (leI rfl (by first | exact q_9d0c30f9c5 hu_b | omega)) kn hkn h_kn op hop h_op sz h_sz (by first | exact q_1bb76abeaf | omega) (by first | exact q_857069189f | omega) (by first | exact q_1d71e39f5f hp0 | omega)) (by decide) (by decide) (fun v2 σ3 h1 => ?_)
  obtain ⟨h4, h5, z7, h8, rfl, h6⟩ := h1
  have h9 := h6.2.2.2.2
  have h10 := Fr_trans hF0 h5 (by decide +kernel)
  exact En_ret (v := none) rfl rfl rfl ⟨h4, h10, z7, h8, rfl, ⟨by first | exact q_68fbff215b h6.1 | omega, by first | exact q_74b353401a h6.2.1 | omega, by first | exact q_b8b1191c64 h6.2.2.1 | omega, by first | exact q_9a4fe11a50 h6.2.2.2.1 | omega, h9⟩⟩
/-- DoorSchool$Lessons.takeOut(I)V -/
abbrev P_41ax (σ0 : SG) (s : Nat) (a : Int32) (kn : Nat) (op : Nat) (sz : Int32) : PO := fun v σ => WT σ ∧ Fr [(20, 2)] σ0 σ ∧ ∃ sz1 : Int32, (σ s)[2]? = some (.int sz1) ∧ v = none ∧ -sz1.toInt ≤ 0 ∧ sz1.toInt - 12 ≤ 0 ∧ -sz1.toInt + sz.toInt - 1 ≤ 0 ∧ sz1.toInt - sz.toInt + 1 ≤ 0 ∧ sz1.toInt - sz.toInt + 1 ≤ 0 ∧ -sz1.toInt + sz.toInt - 1 ≤ 0 ∧ DRPp σ0 σ s sz.toInt
set_option maxRecDepth 10000 in
set_option maxHeartbeats 4000000 in
theorem c_41ax (σ0 : SG) (hσ0 : WT σ0) (s : Nat) (hs : TG s = 20) (a : Int32) (hl_a : 0 ≤ a.toInt) (hu_a : a.toInt ≤ 12) (kn : Nat) (hkn : TG kn = 21) (h_kn : (σ0 s)[0]? = some (.ref kn)) (op : Nat) (hop : TG op = 22) (h_op : (σ0 s)[1]? = some (.ref op)) (sz : Int32) (h_sz : (σ0 s)[2]? = some (.int sz)) (hp0 : a.toInt - sz.toInt + 1 ≤ 0) (hp1 : -a.toInt + sz.toInt - 1 ≤ 0) : En 0 0 none mr_41 (P_41ax σ0 s a kn op sz) 0 [(0, .ref s), (1, .int a)] [] σ0 := by
  obtain ⟨hl_sz, hu_sz⟩ := WT_int hσ0 (g := 20) hs (by decide +kernel) (l := 0) (u := 13) (by decide +kernel) h_sz
  have hF0 : Fr [(20, 2)] σ0 σ0 := Fr_rfl
  refine En_Ps 1 (pc' := 1) (lv' := [(0, .ref s), (1, .int a)]) (st' := [.int a]) rfl ?_
  refine En_iLt _ rfl rfl (fun hx => by first | exact (q_ca2574f947 hl_a hx).elim | (exfalso; omega)) (fun h1 => ?_)
  refine En_Ps 2 (pc' := 6) (lv' := [(0, .ref s), (1, .int a)]) (st' := [.ref s, .int a]) rfl ?_
  refine En_getK (j := 2) h_sz rfl rfl rfl hs (by decide +kernel) ?_
  refine En_icLt _ rfl rfl rfl (fun h2 => ?_) (fun hx => by first | exact (q_92d2fd6345 hp0 hx).elim | (exfalso; omega))
  refine En_Ps 5 (pc' := 18) (lv' := [(2, .int a), (0, .ref s), (1, .int a)]) (st' := [.int ((a + ((Int32.ofInt 1))))]) rfl ?_
  refine En_top (addI rfl (by decide : (Int32.ofInt 1).toInt = 1) (by first | exact q_465ab79ac1 hl_a | omega) (by first | exact q_1fdc13c345 hu_a | omega)) (fun z3 h4 => ?_)
  refine En_Ps 1 (pc' := 19) (lv' := [(2, .int a), (0, .ref s), (1, .int a)]) (st' := [.ref s, .int z3]) rfl ?_
  refine En_getK (j := 2) h_sz rfl rfl rfl hs (by decide +kernel) ?_
  refine En_icGe _ rfl rfl rfl (fun h5 => ?_) (fun hx => by first | exact (q_948883f2c4 hp1 h4 hx).elim | (exfalso; omega))
  refine En_Ps 2 (pc' := 61) (lv' := [(2, .int a), (0, .ref s), (1, .int a)]) (st' := [.ref s, .ref s]) rfl ?_
  refine En_getK (j := 2) h_sz rfl rfl rfl hs (by decide +kernel) ?_
  refine En_Ps 2 (pc' := 66) (lv' := [(2, .int a), (0, .ref s), (1, .int a)]) (st' := [.int ((sz - ((Int32.ofInt 1)))), .ref s]) rfl ?_
  refine En_top (subI rfl (by decide : (Int32.ofInt 1).toInt = 1) (by first | exact q_93f9478bef hl_sz | omega) (by first | exact q_36ce509e97 hu_sz | omega)) (fun z6 h7 => ?_)
  refine En_put (j := 2) rfl rfl rfl hs (by decide +kernel) rfl (vI (l := 0) (u := 13) (by decide +kernel) rfl (by first | exact q_7aac38d150 h7 hp0 hl_a | omega) (by first | exact q_6c9ce9e948 h7 hu_sz | omega)) hσ0 hF0 (by decide +kernel) (fun σ8 h9 h10 h11 h12 => ?_)
  exact En_ret (v := none) rfl rfl rfl ⟨h9, h10, z6, h11, rfl, ⟨by first | exact q_a3a41410e6 h7 hp0 hl_a | omega, by first | exact q_d44cac6eaa h7 hu_sz | omega, by first | exact q_e4a5646b6e h7 | omega, by first | exact q_8e6f8e4fd9 h7 | omega, by first | exact q_8e6f8e4fd9 h7 | omega, by first | exact q_e4a5646b6e h7 | omega, DRP_mk h11 h12 (by omega)⟩⟩
/-- DoorSchool$Lessons.takeOut(I)V -/
abbrev P_41bx (σ0 : SG) (s : Nat) (a : Int32) (kn : Nat) (op : Nat) (sz : Int32) : PO := fun v σ => WT σ ∧ Fr [(20, 2), (21, 0), (22, 0)] σ0 σ ∧ ∃ sz1 : Int32, (σ s)[2]? = some (.int sz1) ∧ v = none ∧ -sz1.toInt ≤ 0 ∧ sz1.toInt - 12 ≤ 0 ∧ -sz1.toInt + sz.toInt - 1 ≤ 0 ∧ sz1.toInt - sz.toInt + 1 ≤ 0 ∧ sz1.toInt - sz.toInt + 1 ≤ 0 ∧ -sz1.toInt + sz.toInt - 1 ≤ 0 ∧ TKO σ0 σ s kn op a.toInt sz.toInt
set_option maxRecDepth 10000 in
set_option maxHeartbeats 4000000 in
theorem c_41bx (σ0 : SG) (hσ0 : WT σ0) (s : Nat) (hs : TG s = 20) (a : Int32) (hl_a : 0 ≤ a.toInt) (hu_a : a.toInt ≤ 12) (kn : Nat) (hkn : TG kn = 21) (h_kn : (σ0 s)[0]? = some (.ref kn)) (op : Nat) (hop : TG op = 22) (h_op : (σ0 s)[1]? = some (.ref op)) (sz : Int32) (h_sz : (σ0 s)[2]? = some (.int sz)) (hp0 : a.toInt - sz.toInt + 1 ≤ 0) : En 0 0 none mr_41 (P_41bx σ0 s a kn op sz) 0 [(0, .ref s), (1, .int a)] [] σ0 := by
  obtain ⟨hl_sz, hu_sz⟩ := WT_int hσ0 (g := 20) hs (by decide +kernel) (l := 0) (u := 13) (by decide +kernel) h_sz
  have hF0 : Fr [(20, 2), (21, 0), (22, 0)] σ0 σ0 := Fr_rfl
  refine En_Ps 1 (pc' := 1) (lv' := [(0, .ref s), (1, .int a)]) (st' := [.int a]) rfl ?_
  refine En_iLt _ rfl rfl (fun hx => by first | exact (q_ca2574f947 hl_a hx).elim | (exfalso; omega)) (fun h1 => ?_)
  refine En_Ps 2 (pc' := 6) (lv' := [(0, .ref s), (1, .int a)]) (st' := [.ref s, .int a]) rfl ?_
  refine En_getK (j := 2) h_sz rfl rfl rfl hs (by decide +kernel) ?_
  refine En_icLt _ rfl rfl rfl (fun h2 => ?_) (fun hx => by first | exact (q_92d2fd6345 hp0 hx).elim | (exfalso; omega))
  refine En_Ps 2 (pc' := 15) (lv' := [(2, .int a), (0, .ref s), (1, .int a)]) (st' := []) rfl ?_
  have key15 : ∀ (n15 : Nat) (σ4 : SG) (y3 : Int32), WT σ4 → Fr [(20, 2), (21, 0), (22, 0)] σ0 σ4 → (σ4 s)[0]? = some (.ref kn) → (σ4 s)[1]? = some (.ref op) → (σ4 s)[2]? = some (.int sz) → 0 ≤ y3.toInt → y3.toInt ≤ 12 → a.toInt - y3.toInt ≤ 0 → y3.toInt - sz.toInt + 1 ≤ 0 → sz.toInt - y3.toInt < (n15 : Int) → TKI σ0 σ4 kn op a.toInt y3.toInt → En 0 0 none mr_41 (P_41bx σ0 s a kn op sz) 15 [(0, .ref s), (1, .int a), (2, .int y3)] [] σ4 := by
    intro n15
    induction n15 with
    | zero =>
      intro σ4 y3 h5 h6 h7 h8 h9 h10 h11 h12 h13 h14 h15
      first | exact (q_33086d7645 h13 h14).elim | (exfalso; omega)
    | succ n15 ih15 =>
      intro σ4 y3 h5 h6 h7 h8 h9 h10 h11 h12 h13 h14 h15
      refine En_Ps 3 (pc' := 18) (lv' := [(0, .ref s), (1, .int a), (2, .int y3)]) (st' := [.int ((y3 + ((Int32.ofInt 1))))]) rfl ?_
      refine En_top (addI rfl (by decide : (Int32.ofInt 1).toInt = 1) (by first | exact q_465ab79ac1 h10 | omega) (by first | exact q_1fdc13c345 h11 | omega)) (fun z16 h17 => ?_)
      refine En_Ps 1 (pc' := 19) (lv' := [(0, .ref s), (1, .int a), (2, .int y3)]) (st' := [.ref s, .int z16]) rfl ?_
      refine En_getK (j := 2) h9 rfl rfl rfl hs (by decide +kernel) ?_
      refine En_icGe _ rfl rfl rfl (fun h18 => ?_) (fun h18 => ?_)
      · refine En_Ps 2 (pc' := 61) (lv' := [(0, .ref s), (1, .int a), (2, .int y3)]) (st' := [.ref s, .ref s]) rfl ?_
        refine En_getK (j := 2) h9 rfl rfl rfl hs (by decide +kernel) ?_
        refine En_Ps 2 (pc' := 66) (lv' := [(0, .ref s), (1, .int a), (2, .int y3)]) (st' := [.int ((sz - ((Int32.ofInt 1)))), .ref s]) rfl ?_
        refine En_top (subI rfl (by decide : (Int32.ofInt 1).toInt = 1) (by first | exact q_93f9478bef hl_sz | omega) (by first | exact q_36ce509e97 hu_sz | omega)) (fun z19 h20 => ?_)
        refine En_put (j := 2) rfl rfl rfl hs (by decide +kernel) rfl (vI (l := 0) (u := 13) (by decide +kernel) rfl (by first | exact q_7aac38d150 h20 hp0 hl_a | omega) (by first | exact q_6c9ce9e948 h20 hu_sz | omega)) h5 h6 (by decide +kernel) (fun σ21 h22 h23 h24 h25 => ?_)
        exact En_ret (v := none) rfl rfl rfl ⟨h22, h23, z19, h24, rfl, ⟨by first | exact q_a3a41410e6 h20 hp0 hl_a | omega, by first | exact q_d44cac6eaa h20 hu_sz | omega, by first | exact q_e4a5646b6e h20 | omega, by first | exact q_8e6f8e4fd9 h20 | omega, by first | exact q_8e6f8e4fd9 h20 | omega, by first | exact q_e4a5646b6e h20 | omega, TKI_x h15 (by omega) h24 h25 (by omega) (neTG hkn hs (by decide)) (neTG hop hs (by decide))⟩⟩
      · refine En_Ps 1 (pc' := 26) (lv' := [(0, .ref s), (1, .int a), (2, .int y3)]) (st' := [.ref s]) rfl ?_
        refine En_getK (j := 0) h7 rfl rfl rfl hs (by decide +kernel) ?_
        refine En_Ps 2 (pc' := 31) (lv' := [(0, .ref s), (1, .int a), (2, .int y3)]) (st' := [.ref s, .int y3, .ref kn]) rfl ?_
        refine En_getK (j := 0) h7 rfl rfl rfl hs (by decide +kernel) ?_
        refine En_Ps 3 (pc' := 37) (lv' := [(0, .ref s), (1, .int a), (2, .int y3)]) (st' := [.int ((y3 + ((Int32.ofInt 1)))), .ref kn, .int y3, .ref kn]) rfl ?_
        refine En_top (addI rfl (by decide : (Int32.ofInt 1).toInt = 1) (by first | exact q_465ab79ac1 h10 | omega) (by first | exact q_1fdc13c345 h11 | omega)) (fun z26 h27 => ?_)
        refine En_iald (l := 0) (u := 15) rfl rfl hkn (by decide +kernel) h5 (by first | exact q_35104ce9d3 h27 h10 | omega) (lnI (by decide +kernel : LN _ = 13) (by first | exact q_5d2c583439 h27 h17 h18 hu_sz | omega)) (FTsgl (by decide +kernel)) (fun z29 h28 h30 h31 => ?_)
        refine En_iast (l := 0) (u := 15) rfl rfl hkn (by decide +kernel) (by first | exact q_58e6e51dcc h10 | omega) (lnI (by decide +kernel : LN _ = 13) (by first | exact q_eca5b91a1e h11 | omega)) (FTsgl (by decide +kernel)) (rngI rfl (by first | exact q_58e6e51dcc h30 | omega) (by first | exact q_5a4d8a7e08 h31 | omega)) h5 h6 (by decide +kernel) (fun σ32 h33 h34 h35 h36 => ?_)
        refine En_Ps 1 (pc' := 40) (lv' := [(0, .ref s), (1, .int a), (2, .int y3)]) (st' := [.ref s]) rfl ?_
        refine En_getK (j := 1) ((h36 _ _ (Or.inl (neTG hs hkn (by decide)))).trans h8) rfl rfl rfl hs (by decide +kernel) ?_
        refine En_Ps 2 (pc' := 45) (lv' := [(0, .ref s), (1, .int a), (2, .int y3)]) (st' := [.ref s, .int y3, .ref op]) rfl ?_
        refine En_getK (j := 1) ((h36 _ _ (Or.inl (neTG hs hkn (by decide)))).trans h8) rfl rfl rfl hs (by decide +kernel) ?_
        refine En_Ps 3 (pc' := 51) (lv' := [(0, .ref s), (1, .int a), (2, .int y3)]) (st' := [.int ((y3 + ((Int32.ofInt 1)))), .ref op, .int y3, .ref op]) rfl ?_
        refine En_top (addI rfl (by decide : (Int32.ofInt 1).toInt = 1) (by first | exact q_465ab79ac1 h10 | omega) (by first | exact q_1fdc13c345 h11 | omega)) (fun z37 h38 => ?_)
        refine En_iald (l := 0) (u := 1) rfl rfl hop (by decide +kernel) h33 (by first | exact q_35104ce9d3 h38 h10 | omega) (lnI (by decide +kernel : LN _ = 13) (by first | exact q_5d2c583439 h38 h17 h18 hu_sz | omega)) (FTsgl (by decide +kernel)) (fun z40 h39 h41 h42 => ?_)
        refine En_iast (l := 0) (u := 1) rfl rfl hop (by decide +kernel) (by first | exact q_58e6e51dcc h10 | omega) (lnI (by decide +kernel : LN _ = 13) (by first | exact q_eca5b91a1e h11 | omega)) (FTsgl (by decide +kernel)) (rngI rfl (by first | exact q_58e6e51dcc h41 | omega) (by first | exact q_9d0c30f9c5 h42 | omega)) h33 h34 (by decide +kernel) (fun σ43 h44 h45 h46 h47 => ?_)
        refine En_Ps 1 (pc' := 56) (lv' := [(2, .int ((y3 + Int32.ofInt 1))), (0, .ref s), (1, .int a)]) (st' := []) rfl ?_
        refine En_lv1 (addI rfl (by decide : (Int32.ofInt 1).toInt = 1) (by first | exact q_465ab79ac1 h10 | omega) (by first | exact q_1fdc13c345 h11 | omega)) (fun z48 h49 => ?_)
        refine En_Ps 1 (pc' := 15) (lv' := [(2, .int z48), (0, .ref s), (1, .int a)]) (st' := []) rfl ?_
        refine En_lv (lv := [(0, .ref s), (1, .int a), (2, .int z48)]) ⟨rfl, rfl, rfl, trivial⟩ ?_
        exact ih15 σ43 z48 h44 h45 ((h47 _ _ (Or.inl (neTG hs hop (by decide)))).trans ((h36 _ _ (Or.inl (neTG hs hkn (by decide)))).trans h7)) ((h47 _ _ (Or.inl (neTG hs hop (by decide)))).trans ((h36 _ _ (Or.inl (neTG hs hkn (by decide)))).trans h8)) ((h47 _ _ (Or.inl (neTG hs hop (by decide)))).trans ((h36 _ _ (Or.inl (neTG hs hkn (by decide)))).trans h9)) (by first | exact q_35104ce9d3 h49 h10 | omega) (by first | exact q_aa13a08d74 h49 h17 h18 hu_sz | omega) (by first | exact q_3a5e225620 h12 h49 | omega) (by first | exact q_7c639a0963 h17 h18 h49 | omega) (by first | exact q_8d03a5a7cb h49 h14 | omega) (TKI_s (J := y3.toInt) (J' := y3.toInt + 1) h15 (neTG hkn hop (by decide)) (by rw [show y3.toInt + 1 = z26.toInt by omega]; exact h28) h35 h36 (by rw [show y3.toInt + 1 = z37.toInt by omega]; exact h39) h46 h47 (by omega) (by omega) (by omega) (by omega) (by omega))
  refine En_lv (lv := [(0, .ref s), (1, .int a), (2, .int a)]) ⟨rfl, rfl, rfl, trivial⟩ ?_
  exact key15 (Int.toNat (sz.toInt - a.toInt) + 1) σ0 a hσ0 hF0 h_kn h_op h_sz (by first | exact q_58e6e51dcc hl_a | omega) (by first | exact q_7c77837619 hu_a | omega) (by first | exact q_1bb76abeaf | omega) (by first | exact q_ef157b5a0e hp0 | omega) (by first | exact toN_lt _ | omega) (TKI_0 rfl)
/-- DoorSchool$Lessons.dropLast()V -/
abbrev P_33x (σ0 : SG) (s : Nat) (kn : Nat) (op : Nat) (sz : Int32) : PO := fun v σ => WT σ ∧ Fr [(20, 2)] σ0 σ ∧ ∃ sz1 : Int32, (σ s)[2]? = some (.int sz1) ∧ v = none ∧ -sz1.toInt ≤ 0 ∧ sz1.toInt - 12 ≤ 0 ∧ -sz1.toInt + sz.toInt - 1 ≤ 0 ∧ sz1.toInt - sz.toInt + 1 ≤ 0 ∧ sz1.toInt - sz.toInt + 1 ≤ 0 ∧ -sz1.toInt + sz.toInt - 1 ≤ 0 ∧ DRPp σ0 σ s sz.toInt
set_option maxRecDepth 10000 in
set_option maxHeartbeats 4000000 in
theorem c_33x (σ0 : SG) (hσ0 : WT σ0) (s : Nat) (hs : TG s = 20) (kn : Nat) (hkn : TG kn = 21) (h_kn : (σ0 s)[0]? = some (.ref kn)) (op : Nat) (hop : TG op = 22) (h_op : (σ0 s)[1]? = some (.ref op)) (sz : Int32) (h_sz : (σ0 s)[2]? = some (.int sz)) (hp0 : -sz.toInt + 1 ≤ 0) : En 1 22 none mr_33 (P_33x σ0 s kn op sz) 0 [(0, .ref s)] [] σ0 := by
  obtain ⟨hl_sz, hu_sz⟩ := WT_int hσ0 (g := 20) hs (by decide +kernel) (l := 0) (u := 13) (by decide +kernel) h_sz
  have hF0 : Fr [(20, 2)] σ0 σ0 := Fr_rfl
  refine En_Ps 2 (pc' := 2) (lv' := [(0, .ref s)]) (st' := [.ref s, .ref s]) rfl ?_
  refine En_getK (j := 2) h_sz rfl rfl rfl hs (by decide +kernel) ?_
  refine En_Ps 2 (pc' := 7) (lv' := [(0, .ref s)]) (st' := [.int ((sz - ((Int32.ofInt 1)))), .ref s]) rfl ?_
  refine En_top (subI rfl (by decide : (Int32.ofInt 1).toInt = 1) (by first | exact q_ead043ab48 hp0 | omega) (by first | exact q_36ce509e97 hu_sz | omega)) (fun z1 h2 => ?_)
  refine En_callV rfl rfl rfl rfl rfl rfl rfl rfl hs (by decide +kernel) rfl (c_41ax σ0 hσ0 s hs z1 (geI rfl (by first | exact q_ee40ea6e47 h2 hp0 | omega)) (leI rfl (by first | exact q_c1a695b5f4 h2 hu_sz | omega)) kn hkn h_kn op hop h_op sz h_sz (by first | exact q_8e6f8e4fd9 h2 | omega) (by first | exact q_e4a5646b6e h2 | omega)) (by decide) (by decide) (fun v4 σ5 h3 => ?_)
  obtain ⟨h6, h7, z9, h10, rfl, h8⟩ := h3
  have h11 := h8.2.2.2.2.2.2
  have h12 := Fr_trans hF0 h7 (by decide +kernel)
  exact En_ret (v := none) rfl rfl rfl ⟨h6, h12, z9, h10, rfl, ⟨by first | exact q_a555021d16 h8.1 | omega, by first | exact q_1d71e39f5f h8.2.1 | omega, by first | exact q_b155147890 h8.2.2.1 | omega, by first | exact q_ef157b5a0e h8.2.2.2.1 | omega, by first | exact q_ef157b5a0e h8.2.2.2.1 | omega, by first | exact q_b155147890 h8.2.2.1 | omega, h11⟩⟩
/-- DoorSchool$Plan.clear()V -/
abbrev P_42x (σ0 : SG) (s : Nat) : PO := fun v σ => WT σ ∧ Fr [(18, 0), (18, 1), (18, 2), (18, 3), (18, 6), (18, 7), (18, 8), (18, 11), (18, 14), (20, 2), (26, 0)] σ0 σ ∧ ∃ l0 : Int32, (σ s)[0]? = some (.int l0) ∧ ∃ g0 : Int32, (σ s)[1]? = some (.int g0) ∧ v = none ∧ OUT σ0 σ s ∧ -l0.toInt ≤ 0 ∧ l0.toInt ≤ 0 ∧ -g0.toInt ≤ 0 ∧ g0.toInt ≤ 0 ∧ l0.toInt ≤ 0 ∧ -l0.toInt ≤ 0 ∧ g0.toInt ≤ 0 ∧ -g0.toInt ≤ 0 ∧ (OTH s σ0 σ ∧ KN σ s (fun _ => 0) (act (fun _ => 0)))
set_option maxRecDepth 10000 in
set_option maxHeartbeats 4000000 in
theorem c_42x (σ0 : SG) (hσ0 : WT σ0) (s : Nat) (hs : TG s = 18) (hP : PLA s) (hX : FXP σ0 s) : En 1 23 none mr_42 (P_42x σ0 s) 0 [(0, .ref s)] [] σ0 := by
  have hF0 : Fr [(18, 0), (18, 1), (18, 2), (18, 3), (18, 6), (18, 7), (18, 8), (18, 11), (18, 14), (20, 2), (26, 0)] σ0 σ0 := Fr_rfl
  refine En_Ps 2 (pc' := 2) (lv' := [(0, .ref s)]) (st' := [.int ((Int32.ofInt 0)), .ref s]) rfl ?_
  refine En_put (j := 0) rfl rfl rfl hs (by decide +kernel) rfl (vI (l := 0) (u := 1601) (by decide +kernel) (by decide : (Int32.ofInt 0).toInt = 0) (by decide) (by decide)) hσ0 hF0 (by decide +kernel) (fun σ1 h2 h3 h4 h5 => ?_)
  have h6 := OTH_pj (OTH_0 (a := s) (σ := σ0)) h5 (by decide)
  have o7 : OUT σ0 σ1 s := OUT_st OUT_0 h5 (by omega)
  refine En_Ps 2 (pc' := 7) (lv' := [(0, .ref s)]) (st' := [.int ((Int32.ofInt 0)), .ref s]) rfl ?_
  refine En_put (j := 1) rfl rfl rfl hs (by decide +kernel) rfl (vI (l := (-1)) (u := 4) (by decide +kernel) (by decide : (Int32.ofInt 0).toInt = 0) (by decide) (by decide)) h2 h3 (by decide +kernel) (fun σ8 h9 h10 h11 h12 => ?_)
  have h13 := OTH_pt h6 h12
  have o14 : OUT σ0 σ8 s := OUT_st o7 h12 (by omega)
  refine En_Ps 2 (pc' := 12) (lv' := [(0, .ref s)]) (st' := [.int ((Int32.ofInt 0)), .ref s]) rfl ?_
  refine En_put (j := 2) rfl rfl rfl hs (by decide +kernel) rfl (vI (l := (-1)) (u := 3) (by decide +kernel) (by decide : (Int32.ofInt 0).toInt = 0) (by decide) (by decide)) h9 h10 (by decide +kernel) (fun σ15 h16 h17 h18 h19 => ?_)
  have h20 := OTH_pj h13 h19 (by decide)
  have o21 : OUT σ0 σ15 s := OUT_st o14 h19 (by omega)
  refine En_Ps 2 (pc' := 17) (lv' := [(0, .ref s)]) (st' := [.int ((Int32.ofInt 0)), .ref s]) rfl ?_
  refine En_put (j := 3) rfl rfl rfl hs (by decide +kernel) rfl (vI (l := 0) (u := 4) (by decide +kernel) (by decide : (Int32.ofInt 0).toInt = 0) (by decide) (by decide)) h16 h17 (by decide +kernel) (fun σ22 h23 h24 h25 h26 => ?_)
  have h27 := OTH_pj h20 h26 (by decide)
  have o28 : OUT σ0 σ22 s := OUT_st o21 h26 (by omega)
  refine En_Ps 1 (pc' := 21) (lv' := [(0, .ref s)]) (st' := [.ref s]) rfl ?_
  refine En_getR (j := 5) (g' := 20) (u := 0) rfl rfl rfl hs (by decide +kernel) h23 (by decide +kernel) (fun a30 h29 ha30 => ?_)
  refine En_Ps 1 (pc' := 25) (lv' := [(0, .ref s)]) (st' := [.int ((Int32.ofInt 0)), .ref a30]) rfl ?_
  have h31 : a30 = s + 2 := ref_uniq h29 (FXP_fr hP hX h24 (by decide +kernel)).2.1
  refine En_put (j := 2) rfl rfl rfl ha30 (by decide +kernel) rfl (vI (l := 0) (u := 13) (by decide +kernel) (by decide : (Int32.ofInt 0).toInt = 0) (by decide) (by decide)) h23 h24 (by decide +kernel) (fun σ32 h33 h34 h35 h36 => ?_)
  have h37 := OTH_pn h27 h36 ha30 (by decide)
  have o38 : OUT σ0 σ32 s := OUT_st o28 h36 (by omega)
  refine En_Ps 2 (pc' := 30) (lv' := [(0, .ref s)]) (st' := [.int ((Int32.ofInt 0)), .ref s]) rfl ?_
  refine En_put (j := 6) rfl rfl rfl hs (by decide +kernel) rfl (vI (l := 0) (u := 15) (by decide +kernel) (by decide : (Int32.ofInt 0).toInt = 0) (by decide) (by decide)) h33 h34 (by decide +kernel) (fun σ39 h40 h41 h42 h43 => ?_)
  have h44 := OTH_pj h37 h43 (by decide)
  have o45 : OUT σ0 σ39 s := OUT_st o38 h43 (by omega)
  refine En_Ps 2 (pc' := 35) (lv' := [(0, .ref s)]) (st' := [.int ((Int32.ofInt 0)), .ref s]) rfl ?_
  refine En_put (j := 7) rfl rfl rfl hs (by decide +kernel) rfl (vI (l := 0) (u := 15) (by decide +kernel) (by decide : (Int32.ofInt 0).toInt = 0) (by decide) (by decide)) h40 h41 (by decide +kernel) (fun σ46 h47 h48 h49 h50 => ?_)
  have h51 := OTH_pj h44 h50 (by decide)
  have o52 : OUT σ0 σ46 s := OUT_st o45 h50 (by omega)
  refine En_Ps 2 (pc' := 40) (lv' := [(0, .ref s)]) (st' := [.int ((Int32.ofInt 0)), .ref s]) rfl ?_
  refine En_put (j := 8) rfl rfl rfl hs (by decide +kernel) rfl (vI (l := 0) (u := 4) (by decide +kernel) (by decide : (Int32.ofInt 0).toInt = 0) (by decide) (by decide)) h47 h48 (by decide +kernel) (fun σ53 h54 h55 h56 h57 => ?_)
  have h58 := OTH_pj h51 h57 (by decide)
  have o59 : OUT σ0 σ53 s := OUT_st o52 h57 (by omega)
  refine En_Ps 2 (pc' := 45) (lv' := [(0, .ref s)]) (st' := [.int ((Int32.ofInt 0)), .ref s]) rfl ?_
  refine En_put (j := 11) rfl rfl rfl hs (by decide +kernel) rfl (vI (l := 0) (u := 6) (by decide +kernel) (by decide : (Int32.ofInt 0).toInt = 0) (by decide) (by decide)) h54 h55 (by decide +kernel) (fun σ60 h61 h62 h63 h64 => ?_)
  have h65 := OTH_pj h58 h64 (by decide)
  have o66 : OUT σ0 σ60 s := OUT_st o59 h64 (by omega)
  refine En_Ps 1 (pc' := 49) (lv' := [(0, .ref s)]) (st' := [.ref s]) rfl ?_
  refine En_getR (j := 13) (g' := 26) (u := 0) rfl rfl rfl hs (by decide +kernel) h61 (by decide +kernel) (fun a68 h67 ha68 => ?_)
  refine En_Ps 1 (pc' := 53) (lv' := [(0, .ref s)]) (st' := [.int ((Int32.ofInt 0)), .ref a68]) rfl ?_
  have h69 : a68 = s + 8 := ref_uniq h67 (FXP_fr hP hX h62 (by decide +kernel)).2.2.2.2.2.1
  have := (by decide : ((Int32.ofInt 0)).toInt = 0)
  refine En_callS rfl rfl rfl rfl rfl rfl rfl rfl rfl (c_8ax σ60 h61 a68 ha68 ((Int32.ofInt 0)) (geI (by decide : (Int32.ofInt 0).toInt = 0) (by decide)) (leI (by decide : (Int32.ofInt 0).toInt = 0) (by decide))) (by decide) (by decide) (fun v71 σ72 h70 => ?_)
  obtain ⟨h73, h74, rfl, h75⟩ := h70
  have h76 := h75
  have h77 := Fr_trans h62 h74 (by decide +kernel)
  have h78 := OTH_fr h65 h74 (by decide +kernel)
  have o79 : OUT σ0 σ72 s := OUT_cp o66 h76.2 (by omega)
  refine En_Ps 2 (pc' := 58) (lv' := [(0, .ref s)]) (st' := [.int ((Int32.ofInt 0)), .ref s]) rfl ?_
  refine En_put (j := 14) rfl rfl rfl hs (by decide +kernel) rfl (vI (l := 0) (u := 60) (by decide +kernel) (by decide : (Int32.ofInt 0).toInt = 0) (by decide) (by decide)) h73 h77 (by decide +kernel) (fun σ80 h81 h82 h83 h84 => ?_)
  have h85 := OTH_pj h78 h84 (by decide)
  have o86 : OUT σ0 σ80 s := OUT_st o79 h84 (by omega)
  have := (by decide : (Int32.ofInt 0).toInt = 0)
  have := (by decide : (Int32.ofInt 0).toInt = 0)
  have h87 : a30 = s + 2 := ref_uniq ((h84 _ _ (Or.inr (by decide))).trans ((h74 _ _ (inW hs (by decide +kernel))).trans ((h64 _ _ (Or.inr (by decide))).trans ((h57 _ _ (Or.inr (by decide))).trans ((h50 _ _ (Or.inr (by decide))).trans ((h43 _ _ (Or.inr (by decide))).trans ((h36 _ _ (Or.inr (by decide))).trans h29))))))) (FXP_fr hP hX h82 (by decide +kernel)).2.1
  have h88 : a68 = s + 8 := ref_uniq ((h84 _ _ (Or.inr (by decide))).trans ((h74 _ _ (inW hs (by decide +kernel))).trans h67)) (FXP_fr hP hX h82 (by decide +kernel)).2.2.2.2.2.1
  have h89 : ∀ k : Int, 0 ≤ k → k < 6 → ci σ80 (s + 8) k = 0 := fun k k0 k1 => by rw [← h88, ci_ne h84 (by rw [h88]; omega)]; exact h76.1 k k0 k1
  exact En_ret (v := none) rfl rfl rfl ⟨h81, h82, (Int32.ofInt 0), ((h84 _ _ (Or.inr (by decide))).trans ((h74 _ _ (inW hs (by decide +kernel))).trans ((h64 _ _ (Or.inr (by decide))).trans ((h57 _ _ (Or.inr (by decide))).trans ((h50 _ _ (Or.inr (by decide))).trans ((h43 _ _ (Or.inr (by decide))).trans ((h36 _ _ (Or.inr (by decide))).trans ((h26 _ _ (Or.inr (by decide))).trans ((h19 _ _ (Or.inr (by decide))).trans ((h12 _ _ (Or.inr (by decide))).trans h4)))))))))), (Int32.ofInt 0), ((h84 _ _ (Or.inr (by decide))).trans ((h74 _ _ (inW hs (by decide +kernel))).trans ((h64 _ _ (Or.inr (by decide))).trans ((h57 _ _ (Or.inr (by decide))).trans ((h50 _ _ (Or.inr (by decide))).trans ((h43 _ _ (Or.inr (by decide))).trans ((h36 _ _ (Or.inr (by decide))).trans ((h26 _ _ (Or.inr (by decide))).trans ((h19 _ _ (Or.inr (by decide))).trans h11))))))))), rfl, ⟨o86, by decide, by decide, by decide, by decide, by decide, by decide, by decide, by decide, ⟨h85, KN_clr ((ci_at (j := 0) ((h84 _ _ (Or.inr (by decide))).trans ((h74 _ _ (inW hs (by decide +kernel))).trans ((h64 _ _ (Or.inr (by decide))).trans ((h57 _ _ (Or.inr (by decide))).trans ((h50 _ _ (Or.inr (by decide))).trans ((h43 _ _ (Or.inr (by decide))).trans ((h36 _ _ (Or.inr (by decide))).trans ((h26 _ _ (Or.inr (by decide))).trans ((h19 _ _ (Or.inr (by decide))).trans ((h12 _ _ (Or.inr (by decide))).trans h4)))))))))) rfl).trans (by decide)) ((ci_at (j := 1) ((h84 _ _ (Or.inr (by decide))).trans ((h74 _ _ (inW hs (by decide +kernel))).trans ((h64 _ _ (Or.inr (by decide))).trans ((h57 _ _ (Or.inr (by decide))).trans ((h50 _ _ (Or.inr (by decide))).trans ((h43 _ _ (Or.inr (by decide))).trans ((h36 _ _ (Or.inr (by decide))).trans ((h26 _ _ (Or.inr (by decide))).trans ((h19 _ _ (Or.inr (by decide))).trans h11))))))))) rfl).trans (by decide)) ((ci_at (j := 2) ((h84 _ _ (Or.inr (by decide))).trans ((h74 _ _ (inW hs (by decide +kernel))).trans ((h64 _ _ (Or.inr (by decide))).trans ((h57 _ _ (Or.inr (by decide))).trans ((h50 _ _ (Or.inr (by decide))).trans ((h43 _ _ (Or.inr (by decide))).trans ((h36 _ _ (Or.inl (neTG hs ha30 (by decide)))).trans ((h26 _ _ (Or.inr (by decide))).trans h18)))))))) rfl).trans (by decide)) ((ci_at (j := 3) ((h84 _ _ (Or.inr (by decide))).trans ((h74 _ _ (inW hs (by decide +kernel))).trans ((h64 _ _ (Or.inr (by decide))).trans ((h57 _ _ (Or.inr (by decide))).trans ((h50 _ _ (Or.inr (by decide))).trans ((h43 _ _ (Or.inr (by decide))).trans ((h36 _ _ (Or.inr (by decide))).trans h25))))))) rfl).trans (by decide)) (by rw [← h87]; exact ((ci_at (j := 2) ((h84 _ _ (Or.inr (by decide))).trans ((h74 _ _ (inW ha30 (by decide +kernel))).trans ((h64 _ _ (Or.inr (by decide))).trans ((h57 _ _ (Or.inr (by decide))).trans ((h50 _ _ (Or.inr (by decide))).trans ((h43 _ _ (Or.inr (by decide))).trans h35)))))) rfl).trans (by decide))) ((ci_at (j := 6) ((h84 _ _ (Or.inr (by decide))).trans ((h74 _ _ (inW hs (by decide +kernel))).trans ((h64 _ _ (Or.inr (by decide))).trans ((h57 _ _ (Or.inr (by decide))).trans ((h50 _ _ (Or.inr (by decide))).trans h42))))) rfl).trans (by decide)) ((ci_at (j := 7) ((h84 _ _ (Or.inr (by decide))).trans ((h74 _ _ (inW hs (by decide +kernel))).trans ((h64 _ _ (Or.inr (by decide))).trans ((h57 _ _ (Or.inr (by decide))).trans h49)))) rfl).trans (by decide)) ((ci_at (j := 8) ((h84 _ _ (Or.inr (by decide))).trans ((h74 _ _ (inW hs (by decide +kernel))).trans ((h64 _ _ (Or.inr (by decide))).trans h56))) rfl).trans (by decide)) ((ci_at (j := 11) ((h84 _ _ (Or.inr (by decide))).trans ((h74 _ _ (inW hs (by decide +kernel))).trans h63)) rfl).trans (by decide)) ((ci_at (j := 14) h83 rfl).trans (by decide)) h89⟩⟩⟩
/-- DoorSchool$Plan.exists()Z -/
abbrev P_43x (σ0 : SG) (s : Nat) (l : Int32) : PO := fun v σ => WT σ ∧ Fr [] σ0 σ ∧ ∃ ret : Int32, v = some (.int ret) ∧ -ret.toInt ≤ 0 ∧ ret.toInt - 1 ≤ 0 ∧ Imp (-ret.toInt + 1 ≤ 0) (-l.toInt + 1 ≤ 0) ∧ Imp (-l.toInt + 1 ≤ 0) (-ret.toInt + 1 ≤ 0)
set_option maxRecDepth 10000 in
set_option maxHeartbeats 4000000 in
theorem c_43x (σ0 : SG) (hσ0 : WT σ0) (s : Nat) (hs : TG s = 18) (l : Int32) (h_l : (σ0 s)[0]? = some (.int l)) : En 0 0 none mr_43 (P_43x σ0 s l) 0 [(0, .ref s)] [] σ0 := by
  obtain ⟨hl_l, hu_l⟩ := WT_int hσ0 (g := 18) hs (by decide +kernel) (l := 0) (u := 1601) (by decide +kernel) h_l
  have hF0 : Fr [] σ0 σ0 := Fr_rfl
  refine En_Ps 1 (pc' := 1) (lv' := [(0, .ref s)]) (st' := [.ref s]) rfl ?_
  refine En_getK (j := 0) h_l rfl rfl rfl hs (by decide +kernel) ?_
  refine En_iLe _ rfl rfl (fun h1 => ?_) (fun h1 => ?_)
  · refine En_Ps 1 (pc' := 12) (lv' := [(0, .ref s)]) (st' := [.int ((Int32.ofInt 0))]) rfl ?_
    refine En_top (by decide : (Int32.ofInt 0).toInt = 0) (fun z2 h3 => ?_)
    exact En_ret (v := some (.int z2)) rfl rfl (retZ rfl rfl (by first | exact q_55451d0a83 h3 | omega) (by first | exact q_87849c3859 h3 | omega)) ⟨hσ0, hF0, z2, rfl, ⟨by first | exact q_097a37c2ae h3 | omega, by first | exact q_e269517bee h3 | omega, fun _ => by omega, fun _ => by omega⟩⟩
  · refine En_Ps 2 (pc' := 12) (lv' := [(0, .ref s)]) (st' := [.int ((Int32.ofInt 1))]) rfl ?_
    refine En_top (by decide : (Int32.ofInt 1).toInt = 1) (fun z4 h5 => ?_)
    exact En_ret (v := some (.int z4)) rfl rfl (retZ rfl rfl (by first | exact q_2b07c97645 h5 | omega) (by first | exact q_d9e7cbb253 h5 | omega)) ⟨hσ0, hF0, z4, rfl, ⟨by first | exact q_ad3eee31ca h5 | omega, by first | exact q_81cf297dc4 h5 | omega, fun hh => by first | exact q_f23a0149bf h1 | omega, fun hh => by first | exact q_a439be255a h5 | omega⟩⟩
/-- DoorSchool$Plan.isCopied(I)Z -/
abbrev P_45x (σ0 : SG) (Wv : Int → Int) (s : Nat) (a : Int32) : PO := fun v σ => WT σ ∧ Fr [] σ0 σ ∧ ∃ ret : Int32, v = some (.int ret) ∧ -ret.toInt ≤ 0 ∧ ret.toInt - 1 ≤ 0 ∧ Imp (ret.toInt - 1 ≤ 0 ∧ -ret.toInt + 1 ≤ 0) (-a.toInt - 1 ≤ 0 ∧ a.toInt - 3 ≤ 0) ∧ ret.toInt = cpI Wv a.toInt
set_option maxRecDepth 10000 in
set_option maxHeartbeats 4000000 in
theorem c_45x {Wv : Int → Int} (σ0 : SG) (hσ0 : WT σ0) (s : Nat) (hs : TG s = 18) (a : Int32) (hP : PLA s) (hX : FXP σ0 s) (hK : KN σ0 s Wv (act Wv)) : En 0 0 none mr_45 (P_45x σ0 Wv s a) 0 [(0, .ref s), (1, .int a)] [] σ0 := by
  have hF0 : Fr [] σ0 σ0 := Fr_rfl
  refine En_Ps 2 (pc' := 2) (lv' := [(2, .int ((Int32.ofInt 0))), (0, .ref s), (1, .int a)]) (st' := []) rfl ?_
  have key2 : ∀ (n2 : Nat) (y1 : Int32), 0 ≤ y1.toInt → y1.toInt ≤ 4 → -y1.toInt + 4 < (n2 : Int) → NCw Wv a.toInt y1.toInt → En 0 0 none mr_45 (P_45x σ0 Wv s a) 2 [(0, .ref s), (1, .int a), (2, .int y1)] [] σ0 := by
    intro n2
    induction n2 with
    | zero =>
      intro y1 h5 h6 h7 h8
      first | exact (q_20d6385c6f h7 h6).elim | (exfalso; omega)
    | succ n2 ih2 =>
      intro y1 h5 h6 h7 h8
      refine En_Ps 2 (pc' := 4) (lv' := [(0, .ref s), (1, .int a), (2, .int y1)]) (st' := [.ref s, .int y1]) rfl ?_
      refine En_getI (j := 3) (l := 0) (u := 4) rfl rfl rfl hs (by decide +kernel) hσ0 (by decide +kernel) (fun z10 h9 h11 h12 => ?_)
      have h13 : Wv 2 = z10.toInt := KN_v hK (Or.inl (by decide)) (by decide) (by decide) (by rw [lcO_lt (by decide) (by decide), Nat.add_zero]) rfl h9
      refine En_icGe _ rfl rfl rfl (fun h14 => ?_) (fun h14 => ?_)
      · refine En_Ps 1 (pc' := 32) (lv' := [(0, .ref s), (1, .int a), (2, .int y1)]) (st' := [.int ((Int32.ofInt 0))]) rfl ?_
        refine En_top (by decide : (Int32.ofInt 0).toInt = 0) (fun z15 h16 => ?_)
        exact En_ret (v := some (.int z15)) rfl rfl (retZ rfl rfl (by first | exact q_55451d0a83 h16 | omega) (by first | exact q_87849c3859 h16 | omega)) ⟨hσ0, hF0, z15, rfl, ⟨by first | exact q_097a37c2ae h16 | omega, by first | exact q_e269517bee h16 | omega, fun _ => by omega, CPw_n h8 (by omega) (by omega)⟩⟩
      · refine En_Ps 1 (pc' := 11) (lv' := [(0, .ref s), (1, .int a), (2, .int y1)]) (st' := [.ref s]) rfl ?_
        refine En_getR (j := 4) (g' := 19) (u := 0) rfl rfl rfl hs (by decide +kernel) hσ0 (by decide +kernel) (fun a18 h17 ha18 => ?_)
        refine En_Ps 1 (pc' := 15) (lv' := [(0, .ref s), (1, .int a), (2, .int y1)]) (st' := [.int y1, .ref a18]) rfl ?_
        refine En_aald (g' := 28) (u := 0) rfl rfl ha18 (by decide +kernel) hσ0 (by first | exact q_58e6e51dcc h5 | omega) (lnI (by decide +kernel : LN _ = 4) (by first | exact q_1a45a931b1 h14 h12 | omega)) (FTsgl (by decide +kernel)) (fun a20 h19 ha20 => ?_)
        refine En_getI (j := 3) (l := (-1)) (u := 3) rfl rfl rfl ha20 (by decide +kernel) hσ0 (by decide +kernel) (fun z22 h21 h23 h24 => ?_)
        refine En_Ps 1 (pc' := 20) (lv' := [(0, .ref s), (1, .int a), (2, .int y1)]) (st' := [.int a, .int z22]) rfl ?_
        have h25 := DRc (d := y1.toInt) hX h17 h19 (by omega) (by omega)
        have h26 := lc_d (d := y1.toInt) (by omega) (by omega)
        have h27 : Wv (13 + 4 * y1.toInt) = z22.toInt := KN_v hK (Or.inr (Or.inl ⟨by omega, by omega, by omega⟩)) (by omega) (by omega) (by omega) (by omega) h21
        refine En_icNe _ rfl rfl rfl (fun h28 => ?_) (fun h28 => ?_)
        · refine En_Ps 1 (pc' := 28) (lv' := [(2, .int ((y1 + Int32.ofInt 1))), (0, .ref s), (1, .int a)]) (st' := []) rfl ?_
          refine En_lv1 (addI rfl (by decide : (Int32.ofInt 1).toInt = 1) (by first | exact q_465ab79ac1 h5 | omega) (by first | exact q_f7282962fd h6 | omega)) (fun z29 h30 => ?_)
          refine En_Ps 1 (pc' := 2) (lv' := [(2, .int z29), (0, .ref s), (1, .int a)]) (st' := []) rfl ?_
          refine En_lv (lv := [(0, .ref s), (1, .int a), (2, .int z29)]) ⟨rfl, rfl, rfl, trivial⟩ ?_
          exact ih2 z29 (by first | exact q_35104ce9d3 h30 h5 | omega) (by first | exact q_de42116b63 h30 h14 h12 | omega) (by first | exact q_3d8d70ace2 h30 h7 | omega) (NCw_s h8 (by rw [h27]; omega) (by omega))
        · refine En_Ps 1 (pc' := 24) (lv' := [(0, .ref s), (1, .int a), (2, .int y1)]) (st' := [.int ((Int32.ofInt 1))]) rfl ?_
          refine En_top (by decide : (Int32.ofInt 1).toInt = 1) (fun z31 h32 => ?_)
          exact En_ret (v := some (.int z31)) rfl rfl (retZ rfl rfl (by first | exact q_2b07c97645 h32 | omega) (by first | exact q_d9e7cbb253 h32 | omega)) ⟨hσ0, hF0, z31, rfl, ⟨by first | exact q_ad3eee31ca h32 | omega, by first | exact q_81cf297dc4 h32 | omega, fun hh => by first | exact ⟨q_0989a0d07f h28 h23, q_c3d83eb9e6 h28 h24⟩ | omega, CPw_1 (y := y1.toInt) (by omega) (by omega) (by omega) (by rw [h27]; omega) (by omega)⟩⟩
  have := (by decide : (Int32.ofInt 0).toInt = 0)
  refine En_lv (lv := [(0, .ref s), (1, .int a), (2, .int ((Int32.ofInt 0)))]) ⟨rfl, rfl, rfl, trivial⟩ ?_
  exact key2 (Int.toNat (4) + 1) ((Int32.ofInt 0)) (by decide) (by decide) (by first | exact toN_lt _ | omega) (fun q q0 q1 => by omega)
/-- DoorSchool$Plan.knocks()I -/
abbrev P_51x (σ0 : SG) (s : Nat) (sg : Int32) : PO := fun v σ => WT σ ∧ Fr [] σ0 σ ∧ ∃ ret : Int32, v = some (.int ret) ∧ -ret.toInt + 1 ≤ 0 ∧ ret.toInt - 16 ≤ 0 ∧ ret.toInt = pI sg.toInt
set_option maxRecDepth 10000 in
set_option maxHeartbeats 4000000 in
theorem c_51x (σ0 : SG) (hσ0 : WT σ0) (s : Nat) (hs : TG s = 18) (sg : Int32) (h_sg : (σ0 s)[1]? = some (.int sg)) (hp0 : -sg.toInt ≤ 0) : En 0 0 none mr_51 (P_51x σ0 s sg) 0 [(0, .ref s)] [] σ0 := by
  obtain ⟨hl_sg, hu_sg⟩ := WT_int hσ0 (g := 18) hs (by decide +kernel) (l := (-1)) (u := 4) (by decide +kernel) h_sg
  have hF0 : Fr [] σ0 σ0 := Fr_rfl
  refine En_Ps 2 (pc' := 2) (lv' := [(0, .ref s)]) (st' := [.ref s, .int ((Int32.ofInt 1))]) rfl ?_
  refine En_getK (j := 1) h_sg rfl rfl rfl hs (by decide +kernel) ?_
  refine En_Ps 1 (pc' := 6) (lv' := [(0, .ref s)]) (st' := [.int ((((Int32.ofInt 1)) <<< (sg &&& 31)))]) rfl ?_
  refine En_nam (fun z1 h2 => ?_)
  have h3 := shl1_v (y := sg) rfl (by omega) (by omega)
  rw [← h2] at h3
  have h4 := shl1_p (y := sg) 4 rfl (by omega) (by omega) (by decide)
  rw [← h2] at h4
  exact En_ret (v := some (.int z1)) rfl rfl rfl ⟨hσ0, hF0, z1, rfl, ⟨by omega, by omega, (by omega)⟩⟩
/-- DoorSchool$Plan.isDoor(I)Z -/
abbrev P_47x (σ0 : SG) (s : Nat) (a : Int32) (n : Int32) : PO := fun v σ => WT σ ∧ Fr [] σ0 σ ∧ ∃ ret : Int32, v = some (.int ret) ∧ -ret.toInt ≤ 0 ∧ ret.toInt - 1 ≤ 0 ∧ Imp (-ret.toInt + 1 ≤ 0) (-a.toInt ≤ 0 ∧ a.toInt - n.toInt + 1 ≤ 0) ∧ Imp (-a.toInt ≤ 0 ∧ a.toInt - n.toInt + 1 ≤ 0) (-ret.toInt + 1 ≤ 0) ∧ Imp (ret.toInt ≤ 0 ∧ -ret.toInt ≤ 0) (-a.toInt - 2147483648 ≤ 0 ∧ a.toInt - 2147483647 ≤ 0) ∧ Imp (ret.toInt - 1 ≤ 0 ∧ -ret.toInt + 1 ≤ 0) (-a.toInt ≤ 0 ∧ a.toInt - 3 ≤ 0)
set_option maxRecDepth 10000 in
set_option maxHeartbeats 4000000 in
theorem c_47x (σ0 : SG) (hσ0 : WT σ0) (s : Nat) (hs : TG s = 18) (a : Int32) (n : Int32) (h_n : (σ0 s)[3]? = some (.int n)) : En 0 0 none mr_47 (P_47x σ0 s a n) 0 [(0, .ref s), (1, .int a)] [] σ0 := by
  obtain ⟨hl_n, hu_n⟩ := WT_int hσ0 (g := 18) hs (by decide +kernel) (l := 0) (u := 4) (by decide +kernel) h_n
  have := Int32.le_toInt a
  have := Int32.toInt_lt a
  have hF0 : Fr [] σ0 σ0 := Fr_rfl
  refine En_Ps 1 (pc' := 1) (lv' := [(0, .ref s), (1, .int a)]) (st' := [.int a]) rfl ?_
  refine En_iLt _ rfl rfl (fun h1 => ?_) (fun h1 => ?_)
  · refine En_Ps 1 (pc' := 17) (lv' := [(0, .ref s), (1, .int a)]) (st' := [.int ((Int32.ofInt 0))]) rfl ?_
    refine En_top (by decide : (Int32.ofInt 0).toInt = 0) (fun z2 h3 => ?_)
    exact En_ret (v := some (.int z2)) rfl rfl (retZ rfl rfl (by first | exact q_55451d0a83 h3 | omega) (by first | exact q_87849c3859 h3 | omega)) ⟨hσ0, hF0, z2, rfl, ⟨by first | exact q_097a37c2ae h3 | omega, by first | exact q_e269517bee h3 | omega, fun _ => by omega, fun _ => by omega, fun _ => by omega, fun _ => by omega⟩⟩
  · refine En_Ps 2 (pc' := 6) (lv' := [(0, .ref s), (1, .int a)]) (st' := [.ref s, .int a]) rfl ?_
    refine En_getK (j := 3) h_n rfl rfl rfl hs (by decide +kernel) ?_
    refine En_icGe _ rfl rfl rfl (fun h4 => ?_) (fun h4 => ?_)
    · refine En_Ps 1 (pc' := 17) (lv' := [(0, .ref s), (1, .int a)]) (st' := [.int ((Int32.ofInt 0))]) rfl ?_
      refine En_top (by decide : (Int32.ofInt 0).toInt = 0) (fun z5 h6 => ?_)
      exact En_ret (v := some (.int z5)) rfl rfl (retZ rfl rfl (by first | exact q_55451d0a83 h6 | omega) (by first | exact q_87849c3859 h6 | omega)) ⟨hσ0, hF0, z5, rfl, ⟨by first | exact q_097a37c2ae h6 | omega, by first | exact q_e269517bee h6 | omega, fun _ => by omega, fun _ => by omega, fun _ => by omega, fun _ => by omega⟩⟩
    · refine En_Ps 2 (pc' := 17) (lv' := [(0, .ref s), (1, .int a)]) (st' := [.int ((Int32.ofInt 1))]) rfl ?_
      refine En_top (by decide : (Int32.ofInt 1).toInt = 1) (fun z7 h8 => ?_)
      exact En_ret (v := some (.int z7)) rfl rfl (retZ rfl rfl (by first | exact q_2b07c97645 h8 | omega) (by first | exact q_d9e7cbb253 h8 | omega)) ⟨hσ0, hF0, z7, rfl, ⟨by first | exact q_ad3eee31ca h8 | omega, by first | exact q_81cf297dc4 h8 | omega, fun hh => by first | exact ⟨q_c803b490ef h1, q_1be5a5166e h4⟩ | omega, fun hh => by first | exact q_a439be255a h8 | omega, fun hh => by first | exact ⟨q_0d55f0b380 h1, q_d9cc3a00e4 h4 hu_n⟩ | omega, fun hh => by first | exact ⟨q_c803b490ef h1, q_14bb4498e6 h4 hu_n⟩ | omega⟩⟩
