/-! 32.n00 -/
section
/-- java/lang/Integer.bitCount(I)I of a small set -/
abbrev P_7ax (σ0 : SG) (a : Int32) : PO := fun v σ => WT σ ∧ Fr [] σ0 σ ∧ ∃ ret : Int32, v = some (Value.int ret) ∧ -ret.toInt ≤ 0 ∧ ret.toInt - 4 ≤ 0 ∧ ret.toInt = bcI a.toInt
set_option maxRecDepth 10000 in
set_option maxHeartbeats 4000000 in
theorem c_7ax (σ0 : SG) (hσ0 : WT σ0) (a : Int32) (hl_a : 0 ≤ a.toInt) (hu_a : a.toInt ≤ 15) : En 0 0 none mr_7 (P_7ax σ0 a) 0 [(0, .int a)] [] σ0 := by
  have hF0 : Fr [] σ0 σ0 := Fr_rfl
  refine En_Ps 41 (pc' := 52) (lv' := [(0, .int ((((((((a - (((a.toUInt32 >>> ((Int32.ofInt 1).toUInt32 &&& Int32.toUInt32 31)).toInt32) &&& (1431655765 : Int32))) &&& (858993459 : Int32)) + ((((a - (((a.toUInt32 >>> ((Int32.ofInt 1).toUInt32 &&& Int32.toUInt32 31)).toInt32) &&& (1431655765 : Int32))).toUInt32 >>> ((Int32.ofInt 2).toUInt32 &&& Int32.toUInt32 31)).toInt32) &&& (858993459 : Int32))) + (((((a - (((a.toUInt32 >>> ((Int32.ofInt 1).toUInt32 &&& Int32.toUInt32 31)).toInt32) &&& (1431655765 : Int32))) &&& (858993459 : Int32)) + ((((a - (((a.toUInt32 >>> ((Int32.ofInt 1).toUInt32 &&& Int32.toUInt32 31)).toInt32) &&& (1431655765 : Int32))).toUInt32 >>> ((Int32.ofInt 2).toUInt32 &&& Int32.toUInt32 31)).toInt32) &&& (858993459 : Int32))).toUInt32 >>> ((Int32.ofInt 4).toUInt32 &&& Int32.toUInt32 31)).toInt32)) &&& (252645135 : Int32)) + (((((((a - (((a.toUInt32 >>> ((Int32.ofInt 1).toUInt32 &&& Int32.toUInt32 31)).toInt32) &&& (1431655765 : Int32))) &&& (858993459 : Int32)) + ((((a - (((a.toUInt32 >>> ((Int32.ofInt 1).toUInt32 &&& Int32.toUInt32 31)).toInt32) &&& (1431655765 : Int32))).toUInt32 >>> ((Int32.ofInt 2).toUInt32 &&& Int32.toUInt32 31)).toInt32) &&& (858993459 : Int32))) + (((((a - (((a.toUInt32 >>> ((Int32.ofInt 1).toUInt32 &&& Int32.toUInt32 31)).toInt32) &&& (1431655765 : Int32))) &&& (858993459 : Int32)) + ((((a - (((a.toUInt32 >>> ((Int32.ofInt 1).toUInt32 &&& Int32.toUInt32 31)).toInt32) &&& (1431655765 : Int32))).toUInt32 >>> ((Int32.ofInt 2).toUInt32 &&& Int32.toUInt32 31)).toInt32) &&& (858993459 : Int32))).toUInt32 >>> ((Int32.ofInt 4).toUInt32 &&& Int32.toUInt32 31)).toInt32)) &&& (252645135 : Int32)).toUInt32 >>> (((Int8.ofInt 8).toInt32).toUInt32 &&& Int32.toUInt32 31)).toInt32)) + ((((((((a - (((a.toUInt32 >>> ((Int32.ofInt 1).toUInt32 &&& Int32.toUInt32 31)).toInt32) &&& (1431655765 : Int32))) &&& (858993459 : Int32)) + ((((a - (((a.toUInt32 >>> ((Int32.ofInt 1).toUInt32 &&& Int32.toUInt32 31)).toInt32) &&& (1431655765 : Int32))).toUInt32 >>> ((Int32.ofInt 2).toUInt32 &&& Int32.toUInt32 31)).toInt32) &&& (858993459 : Int32))) + (((((a - (((a.toUInt32 >>> ((Int32.ofInt 1).toUInt32 &&& Int32.toUInt32 31)).toInt32) &&& (1431655765 : Int32))) &&& (858993459 : Int32)) + ((((a - (((a.toUInt32 >>> ((Int32.ofInt 1).toUInt32 &&& Int32.toUInt32 31)).toInt32) &&& (1431655765 : Int32))).toUInt32 >>> ((Int32.ofInt 2).toUInt32 &&& Int32.toUInt32 31)).toInt32) &&& (858993459 : Int32))).toUInt32 >>> ((Int32.ofInt 4).toUInt32 &&& Int32.toUInt32 31)).toInt32)) &&& (252645135 : Int32)) + (((((((a - (((a.toUInt32 >>> ((Int32.ofInt 1).toUInt32 &&& Int32.toUInt32 31)).toInt32) &&& (1431655765 : Int32))) &&& (858993459 : Int32)) + ((((a - (((a.toUInt32 >>> ((Int32.ofInt 1).toUInt32 &&& Int32.toUInt32 31)).toInt32) &&& (1431655765 : Int32))).toUInt32 >>> ((Int32.ofInt 2).toUInt32 &&& Int32.toUInt32 31)).toInt32) &&& (858993459 : Int32))) + (((((a - (((a.toUInt32 >>> ((Int32.ofInt 1).toUInt32 &&& Int32.toUInt32 31)).toInt32) &&& (1431655765 : Int32))) &&& (858993459 : Int32)) + ((((a - (((a.toUInt32 >>> ((Int32.ofInt 1).toUInt32 &&& Int32.toUInt32 31)).toInt32) &&& (1431655765 : Int32))).toUInt32 >>> ((Int32.ofInt 2).toUInt32 &&& Int32.toUInt32 31)).toInt32) &&& (858993459 : Int32))).toUInt32 >>> ((Int32.ofInt 4).toUInt32 &&& Int32.toUInt32 31)).toInt32)) &&& (252645135 : Int32)).toUInt32 >>> (((Int8.ofInt 8).toInt32).toUInt32 &&& Int32.toUInt32 31)).toInt32)).toUInt32 >>> (((Int8.ofInt 16).toInt32).toUInt32 &&& Int32.toUInt32 31)).toInt32))))]) (st' := [.int (((((((((a - (((a.toUInt32 >>> ((Int32.ofInt 1).toUInt32 &&& Int32.toUInt32 31)).toInt32) &&& (1431655765 : Int32))) &&& (858993459 : Int32)) + ((((a - (((a.toUInt32 >>> ((Int32.ofInt 1).toUInt32 &&& Int32.toUInt32 31)).toInt32) &&& (1431655765 : Int32))).toUInt32 >>> ((Int32.ofInt 2).toUInt32 &&& Int32.toUInt32 31)).toInt32) &&& (858993459 : Int32))) + (((((a - (((a.toUInt32 >>> ((Int32.ofInt 1).toUInt32 &&& Int32.toUInt32 31)).toInt32) &&& (1431655765 : Int32))) &&& (858993459 : Int32)) + ((((a - (((a.toUInt32 >>> ((Int32.ofInt 1).toUInt32 &&& Int32.toUInt32 31)).toInt32) &&& (1431655765 : Int32))).toUInt32 >>> ((Int32.ofInt 2).toUInt32 &&& Int32.toUInt32 31)).toInt32) &&& (858993459 : Int32))).toUInt32 >>> ((Int32.ofInt 4).toUInt32 &&& Int32.toUInt32 31)).toInt32)) &&& (252645135 : Int32)) + (((((((a - (((a.toUInt32 >>> ((Int32.ofInt 1).toUInt32 &&& Int32.toUInt32 31)).toInt32) &&& (1431655765 : Int32))) &&& (858993459 : Int32)) + ((((a - (((a.toUInt32 >>> ((Int32.ofInt 1).toUInt32 &&& Int32.toUInt32 31)).toInt32) &&& (1431655765 : Int32))).toUInt32 >>> ((Int32.ofInt 2).toUInt32 &&& Int32.toUInt32 31)).toInt32) &&& (858993459 : Int32))) + (((((a - (((a.toUInt32 >>> ((Int32.ofInt 1).toUInt32 &&& Int32.toUInt32 31)).toInt32) &&& (1431655765 : Int32))) &&& (858993459 : Int32)) + ((((a - (((a.toUInt32 >>> ((Int32.ofInt 1).toUInt32 &&& Int32.toUInt32 31)).toInt32) &&& (1431655765 : Int32))).toUInt32 >>> ((Int32.ofInt 2).toUInt32 &&& Int32.toUInt32 31)).toInt32) &&& (858993459 : Int32))).toUInt32 >>> ((Int32.ofInt 4).toUInt32 &&& Int32.toUInt32 31)).toInt32)) &&& (252645135 : Int32)).toUInt32 >>> (((Int8.ofInt 8).toInt32).toUInt32 &&& Int32.toUInt32 31)).toInt32)) + ((((((((a - (((a.toUInt32 >>> ((Int32.ofInt 1).toUInt32 &&& Int32.toUInt32 31)).toInt32) &&& (1431655765 : Int32))) &&& (858993459 : Int32)) + ((((a - (((a.toUInt32 >>> ((Int32.ofInt 1).toUInt32 &&& Int32.toUInt32 31)).toInt32) &&& (1431655765 : Int32))).toUInt32 >>> ((Int32.ofInt 2).toUInt32 &&& Int32.toUInt32 31)).toInt32) &&& (858993459 : Int32))) + (((((a - (((a.toUInt32 >>> ((Int32.ofInt 1).toUInt32 &&& Int32.toUInt32 31)).toInt32) &&& (1431655765 : Int32))) &&& (858993459 : Int32)) + ((((a - (((a.toUInt32 >>> ((Int32.ofInt 1).toUInt32 &&& Int32.toUInt32 31)).toInt32) &&& (1431655765 : Int32))).toUInt32 >>> ((Int32.ofInt 2).toUInt32 &&& Int32.toUInt32 31)).toInt32) &&& (858993459 : Int32))).toUInt32 >>> ((Int32.ofInt 4).toUInt32 &&& Int32.toUInt32 31)).toInt32)) &&& (252645135 : Int32)) + (((((((a - (((a.toUInt32 >>> ((Int32.ofInt 1).toUInt32 &&& Int32.toUInt32 31)).toInt32) &&& (1431655765 : Int32))) &&& (858993459 : Int32)) + ((((a - (((a.toUInt32 >>> ((Int32.ofInt 1).toUInt32 &&& Int32.toUInt32 31)).toInt32) &&& (1431655765 : Int32))).toUInt32 >>> ((Int32.ofInt 2).toUInt32 &&& Int32.toUInt32 31)).toInt32) &&& (858993459 : Int32))) + (((((a - (((a.toUInt32 >>> ((Int32.ofInt 1).toUInt32 &&& Int32.toUInt32 31)).toInt32) &&& (1431655765 : Int32))) &&& (858993459 : Int32)) + ((((a - (((a.toUInt32 >>> ((Int32.ofInt 1).toUInt32 &&& Int32.toUInt32 31)).toInt32) &&& (1431655765 : Int32))).toUInt32 >>> ((Int32.ofInt 2).toUInt32 &&& Int32.toUInt32 31)).toInt32) &&& (858993459 : Int32))).toUInt32 >>> ((Int32.ofInt 4).toUInt32 &&& Int32.toUInt32 31)).toInt32)) &&& (252645135 : Int32)).toUInt32 >>> (((Int8.ofInt 8).toInt32).toUInt32 &&& Int32.toUInt32 31)).toInt32)).toUInt32 >>> (((Int8.ofInt 16).toInt32).toUInt32 &&& Int32.toUInt32 31)).toInt32)) &&& ((Int8.ofInt 63).toInt32)))]) rfl ?_
  refine En_nam (fun z hz => ?_)
  have hb := bits_small (fun x => ((((((((x - (((x.toUInt32 >>> ((Int32.ofInt 1).toUInt32 &&& Int32.toUInt32 31)).toInt32) &&& (1431655765 : Int32))) &&& (858993459 : Int32)) + ((((x - (((x.toUInt32 >>> ((Int32.ofInt 1).toUInt32 &&& Int32.toUInt32 31)).toInt32) &&& (1431655765 : Int32))).toUInt32 >>> ((Int32.ofInt 2).toUInt32 &&& Int32.toUInt32 31)).toInt32) &&& (858993459 : Int32))) + (((((x - (((x.toUInt32 >>> ((Int32.ofInt 1).toUInt32 &&& Int32.toUInt32 31)).toInt32) &&& (1431655765 : Int32))) &&& (858993459 : Int32)) + ((((x - (((x.toUInt32 >>> ((Int32.ofInt 1).toUInt32 &&& Int32.toUInt32 31)).toInt32) &&& (1431655765 : Int32))).toUInt32 >>> ((Int32.ofInt 2).toUInt32 &&& Int32.toUInt32 31)).toInt32) &&& (858993459 : Int32))).toUInt32 >>> ((Int32.ofInt 4).toUInt32 &&& Int32.toUInt32 31)).toInt32)) &&& (252645135 : Int32)) + (((((((x - (((x.toUInt32 >>> ((Int32.ofInt 1).toUInt32 &&& Int32.toUInt32 31)).toInt32) &&& (1431655765 : Int32))) &&& (858993459 : Int32)) + ((((x - (((x.toUInt32 >>> ((Int32.ofInt 1).toUInt32 &&& Int32.toUInt32 31)).toInt32) &&& (1431655765 : Int32))).toUInt32 >>> ((Int32.ofInt 2).toUInt32 &&& Int32.toUInt32 31)).toInt32) &&& (858993459 : Int32))) + (((((x - (((x.toUInt32 >>> ((Int32.ofInt 1).toUInt32 &&& Int32.toUInt32 31)).toInt32) &&& (1431655765 : Int32))) &&& (858993459 : Int32)) + ((((x - (((x.toUInt32 >>> ((Int32.ofInt 1).toUInt32 &&& Int32.toUInt32 31)).toInt32) &&& (1431655765 : Int32))).toUInt32 >>> ((Int32.ofInt 2).toUInt32 &&& Int32.toUInt32 31)).toInt32) &&& (858993459 : Int32))).toUInt32 >>> ((Int32.ofInt 4).toUInt32 &&& Int32.toUInt32 31)).toInt32)) &&& (252645135 : Int32)).toUInt32 >>> (((Int8.ofInt 8).toInt32).toUInt32 &&& Int32.toUInt32 31)).toInt32)) + ((((((((x - (((x.toUInt32 >>> ((Int32.ofInt 1).toUInt32 &&& Int32.toUInt32 31)).toInt32) &&& (1431655765 : Int32))) &&& (858993459 : Int32)) + ((((x - (((x.toUInt32 >>> ((Int32.ofInt 1).toUInt32 &&& Int32.toUInt32 31)).toInt32) &&& (1431655765 : Int32))).toUInt32 >>> ((Int32.ofInt 2).toUInt32 &&& Int32.toUInt32 31)).toInt32) &&& (858993459 : Int32))) + (((((x - (((x.toUInt32 >>> ((Int32.ofInt 1).toUInt32 &&& Int32.toUInt32 31)).toInt32) &&& (1431655765 : Int32))) &&& (858993459 : Int32)) + ((((x - (((x.toUInt32 >>> ((Int32.ofInt 1).toUInt32 &&& Int32.toUInt32 31)).toInt32) &&& (1431655765 : Int32))).toUInt32 >>> ((Int32.ofInt 2).toUInt32 &&& Int32.toUInt32 31)).toInt32) &&& (858993459 : Int32))).toUInt32 >>> ((Int32.ofInt 4).toUInt32 &&& Int32.toUInt32 31)).toInt32)) &&& (252645135 : Int32)) + (((((((x - (((x.toUInt32 >>> ((Int32.ofInt 1).toUInt32 &&& Int32.toUInt32 31)).toInt32) &&& (1431655765 : Int32))) &&& (858993459 : Int32)) + ((((x - (((x.toUInt32 >>> ((Int32.ofInt 1).toUInt32 &&& Int32.toUInt32 31)).toInt32) &&& (1431655765 : Int32))).toUInt32 >>> ((Int32.ofInt 2).toUInt32 &&& Int32.toUInt32 31)).toInt32) &&& (858993459 : Int32))) + (((((x - (((x.toUInt32 >>> ((Int32.ofInt 1).toUInt32 &&& Int32.toUInt32 31)).toInt32) &&& (1431655765 : Int32))) &&& (858993459 : Int32)) + ((((x - (((x.toUInt32 >>> ((Int32.ofInt 1).toUInt32 &&& Int32.toUInt32 31)).toInt32) &&& (1431655765 : Int32))).toUInt32 >>> ((Int32.ofInt 2).toUInt32 &&& Int32.toUInt32 31)).toInt32) &&& (858993459 : Int32))).toUInt32 >>> ((Int32.ofInt 4).toUInt32 &&& Int32.toUInt32 31)).toInt32)) &&& (252645135 : Int32)).toUInt32 >>> (((Int8.ofInt 8).toInt32).toUInt32 &&& Int32.toUInt32 31)).toInt32)).toUInt32 >>> (((Int8.ofInt 16).toInt32).toUInt32 &&& Int32.toUInt32 31)).toInt32)) &&& ((Int8.ofInt 63).toInt32))) hz (by decide +kernel) hl_a hu_a
  have hr := bcI_rng a.toInt
  exact En_ret (v := some (Value.int z)) rfl rfl rfl ⟨hσ0, hF0, z, rfl, (by (first | exact q_ce10a64c12 hb hr.1 hr.2 | omega))⟩
/-- java/lang/Integer.bitCount(I)I of a small set -/
abbrev P_7bx (σ0 : SG) (a : Int32) : PO := fun v σ => WT σ ∧ Fr [] σ0 σ ∧ ∃ ret : Int32, v = some (Value.int ret) ∧ -ret.toInt ≤ 0 ∧ ret.toInt - 16 ≤ 0 ∧ ret.toInt = pcI a.toInt
set_option maxRecDepth 10000 in
set_option maxHeartbeats 4000000 in
theorem c_7bx (σ0 : SG) (hσ0 : WT σ0) (a : Int32) (hl_a : 0 ≤ a.toInt) (hu_a : a.toInt ≤ 65535) : En 0 0 none mr_7 (P_7bx σ0 a) 0 [(0, .int a)] [] σ0 := by
  have hF0 : Fr [] σ0 σ0 := Fr_rfl
  refine En_Ps 41 (pc' := 52) (lv' := [(0, .int ((((((((a - (((a.toUInt32 >>> ((Int32.ofInt 1).toUInt32 &&& Int32.toUInt32 31)).toInt32) &&& (1431655765 : Int32))) &&& (858993459 : Int32)) + ((((a - (((a.toUInt32 >>> ((Int32.ofInt 1).toUInt32 &&& Int32.toUInt32 31)).toInt32) &&& (1431655765 : Int32))).toUInt32 >>> ((Int32.ofInt 2).toUInt32 &&& Int32.toUInt32 31)).toInt32) &&& (858993459 : Int32))) + (((((a - (((a.toUInt32 >>> ((Int32.ofInt 1).toUInt32 &&& Int32.toUInt32 31)).toInt32) &&& (1431655765 : Int32))) &&& (858993459 : Int32)) + ((((a - (((a.toUInt32 >>> ((Int32.ofInt 1).toUInt32 &&& Int32.toUInt32 31)).toInt32) &&& (1431655765 : Int32))).toUInt32 >>> ((Int32.ofInt 2).toUInt32 &&& Int32.toUInt32 31)).toInt32) &&& (858993459 : Int32))).toUInt32 >>> ((Int32.ofInt 4).toUInt32 &&& Int32.toUInt32 31)).toInt32)) &&& (252645135 : Int32)) + (((((((a - (((a.toUInt32 >>> ((Int32.ofInt 1).toUInt32 &&& Int32.toUInt32 31)).toInt32) &&& (1431655765 : Int32))) &&& (858993459 : Int32)) + ((((a - (((a.toUInt32 >>> ((Int32.ofInt 1).toUInt32 &&& Int32.toUInt32 31)).toInt32) &&& (1431655765 : Int32))).toUInt32 >>> ((Int32.ofInt 2).toUInt32 &&& Int32.toUInt32 31)).toInt32) &&& (858993459 : Int32))) + (((((a - (((a.toUInt32 >>> ((Int32.ofInt 1).toUInt32 &&& Int32.toUInt32 31)).toInt32) &&& (1431655765 : Int32))) &&& (858993459 : Int32)) + ((((a - (((a.toUInt32 >>> ((Int32.ofInt 1).toUInt32 &&& Int32.toUInt32 31)).toInt32) &&& (1431655765 : Int32))).toUInt32 >>> ((Int32.ofInt 2).toUInt32 &&& Int32.toUInt32 31)).toInt32) &&& (858993459 : Int32))).toUInt32 >>> ((Int32.ofInt 4).toUInt32 &&& Int32.toUInt32 31)).toInt32)) &&& (252645135 : Int32)).toUInt32 >>> (((Int8.ofInt 8).toInt32).toUInt32 &&& Int32.toUInt32 31)).toInt32)) + ((((((((a - (((a.toUInt32 >>> ((Int32.ofInt 1).toUInt32 &&& Int32.toUInt32 31)).toInt32) &&& (1431655765 : Int32))) &&& (858993459 : Int32)) + ((((a - (((a.toUInt32 >>> ((Int32.ofInt 1).toUInt32 &&& Int32.toUInt32 31)).toInt32) &&& (1431655765 : Int32))).toUInt32 >>> ((Int32.ofInt 2).toUInt32 &&& Int32.toUInt32 31)).toInt32) &&& (858993459 : Int32))) + (((((a - (((a.toUInt32 >>> ((Int32.ofInt 1).toUInt32 &&& Int32.toUInt32 31)).toInt32) &&& (1431655765 : Int32))) &&& (858993459 : Int32)) + ((((a - (((a.toUInt32 >>> ((Int32.ofInt 1).toUInt32 &&& Int32.toUInt32 31)).toInt32) &&& (1431655765 : Int32))).toUInt32 >>> ((Int32.ofInt 2).toUInt32 &&& Int32.toUInt32 31)).toInt32) &&& (858993459 : Int32))).toUInt32 >>> ((Int32.ofInt 4).toUInt32 &&& Int32.toUInt32 31)).toInt32)) &&& (252645135 : Int32)) + (((((((a - (((a.toUInt32 >>> ((Int32.ofInt 1).toUInt32 &&& Int32.toUInt32 31)).toInt32) &&& (1431655765 : Int32))) &&& (858993459 : Int32)) + ((((a - (((a.toUInt32 >>> ((Int32.ofInt 1).toUInt32 &&& Int32.toUInt32 31)).toInt32) &&& (1431655765 : Int32))).toUInt32 >>> ((Int32.ofInt 2).toUInt32 &&& Int32.toUInt32 31)).toInt32) &&& (858993459 : Int32))) + (((((a - (((a.toUInt32 >>> ((Int32.ofInt 1).toUInt32 &&& Int32.toUInt32 31)).toInt32) &&& (1431655765 : Int32))) &&& (858993459 : Int32)) + ((((a - (((a.toUInt32 >>> ((Int32.ofInt 1).toUInt32 &&& Int32.toUInt32 31)).toInt32) &&& (1431655765 : Int32))).toUInt32 >>> ((Int32.ofInt 2).toUInt32 &&& Int32.toUInt32 31)).toInt32) &&& (858993459 : Int32))).toUInt32 >>> ((Int32.ofInt 4).toUInt32 &&& Int32.toUInt32 31)).toInt32)) &&& (252645135 : Int32)).toUInt32 >>> (((Int8.ofInt 8).toInt32).toUInt32 &&& Int32.toUInt32 31)).toInt32)).toUInt32 >>> (((Int8.ofInt 16).toInt32).toUInt32 &&& Int32.toUInt32 31)).toInt32))))]) (st' := [.int (((((((((a - (((a.toUInt32 >>> ((Int32.ofInt 1).toUInt32 &&& Int32.toUInt32 31)).toInt32) &&& (1431655765 : Int32))) &&& (858993459 : Int32)) + ((((a - (((a.toUInt32 >>> ((Int32.ofInt 1).toUInt32 &&& Int32.toUInt32 31)).toInt32) &&& (1431655765 : Int32))).toUInt32 >>> ((Int32.ofInt 2).toUInt32 &&& Int32.toUInt32 31)).toInt32) &&& (858993459 : Int32))) + (((((a - (((a.toUInt32 >>> ((Int32.ofInt 1).toUInt32 &&& Int32.toUInt32 31)).toInt32) &&& (1431655765 : Int32))) &&& (858993459 : Int32)) + ((((a - (((a.toUInt32 >>> ((Int32.ofInt 1).toUInt32 &&& Int32.toUInt32 31)).toInt32) &&& (1431655765 : Int32))).toUInt32 >>> ((Int32.ofInt 2).toUInt32 &&& Int32.toUInt32 31)).toInt32) &&& (858993459 : Int32))).toUInt32 >>> ((Int32.ofInt 4).toUInt32 &&& Int32.toUInt32 31)).toInt32)) &&& (252645135 : Int32)) + (((((((a - (((a.toUInt32 >>> ((Int32.ofInt 1).toUInt32 &&& Int32.toUInt32 31)).toInt32) &&& (1431655765 : Int32))) &&& (858993459 : Int32)) + ((((a - (((a.toUInt32 >>> ((Int32.ofInt 1).toUInt32 &&& Int32.toUInt32 31)).toInt32) &&& (1431655765 : Int32))).toUInt32 >>> ((Int32.ofInt 2).toUInt32 &&& Int32.toUInt32 31)).toInt32) &&& (858993459 : Int32))) + (((((a - (((a.toUInt32 >>> ((Int32.ofInt 1).toUInt32 &&& Int32.toUInt32 31)).toInt32) &&& (1431655765 : Int32))) &&& (858993459 : Int32)) + ((((a - (((a.toUInt32 >>> ((Int32.ofInt 1).toUInt32 &&& Int32.toUInt32 31)).toInt32) &&& (1431655765 : Int32))).toUInt32 >>> ((Int32.ofInt 2).toUInt32 &&& Int32.toUInt32 31)).toInt32) &&& (858993459 : Int32))).toUInt32 >>> ((Int32.ofInt 4).toUInt32 &&& Int32.toUInt32 31)).toInt32)) &&& (252645135 : Int32)).toUInt32 >>> (((Int8.ofInt 8).toInt32).toUInt32 &&& Int32.toUInt32 31)).toInt32)) + ((((((((a - (((a.toUInt32 >>> ((Int32.ofInt 1).toUInt32 &&& Int32.toUInt32 31)).toInt32) &&& (1431655765 : Int32))) &&& (858993459 : Int32)) + ((((a - (((a.toUInt32 >>> ((Int32.ofInt 1).toUInt32 &&& Int32.toUInt32 31)).toInt32) &&& (1431655765 : Int32))).toUInt32 >>> ((Int32.ofInt 2).toUInt32 &&& Int32.toUInt32 31)).toInt32) &&& (858993459 : Int32))) + (((((a - (((a.toUInt32 >>> ((Int32.ofInt 1).toUInt32 &&& Int32.toUInt32 31)).toInt32) &&& (1431655765 : Int32))) &&& (858993459 : Int32)) + ((((a - (((a.toUInt32 >>> ((Int32.ofInt 1).toUInt32 &&& Int32.toUInt32 31)).toInt32) &&& (1431655765 : Int32))).toUInt32 >>> ((Int32.ofInt 2).toUInt32 &&& Int32.toUInt32 31)).toInt32) &&& (858993459 : Int32))).toUInt32 >>> ((Int32.ofInt 4).toUInt32 &&& Int32.toUInt32 31)).toInt32)) &&& (252645135 : Int32)) + (((((((a - (((a.toUInt32 >>> ((Int32.ofInt 1).toUInt32 &&& Int32.toUInt32 31)).toInt32) &&& (1431655765 : Int32))) &&& (858993459 : Int32)) + ((((a - (((a.toUInt32 >>> ((Int32.ofInt 1).toUInt32 &&& Int32.toUInt32 31)).toInt32) &&& (1431655765 : Int32))).toUInt32 >>> ((Int32.ofInt 2).toUInt32 &&& Int32.toUInt32 31)).toInt32) &&& (858993459 : Int32))) + (((((a - (((a.toUInt32 >>> ((Int32.ofInt 1).toUInt32 &&& Int32.toUInt32 31)).toInt32) &&& (1431655765 : Int32))) &&& (858993459 : Int32)) + ((((a - (((a.toUInt32 >>> ((Int32.ofInt 1).toUInt32 &&& Int32.toUInt32 31)).toInt32) &&& (1431655765 : Int32))).toUInt32 >>> ((Int32.ofInt 2).toUInt32 &&& Int32.toUInt32 31)).toInt32) &&& (858993459 : Int32))).toUInt32 >>> ((Int32.ofInt 4).toUInt32 &&& Int32.toUInt32 31)).toInt32)) &&& (252645135 : Int32)).toUInt32 >>> (((Int8.ofInt 8).toInt32).toUInt32 &&& Int32.toUInt32 31)).toInt32)).toUInt32 >>> (((Int8.ofInt 16).toInt32).toUInt32 &&& Int32.toUInt32 31)).toInt32)) &&& ((Int8.ofInt 63).toInt32)))]) rfl ?_
  refine En_nam (fun z hz => ?_)
  have hx := R32_x hl_a
  have hb := bits_fin (z := z) (N := fun n => (((((((((((((4294967296 - ((n >>> 1) &&& 1431655765) + n) % 4294967296) &&& 858993459) + ((((4294967296 - ((n >>> 1) &&& 1431655765) + n) % 4294967296) >>> 2) &&& 858993459)) % 4294967296) + ((((((4294967296 - ((n >>> 1) &&& 1431655765) + n) % 4294967296) &&& 858993459) + ((((4294967296 - ((n >>> 1) &&& 1431655765) + n) % 4294967296) >>> 2) &&& 858993459)) % 4294967296) >>> 4)) % 4294967296) &&& 252645135) + (((((((((4294967296 - ((n >>> 1) &&& 1431655765) + n) % 4294967296) &&& 858993459) + ((((4294967296 - ((n >>> 1) &&& 1431655765) + n) % 4294967296) >>> 2) &&& 858993459)) % 4294967296) + ((((((4294967296 - ((n >>> 1) &&& 1431655765) + n) % 4294967296) &&& 858993459) + ((((4294967296 - ((n >>> 1) &&& 1431655765) + n) % 4294967296) >>> 2) &&& 858993459)) % 4294967296) >>> 4)) % 4294967296) &&& 252645135) >>> 8)) % 4294967296) + (((((((((((4294967296 - ((n >>> 1) &&& 1431655765) + n) % 4294967296) &&& 858993459) + ((((4294967296 - ((n >>> 1) &&& 1431655765) + n) % 4294967296) >>> 2) &&& 858993459)) % 4294967296) + ((((((4294967296 - ((n >>> 1) &&& 1431655765) + n) % 4294967296) &&& 858993459) + ((((4294967296 - ((n >>> 1) &&& 1431655765) + n) % 4294967296) >>> 2) &&& 858993459)) % 4294967296) >>> 4)) % 4294967296) &&& 252645135) + (((((((((4294967296 - ((n >>> 1) &&& 1431655765) + n) % 4294967296) &&& 858993459) + ((((4294967296 - ((n >>> 1) &&& 1431655765) + n) % 4294967296) >>> 2) &&& 858993459)) % 4294967296) + ((((((4294967296 - ((n >>> 1) &&& 1431655765) + n) % 4294967296) &&& 858993459) + ((((4294967296 - ((n >>> 1) &&& 1431655765) + n) % 4294967296) >>> 2) &&& 858993459)) % 4294967296) >>> 4)) % 4294967296) &&& 252645135) >>> 8)) % 4294967296) >>> 16)) % 4294967296) &&& 63)) (by rw [hz]; exact (R32_and (R32_add (R32_add (R32_and (R32_add (R32_add (R32_and (R32_sub hx (R32_and (R32_ush hx (by decide)) (R32_c (by decide)))) (R32_c (by decide))) (R32_and (R32_ush (R32_sub hx (R32_and (R32_ush hx (by decide)) (R32_c (by decide)))) (by decide)) (R32_c (by decide)))) (R32_ush (R32_add (R32_and (R32_sub hx (R32_and (R32_ush hx (by decide)) (R32_c (by decide)))) (R32_c (by decide))) (R32_and (R32_ush (R32_sub hx (R32_and (R32_ush hx (by decide)) (R32_c (by decide)))) (by decide)) (R32_c (by decide)))) (by decide))) (R32_c (by decide))) (R32_ush (R32_and (R32_add (R32_add (R32_and (R32_sub hx (R32_and (R32_ush hx (by decide)) (R32_c (by decide)))) (R32_c (by decide))) (R32_and (R32_ush (R32_sub hx (R32_and (R32_ush hx (by decide)) (R32_c (by decide)))) (by decide)) (R32_c (by decide)))) (R32_ush (R32_add (R32_and (R32_sub hx (R32_and (R32_ush hx (by decide)) (R32_c (by decide)))) (R32_c (by decide))) (R32_and (R32_ush (R32_sub hx (R32_and (R32_ush hx (by decide)) (R32_c (by decide)))) (by decide)) (R32_c (by decide)))) (by decide))) (R32_c (by decide))) (by decide))) (R32_ush (R32_add (R32_and (R32_add (R32_add (R32_and (R32_sub hx (R32_and (R32_ush hx (by decide)) (R32_c (by decide)))) (R32_c (by decide))) (R32_and (R32_ush (R32_sub hx (R32_and (R32_ush hx (by decide)) (R32_c (by decide)))) (by decide)) (R32_c (by decide)))) (R32_ush (R32_add (R32_and (R32_sub hx (R32_and (R32_ush hx (by decide)) (R32_c (by decide)))) (R32_c (by decide))) (R32_and (R32_ush (R32_sub hx (R32_and (R32_ush hx (by decide)) (R32_c (by decide)))) (by decide)) (R32_c (by decide)))) (by decide))) (R32_c (by decide))) (R32_ush (R32_and (R32_add (R32_add (R32_and (R32_sub hx (R32_and (R32_ush hx (by decide)) (R32_c (by decide)))) (R32_c (by decide))) (R32_and (R32_ush (R32_sub hx (R32_and (R32_ush hx (by decide)) (R32_c (by decide)))) (by decide)) (R32_c (by decide)))) (R32_ush (R32_add (R32_and (R32_sub hx (R32_and (R32_ush hx (by decide)) (R32_c (by decide)))) (R32_c (by decide))) (R32_and (R32_ush (R32_sub hx (R32_and (R32_ush hx (by decide)) (R32_c (by decide)))) (by decide)) (R32_c (by decide)))) (by decide))) (R32_c (by decide))) (by decide))) (by decide))) (R32_c (by decide)))) (qn_c 0 (by decide)) (qn_c 1 (by decide)) (qn_c 2 (by decide)) (qn_c 3 (by decide)) (qn_c 4 (by decide)) (qn_c 5 (by decide)) (qn_c 6 (by decide)) (qn_c 7 (by decide)) (qn_c 8 (by decide)) (qn_c 9 (by decide)) (qn_c 10 (by decide)) (qn_c 11 (by decide)) (qn_c 12 (by decide)) (qn_c 13 (by decide)) (qn_c 14 (by decide)) (qn_c 15 (by decide)) hl_a hu_a
  have hr := pcI_rng a.toInt
  exact En_ret (v := some (Value.int z)) rfl rfl rfl ⟨hσ0, hF0, z, rfl, (by omega)⟩
/-- java/util/Arrays.fill([II)V -/
abbrev P_8ax (σ0 : SG) (a : Nat) (b : Int32) : PO := fun v σ => WT σ ∧ Fr [(26, 0)] σ0 σ ∧ v = none ∧ ((∀ k : Int, 0 ≤ k → k < 6 → ci σ a k = 0) ∧ ∀ b q : Nat, b ≠ a → (σ b)[q]? = (σ0 b)[q]?)
set_option maxRecDepth 10000 in
set_option maxHeartbeats 4000000 in
theorem c_8ax (σ0 : SG) (hσ0 : WT σ0) (a : Nat) (ha : TG a = 26) (b : Int32) (hl_b : 0 ≤ b.toInt) (hu_b : b.toInt ≤ 0) : En 0 0 none mr_8 (P_8ax σ0 a b) 0 [(0, .ref a), (1, .int b)] [] σ0 := by
  have hF0 : Fr [(26, 0)] σ0 σ0 := Fr_rfl
  refine En_Ps 3 (pc' := 3) (lv' := [(2, .int ((Int32.ofInt 0))), (0, .ref a), (1, .int b)]) (st' := [.ref a]) rfl ?_
  refine En_alenN (n := 6) rfl ha (by decide +kernel) (by decide +kernel) hσ0 ?_
  refine En_Ps 1 (pc' := 5) (lv' := [(3, .int ((Int32.ofNat 6))), (2, .int ((Int32.ofInt 0))), (0, .ref a), (1, .int b)]) (st' := []) rfl ?_
  have key5 : ∀ (n5 : Nat) (σ2 : SG) (y1 : Int32), WT σ2 → Fr [(26, 0)] σ0 σ2 → 0 ≤ y1.toInt → y1.toInt ≤ 6 → -y1.toInt + 6 < (n5 : Int) → FZi σ2 a y1.toInt → (∀ b q : Nat, b ≠ a → (σ2 b)[q]? = (σ0 b)[q]?) → En 0 0 none mr_8 (P_8ax σ0 a b) 5 [(0, .ref a), (1, .int b), (2, .int y1), (3, .int ((Int32.ofNat 6)))] [] σ2 := by
    intro n5
    induction n5 with
    | zero =>
      intro σ2 y1 h3 h4 h5 h6 h7 h8 h9
      first | exact (q_1c67ffb2e6 h7 h6).elim | (exfalso; omega)
    | succ n5 ih5 =>
      intro σ2 y1 h3 h4 h5 h6 h7 h8 h9
      refine En_Ps 2 (pc' := 7) (lv' := [(0, .ref a), (1, .int b), (2, .int y1), (3, .int ((Int32.ofNat 6)))]) (st' := [.int ((Int32.ofNat 6)), .int y1]) rfl ?_
      refine En_icGe _ rfl (by decide : (Int32.ofNat 6).toInt = 6) rfl (fun h10 => ?_) (fun h10 => ?_)
      · exact En_ret (v := none) rfl rfl rfl ⟨h3, h4, rfl, ⟨FZi_x h8 (by (first | exact q_eddbad93f4 h10 | omega)), h9⟩⟩
      · refine En_Ps 3 (pc' := 13) (lv' := [(0, .ref a), (1, .int b), (2, .int y1), (3, .int ((Int32.ofNat 6)))]) (st' := [.int b, .int y1, .ref a]) rfl ?_
        refine En_iast (l := 0) (u := 63) rfl rfl ha (by decide +kernel) (by first | exact q_58e6e51dcc h5 | omega) (lnI (by decide +kernel : LN _ = 6) (by first | exact q_ab9991d2ad h10 | omega)) (FTsgl (by decide +kernel)) (rngI rfl (by first | exact q_58e6e51dcc hl_b | omega) (by first | exact q_6903924f0e hu_b | omega)) h3 h4 (by decide +kernel) (fun σ11 h12 h13 h14 h15 => ?_)
        refine En_Ps 1 (pc' := 17) (lv' := [(2, .int ((y1 + Int32.ofInt 1))), (0, .ref a), (1, .int b), (3, .int ((Int32.ofNat 6)))]) (st' := []) rfl ?_
        refine En_lv1 (addI rfl (by decide : (Int32.ofInt 1).toInt = 1) (by first | exact q_465ab79ac1 h5 | omega) (by first | exact q_2918abfa70 h10 | omega)) (fun z16 h17 => ?_)
        refine En_Ps 1 (pc' := 5) (lv' := [(2, .int z16), (0, .ref a), (1, .int b), (3, .int ((Int32.ofNat 6)))]) (st' := []) rfl ?_
        refine En_lv (lv := [(0, .ref a), (1, .int b), (2, .int z16), (3, .int ((Int32.ofNat 6)))]) ⟨rfl, rfl, rfl, rfl, trivial⟩ ?_
        exact ih5 σ11 z16 h12 h13 (by first | exact q_35104ce9d3 h17 h5 | omega) (by first | exact q_13d1e79bb8 h17 h10 | omega) (by first | exact q_18a3ecfd63 h17 h7 | omega) (FZi_s h8 h14 h15 (by (first | exact q_66af5a274d hl_b hu_b | omega)) (by (first | exact q_9cedef5b60 h5 | omega)) (by (first | exact q_ba1b2c713b h17 | omega))) (NE_s h9 h15)
  have := (by decide : (Int32.ofInt 0).toInt = 0)
  refine En_lv (lv := [(0, .ref a), (1, .int b), (2, .int ((Int32.ofInt 0))), (3, .int ((Int32.ofNat 6)))]) ⟨rfl, rfl, rfl, rfl, trivial⟩ ?_
  exact key5 (Int.toNat (6) + 1) σ0 ((Int32.ofInt 0)) hσ0 hF0 (by decide) (by decide) (by first | exact toN_lt _ | omega) (FZi_0 (by decide)) (fun _ _ _ => rfl)
/-- DoorSchool$Door.begin(II)V -/
abbrev P_12x (σ0 : SG) (s : Nat) (a : Int32) (b : Int32) (l : Nat) : PO := fun v σ => WT σ ∧ Fr [(20, 2), (28, 1), (28, 2), (28, 3)] σ0 σ ∧ v = none ∧ BGNp σ0 σ s l a.toInt b.toInt
set_option maxRecDepth 10000 in
set_option maxHeartbeats 4000000 in
theorem c_12x (σ0 : SG) (hσ0 : WT σ0) (s : Nat) (hs : TG s = 28) (a : Int32) (b : Int32) (hl_a : 0 ≤ a.toInt) (hu_a : a.toInt ≤ 2) (hl_b : 0 ≤ b.toInt) (hu_b : b.toInt ≤ 50) (l : Nat) (hl : TG l = 20) (h_l : (σ0 s)[0]? = some (Value.ref l)) : En 0 0 none mr_12 (P_12x σ0 s a b l) 0 [(0, .ref s), (1, .int a), (2, .int b)] [] σ0 := by
  have hF0 : Fr [(20, 2), (28, 1), (28, 2), (28, 3)] σ0 σ0 := Fr_rfl
  refine En_Ps 2 (pc' := 2) (lv' := [(0, .ref s), (1, .int a), (2, .int b)]) (st' := [.int a, .ref s]) rfl ?_
  refine En_put (j := 1) rfl rfl rfl hs (by decide +kernel) rfl (vI (l := 0) (u := 2) (by decide +kernel) rfl (by first | exact q_58e6e51dcc hl_a | omega) (by first | exact q_a85463bd0d hu_a | omega)) hσ0 hF0 (by decide +kernel) (fun σ1 h2 h3 h4 h5 => ?_)
  refine En_Ps 2 (pc' := 7) (lv' := [(0, .ref s), (1, .int a), (2, .int b)]) (st' := [.int b, .ref s]) rfl ?_
  refine En_put (j := 2) rfl rfl rfl hs (by decide +kernel) rfl (vI (l := 0) (u := 50) (by decide +kernel) rfl (by first | exact q_58e6e51dcc hl_b | omega) (by first | exact q_2eaa18fab1 hu_b | omega)) h2 h3 (by decide +kernel) (fun σ6 h7 h8 h9 h10 => ?_)
  refine En_Ps 2 (pc' := 12) (lv' := [(0, .ref s), (1, .int a), (2, .int b)]) (st' := [.int ((Int32.ofInt (-1))), .ref s]) rfl ?_
  refine En_put (j := 3) rfl rfl rfl hs (by decide +kernel) rfl (vI (l := (-1)) (u := 3) (by decide +kernel) (by decide : (Int32.ofInt (-1)).toInt = -1) (by decide) (by decide)) h7 h8 (by decide +kernel) (fun σ11 h12 h13 h14 h15 => ?_)
  refine En_Ps 1 (pc' := 16) (lv' := [(0, .ref s), (1, .int a), (2, .int b)]) (st' := [.ref s]) rfl ?_
  refine En_getK (j := 0) ((h15 _ _ (Or.inr (by decide))).trans ((h10 _ _ (Or.inr (by decide))).trans ((h5 _ _ (Or.inr (by decide))).trans h_l))) rfl rfl rfl hs (by decide +kernel) ?_
  refine En_Ps 1 (pc' := 20) (lv' := [(0, .ref s), (1, .int a), (2, .int b)]) (st' := [.int ((Int32.ofInt 0)), .ref l]) rfl ?_
  refine En_put (j := 2) rfl rfl rfl hl (by decide +kernel) rfl (vI (l := 0) (u := 13) (by decide +kernel) (by decide : (Int32.ofInt 0).toInt = 0) (by decide) (by decide)) h12 h13 (by decide +kernel) (fun σ16 h17 h18 h19 h20 => ?_)
  exact En_ret (v := none) rfl rfl rfl ⟨h17, h18, rfl, BGN_mk h4 h5 h9 h10 h14 h15 h19 h20 hs hl rfl rfl (by decide) (by decide)⟩
/-- DoorSchool$Lessons.takeFrom(LDoorSchool$Lessons;)V -/
abbrev P_40x (σ0 : SG) (s : Nat) (a : Nat) (kn : Nat) (op : Nat) (ak : Nat) (ao : Nat) (az : Int32) : PO := fun v σ => WT σ ∧ Fr [(20, 2), (21, 0), (22, 0)] σ0 σ ∧ v = none ∧ LTF σ0 σ s kn op a ak ao
set_option maxRecDepth 10000 in
set_option maxHeartbeats 4000000 in
theorem c_40x (σ0 : SG) (hσ0 : WT σ0) (s : Nat) (hs : TG s = 20) (a : Nat) (ha : TG a = 20) (kn : Nat) (hkn : TG kn = 21) (h_kn : (σ0 s)[0]? = some (Value.ref kn)) (op : Nat) (hop : TG op = 22) (h_op : (σ0 s)[1]? = some (Value.ref op)) (ak : Nat) (hak : TG ak = 21) (h_ak : (σ0 a)[0]? = some (Value.ref ak)) (ao : Nat) (hao : TG ao = 22) (h_ao : (σ0 a)[1]? = some (Value.ref ao)) (az : Int32) (h_az : (σ0 a)[2]? = some (Value.int az)) (hs1 : kn = s + 1 ∧ op = s + 2) (ht1 : ak = a + 1 ∧ ao = a + 2) (hd1 : s + 3 ≤ a ∨ a + 3 ≤ s) : En 1 60 none mr_40 (P_40x σ0 s a kn op ak ao az) 0 [(0, .ref s), (1, .ref a)] [] σ0 := by
  obtain ⟨hl_az, hu_az⟩ := WT_int hσ0 (g := 20) ha (by decide +kernel) (l := 0) (u := 13) (by decide +kernel) h_az
  have hF0 : Fr [(20, 2), (21, 0), (22, 0)] σ0 σ0 := Fr_rfl
  refine En_Ps 2 (pc' := 2) (lv' := [(0, .ref s), (1, .ref a)]) (st' := [.ref a, .ref s]) rfl ?_
  refine En_getK (j := 2) h_az rfl rfl rfl ha (by decide +kernel) ?_
  refine En_put (j := 2) rfl rfl rfl hs (by decide +kernel) rfl (vI (l := 0) (u := 13) (by decide +kernel) rfl (by first | exact q_58e6e51dcc hl_az | omega) (by first | exact q_7991346fe8 hu_az | omega)) hσ0 hF0 (by decide +kernel) (fun σ1 h2 h3 h4 h5 => ?_)
  refine En_Ps 1 (pc' := 9) (lv' := [(0, .ref s), (1, .ref a)]) (st' := [.ref a]) rfl ?_
  refine En_getK (j := 0) ((h5 _ _ (Or.inr (by decide))).trans h_ak) rfl rfl rfl ha (by decide +kernel) ?_
  refine En_Ps 2 (pc' := 14) (lv' := [(0, .ref s), (1, .ref a)]) (st' := [.ref s, .int ((Int32.ofInt 0)), .ref ak]) rfl ?_
  refine En_getK (j := 0) ((h5 _ _ (Or.inr (by decide))).trans h_kn) rfl rfl rfl hs (by decide +kernel) ?_
  refine En_Ps 2 (pc' := 20) (lv' := [(0, .ref s), (1, .ref a)]) (st' := [.int (((Int8.ofInt 13).toInt32)), .int ((Int32.ofInt 0)), .ref kn, .int ((Int32.ofInt 0)), .ref ak]) rfl ?_
  refine En_copyX (n0 := 13) (n1 := 13) (by decide : ((Int8.ofInt 13).toInt32).toInt = 13) (by decide : (Int32.ofInt 0).toInt = 0) (by decide : (Int32.ofInt 0).toInt = 0) rfl rfl rfl rfl hak hkn (by decide +kernel) (by decide +kernel) (by decide +kernel) (by decide +kernel) (by decide +kernel) (by (first | decide | omega)) (by (first | decide | omega)) (by (first | decide | omega)) (by (first | decide | omega)) (by (first | decide | omega)) h2 h3 (by decide +kernel) (fun σ6 h7 h8 h9 h10 => ?_)
  have h11 := ROW_mk (n := 13) h9 h10 (by decide) (by decide) (by decide)
  refine En_Ps 1 (pc' := 24) (lv' := [(0, .ref s), (1, .ref a)]) (st' := [.ref a]) rfl ?_
  refine En_getK (j := 1) ((h9 _ _ (neTG ha hkn (by decide))).trans ((h5 _ _ (Or.inr (by decide))).trans h_ao)) rfl rfl rfl ha (by decide +kernel) ?_
  refine En_Ps 2 (pc' := 29) (lv' := [(0, .ref s), (1, .ref a)]) (st' := [.ref s, .int ((Int32.ofInt 0)), .ref ao]) rfl ?_
  refine En_getK (j := 1) ((h9 _ _ (neTG hs hkn (by decide))).trans ((h5 _ _ (Or.inr (by decide))).trans h_op)) rfl rfl rfl hs (by decide +kernel) ?_
  refine En_Ps 2 (pc' := 35) (lv' := [(0, .ref s), (1, .ref a)]) (st' := [.int (((Int8.ofInt 13).toInt32)), .int ((Int32.ofInt 0)), .ref op, .int ((Int32.ofInt 0)), .ref ao]) rfl ?_
  refine En_copyX (n0 := 13) (n1 := 13) (by decide : ((Int8.ofInt 13).toInt32).toInt = 13) (by decide : (Int32.ofInt 0).toInt = 0) (by decide : (Int32.ofInt 0).toInt = 0) rfl rfl rfl rfl hao hop (by decide +kernel) (by decide +kernel) (by decide +kernel) (by decide +kernel) (by decide +kernel) (by (first | decide | omega)) (by (first | decide | omega)) (by (first | decide | omega)) (by (first | decide | omega)) (by (first | decide | omega)) h7 h8 (by decide +kernel) (fun σ12 h13 h14 h15 h16 => ?_)
  have h17 := ROW_mk (n := 13) h15 h16 (by decide) (by decide) (by decide)
  exact En_ret (v := none) rfl rfl rfl ⟨h13, h14, rfl, LTF_mk h_az h4 h5 h11 h17 (by omega) (by omega) (by omega) (by omega) (by omega) (by omega)⟩
/-- DoorSchool$Door.takeFrom(LDoorSchool$Door;)V -/
abbrev P_14x (σ0 : SG) (s : Nat) (a : Nat) (l : Nat) (kn : Nat) (op : Nat) (al : Nat) (ak : Nat) (ao : Nat) : PO := fun v σ => WT σ ∧ Fr [(20, 2), (21, 0), (22, 0), (28, 1), (28, 2), (28, 3)] σ0 σ ∧ v = none ∧ DTF σ0 σ s l kn op a al ak ao
set_option maxRecDepth 10000 in
set_option maxHeartbeats 4000000 in
theorem c_14x (σ0 : SG) (hσ0 : WT σ0) (s : Nat) (hs : TG s = 28) (a : Nat) (ha : TG a = 28) (l : Nat) (hl : TG l = 20) (h_l : (σ0 s)[0]? = some (Value.ref l)) (kn : Nat) (hkn : TG kn = 21) (h_kn : (σ0 l)[0]? = some (Value.ref kn)) (op : Nat) (hop : TG op = 22) (h_op : (σ0 l)[1]? = some (Value.ref op)) (al : Nat) (hal : TG al = 20) (h_al : (σ0 a)[0]? = some (Value.ref al)) (ak : Nat) (hak : TG ak = 21) (h_ak : (σ0 al)[0]? = some (Value.ref ak)) (ao : Nat) (hao : TG ao = 22) (h_ao : (σ0 al)[1]? = some (Value.ref ao)) (hs1 : l = s + 1 ∧ kn = s + 2 ∧ op = s + 3) (ht1 : al = a + 1 ∧ ak = a + 2 ∧ ao = a + 3) (hd1 : s + 4 ≤ a ∨ a + 4 ≤ s) : En 2 81 none mr_14 (P_14x σ0 s a l kn op al ak ao) 0 [(0, .ref s), (1, .ref a)] [] σ0 := by
  have hF0 : Fr [(20, 2), (21, 0), (22, 0), (28, 1), (28, 2), (28, 3)] σ0 σ0 := Fr_rfl
  refine En_Ps 2 (pc' := 2) (lv' := [(0, .ref s), (1, .ref a)]) (st' := [.ref a, .ref s]) rfl ?_
  refine En_getI (j := 1) (l := 0) (u := 2) rfl rfl rfl ha (by decide +kernel) hσ0 (by decide +kernel) (fun z2 h1 h3 h4 => ?_)
  refine En_Ps 1 (pc' := 6) (lv' := [(0, .ref s), (1, .ref a)]) (st' := [.ref a, .int z2, .ref s]) rfl ?_
  refine En_getI (j := 2) (l := 0) (u := 50) rfl rfl rfl ha (by decide +kernel) hσ0 (by decide +kernel) (fun z6 h5 h7 h8 => ?_)
  refine En_callV rfl rfl rfl rfl rfl rfl rfl rfl hs (by decide +kernel) rfl (c_12x σ0 hσ0 s hs z2 z6 (geI rfl (by first | exact q_58e6e51dcc h3 | omega)) (leI rfl (by first | exact q_a85463bd0d h4 | omega)) (geI rfl (by first | exact q_58e6e51dcc h7 | omega)) (leI rfl (by first | exact q_2eaa18fab1 h8 | omega)) l hl h_l) (by decide) (by decide) (fun v10 σ11 h9 => ?_)
  obtain ⟨h12, h13, rfl, h14⟩ := h9
  have h15 := h14
  have h16 := Fr_trans hF0 h13 (by decide +kernel)
  refine En_Ps 2 (pc' := 14) (lv' := [(0, .ref s), (1, .ref a)]) (st' := [.ref a, .ref s]) rfl ?_
  refine En_getI (j := 3) (l := (-1)) (u := 3) rfl rfl rfl ha (by decide +kernel) h12 (by decide +kernel) (fun z18 h17 h19 h20 => ?_)
  have h21 := (h15.2.2.2.2 _ _ (by omega) (by omega) (by omega) (by omega)).symm.trans h17
  refine En_put (j := 3) rfl rfl rfl hs (by decide +kernel) rfl (vI (l := (-1)) (u := 3) (by decide +kernel) rfl (by first | exact q_77b189e83d h19 | omega) (by first | exact q_da5e9b976f h20 | omega)) h12 h16 (by decide +kernel) (fun σ22 h23 h24 h25 h26 => ?_)
  refine En_Ps 1 (pc' := 21) (lv' := [(0, .ref s), (1, .ref a)]) (st' := [.ref s]) rfl ?_
  refine En_getK (j := 0) ((h26 _ _ (Or.inr (by decide))).trans ((h13 _ _ (inW hs (by decide +kernel))).trans h_l)) rfl rfl rfl hs (by decide +kernel) ?_
  refine En_Ps 1 (pc' := 25) (lv' := [(0, .ref s), (1, .ref a)]) (st' := [.ref a, .ref l]) rfl ?_
  refine En_getK (j := 0) ((h26 _ _ (Or.inr (by decide))).trans ((h13 _ _ (inW ha (by decide +kernel))).trans h_al)) rfl rfl rfl ha (by decide +kernel) ?_
  obtain ⟨z28, h27, h29, h30⟩ := WT_peekI h23 hal (by decide +kernel : FT 20 2 = (0, 0, 13)) (by decide +kernel)
  refine En_callV rfl rfl rfl rfl rfl rfl rfl rfl hl (by decide +kernel) rfl (c_40x σ22 h23 l hl al hal kn hkn ((h26 _ _ (Or.inr (by decide))).trans ((h13 _ _ (inW hl (by decide +kernel))).trans h_kn)) op hop ((h26 _ _ (Or.inr (by decide))).trans ((h13 _ _ (inW hl (by decide +kernel))).trans h_op)) ak hak ((h26 _ _ (Or.inr (by decide))).trans ((h13 _ _ (inW hal (by decide +kernel))).trans h_ak)) ao hao ((h26 _ _ (Or.inr (by decide))).trans ((h13 _ _ (inW hal (by decide +kernel))).trans h_ao)) z28 h27 (by omega) (by omega) (by omega)) (by decide) (by decide) (fun v32 σ33 h31 => ?_)
  obtain ⟨h34, h35, rfl, h36⟩ := h31
  have h37 := h36
  have h38 := Fr_trans h24 h35 (by decide +kernel)
  exact En_ret (v := none) rfl rfl rfl ⟨h34, h38, rfl, DTF_mk h15 (ci_at (j := 1) h1 rfl) (ci_at (j := 2) h5 rfl) h21 h25 h26 h37 hs1 ht1 hd1⟩
/-- DoorSchool.bit(II)I -/
abbrev P_108ax (σ0 : SG) (a : Int32) (b : Int32) : PO := fun v σ => WT σ ∧ Fr [] σ0 σ ∧ ∃ ret : Int32, v = some (Value.int ret) ∧ -ret.toInt ≤ 0 ∧ ret.toInt - 1 ≤ 0 ∧ ret.toInt = btI a.toInt b.toInt
set_option maxRecDepth 10000 in
set_option maxHeartbeats 4000000 in
theorem c_108ax (σ0 : SG) (hσ0 : WT σ0) (a : Int32) (b : Int32) (hl_a : 0 ≤ a.toInt) (hu_a : a.toInt ≤ 65535) (hl_b : 0 ≤ b.toInt) (hu_b : b.toInt ≤ 15) : En 0 0 none mr_108 (P_108ax σ0 a b) 0 [(0, .int a), (1, .int b)] [] σ0 := by
  have hF0 : Fr [] σ0 σ0 := Fr_rfl
  refine En_Ps 3 (pc' := 3) (lv' := [(0, .int a), (1, .int b)]) (st' := [.int ((a >>> (b &&& 31)))]) rfl ?_
  refine En_nam (fun z1 h2 => ?_)
  have h3 : z1.toInt = a.toInt / pI b.toInt := shr_v h2 rfl rfl (by omega) (by omega)
  refine En_Ps 2 (pc' := 5) (lv' := [(0, .int a), (1, .int b)]) (st' := [.int ((z1 &&& ((Int32.ofInt 1))))]) rfl ?_
  refine En_nam (fun z4 h5 => ?_)
  have h6 : z4.toInt = btI a.toInt b.toInt := bit_v h5 rfl h3 (by decide : (Int32.ofInt 1).toInt = 1) (by omega)
  have := btI_rng a.toInt b.toInt
  exact En_ret (v := some (Value.int z4)) rfl rfl rfl ⟨hσ0, hF0, z4, rfl, ⟨by omega, by omega, (by omega)⟩⟩
/-- DoorSchool.agree(III)Z -/
abbrev P_100ax (σ0 : SG) (a : Int32) (b : Int32) (c : Int32) : PO := fun v σ => WT σ ∧ Fr [] σ0 σ ∧ ∃ ret : Int32, v = some (Value.int ret) ∧ -ret.toInt ≤ 0 ∧ ret.toInt - 1 ≤ 0 ∧ ((ret.toInt = 1 ∧ b.toInt - aN b.toInt a.toInt = 0 ∧ aN c.toInt a.toInt = 0) ∨ (ret.toInt = 0 ∧ (b.toInt - aN b.toInt a.toInt ≠ 0 ∨ aN c.toInt a.toInt ≠ 0)))
set_option maxRecDepth 10000 in
set_option maxHeartbeats 4000000 in
theorem c_100ax (σ0 : SG) (hσ0 : WT σ0) (a : Int32) (b : Int32) (c : Int32) (hl_a : 0 ≤ a.toInt) (hu_a : a.toInt ≤ 65535) (hl_b : 0 ≤ b.toInt) (hu_b : b.toInt ≤ 65535) (hl_c : 0 ≤ c.toInt) (hu_c : c.toInt ≤ 65535) : En 0 0 none mr_100 (P_100ax σ0 a b c) 0 [(0, .int a), (1, .int b), (2, .int c)] [] σ0 := by
  have hF0 : Fr [] σ0 σ0 := Fr_rfl
  refine En_Ps 4 (pc' := 4) (lv' := [(0, .int a), (1, .int b), (2, .int c)]) (st' := [.int ((a ^^^ ((Int32.ofInt (-1))))), .int b]) rfl ?_
  refine En_nam (fun z1 h2 => ?_)
  refine En_Ps 1 (pc' := 5) (lv' := [(0, .int a), (1, .int b), (2, .int c)]) (st' := [.int ((b &&& z1))]) rfl ?_
  refine En_nam (fun z4 h5 => ?_)
  have h6 : z4.toInt = b.toInt - aN b.toInt a.toInt := andn_v h5 h2 rfl rfl (by omega) (by omega)
  have := aN_le (X := b.toInt) (Y := a.toInt) (by omega) (by omega)
  refine En_iNe _ rfl rfl (fun h7 => ?_) (fun h7 => ?_)
  · refine En_Ps 1 (pc' := 19) (lv' := [(0, .int a), (1, .int b), (2, .int c)]) (st' := [.int ((Int32.ofInt 0))]) rfl ?_
    refine En_top (by decide : (Int32.ofInt 0).toInt = 0) (fun z8 h9 => ?_)
    exact En_ret (v := some (Value.int z8)) rfl rfl (retZ rfl rfl (by first | exact q_55451d0a83 h9 | omega) (by first | exact q_87849c3859 h9 | omega)) ⟨hσ0, hF0, z8, rfl, ⟨by first | exact q_097a37c2ae h9 | omega, by first | exact q_e269517bee h9 | omega, (by omega)⟩⟩
  · obtain ⟨h10, h11⟩ := andn_zero h5 h2 h7 rfl rfl (by omega)
    refine En_Ps 3 (pc' := 11) (lv' := [(0, .int a), (1, .int b), (2, .int c)]) (st' := [.int ((c &&& a))]) rfl ?_
    refine En_nam (fun z12 h13 => ?_)
    have h14 : z12.toInt = aN c.toInt a.toInt := and_v h13 rfl rfl (by omega) (by omega)
    have := aN_le (X := c.toInt) (Y := a.toInt) (by omega) (by omega)
    refine En_iNe _ rfl rfl (fun h15 => ?_) (fun h15 => ?_)
    · refine En_Ps 1 (pc' := 19) (lv' := [(0, .int a), (1, .int b), (2, .int c)]) (st' := [.int ((Int32.ofInt 0))]) rfl ?_
      refine En_top (by decide : (Int32.ofInt 0).toInt = 0) (fun z16 h17 => ?_)
      exact En_ret (v := some (Value.int z16)) rfl rfl (retZ rfl rfl (by first | exact q_55451d0a83 h17 | omega) (by first | exact q_87849c3859 h17 | omega)) ⟨hσ0, hF0, z16, rfl, ⟨by first | exact q_097a37c2ae h17 | omega, by first | exact q_e269517bee h17 | omega, (by omega)⟩⟩
    · refine En_Ps 2 (pc' := 19) (lv' := [(0, .int a), (1, .int b), (2, .int c)]) (st' := [.int ((Int32.ofInt 1))]) rfl ?_
      refine En_top (by decide : (Int32.ofInt 1).toInt = 1) (fun z18 h19 => ?_)
      exact En_ret (v := some (Value.int z18)) rfl rfl (retZ rfl rfl (by first | exact q_2b07c97645 h19 | omega) (by first | exact q_d9e7cbb253 h19 | omega)) ⟨hσ0, hF0, z18, rfl, ⟨by first | exact q_ad3eee31ca h19 | omega, by first | exact q_81cf297dc4 h19 | omega, (by omega)⟩⟩
/-- DoorSchool$Rules.first(II)I -/
abbrev P_78x (σ0 : SG) (a : Int32) (b : Int32) (rz : Int32) : PO := fun v σ => WT σ ∧ Fr [] σ0 σ ∧ ∃ ret : Int32, v = some (Value.int ret) ∧ -ret.toInt - 1 ≤ 0 ∧ ret.toInt - 80 ≤ 0 ∧ ret.toInt = FIR (fun i => AGP (ci σ0 7 i) a.toInt b.toInt) rz.toInt.toNat
set_option maxRecDepth 10000 in
set_option maxHeartbeats 4000000 in
theorem c_78x (σ0 : SG) (hσ0 : WT σ0) (a : Int32) (b : Int32) (hl_a : 0 ≤ a.toInt) (hu_a : a.toInt ≤ 65535) (hl_b : 0 ≤ b.toInt) (hu_b : b.toInt ≤ 65535) (rz : Int32) (h_rz : (σ0 4)[1]? = some (Value.int rz)) (hD : ∀ i : Int, 0 ≤ i → i < rz.toInt → 0 ≤ ci σ0 7 i ∧ ci σ0 7 i ≤ 65535) : En 1 22 none mr_78 (P_78x σ0 a b rz) 0 [(0, .ref 4), (1, .int a), (2, .int b)] [] σ0 := by
  obtain ⟨hl_rz, hu_rz⟩ := WT_int hσ0 (g := 4) (by decide +kernel) (by decide +kernel) (l := 0) (u := 81) (by decide +kernel) h_rz
  have hF0 : Fr [] σ0 σ0 := Fr_rfl
  refine En_Ps 2 (pc' := 2) (lv' := [(3, .int ((Int32.ofInt 0))), (0, .ref 4), (1, .int a), (2, .int b)]) (st' := []) rfl ?_
  have key2 : ∀ (n2 : Nat) (y1 : Int32), 0 ≤ y1.toInt → y1.toInt ≤ 81 → y1.toInt - rz.toInt ≤ 0 → rz.toInt - y1.toInt < (n2 : Int) → NOP (fun i => AGP (ci σ0 7 i) a.toInt b.toInt) y1.toInt → En 1 22 none mr_78 (P_78x σ0 a b rz) 2 [(0, .ref 4), (1, .int a), (2, .int b), (3, .int y1)] [] σ0 := by
    intro n2
    induction n2 with
    | zero =>
      intro y1 h5 h6 h7 h8 h9
      first | exact (q_14257feae7 h7 h8).elim | (exfalso; omega)
    | succ n2 ih2 =>
      intro y1 h5 h6 h7 h8 h9
      refine En_Ps 2 (pc' := 4) (lv' := [(0, .ref 4), (1, .int a), (2, .int b), (3, .int y1)]) (st' := [.ref 4, .int y1]) rfl ?_
      refine En_getK (j := 1) h_rz rfl rfl rfl tgz_4 (by decide +kernel) ?_
      refine En_icGe _ rfl rfl rfl (fun h10 => ?_) (fun h10 => ?_)
      · refine En_Ps 1 (pc' := 33) (lv' := [(0, .ref 4), (1, .int a), (2, .int b), (3, .int y1)]) (st' := [.int ((Int32.ofInt (-1)))]) rfl ?_
        refine En_top (by decide : (Int32.ofInt (-1)).toInt = -1) (fun z11 h12 => ?_)
        exact En_ret (v := some (Value.int z11)) rfl rfl rfl ⟨hσ0, hF0, z11, rfl, ⟨by first | exact q_6ba54b61e9 h12 | omega, by first | exact q_ed1bd306dd h12 | omega, NOP_n h9 (by omega) (by omega) (by omega)⟩⟩
      · refine En_Ps 1 (pc' := 11) (lv' := [(0, .ref 4), (1, .int a), (2, .int b), (3, .int y1)]) (st' := [.ref 4]) rfl ?_
        refine En_getU (j := 4) (u := 7) (g' := 7) (q := 0) rfl rfl rfl tgz_4 (by decide +kernel) hσ0 (by decide +kernel) un_7_7 (fun h13 => ?_)
        refine En_Ps 1 (pc' := 15) (lv' := [(0, .ref 4), (1, .int a), (2, .int b), (3, .int y1)]) (st' := [.int y1, .ref 7]) rfl ?_
        refine En_iald (l := (-2147483648)) (u := 2147483647) rfl rfl tgz_7 (by decide +kernel) hσ0 (by first | exact q_58e6e51dcc h5 | omega) (lnI (by decide +kernel : LN _ = 81) (by first | exact q_a0e855914a h10 hu_rz | omega)) (FTsgl (by decide +kernel)) (fun z16 h15 h17 h18 => ?_)
        have h19 : ci σ0 7 (y1.toInt) = z16.toInt := ci_at h15 rfl
        have h20 := hD y1.toInt (by omega) (by omega)
        refine En_Ps 2 (pc' := 18) (lv' := [(0, .ref 4), (1, .int a), (2, .int b), (3, .int y1)]) (st' := [.int b, .int a, .int z16]) rfl ?_
        refine En_callS rfl rfl rfl rfl rfl rfl rfl rfl rfl (c_100ax σ0 hσ0 z16 a b (geI rfl (by omega)) (leI rfl (by omega)) (geI rfl (by first | exact q_58e6e51dcc hl_a | omega)) (leI rfl (by first | exact q_36eb0a70bf hu_a | omega)) (geI rfl (by first | exact q_58e6e51dcc hl_b | omega)) (leI rfl (by first | exact q_36eb0a70bf hu_b | omega))) (by decide) (by decide) (fun v22 σ23 h21 => ?_)
        obtain ⟨h24, h25, z27, rfl, h26⟩ := h21
        have h28 := h26.2.2
        obtain rfl : σ0 = σ23 := Fr_nil h25
        refine En_iEq _ rfl rfl (fun h29 => ?_) (fun h29 => ?_)
        · refine En_Ps 1 (pc' := 29) (lv' := [(3, .int ((y1 + Int32.ofInt 1))), (0, .ref 4), (1, .int a), (2, .int b)]) (st' := []) rfl ?_
          refine En_lv1 (addI rfl (by decide : (Int32.ofInt 1).toInt = 1) (by first | exact q_465ab79ac1 h5 | omega) (by first | exact q_d778ff18c8 h6 | omega)) (fun z30 h31 => ?_)
          refine En_Ps 1 (pc' := 2) (lv' := [(3, .int z30), (0, .ref 4), (1, .int a), (2, .int b)]) (st' := []) rfl ?_
          refine En_lv (lv := [(0, .ref 4), (1, .int a), (2, .int b), (3, .int z30)]) ⟨rfl, rfl, rfl, rfl, trivial⟩ ?_
          exact ih2 z30 (by first | exact q_35104ce9d3 h31 h5 | omega) (by first | exact q_798b104d48 h31 h10 hu_rz | omega) (by first | exact q_ae2dbf4292 h10 h31 | omega) (by first | exact q_8d03a5a7cb h31 h8 | omega) (NOP_s h9 (AGP_no h19 (by omega)) (by omega))
        · refine En_Ps 1 (pc' := 25) (lv' := [(0, .ref 4), (1, .int a), (2, .int b), (3, .int y1)]) (st' := [.int y1]) rfl ?_
          exact En_ret (v := some (Value.int y1)) rfl rfl rfl ⟨hσ0, hF0, y1, rfl, ⟨by first | exact q_565e7b05df h5 | omega, by first | exact q_6b56ae27a7 h10 hu_rz | omega, NOP_y h9 (by omega) (AGP_of h19 (by omega) (by omega)) (by omega) (by omega)⟩⟩
  have := (by decide : (Int32.ofInt 0).toInt = 0)
  refine En_lv (lv := [(0, .ref 4), (1, .int a), (2, .int b), (3, .int ((Int32.ofInt 0)))]) ⟨rfl, rfl, rfl, rfl, trivial⟩ ?_
  exact key2 (Int.toNat (rz.toInt) + 1) ((Int32.ofInt 0)) (by decide) (by decide) (by omega) (by first | exact toN_lt _ | omega) (NOP_0 (by omega))
/-- DoorSchool$Lessons.said(I)I -/
abbrev P_39x (σ0 : SG) (s : Nat) (a : Int32) (kn : Nat) (op : Nat) (sz : Int32) : PO := fun v σ => WT σ ∧ Fr [] σ0 σ ∧ ∃ ret : Int32, v = some (Value.int ret) ∧ -ret.toInt ≤ 0 ∧ ret.toInt - 65535 ≤ 0 ∧ ret.toInt = SAI (ci σ0 kn) (ci σ0 op) a.toInt sz.toInt.toNat
set_option maxRecDepth 10000 in
set_option maxHeartbeats 4000000 in
theorem c_39x (σ0 : SG) (hσ0 : WT σ0) (s : Nat) (hs : TG s = 20) (a : Int32) (kn : Nat) (hkn : TG kn = 21) (h_kn : (σ0 s)[0]? = some (Value.ref kn)) (op : Nat) (hop : TG op = 22) (h_op : (σ0 s)[1]? = some (Value.ref op)) (sz : Int32) (h_sz : (σ0 s)[2]? = some (Value.int sz)) : En 0 0 none mr_39 (P_39x σ0 s a kn op sz) 0 [(0, .ref s), (1, .int a)] [] σ0 := by
  obtain ⟨hl_sz, hu_sz⟩ := WT_int hσ0 (g := 20) hs (by decide +kernel) (l := 0) (u := 13) (by decide +kernel) h_sz
  have hF0 : Fr [] σ0 σ0 := Fr_rfl
  refine En_Ps 4 (pc' := 4) (lv' := [(3, .int ((Int32.ofInt 0))), (2, .int ((Int32.ofInt 0))), (0, .ref s), (1, .int a)]) (st' := []) rfl ?_
  have key4 : ∀ (n4 : Nat) (y1 : Int32) (y2 : Int32), 0 ≤ y1.toInt → y1.toInt ≤ 65535 → 0 ≤ y2.toInt → y2.toInt ≤ 13 → y2.toInt - sz.toInt ≤ 0 → sz.toInt - y2.toInt < (n4 : Int) → y1.toInt = SAI (ci σ0 kn) (ci σ0 op) a.toInt (y2.toInt).toNat → En 0 0 none mr_39 (P_39x σ0 s a kn op sz) 4 [(0, .ref s), (1, .int a), (2, .int y1), (3, .int y2)] [] σ0 := by
    intro n4
    induction n4 with
    | zero =>
      intro y1 y2 h6 h7 h8 h9 h10 h11 h12
      first | exact (q_14257feae7 h10 h11).elim | (exfalso; omega)
    | succ n4 ih4 =>
      intro y1 y2 h6 h7 h8 h9 h10 h11 h12
      refine En_Ps 2 (pc' := 6) (lv' := [(0, .ref s), (1, .int a), (2, .int y1), (3, .int y2)]) (st' := [.ref s, .int y2]) rfl ?_
      refine En_getK (j := 2) h_sz rfl rfl rfl hs (by decide +kernel) ?_
      refine En_icGe _ rfl rfl rfl (fun h13 => ?_) (fun h13 => ?_)
      · refine En_Ps 1 (pc' := 40) (lv' := [(0, .ref s), (1, .int a), (2, .int y1), (3, .int y2)]) (st' := [.int y1]) rfl ?_
        exact En_ret (v := some (Value.int y1)) rfl rfl rfl ⟨hσ0, hF0, y1, rfl, ⟨by first | exact q_c803b490ef h6 | omega, by first | exact q_e7edf0f95a h7 | omega, SAI_e h12 (by omega) (by omega)⟩⟩
      · refine En_Ps 1 (pc' := 13) (lv' := [(0, .ref s), (1, .int a), (2, .int y1), (3, .int y2)]) (st' := [.ref s]) rfl ?_
        refine En_getK (j := 1) h_op rfl rfl rfl hs (by decide +kernel) ?_
        refine En_Ps 1 (pc' := 17) (lv' := [(0, .ref s), (1, .int a), (2, .int y1), (3, .int y2)]) (st' := [.int y2, .ref op]) rfl ?_
        refine En_iald (l := 0) (u := 1) rfl rfl hop (by decide +kernel) hσ0 (by first | exact q_58e6e51dcc h8 | omega) (lnI (by decide +kernel : LN _ = 13) (by first | exact q_314deb8953 h13 hu_sz | omega)) (FTsgl (by decide +kernel)) (fun z15 h14 h16 h17 => ?_)
        have h18 : ci σ0 op (y2.toInt) = z15.toInt := ci_at h14 rfl
        refine En_Ps 1 (pc' := 19) (lv' := [(0, .ref s), (1, .int a), (2, .int y1), (3, .int y2)]) (st' := [.int a, .int z15]) rfl ?_
        refine En_icNe _ rfl rfl rfl (fun h19 => ?_) (fun h19 => ?_)
        · refine En_Ps 1 (pc' := 36) (lv' := [(3, .int ((y2 + Int32.ofInt 1))), (0, .ref s), (1, .int a), (2, .int y1)]) (st' := []) rfl ?_
          refine En_lv1 (addI rfl (by decide : (Int32.ofInt 1).toInt = 1) (by first | exact q_465ab79ac1 h8 | omega) (by first | exact q_d22f73d43b h9 | omega)) (fun z20 h21 => ?_)
          refine En_Ps 1 (pc' := 4) (lv' := [(3, .int z20), (0, .ref s), (1, .int a), (2, .int y1)]) (st' := []) rfl ?_
          refine En_lv (lv := [(0, .ref s), (1, .int a), (2, .int y1), (3, .int z20)]) ⟨rfl, rfl, rfl, rfl, trivial⟩ ?_
          exact ih4 y1 z20 (by first | exact q_58e6e51dcc h6 | omega) (by first | exact q_36eb0a70bf h7 | omega) (by first | exact q_35104ce9d3 h21 h8 | omega) (by first | exact q_96e029a9d9 h21 h13 hu_sz | omega) (by first | exact q_ae2dbf4292 h13 h21 | omega) (by first | exact q_8d03a5a7cb h21 h11 | omega) (SAI_n (by omega) h12 (by omega) (by omega) (by omega))
        · refine En_Ps 3 (pc' := 25) (lv' := [(0, .ref s), (1, .int a), (2, .int y1), (3, .int y2)]) (st' := [.ref s, .int ((Int32.ofInt 1)), .int y1]) rfl ?_
          refine En_getK (j := 0) h_kn rfl rfl rfl hs (by decide +kernel) ?_
          refine En_Ps 1 (pc' := 29) (lv' := [(0, .ref s), (1, .int a), (2, .int y1), (3, .int y2)]) (st' := [.int y2, .ref kn, .int ((Int32.ofInt 1)), .int y1]) rfl ?_
          refine En_iald (l := 0) (u := 15) rfl rfl hkn (by decide +kernel) hσ0 (by first | exact q_58e6e51dcc h8 | omega) (lnI (by decide +kernel : LN _ = 13) (by first | exact q_314deb8953 h13 hu_sz | omega)) (FTsgl (by decide +kernel)) (fun z23 h22 h24 h25 => ?_)
          have h26 : ci σ0 kn (y2.toInt) = z23.toInt := ci_at h22 rfl
          refine En_Ps 1 (pc' := 31) (lv' := [(0, .ref s), (1, .int a), (2, .int y1), (3, .int y2)]) (st' := [.int ((((Int32.ofInt 1)) <<< (z23 &&& 31))), .int y1]) rfl ?_
          refine En_nam (fun z27 h28 => ?_)
          have h29 : z27.toInt = pI z23.toInt := shl_v h28 rfl (by omega) (by omega)
          have := pI_pos z23.toInt
          have : pI z23.toInt ≤ 32768 := pI_mono (Y := 15) (by omega)
          refine En_Ps 1 (pc' := 32) (lv' := [(0, .ref s), (1, .int a), (2, .int y1), (3, .int y2)]) (st' := [.int ((y1 ||| z27))]) rfl ?_
          refine En_nam (fun z30 h31 => ?_)
          have h32 : z30.toInt = oN y1.toInt z27.toInt := or_v h31 rfl rfl (by omega) (by omega)
          have := oN_lt (X := y1.toInt) (Y := z27.toInt) 16 (by omega) (by omega) (Int.lt_of_le_of_lt (by omega : _ ≤ (65535 : Int)) (by decide)) (Int.lt_of_le_of_lt (by omega : _ ≤ (65535 : Int)) (by decide))
          have two16 : ((2 ^ 16 : Nat) : Int) = 65536 := by decide
          refine En_Ps 2 (pc' := 36) (lv' := [(3, .int ((y2 + Int32.ofInt 1))), (2, .int z30), (0, .ref s), (1, .int a)]) (st' := []) rfl ?_
          refine En_lv1 (addI rfl (by decide : (Int32.ofInt 1).toInt = 1) (by first | exact q_465ab79ac1 h8 | omega) (by first | exact q_d22f73d43b h9 | omega)) (fun z33 h34 => ?_)
          refine En_Ps 1 (pc' := 4) (lv' := [(3, .int z33), (2, .int z30), (0, .ref s), (1, .int a)]) (st' := []) rfl ?_
          refine En_lv (lv := [(0, .ref s), (1, .int a), (2, .int z30), (3, .int z33)]) ⟨rfl, rfl, rfl, rfl, trivial⟩ ?_
          exact ih4 z30 z33 (by omega) (by omega) (by first | exact q_35104ce9d3 h34 h8 | omega) (by first | exact q_96e029a9d9 h34 h13 hu_sz | omega) (by first | exact q_ae2dbf4292 h13 h34 | omega) (by first | exact q_8d03a5a7cb h34 h11 | omega) (SAI_y (q := z27.toInt) (by omega) h12 (by omega) h26 (by omega) (by omega) (by omega))
  have := (by decide : (Int32.ofInt 0).toInt = 0)
  have := (by decide : (Int32.ofInt 0).toInt = 0)
  refine En_lv (lv := [(0, .ref s), (1, .int a), (2, .int ((Int32.ofInt 0))), (3, .int ((Int32.ofInt 0)))]) ⟨rfl, rfl, rfl, rfl, trivial⟩ ?_
  exact key4 (Int.toNat (sz.toInt) + 1) ((Int32.ofInt 0)) ((Int32.ofInt 0)) (by decide) (by decide) (by decide) (by decide) (by omega) (by first | exact toN_lt _ | omega) (SAI_0 (by omega) (by omega))
/-- DoorSchool$Lessons.latestOf(I)I -/
abbrev P_36x (σ0 : SG) (s : Nat) (a : Int32) (kn : Nat) (op : Nat) (sz : Int32) : PO := fun v σ => WT σ ∧ Fr [] σ0 σ ∧ ∃ ret : Int32, v = some (Value.int ret) ∧ -ret.toInt - 1 ≤ 0 ∧ ret.toInt - 12 ≤ 0 ∧ ret.toInt = LAT (ci σ0 kn) a.toInt sz.toInt.toNat
set_option maxRecDepth 10000 in
set_option maxHeartbeats 4000000 in
theorem c_36x (σ0 : SG) (hσ0 : WT σ0) (s : Nat) (hs : TG s = 20) (a : Int32) (kn : Nat) (hkn : TG kn = 21) (h_kn : (σ0 s)[0]? = some (Value.ref kn)) (op : Nat) (hop : TG op = 22) (h_op : (σ0 s)[1]? = some (Value.ref op)) (sz : Int32) (h_sz : (σ0 s)[2]? = some (Value.int sz)) : En 0 0 none mr_36 (P_36x σ0 s a kn op sz) 0 [(0, .ref s), (1, .int a)] [] σ0 := by
  obtain ⟨hl_sz, hu_sz⟩ := WT_int hσ0 (g := 20) hs (by decide +kernel) (l := 0) (u := 13) (by decide +kernel) h_sz
  have hF0 : Fr [] σ0 σ0 := Fr_rfl
  refine En_Ps 1 (pc' := 1) (lv' := [(0, .ref s), (1, .int a)]) (st' := [.ref s]) rfl ?_
  refine En_getK (j := 2) h_sz rfl rfl rfl hs (by decide +kernel) ?_
  refine En_Ps 2 (pc' := 6) (lv' := [(0, .ref s), (1, .int a)]) (st' := [.int ((sz - ((Int32.ofInt 1))))]) rfl ?_
  refine En_top (subI rfl (by decide : (Int32.ofInt 1).toInt = 1) (by first | exact q_93f9478bef hl_sz | omega) (by first | exact q_36ce509e97 hu_sz | omega)) (fun z1 h2 => ?_)
  refine En_Ps 1 (pc' := 7) (lv' := [(2, .int z1), (0, .ref s), (1, .int a)]) (st' := []) rfl ?_
  have key7 : ∀ (n7 : Nat) (y3 : Int32), (-1) ≤ y3.toInt → y3.toInt ≤ 12 → y3.toInt - sz.toInt + 1 ≤ 0 → y3.toInt + 1 < (n7 : Int) → LTI (ci σ0 kn) a.toInt y3.toInt sz.toInt → En 0 0 none mr_36 (P_36x σ0 s a kn op sz) 7 [(0, .ref s), (1, .int a), (2, .int y3)] [] σ0 := by
    intro n7
    induction n7 with
    | zero =>
      intro y3 h7 h8 h9 h10 h11
      first | exact (q_d30ca37d8c h7 h10).elim | (exfalso; omega)
    | succ n7 ih7 =>
      intro y3 h7 h8 h9 h10 h11
      refine En_Ps 1 (pc' := 8) (lv' := [(0, .ref s), (1, .int a), (2, .int y3)]) (st' := [.int y3]) rfl ?_
      refine En_iLt _ rfl rfl (fun h12 => ?_) (fun h12 => ?_)
      · refine En_Ps 1 (pc' := 30) (lv' := [(0, .ref s), (1, .int a), (2, .int y3)]) (st' := [.int ((Int32.ofInt (-1)))]) rfl ?_
        refine En_top (by decide : (Int32.ofInt (-1)).toInt = -1) (fun z13 h14 => ?_)
        exact En_ret (v := some (Value.int z13)) rfl rfl rfl ⟨hσ0, hF0, z13, rfl, ⟨by first | exact q_6ba54b61e9 h14 | omega, by first | exact q_af8bea0708 h14 | omega, LAT_n h11 (by omega) (by omega) (by omega)⟩⟩
      · refine En_Ps 1 (pc' := 12) (lv' := [(0, .ref s), (1, .int a), (2, .int y3)]) (st' := [.ref s]) rfl ?_
        refine En_getK (j := 0) h_kn rfl rfl rfl hs (by decide +kernel) ?_
        refine En_Ps 1 (pc' := 16) (lv' := [(0, .ref s), (1, .int a), (2, .int y3)]) (st' := [.int y3, .ref kn]) rfl ?_
        refine En_iald (l := 0) (u := 15) rfl rfl hkn (by decide +kernel) hσ0 (by first | exact q_58e6e51dcc h12 | omega) (lnI (by decide +kernel : LN _ = 13) (by first | exact q_eca5b91a1e h8 | omega)) (FTsgl (by decide +kernel)) (fun z16 h15 h17 h18 => ?_)
        have h19 : ci σ0 kn (y3.toInt) = z16.toInt := ci_at h15 rfl
        refine En_Ps 1 (pc' := 18) (lv' := [(0, .ref s), (1, .int a), (2, .int y3)]) (st' := [.int a, .int z16]) rfl ?_
        refine En_icNe _ rfl rfl rfl (fun h20 => ?_) (fun h20 => ?_)
        · refine En_Ps 1 (pc' := 26) (lv' := [(2, .int ((y3 + Int32.ofInt (-1)))), (0, .ref s), (1, .int a)]) (st' := []) rfl ?_
          refine En_lv1 (addI rfl (by decide : (Int32.ofInt (-1)).toInt = -1) (by first | exact q_069e58d060 h12 | omega) (by first | exact q_22df3f42b4 h8 | omega)) (fun z21 h22 => ?_)
          refine En_Ps 1 (pc' := 7) (lv' := [(2, .int z21), (0, .ref s), (1, .int a)]) (st' := []) rfl ?_
          refine En_lv (lv := [(0, .ref s), (1, .int a), (2, .int z21)]) ⟨rfl, rfl, rfl, trivial⟩ ?_
          exact ih7 z21 (by first | exact q_1dc8c15c2b h22 h12 | omega) (by first | exact q_bf87cd541d h22 h8 | omega) (by first | exact q_ad24c9502e h9 h22 | omega) (by first | exact q_03fcbe2dc3 h22 h10 | omega) (LTI_s h11 (by omega) (by omega))
        · refine En_Ps 1 (pc' := 22) (lv' := [(0, .ref s), (1, .int a), (2, .int y3)]) (st' := [.int y3]) rfl ?_
          exact En_ret (v := some (Value.int y3)) rfl rfl rfl ⟨hσ0, hF0, y3, rfl, ⟨by first | exact q_565e7b05df h12 | omega, by first | exact q_16c941e15c h8 | omega, LAT_y h11 (by omega) (by omega) (by omega) (by omega)⟩⟩
  refine En_lv (lv := [(0, .ref s), (1, .int a), (2, .int z1)]) ⟨rfl, rfl, rfl, trivial⟩ ?_
  exact key7 (Int.toNat (z1.toInt + 1) + 1) z1 (by first | exact q_e2c277696c h2 hl_sz | omega) (by first | exact q_c1a695b5f4 h2 hu_sz | omega) (by first | exact q_8e6f8e4fd9 h2 | omega) (by first | exact toN_lt _ | omega) (LTI_0 (by omega))
/-- DoorSchool$Lessons.nearestTo(I)I -/
abbrev P_37x (σ0 : SG) (s : Nat) (a : Int32) (kn : Nat) (op : Nat) (sz : Int32) : PO := fun v σ => WT σ ∧ Fr [] σ0 σ ∧ ∃ ret : Int32, v = some (Value.int ret) ∧ -ret.toInt - 1 ≤ 0 ∧ ret.toInt - 12 ≤ 0 ∧ ret.toInt = NER (ci σ0 kn) a.toInt sz.toInt.toNat
set_option maxRecDepth 10000 in
set_option maxHeartbeats 4000000 in
theorem c_37x (σ0 : SG) (hσ0 : WT σ0) (s : Nat) (hs : TG s = 20) (a : Int32) (hl_a : 0 ≤ a.toInt) (hu_a : a.toInt ≤ 15) (kn : Nat) (hkn : TG kn = 21) (h_kn : (σ0 s)[0]? = some (Value.ref kn)) (op : Nat) (hop : TG op = 22) (h_op : (σ0 s)[1]? = some (Value.ref op)) (sz : Int32) (h_sz : (σ0 s)[2]? = some (Value.int sz)) : En 1 20 none mr_37 (P_37x σ0 s a kn op sz) 0 [(0, .ref s), (1, .int a)] [] σ0 := by
  obtain ⟨hl_sz, hu_sz⟩ := WT_int hσ0 (g := 20) hs (by decide +kernel) (l := 0) (u := 13) (by decide +kernel) h_sz
  have hF0 : Fr [] σ0 σ0 := Fr_rfl
  refine En_Ps 6 (pc' := 7) (lv' := [(4, .int ((Int32.ofInt 0))), (3, .int ((Int32.ofInt 5))), (2, .int ((Int32.ofInt (-1)))), (0, .ref s), (1, .int a)]) (st' := []) rfl ?_
  have key7 : ∀ (n7 : Nat) (y1 : Int32) (y2 : Int32) (y3 : Int32), (-1) ≤ y1.toInt → y1.toInt ≤ 12 → 0 ≤ y2.toInt → y2.toInt ≤ 5 → 0 ≤ y3.toInt → y3.toInt ≤ 13 → y3.toInt - sz.toInt ≤ 0 → y1.toInt - y3.toInt + 1 ≤ 0 → sz.toInt - y3.toInt < (n7 : Int) → NEC (ci σ0 kn) a.toInt y3.toInt y1.toInt y2.toInt → En 1 20 none mr_37 (P_37x σ0 s a kn op sz) 7 [(0, .ref s), (1, .int a), (2, .int y1), (3, .int y2), (4, .int y3)] [] σ0 := by
    intro n7
    induction n7 with
    | zero =>
      intro y1 y2 y3 h7 h8 h9 h10 h11 h12 h13 h14 h15 h16
      first | exact (q_14257feae7 h13 h15).elim | (exfalso; omega)
    | succ n7 ih7 =>
      intro y1 y2 y3 h7 h8 h9 h10 h11 h12 h13 h14 h15 h16
      refine En_Ps 2 (pc' := 10) (lv' := [(0, .ref s), (1, .int a), (2, .int y1), (3, .int y2), (4, .int y3)]) (st' := [.ref s, .int y3]) rfl ?_
      refine En_getK (j := 2) h_sz rfl rfl rfl hs (by decide +kernel) ?_
      refine En_icGe _ rfl rfl rfl (fun h17 => ?_) (fun h17 => ?_)
      · refine En_Ps 1 (pc' := 49) (lv' := [(0, .ref s), (1, .int a), (2, .int y1), (3, .int y2), (4, .int y3)]) (st' := [.int y1]) rfl ?_
        exact En_ret (v := some (Value.int y1)) rfl rfl rfl ⟨hσ0, hF0, y1, rfl, ⟨by first | exact q_909eef6c0e h7 | omega, by first | exact q_16c941e15c h8 | omega, NER_e h16.1 (by omega) (by omega)⟩⟩
      · refine En_Ps 1 (pc' := 17) (lv' := [(0, .ref s), (1, .int a), (2, .int y1), (3, .int y2), (4, .int y3)]) (st' := [.ref s]) rfl ?_
        refine En_getK (j := 0) h_kn rfl rfl rfl hs (by decide +kernel) ?_
        refine En_Ps 1 (pc' := 22) (lv' := [(0, .ref s), (1, .int a), (2, .int y1), (3, .int y2), (4, .int y3)]) (st' := [.int y3, .ref kn]) rfl ?_
        refine En_iald (l := 0) (u := 15) rfl rfl hkn (by decide +kernel) hσ0 (by first | exact q_58e6e51dcc h11 | omega) (lnI (by decide +kernel : LN _ = 13) (by first | exact q_314deb8953 h17 hu_sz | omega)) (FTsgl (by decide +kernel)) (fun z19 h18 h20 h21 => ?_)
        have h22 : ci σ0 kn (y3.toInt) = z19.toInt := ci_at h18 rfl
        refine En_Ps 2 (pc' := 25) (lv' := [(0, .ref s), (1, .int a), (2, .int y1), (3, .int y2), (4, .int y3)]) (st' := [.int ((z19 ^^^ a))]) rfl ?_
        refine En_nam (fun z23 h24 => ?_)
        have h25 : z23.toInt = xN z19.toInt a.toInt := xor_v h24 rfl rfl (by omega) (by omega)
        have := xN_lt (X := z19.toInt) (Y := a.toInt) 4 (by omega) (by omega) (Int.lt_of_le_of_lt (by omega : _ ≤ (15 : Int)) (by decide)) (Int.lt_of_le_of_lt (by omega : _ ≤ (15 : Int)) (by decide))
        have two4 : ((2 ^ 4 : Nat) : Int) = 16 := by decide
        refine En_callS rfl rfl rfl rfl rfl rfl rfl rfl rfl (c_7ax σ0 hσ0 z23 (geI rfl (by omega)) (leI rfl (by omega))) (by decide) (by decide) (fun v27 σ28 h26 => ?_)
        obtain ⟨h29, h30, z32, rfl, h31⟩ := h26
        have h33 := h31.2.2
        obtain rfl : σ0 = σ28 := Fr_nil h30
        refine En_Ps 3 (pc' := 33) (lv' := [(5, .int z32), (0, .ref s), (1, .int a), (2, .int y1), (3, .int y2), (4, .int y3)]) (st' := [.int y2, .int z32]) rfl ?_
        refine En_icGe _ rfl rfl rfl (fun h34 => ?_) (fun h34 => ?_)
        · refine En_Ps 1 (pc' := 45) (lv' := [(4, .int ((y3 + Int32.ofInt 1))), (5, .int z32), (0, .ref s), (1, .int a), (2, .int y1), (3, .int y2)]) (st' := []) rfl ?_
          refine En_lv1 (addI rfl (by decide : (Int32.ofInt 1).toInt = 1) (by first | exact q_465ab79ac1 h11 | omega) (by first | exact q_d22f73d43b h12 | omega)) (fun z35 h36 => ?_)
          refine En_Ps 1 (pc' := 7) (lv' := [(4, .int z35), (5, .int z32), (0, .ref s), (1, .int a), (2, .int y1), (3, .int y2)]) (st' := []) rfl ?_
          refine En_lv (lv := [(0, .ref s), (1, .int a), (2, .int y1), (3, .int y2), (4, .int z35)]) ⟨rfl, rfl, rfl, rfl, rfl, trivial⟩ ?_
          exact ih7 y1 y2 z35 (by first | exact q_77b189e83d h7 | omega) (by first | exact q_7c77837619 h8 | omega) (by first | exact q_58e6e51dcc h9 | omega) (by first | exact q_d9092b5ca1 h10 | omega) (by first | exact q_35104ce9d3 h36 h11 | omega) (by first | exact q_96e029a9d9 h36 h17 hu_sz | omega) (by first | exact q_ae2dbf4292 h17 h36 | omega) (by first | exact q_6591527e3e h14 h36 | omega) (by first | exact q_8d03a5a7cb h36 h15 | omega) ((by first | exact NEC_y (q := z23.toInt) (u := z32.toInt) h16 (by omega) h22 (by omega) (by omega) (by omega) (by omega) (by omega) (by omega) | exact NEC_n (q := z23.toInt) (u := z32.toInt) h16 (by omega) h22 (by omega) (by omega) (by omega) (by omega) (by omega) (by omega)))
        · refine En_Ps 5 (pc' := 45) (lv' := [(4, .int ((y3 + Int32.ofInt 1))), (2, .int y3), (3, .int z32), (5, .int z32), (0, .ref s), (1, .int a)]) (st' := []) rfl ?_
          refine En_lv1 (addI rfl (by decide : (Int32.ofInt 1).toInt = 1) (by first | exact q_465ab79ac1 h11 | omega) (by first | exact q_d22f73d43b h12 | omega)) (fun z37 h38 => ?_)
          refine En_Ps 1 (pc' := 7) (lv' := [(4, .int z37), (2, .int y3), (3, .int z32), (5, .int z32), (0, .ref s), (1, .int a)]) (st' := []) rfl ?_
          refine En_lv (lv := [(0, .ref s), (1, .int a), (2, .int y3), (3, .int z32), (4, .int z37)]) ⟨rfl, rfl, rfl, rfl, rfl, trivial⟩ ?_
          exact ih7 y3 z32 z37 (by first | exact q_5b439548fc h11 | omega) (by first | exact q_e87ca26de6 h17 hu_sz | omega) (by first | exact q_ef1e8e38bf h31.1 | omega) (by first | exact q_e0818437e3 h31.2.1 | omega) (by first | exact q_35104ce9d3 h38 h11 | omega) (by first | exact q_96e029a9d9 h38 h17 hu_sz | omega) (by first | exact q_ae2dbf4292 h17 h38 | omega) (by first | exact q_2fedec469a h38 | omega) (by first | exact q_8d03a5a7cb h38 h15 | omega) ((by first | exact NEC_y (q := z23.toInt) (u := z32.toInt) h16 (by omega) h22 (by omega) (by omega) (by omega) (by omega) (by omega) (by omega) | exact NEC_n (q := z23.toInt) (u := z32.toInt) h16 (by omega) h22 (by omega) (by omega) (by omega) (by omega) (by omega) (by omega)))
  have := (by decide : (Int32.ofInt (-1)).toInt = -1)
  have := (by decide : (Int32.ofInt 5).toInt = 5)
  have := (by decide : (Int32.ofInt 0).toInt = 0)
  refine En_lv (lv := [(0, .ref s), (1, .int a), (2, .int ((Int32.ofInt (-1)))), (3, .int ((Int32.ofInt 5))), (4, .int ((Int32.ofInt 0)))]) ⟨rfl, rfl, rfl, rfl, rfl, trivial⟩ ?_
  exact key7 (Int.toNat (sz.toInt) + 1) ((Int32.ofInt (-1))) ((Int32.ofInt 5)) ((Int32.ofInt 0)) (by decide) (by decide) (by decide) (by decide) (by decide) (by decide) (by omega) (by omega) (by first | exact toN_lt _ | omega) (NEC_0 (by omega) (by omega) (by omega))
/-- DoorSchool$Learner.learn(ILDoorSchool$Lessons;)I -/
abbrev P_22x (σ0 : SG) (a : Int32) (b : Nat) (kn : Nat) (op : Nat) (sz : Int32) (kk : Int32) (rz : Int32) : PO := fun v σ => WT σ ∧ Fr [] σ0 σ ∧ ∃ ret : Int32, v = some (Value.int ret) ∧ ret.toInt = LRN a.toInt kk.toInt rz.toInt sz.toInt (ci σ0 kn) (ci σ0 op) (ci σ0 7)
set_option maxRecDepth 10000 in
set_option maxHeartbeats 4000000 in
theorem c_22x (σ0 : SG) (hσ0 : WT σ0) (a : Int32) (b : Nat) (hb : TG b = 20) (hl_a : 0 ≤ a.toInt) (hu_a : a.toInt ≤ 2) (kn : Nat) (hkn : TG kn = 21) (h_kn : (σ0 b)[0]? = some (Value.ref kn)) (op : Nat) (hop : TG op = 22) (h_op : (σ0 b)[1]? = some (Value.ref op)) (sz : Int32) (h_sz : (σ0 b)[2]? = some (Value.int sz)) (kk : Int32) (h_kk : (σ0 4)[0]? = some (Value.int kk)) (rz : Int32) (h_rz : (σ0 4)[1]? = some (Value.int rz)) (hD : ∀ i : Int, 0 ≤ i → i < rz.toInt → 0 ≤ ci σ0 7 i ∧ ci σ0 7 i ≤ 65535) : En 2 45 none mr_22 (P_22x σ0 a b kn op sz kk rz) 0 [(0, .ref 8), (1, .int a), (2, .ref b)] [] σ0 := by
  obtain ⟨hl_sz, hu_sz⟩ := WT_int hσ0 (g := 20) hb (by decide +kernel) (l := 0) (u := 13) (by decide +kernel) h_sz
  obtain ⟨hl_kk, hu_kk⟩ := WT_int hσ0 (g := 4) (by decide +kernel) (by decide +kernel) (l := 0) (u := 16) (by decide +kernel) h_kk
  obtain ⟨hl_rz, hu_rz⟩ := WT_int hσ0 (g := 4) (by decide +kernel) (by decide +kernel) (l := 0) (u := 81) (by decide +kernel) h_rz
  have hF0 : Fr [] σ0 σ0 := Fr_rfl
  refine En_Ps 2 (pc' := 2) (lv' := [(0, .ref 8), (1, .int a), (2, .ref b)]) (st' := [.int ((Int32.ofInt 1)), .int a]) rfl ?_
  refine En_icNe _ rfl (by decide : (Int32.ofInt 1).toInt = 1) rfl (fun h1 => ?_) (fun h1 => ?_)
  · refine En_Ps 4 (pc' := 47) (lv' := [(4, .int ((Int32.ofInt 0))), (3, .int ((Int32.ofInt 0))), (0, .ref 8), (1, .int a), (2, .ref b)]) (st' := []) rfl ?_
    have key47 : ∀ (n47 : Nat) (y2 : Int32) (y3 : Int32), 0 ≤ y2.toInt → y2.toInt ≤ 65535 → 0 ≤ y3.toInt → y3.toInt ≤ 16 → y3.toInt - kk.toInt ≤ 0 → kk.toInt - y3.toInt < (n47 : Int) → y2.toInt = LBT a.toInt (ci σ0 kn) (ci σ0 op) sz.toInt (y3.toInt).toNat → En 2 45 none mr_22 (P_22x σ0 a b kn op sz kk rz) 47 [(0, .ref 8), (1, .int a), (2, .ref b), (3, .int y2), (4, .int y3)] [] σ0 := by
      intro n47
      induction n47 with
      | zero =>
        intro y2 y3 h7 h8 h9 h10 h11 h12 h13
        first | exact (q_14257feae7 h11 h12).elim | (exfalso; omega)
      | succ n47 ih47 =>
        intro y2 y3 h7 h8 h9 h10 h11 h12 h13
        refine En_Ps 2 (pc' := 50) (lv' := [(0, .ref 8), (1, .int a), (2, .ref b), (3, .int y2), (4, .int y3)]) (st' := [.ref 8, .int y3]) rfl ?_
        refine En_getU (j := 0) (u := 4) (g' := 4) (q := 0) rfl rfl rfl tgz_8 (by decide +kernel) hσ0 (by decide +kernel) un_4_4 (fun h14 => ?_)
        refine En_getK (j := 0) h_kk rfl rfl rfl tgz_4 (by decide +kernel) ?_
        refine En_icGe _ rfl rfl rfl (fun h16 => ?_) (fun h16 => ?_)
        · refine En_Ps 1 (pc' := 111) (lv' := [(0, .ref 8), (1, .int a), (2, .ref b), (3, .int y2), (4, .int y3)]) (st' := [.int y2]) rfl ?_
          exact En_ret (v := some (Value.int y2)) rfl rfl rfl ⟨hσ0, hF0, y2, rfl, LRN_2 (by omega) (LBT_e h13 (by omega) (by omega))⟩
        · refine En_Ps 1 (pc' := 60) (lv' := [(0, .ref 8), (1, .int a), (2, .ref b), (3, .int y2), (4, .int y3)]) (st' := [.int a]) rfl ?_
          refine En_iNe _ rfl rfl (fun h17 => ?_) (fun h17 => ?_)
          · refine En_Ps 2 (pc' := 75) (lv' := [(0, .ref 8), (1, .int a), (2, .ref b), (3, .int y2), (4, .int y3)]) (st' := [.int y3, .ref b]) rfl ?_
            refine En_callV rfl rfl rfl rfl rfl rfl rfl rfl hb (by decide +kernel) rfl (c_37x σ0 hσ0 b hb y3 (geI rfl (by first | exact q_58e6e51dcc h9 | omega)) (leI rfl (by first | exact q_3f0e495169 h16 hu_kk | omega)) kn hkn h_kn op hop h_op sz h_sz) (by decide) (by decide) (fun v19 σ20 h18 => ?_)
            obtain ⟨h21, h22, z24, rfl, h23⟩ := h18
            have h25 := h23.2.2
            obtain rfl : σ0 = σ20 := Fr_nil h22
            have h26 : z24.toInt = BYL a.toInt (ci σ0 kn) sz.toInt y3.toInt := BYL_2 (by omega) h25
            refine En_Ps 3 (pc' := 83) (lv' := [(5, .int z24), (0, .ref 8), (1, .int a), (2, .ref b), (3, .int y2), (4, .int y3)]) (st' := [.int ((Int32.ofInt (-1))), .int z24]) rfl ?_
            refine En_icEq _ rfl (by decide : (Int32.ofInt (-1)).toInt = -1) rfl (fun h27 => ?_) (fun h27 => ?_)
            · refine En_Ps 1 (pc' := 107) (lv' := [(4, .int ((y3 + Int32.ofInt 1))), (5, .int z24), (0, .ref 8), (1, .int a), (2, .ref b), (3, .int y2)]) (st' := []) rfl ?_
              refine En_lv1 (addI rfl (by decide : (Int32.ofInt 1).toInt = 1) (by first | exact q_465ab79ac1 h9 | omega) (by first | exact q_f3f8e04381 h10 | omega)) (fun z28 h29 => ?_)
              refine En_Ps 1 (pc' := 47) (lv' := [(4, .int z28), (5, .int z24), (0, .ref 8), (1, .int a), (2, .ref b), (3, .int y2)]) (st' := []) rfl ?_
              refine En_lv (lv := [(0, .ref 8), (1, .int a), (2, .ref b), (3, .int y2), (4, .int z28)]) ⟨rfl, rfl, rfl, rfl, rfl, trivial⟩ ?_
              exact ih47 y2 z28 (by first | exact q_58e6e51dcc h7 | omega) (by first | exact q_36eb0a70bf h8 | omega) (by first | exact q_35104ce9d3 h29 h9 | omega) (by first | exact q_eba8fd3b5f h29 h16 hu_kk | omega) (by first | exact q_ae2dbf4292 h16 h29 | omega) (by first | exact q_8d03a5a7cb h29 h12 | omega) (LBT_n (by omega) h13 h26 (by omega) (by omega) (by omega))
            · refine En_Ps 1 (pc' := 87) (lv' := [(5, .int z24), (0, .ref 8), (1, .int a), (2, .ref b), (3, .int y2), (4, .int y3)]) (st' := [.ref b]) rfl ?_
              refine En_getK (j := 1) h_op rfl rfl rfl hb (by decide +kernel) ?_
              refine En_Ps 1 (pc' := 92) (lv' := [(5, .int z24), (0, .ref 8), (1, .int a), (2, .ref b), (3, .int y2), (4, .int y3)]) (st' := [.int z24, .ref op]) rfl ?_
              refine En_iald (l := 0) (u := 1) rfl rfl hop (by decide +kernel) hσ0 (by first | exact q_b1cade0df5 h27 h23.1 | omega) (lnI (by decide +kernel : LN _ = 13) (by first | exact q_f3cf35f0f9 h23.2.1 | omega)) (FTsgl (by decide +kernel)) (fun z31 h30 h32 h33 => ?_)
              have h34 : ci σ0 op (z24.toInt) = z31.toInt := ci_at h30 rfl
              refine En_Ps 1 (pc' := 94) (lv' := [(5, .int z24), (0, .ref 8), (1, .int a), (2, .ref b), (3, .int y2), (4, .int y3)]) (st' := [.int ((Int32.ofInt 1)), .int z31]) rfl ?_
              refine En_icNe _ rfl (by decide : (Int32.ofInt 1).toInt = 1) rfl (fun h35 => ?_) (fun h35 => ?_)
              · refine En_Ps 1 (pc' := 107) (lv' := [(4, .int ((y3 + Int32.ofInt 1))), (5, .int z24), (0, .ref 8), (1, .int a), (2, .ref b), (3, .int y2)]) (st' := []) rfl ?_
                refine En_lv1 (addI rfl (by decide : (Int32.ofInt 1).toInt = 1) (by first | exact q_465ab79ac1 h9 | omega) (by first | exact q_f3f8e04381 h10 | omega)) (fun z36 h37 => ?_)
                refine En_Ps 1 (pc' := 47) (lv' := [(4, .int z36), (5, .int z24), (0, .ref 8), (1, .int a), (2, .ref b), (3, .int y2)]) (st' := []) rfl ?_
                refine En_lv (lv := [(0, .ref 8), (1, .int a), (2, .ref b), (3, .int y2), (4, .int z36)]) ⟨rfl, rfl, rfl, rfl, rfl, trivial⟩ ?_
                exact ih47 y2 z36 (by first | exact q_58e6e51dcc h7 | omega) (by first | exact q_36eb0a70bf h8 | omega) (by first | exact q_35104ce9d3 h37 h9 | omega) (by first | exact q_eba8fd3b5f h37 h16 hu_kk | omega) (by first | exact q_ae2dbf4292 h16 h37 | omega) (by first | exact q_8d03a5a7cb h37 h12 | omega) (LBT_n (by omega) h13 h26 (by omega) (by omega) (by omega))
              · refine En_Ps 4 (pc' := 102) (lv' := [(5, .int z24), (0, .ref 8), (1, .int a), (2, .ref b), (3, .int y2), (4, .int y3)]) (st' := [.int ((((Int32.ofInt 1)) <<< (y3 &&& 31))), .int y2]) rfl ?_
                refine En_nam (fun z38 h39 => ?_)
                have h40 : z38.toInt = pI y3.toInt := shl_v h39 rfl (by omega) (by omega)
                have := pI_pos y3.toInt
                have : pI y3.toInt ≤ 32768 := pI_mono (Y := 15) (by omega)
                refine En_Ps 1 (pc' := 103) (lv' := [(5, .int z24), (0, .ref 8), (1, .int a), (2, .ref b), (3, .int y2), (4, .int y3)]) (st' := [.int ((y2 ||| z38))]) rfl ?_
                refine En_nam (fun z41 h42 => ?_)
                have h43 : z41.toInt = oN y2.toInt z38.toInt := or_v h42 rfl rfl (by omega) (by omega)
                have := oN_lt (X := y2.toInt) (Y := z38.toInt) 16 (by omega) (by omega) (Int.lt_of_le_of_lt (by omega : _ ≤ (65535 : Int)) (by decide)) (Int.lt_of_le_of_lt (by omega : _ ≤ (65535 : Int)) (by decide))
                have two16 : ((2 ^ 16 : Nat) : Int) = 65536 := by decide
                refine En_Ps 2 (pc' := 107) (lv' := [(4, .int ((y3 + Int32.ofInt 1))), (3, .int z41), (5, .int z24), (0, .ref 8), (1, .int a), (2, .ref b)]) (st' := []) rfl ?_
                refine En_lv1 (addI rfl (by decide : (Int32.ofInt 1).toInt = 1) (by first | exact q_465ab79ac1 h9 | omega) (by first | exact q_f3f8e04381 h10 | omega)) (fun z44 h45 => ?_)
                refine En_Ps 1 (pc' := 47) (lv' := [(4, .int z44), (3, .int z41), (5, .int z24), (0, .ref 8), (1, .int a), (2, .ref b)]) (st' := []) rfl ?_
                refine En_lv (lv := [(0, .ref 8), (1, .int a), (2, .ref b), (3, .int z41), (4, .int z44)]) ⟨rfl, rfl, rfl, rfl, rfl, trivial⟩ ?_
                exact ih47 z41 z44 (by omega) (by omega) (by first | exact q_35104ce9d3 h45 h9 | omega) (by first | exact q_eba8fd3b5f h45 h16 hu_kk | omega) (by first | exact q_ae2dbf4292 h16 h45 | omega) (by first | exact q_8d03a5a7cb h45 h12 | omega) (LBT_y (q := z38.toInt) (by omega) h13 h26 (by omega) (by omega) (by omega) (by omega) (by omega))
          · refine En_Ps 2 (pc' := 66) (lv' := [(0, .ref 8), (1, .int a), (2, .ref b), (3, .int y2), (4, .int y3)]) (st' := [.int y3, .ref b]) rfl ?_
            refine En_callV rfl rfl rfl rfl rfl rfl rfl rfl hb (by decide +kernel) rfl (c_36x σ0 hσ0 b hb y3 kn hkn h_kn op hop h_op sz h_sz) (by decide) (by decide) (fun v47 σ48 h46 => ?_)
            obtain ⟨h49, h50, z52, rfl, h51⟩ := h46
            have h53 := h51.2.2
            obtain rfl : σ0 = σ48 := Fr_nil h50
            refine En_Ps 1 (pc' := 78) (lv' := [(0, .ref 8), (1, .int a), (2, .ref b), (3, .int y2), (4, .int y3)]) (st' := [.int z52]) rfl ?_
            have h54 : z52.toInt = BYL a.toInt (ci σ0 kn) sz.toInt y3.toInt := BYL_0 (by omega) h53
            refine En_Ps 3 (pc' := 83) (lv' := [(5, .int z52), (0, .ref 8), (1, .int a), (2, .ref b), (3, .int y2), (4, .int y3)]) (st' := [.int ((Int32.ofInt (-1))), .int z52]) rfl ?_
            refine En_icEq _ rfl (by decide : (Int32.ofInt (-1)).toInt = -1) rfl (fun h55 => ?_) (fun h55 => ?_)
            · refine En_Ps 1 (pc' := 107) (lv' := [(4, .int ((y3 + Int32.ofInt 1))), (5, .int z52), (0, .ref 8), (1, .int a), (2, .ref b), (3, .int y2)]) (st' := []) rfl ?_
              refine En_lv1 (addI rfl (by decide : (Int32.ofInt 1).toInt = 1) (by first | exact q_465ab79ac1 h9 | omega) (by first | exact q_f3f8e04381 h10 | omega)) (fun z56 h57 => ?_)
              refine En_Ps 1 (pc' := 47) (lv' := [(4, .int z56), (5, .int z52), (0, .ref 8), (1, .int a), (2, .ref b), (3, .int y2)]) (st' := []) rfl ?_
              refine En_lv (lv := [(0, .ref 8), (1, .int a), (2, .ref b), (3, .int y2), (4, .int z56)]) ⟨rfl, rfl, rfl, rfl, rfl, trivial⟩ ?_
              exact ih47 y2 z56 (by first | exact q_58e6e51dcc h7 | omega) (by first | exact q_36eb0a70bf h8 | omega) (by first | exact q_35104ce9d3 h57 h9 | omega) (by first | exact q_eba8fd3b5f h57 h16 hu_kk | omega) (by first | exact q_ae2dbf4292 h16 h57 | omega) (by first | exact q_8d03a5a7cb h57 h12 | omega) (LBT_n (by omega) h13 h54 (by omega) (by omega) (by omega))
            · refine En_Ps 1 (pc' := 87) (lv' := [(5, .int z52), (0, .ref 8), (1, .int a), (2, .ref b), (3, .int y2), (4, .int y3)]) (st' := [.ref b]) rfl ?_
              refine En_getK (j := 1) h_op rfl rfl rfl hb (by decide +kernel) ?_
              refine En_Ps 1 (pc' := 92) (lv' := [(5, .int z52), (0, .ref 8), (1, .int a), (2, .ref b), (3, .int y2), (4, .int y3)]) (st' := [.int z52, .ref op]) rfl ?_
              refine En_iald (l := 0) (u := 1) rfl rfl hop (by decide +kernel) hσ0 (by first | exact q_b1cade0df5 h55 h51.1 | omega) (lnI (by decide +kernel : LN _ = 13) (by first | exact q_f3cf35f0f9 h51.2.1 | omega)) (FTsgl (by decide +kernel)) (fun z59 h58 h60 h61 => ?_)
              have h62 : ci σ0 op (z52.toInt) = z59.toInt := ci_at h58 rfl
              refine En_Ps 1 (pc' := 94) (lv' := [(5, .int z52), (0, .ref 8), (1, .int a), (2, .ref b), (3, .int y2), (4, .int y3)]) (st' := [.int ((Int32.ofInt 1)), .int z59]) rfl ?_
              refine En_icNe _ rfl (by decide : (Int32.ofInt 1).toInt = 1) rfl (fun h63 => ?_) (fun h63 => ?_)
              · refine En_Ps 1 (pc' := 107) (lv' := [(4, .int ((y3 + Int32.ofInt 1))), (5, .int z52), (0, .ref 8), (1, .int a), (2, .ref b), (3, .int y2)]) (st' := []) rfl ?_
                refine En_lv1 (addI rfl (by decide : (Int32.ofInt 1).toInt = 1) (by first | exact q_465ab79ac1 h9 | omega) (by first | exact q_f3f8e04381 h10 | omega)) (fun z64 h65 => ?_)
                refine En_Ps 1 (pc' := 47) (lv' := [(4, .int z64), (5, .int z52), (0, .ref 8), (1, .int a), (2, .ref b), (3, .int y2)]) (st' := []) rfl ?_
                refine En_lv (lv := [(0, .ref 8), (1, .int a), (2, .ref b), (3, .int y2), (4, .int z64)]) ⟨rfl, rfl, rfl, rfl, rfl, trivial⟩ ?_
                exact ih47 y2 z64 (by first | exact q_58e6e51dcc h7 | omega) (by first | exact q_36eb0a70bf h8 | omega) (by first | exact q_35104ce9d3 h65 h9 | omega) (by first | exact q_eba8fd3b5f h65 h16 hu_kk | omega) (by first | exact q_ae2dbf4292 h16 h65 | omega) (by first | exact q_8d03a5a7cb h65 h12 | omega) (LBT_n (by omega) h13 h54 (by omega) (by omega) (by omega))
              · refine En_Ps 4 (pc' := 102) (lv' := [(5, .int z52), (0, .ref 8), (1, .int a), (2, .ref b), (3, .int y2), (4, .int y3)]) (st' := [.int ((((Int32.ofInt 1)) <<< (y3 &&& 31))), .int y2]) rfl ?_
                refine En_nam (fun z66 h67 => ?_)
                have h68 : z66.toInt = pI y3.toInt := shl_v h67 rfl (by omega) (by omega)
                have := pI_pos y3.toInt
                have : pI y3.toInt ≤ 32768 := pI_mono (Y := 15) (by omega)
                refine En_Ps 1 (pc' := 103) (lv' := [(5, .int z52), (0, .ref 8), (1, .int a), (2, .ref b), (3, .int y2), (4, .int y3)]) (st' := [.int ((y2 ||| z66))]) rfl ?_
                refine En_nam (fun z69 h70 => ?_)
                have h71 : z69.toInt = oN y2.toInt z66.toInt := or_v h70 rfl rfl (by omega) (by omega)
                have := oN_lt (X := y2.toInt) (Y := z66.toInt) 16 (by omega) (by omega) (Int.lt_of_le_of_lt (by omega : _ ≤ (65535 : Int)) (by decide)) (Int.lt_of_le_of_lt (by omega : _ ≤ (65535 : Int)) (by decide))
                have two16 : ((2 ^ 16 : Nat) : Int) = 65536 := by decide
                refine En_Ps 2 (pc' := 107) (lv' := [(4, .int ((y3 + Int32.ofInt 1))), (3, .int z69), (5, .int z52), (0, .ref 8), (1, .int a), (2, .ref b)]) (st' := []) rfl ?_
                refine En_lv1 (addI rfl (by decide : (Int32.ofInt 1).toInt = 1) (by first | exact q_465ab79ac1 h9 | omega) (by first | exact q_f3f8e04381 h10 | omega)) (fun z72 h73 => ?_)
                refine En_Ps 1 (pc' := 47) (lv' := [(4, .int z72), (3, .int z69), (5, .int z52), (0, .ref 8), (1, .int a), (2, .ref b)]) (st' := []) rfl ?_
                refine En_lv (lv := [(0, .ref 8), (1, .int a), (2, .ref b), (3, .int z69), (4, .int z72)]) ⟨rfl, rfl, rfl, rfl, rfl, trivial⟩ ?_
                exact ih47 z69 z72 (by omega) (by omega) (by first | exact q_35104ce9d3 h73 h9 | omega) (by first | exact q_eba8fd3b5f h73 h16 hu_kk | omega) (by first | exact q_ae2dbf4292 h16 h73 | omega) (by first | exact q_8d03a5a7cb h73 h12 | omega) (LBT_y (q := z66.toInt) (by omega) h13 h54 (by omega) (by omega) (by omega) (by omega) (by omega))
    have := (by decide : (Int32.ofInt 0).toInt = 0)
    have := (by decide : (Int32.ofInt 0).toInt = 0)
    refine En_lv (lv := [(0, .ref 8), (1, .int a), (2, .ref b), (3, .int ((Int32.ofInt 0))), (4, .int ((Int32.ofInt 0)))]) ⟨rfl, rfl, rfl, rfl, rfl, trivial⟩ ?_
    exact key47 (Int.toNat (kk.toInt) + 1) ((Int32.ofInt 0)) ((Int32.ofInt 0)) (by decide) (by decide) (by decide) (by decide) (by omega) (by first | exact toN_lt _ | omega) (LBT_0 (by omega) (by omega))
  · refine En_Ps 1 (pc' := 6) (lv' := [(0, .ref 8), (1, .int a), (2, .ref b)]) (st' := [.ref 8]) rfl ?_
    refine En_getU (j := 0) (u := 4) (g' := 4) (q := 0) rfl rfl rfl tgz_8 (by decide +kernel) hσ0 (by decide +kernel) un_4_4 (fun h74 => ?_)
    refine En_Ps 2 (pc' := 11) (lv' := [(0, .ref 8), (1, .int a), (2, .ref b)]) (st' := [.int ((Int32.ofInt 1)), .ref b, .ref 4]) rfl ?_
    have := (by decide : ((Int32.ofInt 1)).toInt = 1)
    refine En_callV rfl rfl rfl rfl rfl rfl rfl rfl hb (by decide +kernel) rfl (c_39x σ0 hσ0 b hb ((Int32.ofInt 1)) kn hkn h_kn op hop h_op sz h_sz) (by decide) (by decide) (fun v77 σ78 h76 => ?_)
    obtain ⟨h79, h80, z82, rfl, h81⟩ := h76
    have h83 := h81.2.2
    obtain rfl : σ0 = σ78 := Fr_nil h80
    refine En_Ps 2 (pc' := 16) (lv' := [(0, .ref 8), (1, .int a), (2, .ref b)]) (st' := [.int ((Int32.ofInt 0)), .ref b, .int z82, .ref 4]) rfl ?_
    have := (by decide : ((Int32.ofInt 0)).toInt = 0)
    refine En_callV rfl rfl rfl rfl rfl rfl rfl rfl hb (by decide +kernel) rfl (c_39x σ0 hσ0 b hb ((Int32.ofInt 0)) kn hkn h_kn op hop h_op sz h_sz) (by decide) (by decide) (fun v85 σ86 h84 => ?_)
    obtain ⟨h87, h88, z90, rfl, h89⟩ := h84
    have h91 := h89.2.2
    obtain rfl : σ0 = σ86 := Fr_nil h88
    refine En_callV rfl rfl rfl rfl rfl rfl rfl rfl tgz_4 (by decide +kernel) rfl (c_78x σ0 hσ0 z82 z90 (geI rfl (by first | exact q_ef1e8e38bf h81.1 | omega)) (leI rfl (by first | exact q_62355f097f h81.2.1 | omega)) (geI rfl (by first | exact q_ef1e8e38bf h89.1 | omega)) (leI rfl (by first | exact q_62355f097f h89.2.1 | omega)) rz h_rz hD) (by decide) (by decide) (fun v93 σ94 h92 => ?_)
    obtain ⟨h95, h96, z98, rfl, h97⟩ := h92
    have h99 := h97.2.2
    obtain rfl : σ0 = σ94 := Fr_nil h96
    have h100 : z98.toInt = FIR (fun i => ASP (ci σ0 7 i) (ci σ0 kn) (ci σ0 op) sz.toInt) rz.toInt.toNat := FIR_ag hD (by omega) (fun i i0 i1 => row_rg (n := 13) (l := 0) (u := 15) hσ0 hkn (by decide +kernel) i i0 (by omega)) (fun i i0 i1 => row_rg (n := 13) (l := 0) (u := 1) hσ0 hop (by decide +kernel) i i0 (by omega)) h83 h91 h99
    refine En_Ps 3 (pc' := 25) (lv' := [(3, .int z98), (0, .ref 8), (1, .int a), (2, .ref b)]) (st' := [.int ((Int32.ofInt (-1))), .int z98]) rfl ?_
    refine En_icNe _ rfl (by decide : (Int32.ofInt (-1)).toInt = -1) rfl (fun h101 => ?_) (fun h101 => ?_)
    · refine En_Ps 1 (pc' := 33) (lv' := [(3, .int z98), (0, .ref 8), (1, .int a), (2, .ref b)]) (st' := [.ref 8]) rfl ?_
      refine En_getK (j := 0) h74 rfl rfl rfl tgz_8 (by decide +kernel) ?_
      refine En_getU (j := 4) (u := 7) (g' := 7) (q := 0) rfl rfl rfl tgz_4 (by decide +kernel) hσ0 (by decide +kernel) un_7_7 (fun h102 => ?_)
      refine En_Ps 1 (pc' := 40) (lv' := [(3, .int z98), (0, .ref 8), (1, .int a), (2, .ref b)]) (st' := [.int z98, .ref 7]) rfl ?_
      refine En_iald (l := (-2147483648)) (u := 2147483647) rfl rfl tgz_7 (by decide +kernel) hσ0 (by first | exact q_b1cade0df5 h101 h97.1 | omega) (lnI (by decide +kernel : LN _ = 81) (by first | exact q_3ac9ed8367 h97.2.1 | omega)) (FTsgl (by decide +kernel)) (fun z105 h104 h106 h107 => ?_)
      have h108 : ci σ0 7 (z98.toInt) = z105.toInt := ci_at h104 rfl
      exact En_ret (v := some (Value.int z105)) rfl rfl rfl ⟨hσ0, hF0, z105, rfl, LRN_1 (by omega) h100 (by omega) h108.symm⟩
    · refine En_Ps 2 (pc' := 41) (lv' := [(3, .int z98), (0, .ref 8), (1, .int a), (2, .ref b)]) (st' := [.int ((Int32.ofInt 0))]) rfl ?_
      refine En_top (by decide : (Int32.ofInt 0).toInt = 0) (fun z109 h110 => ?_)
      exact En_ret (v := some (Value.int z109)) rfl rfl rfl ⟨hσ0, hF0, z109, rfl, LRN_0 (by omega) h100 (by omega) (by omega)⟩
end
/-! 32.n01 -/
section
/-- DoorSchool$Lessons.putIn(III)V -/
abbrev P_38ax (σ0 : SG) (s : Nat) (a : Int32) (b : Int32) (c : Int32) (kn : Nat) (op : Nat) (sz : Int32) : PO := fun v σ => WT σ ∧ Fr [(20, 2), (21, 0), (22, 0)] σ0 σ ∧ ∃ sz1 : Int32, (σ s)[2]? = some (Value.int sz1) ∧ v = none ∧ -sz1.toInt + 1 ≤ 0 ∧ sz1.toInt - 13 ≤ 0 ∧ -sz1.toInt + sz.toInt + 1 ≤ 0 ∧ sz1.toInt - sz.toInt - 1 ≤ 0 ∧ ADDp σ0 σ s kn op sz.toInt b.toInt c.toInt
set_option maxRecDepth 10000 in
set_option maxHeartbeats 4000000 in
theorem c_38ax (σ0 : SG) (hσ0 : WT σ0) (s : Nat) (hs : TG s = 20) (a : Int32) (b : Int32) (c : Int32) (hl_a : 0 ≤ a.toInt) (hu_a : a.toInt ≤ 12) (hl_b : 0 ≤ b.toInt) (hu_b : b.toInt ≤ 15) (hl_c : 0 ≤ c.toInt) (hu_c : c.toInt ≤ 1) (kn : Nat) (hkn : TG kn = 21) (h_kn : (σ0 s)[0]? = some (Value.ref kn)) (op : Nat) (hop : TG op = 22) (h_op : (σ0 s)[1]? = some (Value.ref op)) (sz : Int32) (h_sz : (σ0 s)[2]? = some (Value.int sz)) (hp0 : a.toInt - sz.toInt ≤ 0) (hp1 : -a.toInt + sz.toInt ≤ 0) (hp2 : sz.toInt - 12 ≤ 0) : En 0 0 none mr_38 (P_38ax σ0 s a b c kn op sz) 0 [(0, .ref s), (1, .int a), (2, .int b), (3, .int c)] [] σ0 := by
  obtain ⟨hl_sz, hu_sz⟩ := WT_int hσ0 (g := 20) hs (by decide +kernel) (l := 0) (u := 13) (by decide +kernel) h_sz
  have hF0 : Fr [(20, 2), (21, 0), (22, 0)] σ0 σ0 := Fr_rfl
  refine En_Ps 1 (pc' := 1) (lv' := [(0, .ref s), (1, .int a), (2, .int b), (3, .int c)]) (st' := [.int a]) rfl ?_
  refine En_iLt _ rfl rfl (fun hx => by first | exact (q_ca2574f947 hl_a hx).elim | (exfalso; omega)) (fun h1 => ?_)
  refine En_Ps 2 (pc' := 6) (lv' := [(0, .ref s), (1, .int a), (2, .int b), (3, .int c)]) (st' := [.ref s, .int a]) rfl ?_
  refine En_getK (j := 2) h_sz rfl rfl rfl hs (by decide +kernel) ?_
  refine En_icGt _ rfl rfl rfl (fun hx => by first | exact (q_c9193cb1c8 hp0 hx).elim | (exfalso; omega)) (fun h2 => ?_)
  refine En_Ps 1 (pc' := 13) (lv' := [(0, .ref s), (1, .int a), (2, .int b), (3, .int c)]) (st' := [.ref s]) rfl ?_
  refine En_getK (j := 2) h_sz rfl rfl rfl hs (by decide +kernel) ?_
  refine En_Ps 1 (pc' := 18) (lv' := [(0, .ref s), (1, .int a), (2, .int b), (3, .int c)]) (st' := [.int (((Int8.ofInt 13).toInt32)), .int sz]) rfl ?_
  refine En_icLt _ rfl (by decide : ((Int8.ofInt 13).toInt32).toInt = 13) rfl (fun h3 => ?_) (fun hx => by first | exact (q_ab9047be28 hx hp2).elim | (exfalso; omega))
  refine En_Ps 1 (pc' := 23) (lv' := [(0, .ref s), (1, .int a), (2, .int b), (3, .int c)]) (st' := [.ref s]) rfl ?_
  refine En_getK (j := 2) h_sz rfl rfl rfl hs (by decide +kernel) ?_
  refine En_Ps 3 (pc' := 31) (lv' := [(4, .int sz), (0, .ref s), (1, .int a), (2, .int b), (3, .int c)]) (st' := [.int a, .int sz]) rfl ?_
  refine En_icLe _ rfl rfl rfl (fun h4 => ?_) (fun hx => by first | exact (q_938346e14a hx hp1).elim | (exfalso; omega))
  refine En_Ps 1 (pc' := 73) (lv' := [(4, .int sz), (0, .ref s), (1, .int a), (2, .int b), (3, .int c)]) (st' := [.ref s]) rfl ?_
  refine En_getK (j := 0) h_kn rfl rfl rfl hs (by decide +kernel) ?_
  refine En_Ps 2 (pc' := 78) (lv' := [(4, .int sz), (0, .ref s), (1, .int a), (2, .int b), (3, .int c)]) (st' := [.int b, .int a, .ref kn]) rfl ?_
  refine En_iast (l := 0) (u := 15) rfl rfl hkn (by decide +kernel) (by first | exact q_58e6e51dcc hl_a | omega) (lnI (by decide +kernel : LN _ = 13) (by first | exact q_eca5b91a1e hu_a | omega)) (FTsgl (by decide +kernel)) (rngI rfl (by first | exact q_58e6e51dcc hl_b | omega) (by first | exact q_5a4d8a7e08 hu_b | omega)) hσ0 hF0 (by decide +kernel) (fun σ5 h6 h7 h8 h9 => ?_)
  refine En_Ps 1 (pc' := 80) (lv' := [(4, .int sz), (0, .ref s), (1, .int a), (2, .int b), (3, .int c)]) (st' := [.ref s]) rfl ?_
  refine En_getK (j := 1) ((h9 _ _ (Or.inl (neTG hs hkn (by decide)))).trans h_op) rfl rfl rfl hs (by decide +kernel) ?_
  refine En_Ps 2 (pc' := 85) (lv' := [(4, .int sz), (0, .ref s), (1, .int a), (2, .int b), (3, .int c)]) (st' := [.int c, .int a, .ref op]) rfl ?_
  refine En_iast (l := 0) (u := 1) rfl rfl hop (by decide +kernel) (by first | exact q_58e6e51dcc hl_a | omega) (lnI (by decide +kernel : LN _ = 13) (by first | exact q_eca5b91a1e hu_a | omega)) (FTsgl (by decide +kernel)) (rngI rfl (by first | exact q_58e6e51dcc hl_c | omega) (by first | exact q_9d0c30f9c5 hu_c | omega)) h6 h7 (by decide +kernel) (fun σ10 h11 h12 h13 h14 => ?_)
  refine En_Ps 2 (pc' := 88) (lv' := [(4, .int sz), (0, .ref s), (1, .int a), (2, .int b), (3, .int c)]) (st' := [.ref s, .ref s]) rfl ?_
  refine En_getK (j := 2) ((h14 _ _ (Or.inl (neTG hs hop (by decide)))).trans ((h9 _ _ (Or.inl (neTG hs hkn (by decide)))).trans h_sz)) rfl rfl rfl hs (by decide +kernel) ?_
  refine En_Ps 2 (pc' := 93) (lv' := [(4, .int sz), (0, .ref s), (1, .int a), (2, .int b), (3, .int c)]) (st' := [.int ((sz + ((Int32.ofInt 1)))), .ref s]) rfl ?_
  refine En_top (addI rfl (by decide : (Int32.ofInt 1).toInt = 1) (by first | exact q_465ab79ac1 hl_sz | omega) (by first | exact q_bf43a41d51 hp2 | omega)) (fun z15 h16 => ?_)
  refine En_put (j := 2) rfl rfl rfl hs (by decide +kernel) rfl (vI (l := 0) (u := 13) (by decide +kernel) rfl (by first | exact q_35104ce9d3 h16 hl_sz | omega) (by first | exact q_ef750b473d h16 hp2 | omega)) h11 h12 (by decide +kernel) (fun σ17 h18 h19 h20 h21 => ?_)
  exact En_ret (v := none) rfl rfl rfl ⟨h18, h19, z15, h20, rfl, ⟨by first | exact q_eeff886842 h16 hl_sz | omega, by first | exact q_2993df89fb h16 hp2 | omega, by first | exact q_0f0670fdd6 h16 | omega, by first | exact q_9a409ce733 h16 | omega, (by have e9 : a.toInt = sz.toInt := (by (first | exact q_9ad3dc81d7 h4 h2 | omega)); rw [← e9]; exact ADD_mk h8 h9 h13 h14 h20 h21 hs hkn hop rfl rfl (by (first | exact q_24a0445613 e9 h16 | omega)))⟩⟩
/-- DoorSchool$Lessons.putIn(III)V -/
abbrev P_38bx (σ0 : SG) (s : Nat) (a : Int32) (b : Int32) (c : Int32) (kn : Nat) (op : Nat) (sz : Int32) : PO := fun v σ => WT σ ∧ Fr [(20, 2), (21, 0), (22, 0)] σ0 σ ∧ ∃ sz1 : Int32, (σ s)[2]? = some (Value.int sz1) ∧ v = none ∧ -sz1.toInt + 1 ≤ 0 ∧ sz1.toInt - 13 ≤ 0 ∧ -sz1.toInt + sz.toInt + 1 ≤ 0 ∧ sz1.toInt - sz.toInt - 1 ≤ 0 ∧ PTp σ0 σ s kn op a.toInt sz.toInt b.toInt c.toInt
set_option maxRecDepth 10000 in
set_option maxHeartbeats 4000000 in
theorem c_38bx (σ0 : SG) (hσ0 : WT σ0) (s : Nat) (hs : TG s = 20) (a : Int32) (b : Int32) (c : Int32) (hl_a : 0 ≤ a.toInt) (hu_a : a.toInt ≤ 12) (hl_b : 0 ≤ b.toInt) (hu_b : b.toInt ≤ 15) (hl_c : 0 ≤ c.toInt) (hu_c : c.toInt ≤ 1) (kn : Nat) (hkn : TG kn = 21) (h_kn : (σ0 s)[0]? = some (Value.ref kn)) (op : Nat) (hop : TG op = 22) (h_op : (σ0 s)[1]? = some (Value.ref op)) (sz : Int32) (h_sz : (σ0 s)[2]? = some (Value.int sz)) (hp0 : a.toInt - sz.toInt ≤ 0) (hp1 : sz.toInt - 12 ≤ 0) : En 0 0 none mr_38 (P_38bx σ0 s a b c kn op sz) 0 [(0, .ref s), (1, .int a), (2, .int b), (3, .int c)] [] σ0 := by
  obtain ⟨hl_sz, hu_sz⟩ := WT_int hσ0 (g := 20) hs (by decide +kernel) (l := 0) (u := 13) (by decide +kernel) h_sz
  have hF0 : Fr [(20, 2), (21, 0), (22, 0)] σ0 σ0 := Fr_rfl
  refine En_Ps 1 (pc' := 1) (lv' := [(0, .ref s), (1, .int a), (2, .int b), (3, .int c)]) (st' := [.int a]) rfl ?_
  refine En_iLt _ rfl rfl (fun hx => by first | exact (q_ca2574f947 hl_a hx).elim | (exfalso; omega)) (fun h1 => ?_)
  refine En_Ps 2 (pc' := 6) (lv' := [(0, .ref s), (1, .int a), (2, .int b), (3, .int c)]) (st' := [.ref s, .int a]) rfl ?_
  refine En_getK (j := 2) h_sz rfl rfl rfl hs (by decide +kernel) ?_
  refine En_icGt _ rfl rfl rfl (fun hx => by first | exact (q_c9193cb1c8 hp0 hx).elim | (exfalso; omega)) (fun h2 => ?_)
  refine En_Ps 1 (pc' := 13) (lv' := [(0, .ref s), (1, .int a), (2, .int b), (3, .int c)]) (st' := [.ref s]) rfl ?_
  refine En_getK (j := 2) h_sz rfl rfl rfl hs (by decide +kernel) ?_
  refine En_Ps 1 (pc' := 18) (lv' := [(0, .ref s), (1, .int a), (2, .int b), (3, .int c)]) (st' := [.int (((Int8.ofInt 13).toInt32)), .int sz]) rfl ?_
  refine En_icLt _ rfl (by decide : ((Int8.ofInt 13).toInt32).toInt = 13) rfl (fun h3 => ?_) (fun hx => by first | exact (q_ab9047be28 hx hp1).elim | (exfalso; omega))
  refine En_Ps 1 (pc' := 23) (lv' := [(0, .ref s), (1, .int a), (2, .int b), (3, .int c)]) (st' := [.ref s]) rfl ?_
  refine En_getK (j := 2) h_sz rfl rfl rfl hs (by decide +kernel) ?_
  refine En_Ps 1 (pc' := 28) (lv' := [(4, .int sz), (0, .ref s), (1, .int a), (2, .int b), (3, .int c)]) (st' := []) rfl ?_
  have key28 : ∀ (n28 : Nat) (σ5 : SG) (y4 : Int32), WT σ5 → Fr [(20, 2), (21, 0), (22, 0)] σ0 σ5 → (σ5 s)[0]? = some (Value.ref kn) → (σ5 s)[1]? = some (Value.ref op) → (σ5 s)[2]? = some (Value.int sz) → 0 ≤ y4.toInt → y4.toInt ≤ 12 → a.toInt - y4.toInt ≤ 0 → y4.toInt - sz.toInt ≤ 0 → y4.toInt - a.toInt < (n28 : Int) → PTI σ0 σ5 kn op sz.toInt y4.toInt → En 0 0 none mr_38 (P_38bx σ0 s a b c kn op sz) 28 [(0, .ref s), (1, .int a), (2, .int b), (3, .int c), (4, .int y4)] [] σ5 := by
    intro n28
    induction n28 with
    | zero =>
      intro σ5 y4 h6 h7 h8 h9 h10 h11 h12 h13 h14 h15 h16
      first | exact (q_14257feae7 h13 h15).elim | (exfalso; omega)
    | succ n28 ih28 =>
      intro σ5 y4 h6 h7 h8 h9 h10 h11 h12 h13 h14 h15 h16
      refine En_Ps 2 (pc' := 31) (lv' := [(0, .ref s), (1, .int a), (2, .int b), (3, .int c), (4, .int y4)]) (st' := [.int a, .int y4]) rfl ?_
      refine En_icLe _ rfl rfl rfl (fun h17 => ?_) (fun h17 => ?_)
      · refine En_Ps 1 (pc' := 73) (lv' := [(0, .ref s), (1, .int a), (2, .int b), (3, .int c), (4, .int y4)]) (st' := [.ref s]) rfl ?_
        refine En_getK (j := 0) h8 rfl rfl rfl hs (by decide +kernel) ?_
        refine En_Ps 2 (pc' := 78) (lv' := [(0, .ref s), (1, .int a), (2, .int b), (3, .int c), (4, .int y4)]) (st' := [.int b, .int a, .ref kn]) rfl ?_
        refine En_iast (l := 0) (u := 15) rfl rfl hkn (by decide +kernel) (by first | exact q_58e6e51dcc hl_a | omega) (lnI (by decide +kernel : LN _ = 13) (by first | exact q_eca5b91a1e hu_a | omega)) (FTsgl (by decide +kernel)) (rngI rfl (by first | exact q_58e6e51dcc hl_b | omega) (by first | exact q_5a4d8a7e08 hu_b | omega)) h6 h7 (by decide +kernel) (fun σ18 h19 h20 h21 h22 => ?_)
        refine En_Ps 1 (pc' := 80) (lv' := [(0, .ref s), (1, .int a), (2, .int b), (3, .int c), (4, .int y4)]) (st' := [.ref s]) rfl ?_
        refine En_getK (j := 1) ((h22 _ _ (Or.inl (neTG hs hkn (by decide)))).trans h9) rfl rfl rfl hs (by decide +kernel) ?_
        refine En_Ps 2 (pc' := 85) (lv' := [(0, .ref s), (1, .int a), (2, .int b), (3, .int c), (4, .int y4)]) (st' := [.int c, .int a, .ref op]) rfl ?_
        refine En_iast (l := 0) (u := 1) rfl rfl hop (by decide +kernel) (by first | exact q_58e6e51dcc hl_a | omega) (lnI (by decide +kernel : LN _ = 13) (by first | exact q_eca5b91a1e hu_a | omega)) (FTsgl (by decide +kernel)) (rngI rfl (by first | exact q_58e6e51dcc hl_c | omega) (by first | exact q_9d0c30f9c5 hu_c | omega)) h19 h20 (by decide +kernel) (fun σ23 h24 h25 h26 h27 => ?_)
        refine En_Ps 2 (pc' := 88) (lv' := [(0, .ref s), (1, .int a), (2, .int b), (3, .int c), (4, .int y4)]) (st' := [.ref s, .ref s]) rfl ?_
        refine En_getK (j := 2) ((h27 _ _ (Or.inl (neTG hs hop (by decide)))).trans ((h22 _ _ (Or.inl (neTG hs hkn (by decide)))).trans h10)) rfl rfl rfl hs (by decide +kernel) ?_
        refine En_Ps 2 (pc' := 93) (lv' := [(0, .ref s), (1, .int a), (2, .int b), (3, .int c), (4, .int y4)]) (st' := [.int ((sz + ((Int32.ofInt 1)))), .ref s]) rfl ?_
        refine En_top (addI rfl (by decide : (Int32.ofInt 1).toInt = 1) (by first | exact q_465ab79ac1 hl_sz | omega) (by first | exact q_bf43a41d51 hp1 | omega)) (fun z28 h29 => ?_)
        refine En_put (j := 2) rfl rfl rfl hs (by decide +kernel) rfl (vI (l := 0) (u := 13) (by decide +kernel) rfl (by first | exact q_35104ce9d3 h29 hl_sz | omega) (by first | exact q_ef750b473d h29 hp1 | omega)) h24 h25 (by decide +kernel) (fun σ30 h31 h32 h33 h34 => ?_)
        exact En_ret (v := none) rfl rfl rfl ⟨h31, h32, z28, h33, rfl, ⟨by first | exact q_eeff886842 h29 hl_sz | omega, by first | exact q_2993df89fb h29 hp1 | omega, by first | exact q_0f0670fdd6 h29 | omega, by first | exact q_9a409ce733 h29 | omega, PTI_x h16 (by (first | exact q_596e244303 h13 h17 | omega)) h21 h22 h26 h27 h33 h34 rfl (by (first | exact q_58e6e51dcc h1 | omega)) (neTG hkn hop (by decide)) (neTG hkn hs (by decide)) (neTG hop hs (by decide)) (by (first | exact q_ba1b2c713b h29 | omega))⟩⟩
      · refine En_Ps 1 (pc' := 35) (lv' := [(0, .ref s), (1, .int a), (2, .int b), (3, .int c), (4, .int y4)]) (st' := [.ref s]) rfl ?_
        refine En_getK (j := 0) h8 rfl rfl rfl hs (by decide +kernel) ?_
        refine En_Ps 2 (pc' := 41) (lv' := [(0, .ref s), (1, .int a), (2, .int b), (3, .int c), (4, .int y4)]) (st' := [.ref s, .int y4, .ref kn]) rfl ?_
        refine En_getK (j := 0) h8 rfl rfl rfl hs (by decide +kernel) ?_
        refine En_Ps 3 (pc' := 48) (lv' := [(0, .ref s), (1, .int a), (2, .int b), (3, .int c), (4, .int y4)]) (st' := [.int ((y4 - ((Int32.ofInt 1)))), .ref kn, .int y4, .ref kn]) rfl ?_
        refine En_top (subI rfl (by decide : (Int32.ofInt 1).toInt = 1) (by first | exact q_93f9478bef h11 | omega) (by first | exact q_5f4a85dce3 h12 | omega)) (fun z35 h36 => ?_)
        refine En_iald (l := 0) (u := 15) rfl rfl hkn (by decide +kernel) h6 (by first | exact q_33d4421f1e h36 h17 hl_a | omega) (lnI (by decide +kernel : LN _ = 13) (by first | exact q_5fc37093b9 h36 h12 | omega)) (FTsgl (by decide +kernel)) (fun z38 h37 h39 h40 => ?_)
        refine En_iast (l := 0) (u := 15) rfl rfl hkn (by decide +kernel) (by first | exact q_58e6e51dcc h11 | omega) (lnI (by decide +kernel : LN _ = 13) (by first | exact q_eca5b91a1e h12 | omega)) (FTsgl (by decide +kernel)) (rngI rfl (by first | exact q_58e6e51dcc h39 | omega) (by first | exact q_5a4d8a7e08 h40 | omega)) h6 h7 (by decide +kernel) (fun σ41 h42 h43 h44 h45 => ?_)
        refine En_Ps 1 (pc' := 51) (lv' := [(0, .ref s), (1, .int a), (2, .int b), (3, .int c), (4, .int y4)]) (st' := [.ref s]) rfl ?_
        refine En_getK (j := 1) ((h45 _ _ (Or.inl (neTG hs hkn (by decide)))).trans h9) rfl rfl rfl hs (by decide +kernel) ?_
        refine En_Ps 2 (pc' := 57) (lv' := [(0, .ref s), (1, .int a), (2, .int b), (3, .int c), (4, .int y4)]) (st' := [.ref s, .int y4, .ref op]) rfl ?_
        refine En_getK (j := 1) ((h45 _ _ (Or.inl (neTG hs hkn (by decide)))).trans h9) rfl rfl rfl hs (by decide +kernel) ?_
        refine En_Ps 3 (pc' := 64) (lv' := [(0, .ref s), (1, .int a), (2, .int b), (3, .int c), (4, .int y4)]) (st' := [.int ((y4 - ((Int32.ofInt 1)))), .ref op, .int y4, .ref op]) rfl ?_
        refine En_top (subI rfl (by decide : (Int32.ofInt 1).toInt = 1) (by first | exact q_93f9478bef h11 | omega) (by first | exact q_5f4a85dce3 h12 | omega)) (fun z46 h47 => ?_)
        refine En_iald (l := 0) (u := 1) rfl rfl hop (by decide +kernel) h42 (by first | exact q_33d4421f1e h47 h17 hl_a | omega) (lnI (by decide +kernel : LN _ = 13) (by first | exact q_5fc37093b9 h47 h12 | omega)) (FTsgl (by decide +kernel)) (fun z49 h48 h50 h51 => ?_)
        refine En_iast (l := 0) (u := 1) rfl rfl hop (by decide +kernel) (by first | exact q_58e6e51dcc h11 | omega) (lnI (by decide +kernel : LN _ = 13) (by first | exact q_eca5b91a1e h12 | omega)) (FTsgl (by decide +kernel)) (rngI rfl (by first | exact q_58e6e51dcc h50 | omega) (by first | exact q_9d0c30f9c5 h51 | omega)) h42 h43 (by decide +kernel) (fun σ52 h53 h54 h55 h56 => ?_)
        refine En_Ps 1 (pc' := 69) (lv' := [(4, .int ((y4 + Int32.ofInt (-1)))), (0, .ref s), (1, .int a), (2, .int b), (3, .int c)]) (st' := []) rfl ?_
        refine En_lv1 (addI rfl (by decide : (Int32.ofInt (-1)).toInt = -1) (by first | exact q_069e58d060 h11 | omega) (by first | exact q_22df3f42b4 h12 | omega)) (fun z57 h58 => ?_)
        refine En_Ps 1 (pc' := 28) (lv' := [(4, .int z57), (0, .ref s), (1, .int a), (2, .int b), (3, .int c)]) (st' := []) rfl ?_
        refine En_lv (lv := [(0, .ref s), (1, .int a), (2, .int b), (3, .int c), (4, .int z57)]) ⟨rfl, rfl, rfl, rfl, rfl, trivial⟩ ?_
        exact ih28 σ52 z57 h53 h54 ((h56 _ _ (Or.inl (neTG hs hop (by decide)))).trans ((h45 _ _ (Or.inl (neTG hs hkn (by decide)))).trans h8)) ((h56 _ _ (Or.inl (neTG hs hop (by decide)))).trans ((h45 _ _ (Or.inl (neTG hs hkn (by decide)))).trans h9)) ((h56 _ _ (Or.inl (neTG hs hop (by decide)))).trans ((h45 _ _ (Or.inl (neTG hs hkn (by decide)))).trans h10)) (by first | exact q_f5ee678ee2 h58 h17 hl_a | omega) (by first | exact q_bf87cd541d h58 h12 | omega) (by first | exact q_4fa3e3f0d6 h17 h58 | omega) (by first | exact q_fbcec499c6 h14 h58 | omega) (by first | exact q_60d27c56d4 h58 h15 | omega) (PTI_s (J := y4.toInt) (J' := y4.toInt - 1) h16 (neTG hkn hop (by decide)) (by rw [show y4.toInt - 1 = z35.toInt by (first | exact q_3158e72c55 h36 | omega)]; exact h37) h44 h45 (by rw [show y4.toInt - 1 = z46.toInt by (first | exact q_3158e72c55 h47 | omega)]; exact h48) h55 h56 (by (first | exact q_61ddd2b576 | omega)) (by (first | exact q_38c22365c1 | omega)) (by (first | exact q_91a80efd7a h17 h1 | omega)) (by (first | exact q_2f9e8475ec h14 | omega)) (by (first | exact q_fb0fb1e27f h58 | omega)))
  refine En_lv (lv := [(0, .ref s), (1, .int a), (2, .int b), (3, .int c), (4, .int sz)]) ⟨rfl, rfl, rfl, rfl, rfl, trivial⟩ ?_
  exact key28 (Int.toNat (sz.toInt - a.toInt) + 1) σ0 sz hσ0 hF0 h_kn h_op h_sz (by first | exact q_58e6e51dcc hl_sz | omega) (by first | exact q_b48fc66505 hp1 | omega) (by first | exact q_f67127b06c hp0 | omega) (by first | exact q_1bb76abeaf | omega) (by first | exact toN_lt _ | omega) (PTI_0 rfl)
/-- DoorSchool$Lessons.add(II)V -/
abbrev P_31x (σ0 : SG) (s : Nat) (a : Int32) (b : Int32) (kn : Nat) (op : Nat) (sz : Int32) : PO := fun v σ => WT σ ∧ Fr [(20, 2), (21, 0), (22, 0)] σ0 σ ∧ ∃ sz1 : Int32, (σ s)[2]? = some (Value.int sz1) ∧ v = none ∧ -sz1.toInt + 1 ≤ 0 ∧ sz1.toInt - 13 ≤ 0 ∧ -sz1.toInt + sz.toInt + 1 ≤ 0 ∧ sz1.toInt - sz.toInt - 1 ≤ 0 ∧ ADDp σ0 σ s kn op sz.toInt a.toInt b.toInt
set_option maxRecDepth 10000 in
set_option maxHeartbeats 4000000 in
theorem c_31x (σ0 : SG) (hσ0 : WT σ0) (s : Nat) (hs : TG s = 20) (a : Int32) (b : Int32) (hl_a : 0 ≤ a.toInt) (hu_a : a.toInt ≤ 15) (hl_b : 0 ≤ b.toInt) (hu_b : b.toInt ≤ 1) (kn : Nat) (hkn : TG kn = 21) (h_kn : (σ0 s)[0]? = some (Value.ref kn)) (op : Nat) (hop : TG op = 22) (h_op : (σ0 s)[1]? = some (Value.ref op)) (sz : Int32) (h_sz : (σ0 s)[2]? = some (Value.int sz)) (hp0 : sz.toInt - 12 ≤ 0) : En 1 24 none mr_31 (P_31x σ0 s a b kn op sz) 0 [(0, .ref s), (1, .int a), (2, .int b)] [] σ0 := by
  obtain ⟨hl_sz, hu_sz⟩ := WT_int hσ0 (g := 20) hs (by decide +kernel) (l := 0) (u := 13) (by decide +kernel) h_sz
  have hF0 : Fr [(20, 2), (21, 0), (22, 0)] σ0 σ0 := Fr_rfl
  refine En_Ps 2 (pc' := 2) (lv' := [(0, .ref s), (1, .int a), (2, .int b)]) (st' := [.ref s, .ref s]) rfl ?_
  refine En_getK (j := 2) h_sz rfl rfl rfl hs (by decide +kernel) ?_
  refine En_Ps 2 (pc' := 7) (lv' := [(0, .ref s), (1, .int a), (2, .int b)]) (st' := [.int b, .int a, .int sz, .ref s]) rfl ?_
  refine En_callV rfl rfl rfl rfl rfl rfl rfl rfl hs (by decide +kernel) rfl (c_38ax σ0 hσ0 s hs sz a b (geI rfl (by first | exact q_58e6e51dcc hl_sz | omega)) (leI rfl (by first | exact q_b48fc66505 hp0 | omega)) (geI rfl (by first | exact q_58e6e51dcc hl_a | omega)) (leI rfl (by first | exact q_5a4d8a7e08 hu_a | omega)) (geI rfl (by first | exact q_58e6e51dcc hl_b | omega)) (leI rfl (by first | exact q_9d0c30f9c5 hu_b | omega)) kn hkn h_kn op hop h_op sz h_sz (by first | exact q_1bb76abeaf | omega) (by first | exact q_857069189f | omega) (by first | exact q_1d71e39f5f hp0 | omega)) (by decide) (by decide) (fun v2 σ3 h1 => ?_)
  obtain ⟨h4, h5, z7, h8, rfl, h6⟩ := h1
  have h9 := h6.2.2.2.2
  have h10 := Fr_trans hF0 h5 (by decide +kernel)
  exact En_ret (v := none) rfl rfl rfl ⟨h4, h10, z7, h8, rfl, ⟨by first | exact q_68fbff215b h6.1 | omega, by first | exact q_74b353401a h6.2.1 | omega, by first | exact q_b8b1191c64 h6.2.2.1 | omega, by first | exact q_9a4fe11a50 h6.2.2.2.1 | omega, h9⟩⟩
/-- DoorSchool$Lessons.allAs(I)I -/
abbrev P_32x (σ0 : SG) (s : Nat) (a : Int32) (kn : Nat) (op : Nat) (sz : Int32) : PO := fun v σ => WT σ ∧ Fr [] σ0 σ ∧ ∃ ret : Int32, v = some (Value.int ret) ∧ -ret.toInt ≤ 0 ∧ ret.toInt - 65535 ≤ 0 ∧ ret.toInt = AAS (RIG a.toInt (ci σ0 kn) (ci σ0 op)) sz.toInt.toNat
set_option maxRecDepth 10000 in
set_option maxHeartbeats 4000000 in
theorem c_32x (σ0 : SG) (hσ0 : WT σ0) (s : Nat) (hs : TG s = 20) (a : Int32) (hl_a : 0 ≤ a.toInt) (hu_a : a.toInt ≤ 65535) (kn : Nat) (hkn : TG kn = 21) (h_kn : (σ0 s)[0]? = some (Value.ref kn)) (op : Nat) (hop : TG op = 22) (h_op : (σ0 s)[1]? = some (Value.ref op)) (sz : Int32) (h_sz : (σ0 s)[2]? = some (Value.int sz)) : En 1 21 none mr_32 (P_32x σ0 s a kn op sz) 0 [(0, .ref s), (1, .int a)] [] σ0 := by
  obtain ⟨hl_sz, hu_sz⟩ := WT_int hσ0 (g := 20) hs (by decide +kernel) (l := 0) (u := 13) (by decide +kernel) h_sz
  have hF0 : Fr [] σ0 σ0 := Fr_rfl
  refine En_Ps 4 (pc' := 4) (lv' := [(3, .int ((Int32.ofInt 0))), (2, .int ((Int32.ofInt 0))), (0, .ref s), (1, .int a)]) (st' := []) rfl ?_
  have key4 : ∀ (n4 : Nat) (y1 : Int32) (y2 : Int32), 0 ≤ y1.toInt → y1.toInt ≤ 65535 → 0 ≤ y2.toInt → y2.toInt ≤ 13 → y2.toInt - sz.toInt ≤ 0 → sz.toInt - y2.toInt < (n4 : Int) → y1.toInt = AAS (RIG a.toInt (ci σ0 kn) (ci σ0 op)) (y2.toInt).toNat → y2.toInt ≤ sz.toInt → En 1 21 none mr_32 (P_32x σ0 s a kn op sz) 4 [(0, .ref s), (1, .int a), (2, .int y1), (3, .int y2)] [] σ0 := by
    intro n4
    induction n4 with
    | zero =>
      intro y1 y2 h6 h7 h8 h9 h10 h11 h12 h13
      first | exact (q_14257feae7 h10 h11).elim | (exfalso; omega)
    | succ n4 ih4 =>
      intro y1 y2 h6 h7 h8 h9 h10 h11 h12 h13
      refine En_Ps 2 (pc' := 6) (lv' := [(0, .ref s), (1, .int a), (2, .int y1), (3, .int y2)]) (st' := [.ref s, .int y2]) rfl ?_
      refine En_getK (j := 2) h_sz rfl rfl rfl hs (by decide +kernel) ?_
      refine En_icGe _ rfl rfl rfl (fun h14 => ?_) (fun h14 => ?_)
      · refine En_Ps 1 (pc' := 44) (lv' := [(0, .ref s), (1, .int a), (2, .int y1), (3, .int y2)]) (st' := [.int y1]) rfl ?_
        exact En_ret (v := some (Value.int y1)) rfl rfl rfl ⟨hσ0, hF0, y1, rfl, ⟨by first | exact q_c803b490ef h6 | omega, by first | exact q_e7edf0f95a h7 | omega, AAS_e h12 (by omega) (by omega)⟩⟩
      · refine En_Ps 2 (pc' := 14) (lv' := [(0, .ref s), (1, .int a), (2, .int y1), (3, .int y2)]) (st' := [.ref s, .int a]) rfl ?_
        refine En_getK (j := 0) h_kn rfl rfl rfl hs (by decide +kernel) ?_
        refine En_Ps 1 (pc' := 18) (lv' := [(0, .ref s), (1, .int a), (2, .int y1), (3, .int y2)]) (st' := [.int y2, .ref kn, .int a]) rfl ?_
        refine En_iald (l := 0) (u := 15) rfl rfl hkn (by decide +kernel) hσ0 (by first | exact q_58e6e51dcc h8 | omega) (lnI (by decide +kernel : LN _ = 13) (by first | exact q_314deb8953 h14 hu_sz | omega)) (FTsgl (by decide +kernel)) (fun z16 h15 h17 h18 => ?_)
        have h19 : ci σ0 kn (y2.toInt) = z16.toInt := ci_at h15 rfl
        refine En_callS rfl rfl rfl rfl rfl rfl rfl rfl rfl (c_108ax σ0 hσ0 a z16 (geI rfl (by first | exact q_58e6e51dcc hl_a | omega)) (leI rfl (by first | exact q_36eb0a70bf hu_a | omega)) (geI rfl (by first | exact q_58e6e51dcc h17 | omega)) (leI rfl (by first | exact q_5a4d8a7e08 h18 | omega))) (by decide) (by decide) (fun v21 σ22 h20 => ?_)
        obtain ⟨h23, h24, z26, rfl, h25⟩ := h20
        have h27 := h25.2.2
        obtain rfl : σ0 = σ22 := Fr_nil h24
        refine En_Ps 1 (pc' := 23) (lv' := [(0, .ref s), (1, .int a), (2, .int y1), (3, .int y2)]) (st' := [.ref s, .int z26]) rfl ?_
        refine En_getK (j := 1) h_op rfl rfl rfl hs (by decide +kernel) ?_
        refine En_Ps 1 (pc' := 27) (lv' := [(0, .ref s), (1, .int a), (2, .int y1), (3, .int y2)]) (st' := [.int y2, .ref op, .int z26]) rfl ?_
        refine En_iald (l := 0) (u := 1) rfl rfl hop (by decide +kernel) hσ0 (by first | exact q_58e6e51dcc h8 | omega) (lnI (by decide +kernel : LN _ = 13) (by first | exact q_314deb8953 h14 hu_sz | omega)) (FTsgl (by decide +kernel)) (fun z29 h28 h30 h31 => ?_)
        have h32 : ci σ0 op (y2.toInt) = z29.toInt := ci_at h28 rfl
        refine En_icNe _ rfl rfl rfl (fun h33 => ?_) (fun h33 => ?_)
        · refine En_Ps 1 (pc' := 40) (lv' := [(3, .int ((y2 + Int32.ofInt 1))), (0, .ref s), (1, .int a), (2, .int y1)]) (st' := []) rfl ?_
          refine En_lv1 (addI rfl (by decide : (Int32.ofInt 1).toInt = 1) (by first | exact q_465ab79ac1 h8 | omega) (by first | exact q_d22f73d43b h9 | omega)) (fun z34 h35 => ?_)
          refine En_Ps 1 (pc' := 4) (lv' := [(3, .int z34), (0, .ref s), (1, .int a), (2, .int y1)]) (st' := []) rfl ?_
          refine En_lv (lv := [(0, .ref s), (1, .int a), (2, .int y1), (3, .int z34)]) ⟨rfl, rfl, rfl, rfl, trivial⟩ ?_
          exact ih4 y1 z34 (by first | exact q_58e6e51dcc h6 | omega) (by first | exact q_36eb0a70bf h7 | omega) (by first | exact q_35104ce9d3 h35 h8 | omega) (by first | exact q_96e029a9d9 h35 h14 hu_sz | omega) (by first | exact q_ae2dbf4292 h14 h35 | omega) (by first | exact q_8d03a5a7cb h35 h11 | omega) (AAS_n (by omega) h12 (RIG_n h19 h32 (by omega)) (by omega) (by omega)) ((by omega))
        · refine En_Ps 4 (pc' := 35) (lv' := [(0, .ref s), (1, .int a), (2, .int y1), (3, .int y2)]) (st' := [.int ((((Int32.ofInt 1)) <<< (y2 &&& 31))), .int y1]) rfl ?_
          refine En_nam (fun z36 h37 => ?_)
          have h38 : z36.toInt = pI y2.toInt := shl_v h37 rfl (by omega) (by omega)
          have := pI_pos y2.toInt
          have : pI y2.toInt ≤ 4096 := pI_mono (Y := 12) (by omega)
          refine En_Ps 1 (pc' := 36) (lv' := [(0, .ref s), (1, .int a), (2, .int y1), (3, .int y2)]) (st' := [.int ((y1 ||| z36))]) rfl ?_
          refine En_nam (fun z39 h40 => ?_)
          have h41 : z39.toInt = oN y1.toInt z36.toInt := or_v h40 rfl rfl (by omega) (by omega)
          have := oN_lt (X := y1.toInt) (Y := z36.toInt) 16 (by omega) (by omega) (Int.lt_of_le_of_lt (by omega : _ ≤ (65535 : Int)) (by decide)) (Int.lt_of_le_of_lt (by omega : _ ≤ (65535 : Int)) (by decide))
          have two16 : ((2 ^ 16 : Nat) : Int) = 65536 := by decide
          refine En_Ps 2 (pc' := 40) (lv' := [(3, .int ((y2 + Int32.ofInt 1))), (2, .int z39), (0, .ref s), (1, .int a)]) (st' := []) rfl ?_
          refine En_lv1 (addI rfl (by decide : (Int32.ofInt 1).toInt = 1) (by first | exact q_465ab79ac1 h8 | omega) (by first | exact q_d22f73d43b h9 | omega)) (fun z42 h43 => ?_)
          refine En_Ps 1 (pc' := 4) (lv' := [(3, .int z42), (2, .int z39), (0, .ref s), (1, .int a)]) (st' := []) rfl ?_
          refine En_lv (lv := [(0, .ref s), (1, .int a), (2, .int z39), (3, .int z42)]) ⟨rfl, rfl, rfl, rfl, trivial⟩ ?_
          exact ih4 z39 z42 (by omega) (by omega) (by first | exact q_35104ce9d3 h43 h8 | omega) (by first | exact q_96e029a9d9 h43 h14 hu_sz | omega) (by first | exact q_ae2dbf4292 h14 h43 | omega) (by first | exact q_8d03a5a7cb h43 h11 | omega) (AAS_y (q := z36.toInt) (by omega) h12 (RIG_y h19 h32 (by omega)) (by omega) (by omega) (by omega)) ((by omega))
  have := (by decide : (Int32.ofInt 0).toInt = 0)
  have := (by decide : (Int32.ofInt 0).toInt = 0)
  refine En_lv (lv := [(0, .ref s), (1, .int a), (2, .int ((Int32.ofInt 0))), (3, .int ((Int32.ofInt 0)))]) ⟨rfl, rfl, rfl, rfl, trivial⟩ ?_
  exact key4 (Int.toNat (sz.toInt) + 1) ((Int32.ofInt 0)) ((Int32.ofInt 0)) (by decide) (by decide) (by decide) (by decide) (by omega) (by first | exact toN_lt _ | omega) (AAS_0 (by omega) (by omega)) ((by omega))
/-- DoorSchool$Lessons.takeOut(I)V -/
abbrev P_41ax (σ0 : SG) (s : Nat) (a : Int32) (kn : Nat) (op : Nat) (sz : Int32) : PO := fun v σ => WT σ ∧ Fr [(20, 2)] σ0 σ ∧ ∃ sz1 : Int32, (σ s)[2]? = some (Value.int sz1) ∧ v = none ∧ -sz1.toInt ≤ 0 ∧ sz1.toInt - 12 ≤ 0 ∧ -sz1.toInt + sz.toInt - 1 ≤ 0 ∧ sz1.toInt - sz.toInt + 1 ≤ 0 ∧ sz1.toInt - sz.toInt + 1 ≤ 0 ∧ -sz1.toInt + sz.toInt - 1 ≤ 0 ∧ DRPp σ0 σ s sz.toInt
set_option maxRecDepth 10000 in
set_option maxHeartbeats 4000000 in
theorem c_41ax (σ0 : SG) (hσ0 : WT σ0) (s : Nat) (hs : TG s = 20) (a : Int32) (hl_a : 0 ≤ a.toInt) (hu_a : a.toInt ≤ 12) (kn : Nat) (hkn : TG kn = 21) (h_kn : (σ0 s)[0]? = some (Value.ref kn)) (op : Nat) (hop : TG op = 22) (h_op : (σ0 s)[1]? = some (Value.ref op)) (sz : Int32) (h_sz : (σ0 s)[2]? = some (Value.int sz)) (hp0 : a.toInt - sz.toInt + 1 ≤ 0) (hp1 : -a.toInt + sz.toInt - 1 ≤ 0) : En 0 0 none mr_41 (P_41ax σ0 s a kn op sz) 0 [(0, .ref s), (1, .int a)] [] σ0 := by
  obtain ⟨hl_sz, hu_sz⟩ := WT_int hσ0 (g := 20) hs (by decide +kernel) (l := 0) (u := 13) (by decide +kernel) h_sz
  have hF0 : Fr [(20, 2)] σ0 σ0 := Fr_rfl
  refine En_Ps 1 (pc' := 1) (lv' := [(0, .ref s), (1, .int a)]) (st' := [.int a]) rfl ?_
  refine En_iLt _ rfl rfl (fun hx => by first | exact (q_ca2574f947 hl_a hx).elim | (exfalso; omega)) (fun h1 => ?_)
  refine En_Ps 2 (pc' := 6) (lv' := [(0, .ref s), (1, .int a)]) (st' := [.ref s, .int a]) rfl ?_
  refine En_getK (j := 2) h_sz rfl rfl rfl hs (by decide +kernel) ?_
  refine En_icLt _ rfl rfl rfl (fun h2 => ?_) (fun hx => by first | exact (q_92d2fd6345 hp0 hx).elim | (exfalso; omega))
  refine En_Ps 5 (pc' := 18) (lv' := [(2, .int a), (0, .ref s), (1, .int a)]) (st' := [.int ((a + ((Int32.ofInt 1))))]) rfl ?_
  refine En_top (addI rfl (by decide : (Int32.ofInt 1).toInt = 1) (by first | exact q_465ab79ac1 hl_a | omega) (by first | exact q_1fdc13c345 hu_a | omega)) (fun z3 h4 => ?_)
  refine En_Ps 1 (pc' := 19) (lv' := [(2, .int a), (0, .ref s), (1, .int a)]) (st' := [.ref s, .int z3]) rfl ?_
  refine En_getK (j := 2) h_sz rfl rfl rfl hs (by decide +kernel) ?_
  refine En_icGe _ rfl rfl rfl (fun h5 => ?_) (fun hx => by first | exact (q_948883f2c4 hp1 h4 hx).elim | (exfalso; omega))
  refine En_Ps 2 (pc' := 61) (lv' := [(2, .int a), (0, .ref s), (1, .int a)]) (st' := [.ref s, .ref s]) rfl ?_
  refine En_getK (j := 2) h_sz rfl rfl rfl hs (by decide +kernel) ?_
  refine En_Ps 2 (pc' := 66) (lv' := [(2, .int a), (0, .ref s), (1, .int a)]) (st' := [.int ((sz - ((Int32.ofInt 1)))), .ref s]) rfl ?_
  refine En_top (subI rfl (by decide : (Int32.ofInt 1).toInt = 1) (by first | exact q_93f9478bef hl_sz | omega) (by first | exact q_36ce509e97 hu_sz | omega)) (fun z6 h7 => ?_)
  refine En_put (j := 2) rfl rfl rfl hs (by decide +kernel) rfl (vI (l := 0) (u := 13) (by decide +kernel) rfl (by first | exact q_7aac38d150 h7 hp0 hl_a | omega) (by first | exact q_6c9ce9e948 h7 hu_sz | omega)) hσ0 hF0 (by decide +kernel) (fun σ8 h9 h10 h11 h12 => ?_)
  exact En_ret (v := none) rfl rfl rfl ⟨h9, h10, z6, h11, rfl, ⟨by first | exact q_a3a41410e6 h7 hp0 hl_a | omega, by first | exact q_d44cac6eaa h7 hu_sz | omega, by first | exact q_e4a5646b6e h7 | omega, by first | exact q_8e6f8e4fd9 h7 | omega, by first | exact q_8e6f8e4fd9 h7 | omega, by first | exact q_e4a5646b6e h7 | omega, DRP_mk h11 h12 (by (first | exact q_0c138feee5 h7 | omega))⟩⟩
/-- DoorSchool$Lessons.takeOut(I)V -/
abbrev P_41bx (σ0 : SG) (s : Nat) (a : Int32) (kn : Nat) (op : Nat) (sz : Int32) : PO := fun v σ => WT σ ∧ Fr [(20, 2), (21, 0), (22, 0)] σ0 σ ∧ ∃ sz1 : Int32, (σ s)[2]? = some (Value.int sz1) ∧ v = none ∧ -sz1.toInt ≤ 0 ∧ sz1.toInt - 12 ≤ 0 ∧ -sz1.toInt + sz.toInt - 1 ≤ 0 ∧ sz1.toInt - sz.toInt + 1 ≤ 0 ∧ sz1.toInt - sz.toInt + 1 ≤ 0 ∧ -sz1.toInt + sz.toInt - 1 ≤ 0 ∧ TKO σ0 σ s kn op a.toInt sz.toInt
set_option maxRecDepth 10000 in
set_option maxHeartbeats 4000000 in
theorem c_41bx (σ0 : SG) (hσ0 : WT σ0) (s : Nat) (hs : TG s = 20) (a : Int32) (hl_a : 0 ≤ a.toInt) (hu_a : a.toInt ≤ 12) (kn : Nat) (hkn : TG kn = 21) (h_kn : (σ0 s)[0]? = some (Value.ref kn)) (op : Nat) (hop : TG op = 22) (h_op : (σ0 s)[1]? = some (Value.ref op)) (sz : Int32) (h_sz : (σ0 s)[2]? = some (Value.int sz)) (hp0 : a.toInt - sz.toInt + 1 ≤ 0) : En 0 0 none mr_41 (P_41bx σ0 s a kn op sz) 0 [(0, .ref s), (1, .int a)] [] σ0 := by
  obtain ⟨hl_sz, hu_sz⟩ := WT_int hσ0 (g := 20) hs (by decide +kernel) (l := 0) (u := 13) (by decide +kernel) h_sz
  have hF0 : Fr [(20, 2), (21, 0), (22, 0)] σ0 σ0 := Fr_rfl
  refine En_Ps 1 (pc' := 1) (lv' := [(0, .ref s), (1, .int a)]) (st' := [.int a]) rfl ?_
  refine En_iLt _ rfl rfl (fun hx => by first | exact (q_ca2574f947 hl_a hx).elim | (exfalso; omega)) (fun h1 => ?_)
  refine En_Ps 2 (pc' := 6) (lv' := [(0, .ref s), (1, .int a)]) (st' := [.ref s, .int a]) rfl ?_
  refine En_getK (j := 2) h_sz rfl rfl rfl hs (by decide +kernel) ?_
  refine En_icLt _ rfl rfl rfl (fun h2 => ?_) (fun hx => by first | exact (q_92d2fd6345 hp0 hx).elim | (exfalso; omega))
  refine En_Ps 2 (pc' := 15) (lv' := [(2, .int a), (0, .ref s), (1, .int a)]) (st' := []) rfl ?_
  have key15 : ∀ (n15 : Nat) (σ4 : SG) (y3 : Int32), WT σ4 → Fr [(20, 2), (21, 0), (22, 0)] σ0 σ4 → (σ4 s)[0]? = some (Value.ref kn) → (σ4 s)[1]? = some (Value.ref op) → (σ4 s)[2]? = some (Value.int sz) → 0 ≤ y3.toInt → y3.toInt ≤ 12 → a.toInt - y3.toInt ≤ 0 → y3.toInt - sz.toInt + 1 ≤ 0 → sz.toInt - y3.toInt < (n15 : Int) → TKI σ0 σ4 kn op a.toInt y3.toInt → En 0 0 none mr_41 (P_41bx σ0 s a kn op sz) 15 [(0, .ref s), (1, .int a), (2, .int y3)] [] σ4 := by
    intro n15
    induction n15 with
    | zero =>
      intro σ4 y3 h5 h6 h7 h8 h9 h10 h11 h12 h13 h14 h15
      first | exact (q_33086d7645 h13 h14).elim | (exfalso; omega)
    | succ n15 ih15 =>
      intro σ4 y3 h5 h6 h7 h8 h9 h10 h11 h12 h13 h14 h15
      refine En_Ps 3 (pc' := 18) (lv' := [(0, .ref s), (1, .int a), (2, .int y3)]) (st' := [.int ((y3 + ((Int32.ofInt 1))))]) rfl ?_
      refine En_top (addI rfl (by decide : (Int32.ofInt 1).toInt = 1) (by first | exact q_465ab79ac1 h10 | omega) (by first | exact q_1fdc13c345 h11 | omega)) (fun z16 h17 => ?_)
      refine En_Ps 1 (pc' := 19) (lv' := [(0, .ref s), (1, .int a), (2, .int y3)]) (st' := [.ref s, .int z16]) rfl ?_
      refine En_getK (j := 2) h9 rfl rfl rfl hs (by decide +kernel) ?_
      refine En_icGe _ rfl rfl rfl (fun h18 => ?_) (fun h18 => ?_)
      · refine En_Ps 2 (pc' := 61) (lv' := [(0, .ref s), (1, .int a), (2, .int y3)]) (st' := [.ref s, .ref s]) rfl ?_
        refine En_getK (j := 2) h9 rfl rfl rfl hs (by decide +kernel) ?_
        refine En_Ps 2 (pc' := 66) (lv' := [(0, .ref s), (1, .int a), (2, .int y3)]) (st' := [.int ((sz - ((Int32.ofInt 1)))), .ref s]) rfl ?_
        refine En_top (subI rfl (by decide : (Int32.ofInt 1).toInt = 1) (by first | exact q_93f9478bef hl_sz | omega) (by first | exact q_36ce509e97 hu_sz | omega)) (fun z19 h20 => ?_)
        refine En_put (j := 2) rfl rfl rfl hs (by decide +kernel) rfl (vI (l := 0) (u := 13) (by decide +kernel) rfl (by first | exact q_7aac38d150 h20 hp0 hl_a | omega) (by first | exact q_6c9ce9e948 h20 hu_sz | omega)) h5 h6 (by decide +kernel) (fun σ21 h22 h23 h24 h25 => ?_)
        exact En_ret (v := none) rfl rfl rfl ⟨h22, h23, z19, h24, rfl, ⟨by first | exact q_a3a41410e6 h20 hp0 hl_a | omega, by first | exact q_d44cac6eaa h20 hu_sz | omega, by first | exact q_e4a5646b6e h20 | omega, by first | exact q_8e6f8e4fd9 h20 | omega, by first | exact q_8e6f8e4fd9 h20 | omega, by first | exact q_e4a5646b6e h20 | omega, TKI_x h15 (by (first | exact q_455e899177 h18 h17 h13 | omega)) h24 h25 (by (first | exact q_0c138feee5 h20 | omega)) (neTG hkn hs (by decide)) (neTG hop hs (by decide))⟩⟩
      · refine En_Ps 1 (pc' := 26) (lv' := [(0, .ref s), (1, .int a), (2, .int y3)]) (st' := [.ref s]) rfl ?_
        refine En_getK (j := 0) h7 rfl rfl rfl hs (by decide +kernel) ?_
        refine En_Ps 2 (pc' := 31) (lv' := [(0, .ref s), (1, .int a), (2, .int y3)]) (st' := [.ref s, .int y3, .ref kn]) rfl ?_
        refine En_getK (j := 0) h7 rfl rfl rfl hs (by decide +kernel) ?_
        refine En_Ps 3 (pc' := 37) (lv' := [(0, .ref s), (1, .int a), (2, .int y3)]) (st' := [.int ((y3 + ((Int32.ofInt 1)))), .ref kn, .int y3, .ref kn]) rfl ?_
        refine En_top (addI rfl (by decide : (Int32.ofInt 1).toInt = 1) (by first | exact q_465ab79ac1 h10 | omega) (by first | exact q_1fdc13c345 h11 | omega)) (fun z26 h27 => ?_)
        refine En_iald (l := 0) (u := 15) rfl rfl hkn (by decide +kernel) h5 (by first | exact q_35104ce9d3 h27 h10 | omega) (lnI (by decide +kernel : LN _ = 13) (by first | exact q_5d2c583439 h27 h17 h18 hu_sz | omega)) (FTsgl (by decide +kernel)) (fun z29 h28 h30 h31 => ?_)
        refine En_iast (l := 0) (u := 15) rfl rfl hkn (by decide +kernel) (by first | exact q_58e6e51dcc h10 | omega) (lnI (by decide +kernel : LN _ = 13) (by first | exact q_eca5b91a1e h11 | omega)) (FTsgl (by decide +kernel)) (rngI rfl (by first | exact q_58e6e51dcc h30 | omega) (by first | exact q_5a4d8a7e08 h31 | omega)) h5 h6 (by decide +kernel) (fun σ32 h33 h34 h35 h36 => ?_)
        refine En_Ps 1 (pc' := 40) (lv' := [(0, .ref s), (1, .int a), (2, .int y3)]) (st' := [.ref s]) rfl ?_
        refine En_getK (j := 1) ((h36 _ _ (Or.inl (neTG hs hkn (by decide)))).trans h8) rfl rfl rfl hs (by decide +kernel) ?_
        refine En_Ps 2 (pc' := 45) (lv' := [(0, .ref s), (1, .int a), (2, .int y3)]) (st' := [.ref s, .int y3, .ref op]) rfl ?_
        refine En_getK (j := 1) ((h36 _ _ (Or.inl (neTG hs hkn (by decide)))).trans h8) rfl rfl rfl hs (by decide +kernel) ?_
        refine En_Ps 3 (pc' := 51) (lv' := [(0, .ref s), (1, .int a), (2, .int y3)]) (st' := [.int ((y3 + ((Int32.ofInt 1)))), .ref op, .int y3, .ref op]) rfl ?_
        refine En_top (addI rfl (by decide : (Int32.ofInt 1).toInt = 1) (by first | exact q_465ab79ac1 h10 | omega) (by first | exact q_1fdc13c345 h11 | omega)) (fun z37 h38 => ?_)
        refine En_iald (l := 0) (u := 1) rfl rfl hop (by decide +kernel) h33 (by first | exact q_35104ce9d3 h38 h10 | omega) (lnI (by decide +kernel : LN _ = 13) (by first | exact q_5d2c583439 h38 h17 h18 hu_sz | omega)) (FTsgl (by decide +kernel)) (fun z40 h39 h41 h42 => ?_)
        refine En_iast (l := 0) (u := 1) rfl rfl hop (by decide +kernel) (by first | exact q_58e6e51dcc h10 | omega) (lnI (by decide +kernel : LN _ = 13) (by first | exact q_eca5b91a1e h11 | omega)) (FTsgl (by decide +kernel)) (rngI rfl (by first | exact q_58e6e51dcc h41 | omega) (by first | exact q_9d0c30f9c5 h42 | omega)) h33 h34 (by decide +kernel) (fun σ43 h44 h45 h46 h47 => ?_)
        refine En_Ps 1 (pc' := 56) (lv' := [(2, .int ((y3 + Int32.ofInt 1))), (0, .ref s), (1, .int a)]) (st' := []) rfl ?_
        refine En_lv1 (addI rfl (by decide : (Int32.ofInt 1).toInt = 1) (by first | exact q_465ab79ac1 h10 | omega) (by first | exact q_1fdc13c345 h11 | omega)) (fun z48 h49 => ?_)
        refine En_Ps 1 (pc' := 15) (lv' := [(2, .int z48), (0, .ref s), (1, .int a)]) (st' := []) rfl ?_
        refine En_lv (lv := [(0, .ref s), (1, .int a), (2, .int z48)]) ⟨rfl, rfl, rfl, trivial⟩ ?_
        exact ih15 σ43 z48 h44 h45 ((h47 _ _ (Or.inl (neTG hs hop (by decide)))).trans ((h36 _ _ (Or.inl (neTG hs hkn (by decide)))).trans h7)) ((h47 _ _ (Or.inl (neTG hs hop (by decide)))).trans ((h36 _ _ (Or.inl (neTG hs hkn (by decide)))).trans h8)) ((h47 _ _ (Or.inl (neTG hs hop (by decide)))).trans ((h36 _ _ (Or.inl (neTG hs hkn (by decide)))).trans h9)) (by first | exact q_35104ce9d3 h49 h10 | omega) (by first | exact q_aa13a08d74 h49 h17 h18 hu_sz | omega) (by first | exact q_3a5e225620 h12 h49 | omega) (by first | exact q_7c639a0963 h17 h18 h49 | omega) (by first | exact q_8d03a5a7cb h49 h14 | omega) (TKI_s (J := y3.toInt) (J' := y3.toInt + 1) h15 (neTG hkn hop (by decide)) (by rw [show y3.toInt + 1 = z26.toInt by (first | exact q_dd63493976 h27 | omega)]; exact h28) h35 h36 (by rw [show y3.toInt + 1 = z37.toInt by (first | exact q_dd63493976 h38 | omega)]; exact h39) h46 h47 (by (first | exact q_61ddd2b576 | omega)) (by (first | exact q_a758490361 | omega)) (by (first | exact q_58e6e51dcc h1 | omega)) (by (first | exact q_2f9e8475ec h12 | omega)) (by (first | exact q_ba1b2c713b h49 | omega)))
  refine En_lv (lv := [(0, .ref s), (1, .int a), (2, .int a)]) ⟨rfl, rfl, rfl, trivial⟩ ?_
  exact key15 (Int.toNat (sz.toInt - a.toInt) + 1) σ0 a hσ0 hF0 h_kn h_op h_sz (by first | exact q_58e6e51dcc hl_a | omega) (by first | exact q_7c77837619 hu_a | omega) (by first | exact q_1bb76abeaf | omega) (by first | exact q_ef157b5a0e hp0 | omega) (by first | exact toN_lt _ | omega) (TKI_0 rfl)
/-- DoorSchool$Lessons.dropLast()V -/
abbrev P_33x (σ0 : SG) (s : Nat) (kn : Nat) (op : Nat) (sz : Int32) : PO := fun v σ => WT σ ∧ Fr [(20, 2)] σ0 σ ∧ ∃ sz1 : Int32, (σ s)[2]? = some (Value.int sz1) ∧ v = none ∧ -sz1.toInt ≤ 0 ∧ sz1.toInt - 12 ≤ 0 ∧ -sz1.toInt + sz.toInt - 1 ≤ 0 ∧ sz1.toInt - sz.toInt + 1 ≤ 0 ∧ sz1.toInt - sz.toInt + 1 ≤ 0 ∧ -sz1.toInt + sz.toInt - 1 ≤ 0 ∧ DRPp σ0 σ s sz.toInt
set_option maxRecDepth 10000 in
set_option maxHeartbeats 4000000 in
theorem c_33x (σ0 : SG) (hσ0 : WT σ0) (s : Nat) (hs : TG s = 20) (kn : Nat) (hkn : TG kn = 21) (h_kn : (σ0 s)[0]? = some (Value.ref kn)) (op : Nat) (hop : TG op = 22) (h_op : (σ0 s)[1]? = some (Value.ref op)) (sz : Int32) (h_sz : (σ0 s)[2]? = some (Value.int sz)) (hp0 : -sz.toInt + 1 ≤ 0) : En 1 22 none mr_33 (P_33x σ0 s kn op sz) 0 [(0, .ref s)] [] σ0 := by
  obtain ⟨hl_sz, hu_sz⟩ := WT_int hσ0 (g := 20) hs (by decide +kernel) (l := 0) (u := 13) (by decide +kernel) h_sz
  have hF0 : Fr [(20, 2)] σ0 σ0 := Fr_rfl
  refine En_Ps 2 (pc' := 2) (lv' := [(0, .ref s)]) (st' := [.ref s, .ref s]) rfl ?_
  refine En_getK (j := 2) h_sz rfl rfl rfl hs (by decide +kernel) ?_
  refine En_Ps 2 (pc' := 7) (lv' := [(0, .ref s)]) (st' := [.int ((sz - ((Int32.ofInt 1)))), .ref s]) rfl ?_
  refine En_top (subI rfl (by decide : (Int32.ofInt 1).toInt = 1) (by first | exact q_ead043ab48 hp0 | omega) (by first | exact q_36ce509e97 hu_sz | omega)) (fun z1 h2 => ?_)
  refine En_callV rfl rfl rfl rfl rfl rfl rfl rfl hs (by decide +kernel) rfl (c_41ax σ0 hσ0 s hs z1 (geI rfl (by first | exact q_ee40ea6e47 h2 hp0 | omega)) (leI rfl (by first | exact q_c1a695b5f4 h2 hu_sz | omega)) kn hkn h_kn op hop h_op sz h_sz (by first | exact q_8e6f8e4fd9 h2 | omega) (by first | exact q_e4a5646b6e h2 | omega)) (by decide) (by decide) (fun v4 σ5 h3 => ?_)
  obtain ⟨h6, h7, z9, h10, rfl, h8⟩ := h3
  have h11 := h8.2.2.2.2.2.2
  have h12 := Fr_trans hF0 h7 (by decide +kernel)
  exact En_ret (v := none) rfl rfl rfl ⟨h6, h12, z9, h10, rfl, ⟨by first | exact q_a555021d16 h8.1 | omega, by first | exact q_1d71e39f5f h8.2.1 | omega, by first | exact q_b155147890 h8.2.2.1 | omega, by first | exact q_ef157b5a0e h8.2.2.2.1 | omega, by first | exact q_ef157b5a0e h8.2.2.2.1 | omega, by first | exact q_b155147890 h8.2.2.1 | omega, h11⟩⟩
/-- DoorSchool$Plan.clear()V -/
abbrev P_42x (σ0 : SG) (s : Nat) : PO := fun v σ => WT σ ∧ Fr [(18, 0), (18, 1), (18, 2), (18, 3), (18, 6), (18, 7), (18, 8), (18, 11), (18, 14), (20, 2), (26, 0)] σ0 σ ∧ ∃ l0 : Int32, (σ s)[0]? = some (Value.int l0) ∧ ∃ g0 : Int32, (σ s)[1]? = some (Value.int g0) ∧ v = none ∧ OUT σ0 σ s ∧ -l0.toInt ≤ 0 ∧ l0.toInt ≤ 0 ∧ -g0.toInt ≤ 0 ∧ g0.toInt ≤ 0 ∧ l0.toInt ≤ 0 ∧ -l0.toInt ≤ 0 ∧ g0.toInt ≤ 0 ∧ -g0.toInt ≤ 0 ∧ (OTH s σ0 σ ∧ KN σ s (fun _ => 0) (act (fun _ => 0)))
set_option maxRecDepth 10000 in
set_option maxHeartbeats 4000000 in
theorem c_42x (σ0 : SG) (hσ0 : WT σ0) (s : Nat) (hs : TG s = 18) (hP : PLA s) (hX : FXP σ0 s) : En 1 23 none mr_42 (P_42x σ0 s) 0 [(0, .ref s)] [] σ0 := by
  have hF0 : Fr [(18, 0), (18, 1), (18, 2), (18, 3), (18, 6), (18, 7), (18, 8), (18, 11), (18, 14), (20, 2), (26, 0)] σ0 σ0 := Fr_rfl
  refine En_Ps 2 (pc' := 2) (lv' := [(0, .ref s)]) (st' := [.int ((Int32.ofInt 0)), .ref s]) rfl ?_
  refine En_put (j := 0) rfl rfl rfl hs (by decide +kernel) rfl (vI (l := 0) (u := 1601) (by decide +kernel) (by decide : (Int32.ofInt 0).toInt = 0) (by decide) (by decide)) hσ0 hF0 (by decide +kernel) (fun σ1 h2 h3 h4 h5 => ?_)
  have h6 := OTH_pj (OTH_0 (a := s) (σ := σ0)) h5 (by decide)
  have o7 : OUT σ0 σ1 s := OUT_st OUT_0 h5 (by omega)
  refine En_Ps 2 (pc' := 7) (lv' := [(0, .ref s)]) (st' := [.int ((Int32.ofInt 0)), .ref s]) rfl ?_
  refine En_put (j := 1) rfl rfl rfl hs (by decide +kernel) rfl (vI (l := (-1)) (u := 4) (by decide +kernel) (by decide : (Int32.ofInt 0).toInt = 0) (by decide) (by decide)) h2 h3 (by decide +kernel) (fun σ8 h9 h10 h11 h12 => ?_)
  have h13 := OTH_pt h6 h12
  have o14 : OUT σ0 σ8 s := OUT_st o7 h12 (by omega)
  refine En_Ps 2 (pc' := 12) (lv' := [(0, .ref s)]) (st' := [.int ((Int32.ofInt 0)), .ref s]) rfl ?_
  refine En_put (j := 2) rfl rfl rfl hs (by decide +kernel) rfl (vI (l := (-1)) (u := 3) (by decide +kernel) (by decide : (Int32.ofInt 0).toInt = 0) (by decide) (by decide)) h9 h10 (by decide +kernel) (fun σ15 h16 h17 h18 h19 => ?_)
  have h20 := OTH_pj h13 h19 (by decide)
  have o21 : OUT σ0 σ15 s := OUT_st o14 h19 (by omega)
  refine En_Ps 2 (pc' := 17) (lv' := [(0, .ref s)]) (st' := [.int ((Int32.ofInt 0)), .ref s]) rfl ?_
  refine En_put (j := 3) rfl rfl rfl hs (by decide +kernel) rfl (vI (l := 0) (u := 4) (by decide +kernel) (by decide : (Int32.ofInt 0).toInt = 0) (by decide) (by decide)) h16 h17 (by decide +kernel) (fun σ22 h23 h24 h25 h26 => ?_)
  have h27 := OTH_pj h20 h26 (by decide)
  have o28 : OUT σ0 σ22 s := OUT_st o21 h26 (by omega)
  refine En_Ps 1 (pc' := 21) (lv' := [(0, .ref s)]) (st' := [.ref s]) rfl ?_
  refine En_getR (j := 5) (g' := 20) (u := 0) rfl rfl rfl hs (by decide +kernel) h23 (by decide +kernel) (fun a30 h29 ha30 => ?_)
  refine En_Ps 1 (pc' := 25) (lv' := [(0, .ref s)]) (st' := [.int ((Int32.ofInt 0)), .ref a30]) rfl ?_
  have h31 : a30 = s + 2 := ref_uniq h29 (FXP_fr hP hX h24 (by decide +kernel)).2.1
  refine En_put (j := 2) rfl rfl rfl ha30 (by decide +kernel) rfl (vI (l := 0) (u := 13) (by decide +kernel) (by decide : (Int32.ofInt 0).toInt = 0) (by decide) (by decide)) h23 h24 (by decide +kernel) (fun σ32 h33 h34 h35 h36 => ?_)
  have h37 := OTH_pn h27 h36 ha30 (by decide)
  have o38 : OUT σ0 σ32 s := OUT_st o28 h36 (by omega)
  refine En_Ps 2 (pc' := 30) (lv' := [(0, .ref s)]) (st' := [.int ((Int32.ofInt 0)), .ref s]) rfl ?_
  refine En_put (j := 6) rfl rfl rfl hs (by decide +kernel) rfl (vI (l := 0) (u := 15) (by decide +kernel) (by decide : (Int32.ofInt 0).toInt = 0) (by decide) (by decide)) h33 h34 (by decide +kernel) (fun σ39 h40 h41 h42 h43 => ?_)
  have h44 := OTH_pj h37 h43 (by decide)
  have o45 : OUT σ0 σ39 s := OUT_st o38 h43 (by omega)
  refine En_Ps 2 (pc' := 35) (lv' := [(0, .ref s)]) (st' := [.int ((Int32.ofInt 0)), .ref s]) rfl ?_
  refine En_put (j := 7) rfl rfl rfl hs (by decide +kernel) rfl (vI (l := 0) (u := 15) (by decide +kernel) (by decide : (Int32.ofInt 0).toInt = 0) (by decide) (by decide)) h40 h41 (by decide +kernel) (fun σ46 h47 h48 h49 h50 => ?_)
  have h51 := OTH_pj h44 h50 (by decide)
  have o52 : OUT σ0 σ46 s := OUT_st o45 h50 (by omega)
  refine En_Ps 2 (pc' := 40) (lv' := [(0, .ref s)]) (st' := [.int ((Int32.ofInt 0)), .ref s]) rfl ?_
  refine En_put (j := 8) rfl rfl rfl hs (by decide +kernel) rfl (vI (l := 0) (u := 4) (by decide +kernel) (by decide : (Int32.ofInt 0).toInt = 0) (by decide) (by decide)) h47 h48 (by decide +kernel) (fun σ53 h54 h55 h56 h57 => ?_)
  have h58 := OTH_pj h51 h57 (by decide)
  have o59 : OUT σ0 σ53 s := OUT_st o52 h57 (by omega)
  refine En_Ps 2 (pc' := 45) (lv' := [(0, .ref s)]) (st' := [.int ((Int32.ofInt 0)), .ref s]) rfl ?_
  refine En_put (j := 11) rfl rfl rfl hs (by decide +kernel) rfl (vI (l := 0) (u := 6) (by decide +kernel) (by decide : (Int32.ofInt 0).toInt = 0) (by decide) (by decide)) h54 h55 (by decide +kernel) (fun σ60 h61 h62 h63 h64 => ?_)
  have h65 := OTH_pj h58 h64 (by decide)
  have o66 : OUT σ0 σ60 s := OUT_st o59 h64 (by omega)
  refine En_Ps 1 (pc' := 49) (lv' := [(0, .ref s)]) (st' := [.ref s]) rfl ?_
  refine En_getR (j := 13) (g' := 26) (u := 0) rfl rfl rfl hs (by decide +kernel) h61 (by decide +kernel) (fun a68 h67 ha68 => ?_)
  refine En_Ps 1 (pc' := 53) (lv' := [(0, .ref s)]) (st' := [.int ((Int32.ofInt 0)), .ref a68]) rfl ?_
  have h69 : a68 = s + 8 := ref_uniq h67 (FXP_fr hP hX h62 (by decide +kernel)).2.2.2.2.2.1
  have := (by decide : ((Int32.ofInt 0)).toInt = 0)
  refine En_callS rfl rfl rfl rfl rfl rfl rfl rfl rfl (c_8ax σ60 h61 a68 ha68 ((Int32.ofInt 0)) (geI (by decide : (Int32.ofInt 0).toInt = 0) (by decide)) (leI (by decide : (Int32.ofInt 0).toInt = 0) (by decide))) (by decide) (by decide) (fun v71 σ72 h70 => ?_)
  obtain ⟨h73, h74, rfl, h75⟩ := h70
  have h76 := h75
  have h77 := Fr_trans h62 h74 (by decide +kernel)
  have h78 := OTH_fr h65 h74 (by decide +kernel)
  have o79 : OUT σ0 σ72 s := OUT_cp o66 h76.2 (by omega)
  refine En_Ps 2 (pc' := 58) (lv' := [(0, .ref s)]) (st' := [.int ((Int32.ofInt 0)), .ref s]) rfl ?_
  refine En_put (j := 14) rfl rfl rfl hs (by decide +kernel) rfl (vI (l := 0) (u := 60) (by decide +kernel) (by decide : (Int32.ofInt 0).toInt = 0) (by decide) (by decide)) h73 h77 (by decide +kernel) (fun σ80 h81 h82 h83 h84 => ?_)
  have h85 := OTH_pj h78 h84 (by decide)
  have o86 : OUT σ0 σ80 s := OUT_st o79 h84 (by omega)
  have := (by decide : (Int32.ofInt 0).toInt = 0)
  have := (by decide : (Int32.ofInt 0).toInt = 0)
  have h87 : a30 = s + 2 := ref_uniq ((h84 _ _ (Or.inr (by decide))).trans ((h74 _ _ (inW hs (by decide +kernel))).trans ((h64 _ _ (Or.inr (by decide))).trans ((h57 _ _ (Or.inr (by decide))).trans ((h50 _ _ (Or.inr (by decide))).trans ((h43 _ _ (Or.inr (by decide))).trans ((h36 _ _ (Or.inr (by decide))).trans h29))))))) (FXP_fr hP hX h82 (by decide +kernel)).2.1
  have h88 : a68 = s + 8 := ref_uniq ((h84 _ _ (Or.inr (by decide))).trans ((h74 _ _ (inW hs (by decide +kernel))).trans h67)) (FXP_fr hP hX h82 (by decide +kernel)).2.2.2.2.2.1
  have h89 : ∀ k : Int, 0 ≤ k → k < 6 → ci σ80 (s + 8) k = 0 := fun k k0 k1 => by rw [← h88, ci_ne h84 (by rw [h88]; omega)]; exact h76.1 k k0 k1
  exact En_ret (v := none) rfl rfl rfl ⟨h81, h82, (Int32.ofInt 0), ((h84 _ _ (Or.inr (by decide))).trans ((h74 _ _ (inW hs (by decide +kernel))).trans ((h64 _ _ (Or.inr (by decide))).trans ((h57 _ _ (Or.inr (by decide))).trans ((h50 _ _ (Or.inr (by decide))).trans ((h43 _ _ (Or.inr (by decide))).trans ((h36 _ _ (Or.inr (by decide))).trans ((h26 _ _ (Or.inr (by decide))).trans ((h19 _ _ (Or.inr (by decide))).trans ((h12 _ _ (Or.inr (by decide))).trans h4)))))))))), (Int32.ofInt 0), ((h84 _ _ (Or.inr (by decide))).trans ((h74 _ _ (inW hs (by decide +kernel))).trans ((h64 _ _ (Or.inr (by decide))).trans ((h57 _ _ (Or.inr (by decide))).trans ((h50 _ _ (Or.inr (by decide))).trans ((h43 _ _ (Or.inr (by decide))).trans ((h36 _ _ (Or.inr (by decide))).trans ((h26 _ _ (Or.inr (by decide))).trans ((h19 _ _ (Or.inr (by decide))).trans h11))))))))), rfl, ⟨o86, by decide, by decide, by decide, by decide, by decide, by decide, by decide, by decide, ⟨h85, KN_clr ((ci_at (j := 0) ((h84 _ _ (Or.inr (by decide))).trans ((h74 _ _ (inW hs (by decide +kernel))).trans ((h64 _ _ (Or.inr (by decide))).trans ((h57 _ _ (Or.inr (by decide))).trans ((h50 _ _ (Or.inr (by decide))).trans ((h43 _ _ (Or.inr (by decide))).trans ((h36 _ _ (Or.inr (by decide))).trans ((h26 _ _ (Or.inr (by decide))).trans ((h19 _ _ (Or.inr (by decide))).trans ((h12 _ _ (Or.inr (by decide))).trans h4)))))))))) rfl).trans (by decide)) ((ci_at (j := 1) ((h84 _ _ (Or.inr (by decide))).trans ((h74 _ _ (inW hs (by decide +kernel))).trans ((h64 _ _ (Or.inr (by decide))).trans ((h57 _ _ (Or.inr (by decide))).trans ((h50 _ _ (Or.inr (by decide))).trans ((h43 _ _ (Or.inr (by decide))).trans ((h36 _ _ (Or.inr (by decide))).trans ((h26 _ _ (Or.inr (by decide))).trans ((h19 _ _ (Or.inr (by decide))).trans h11))))))))) rfl).trans (by decide)) ((ci_at (j := 2) ((h84 _ _ (Or.inr (by decide))).trans ((h74 _ _ (inW hs (by decide +kernel))).trans ((h64 _ _ (Or.inr (by decide))).trans ((h57 _ _ (Or.inr (by decide))).trans ((h50 _ _ (Or.inr (by decide))).trans ((h43 _ _ (Or.inr (by decide))).trans ((h36 _ _ (Or.inl (neTG hs ha30 (by decide)))).trans ((h26 _ _ (Or.inr (by decide))).trans h18)))))))) rfl).trans (by decide)) ((ci_at (j := 3) ((h84 _ _ (Or.inr (by decide))).trans ((h74 _ _ (inW hs (by decide +kernel))).trans ((h64 _ _ (Or.inr (by decide))).trans ((h57 _ _ (Or.inr (by decide))).trans ((h50 _ _ (Or.inr (by decide))).trans ((h43 _ _ (Or.inr (by decide))).trans ((h36 _ _ (Or.inr (by decide))).trans h25))))))) rfl).trans (by decide)) (by rw [← h87]; exact ((ci_at (j := 2) ((h84 _ _ (Or.inr (by decide))).trans ((h74 _ _ (inW ha30 (by decide +kernel))).trans ((h64 _ _ (Or.inr (by decide))).trans ((h57 _ _ (Or.inr (by decide))).trans ((h50 _ _ (Or.inr (by decide))).trans ((h43 _ _ (Or.inr (by decide))).trans h35)))))) rfl).trans (by decide))) ((ci_at (j := 6) ((h84 _ _ (Or.inr (by decide))).trans ((h74 _ _ (inW hs (by decide +kernel))).trans ((h64 _ _ (Or.inr (by decide))).trans ((h57 _ _ (Or.inr (by decide))).trans ((h50 _ _ (Or.inr (by decide))).trans h42))))) rfl).trans (by decide)) ((ci_at (j := 7) ((h84 _ _ (Or.inr (by decide))).trans ((h74 _ _ (inW hs (by decide +kernel))).trans ((h64 _ _ (Or.inr (by decide))).trans ((h57 _ _ (Or.inr (by decide))).trans h49)))) rfl).trans (by decide)) ((ci_at (j := 8) ((h84 _ _ (Or.inr (by decide))).trans ((h74 _ _ (inW hs (by decide +kernel))).trans ((h64 _ _ (Or.inr (by decide))).trans h56))) rfl).trans (by decide)) ((ci_at (j := 11) ((h84 _ _ (Or.inr (by decide))).trans ((h74 _ _ (inW hs (by decide +kernel))).trans h63)) rfl).trans (by decide)) ((ci_at (j := 14) h83 rfl).trans (by decide)) h89⟩⟩⟩
/-- DoorSchool$Plan.exists()Z -/
abbrev P_43x (σ0 : SG) (s : Nat) (l : Int32) : PO := fun v σ => WT σ ∧ Fr [] σ0 σ ∧ ∃ ret : Int32, v = some (Value.int ret) ∧ -ret.toInt ≤ 0 ∧ ret.toInt - 1 ≤ 0 ∧ Imp (-ret.toInt + 1 ≤ 0) (-l.toInt + 1 ≤ 0) ∧ Imp (-l.toInt + 1 ≤ 0) (-ret.toInt + 1 ≤ 0)
set_option maxRecDepth 10000 in
set_option maxHeartbeats 4000000 in
theorem c_43x (σ0 : SG) (hσ0 : WT σ0) (s : Nat) (hs : TG s = 18) (l : Int32) (h_l : (σ0 s)[0]? = some (Value.int l)) : En 0 0 none mr_43 (P_43x σ0 s l) 0 [(0, .ref s)] [] σ0 := by
  obtain ⟨hl_l, hu_l⟩ := WT_int hσ0 (g := 18) hs (by decide +kernel) (l := 0) (u := 1601) (by decide +kernel) h_l
  have hF0 : Fr [] σ0 σ0 := Fr_rfl
  refine En_Ps 1 (pc' := 1) (lv' := [(0, .ref s)]) (st' := [.ref s]) rfl ?_
  refine En_getK (j := 0) h_l rfl rfl rfl hs (by decide +kernel) ?_
  refine En_iLe _ rfl rfl (fun h1 => ?_) (fun h1 => ?_)
  · refine En_Ps 1 (pc' := 12) (lv' := [(0, .ref s)]) (st' := [.int ((Int32.ofInt 0))]) rfl ?_
    refine En_top (by decide : (Int32.ofInt 0).toInt = 0) (fun z2 h3 => ?_)
    exact En_ret (v := some (Value.int z2)) rfl rfl (retZ rfl rfl (by first | exact q_55451d0a83 h3 | omega) (by first | exact q_87849c3859 h3 | omega)) ⟨hσ0, hF0, z2, rfl, ⟨by first | exact q_097a37c2ae h3 | omega, by first | exact q_e269517bee h3 | omega, fun _ => by omega, fun _ => by omega⟩⟩
  · refine En_Ps 2 (pc' := 12) (lv' := [(0, .ref s)]) (st' := [.int ((Int32.ofInt 1))]) rfl ?_
    refine En_top (by decide : (Int32.ofInt 1).toInt = 1) (fun z4 h5 => ?_)
    exact En_ret (v := some (Value.int z4)) rfl rfl (retZ rfl rfl (by first | exact q_2b07c97645 h5 | omega) (by first | exact q_d9e7cbb253 h5 | omega)) ⟨hσ0, hF0, z4, rfl, ⟨by first | exact q_ad3eee31ca h5 | omega, by first | exact q_81cf297dc4 h5 | omega, fun hh => by first | exact q_f23a0149bf h1 | omega, fun hh => by first | exact q_a439be255a h5 | omega⟩⟩
/-- DoorSchool$Plan.isCopied(I)Z -/
abbrev P_45x (σ0 : SG) (Wv : Int → Int) (s : Nat) (a : Int32) : PO := fun v σ => WT σ ∧ Fr [] σ0 σ ∧ ∃ ret : Int32, v = some (Value.int ret) ∧ -ret.toInt ≤ 0 ∧ ret.toInt - 1 ≤ 0 ∧ Imp (ret.toInt - 1 ≤ 0 ∧ -ret.toInt + 1 ≤ 0) (-a.toInt - 1 ≤ 0 ∧ a.toInt - 3 ≤ 0) ∧ ret.toInt = cpI Wv a.toInt
set_option maxRecDepth 10000 in
set_option maxHeartbeats 4000000 in
theorem c_45x {Wv : Int → Int} (σ0 : SG) (hσ0 : WT σ0) (s : Nat) (hs : TG s = 18) (a : Int32) (hP : PLA s) (hX : FXP σ0 s) (hK : KN σ0 s Wv (act Wv)) : En 0 0 none mr_45 (P_45x σ0 Wv s a) 0 [(0, .ref s), (1, .int a)] [] σ0 := by
  have hF0 : Fr [] σ0 σ0 := Fr_rfl
  refine En_Ps 2 (pc' := 2) (lv' := [(2, .int ((Int32.ofInt 0))), (0, .ref s), (1, .int a)]) (st' := []) rfl ?_
  have key2 : ∀ (n2 : Nat) (y1 : Int32), 0 ≤ y1.toInt → y1.toInt ≤ 4 → -y1.toInt + 4 < (n2 : Int) → NCw Wv a.toInt y1.toInt → En 0 0 none mr_45 (P_45x σ0 Wv s a) 2 [(0, .ref s), (1, .int a), (2, .int y1)] [] σ0 := by
    intro n2
    induction n2 with
    | zero =>
      intro y1 h5 h6 h7 h8
      first | exact (q_20d6385c6f h7 h6).elim | (exfalso; omega)
    | succ n2 ih2 =>
      intro y1 h5 h6 h7 h8
      refine En_Ps 2 (pc' := 4) (lv' := [(0, .ref s), (1, .int a), (2, .int y1)]) (st' := [.ref s, .int y1]) rfl ?_
      refine En_getI (j := 3) (l := 0) (u := 4) rfl rfl rfl hs (by decide +kernel) hσ0 (by decide +kernel) (fun z10 h9 h11 h12 => ?_)
      have h13 : Wv 2 = z10.toInt := KN_v hK (Or.inl (by decide)) (by decide) (by decide) (by rw [lcO_lt (by decide) (by decide), Nat.add_zero]) rfl h9
      refine En_icGe _ rfl rfl rfl (fun h14 => ?_) (fun h14 => ?_)
      · refine En_Ps 1 (pc' := 32) (lv' := [(0, .ref s), (1, .int a), (2, .int y1)]) (st' := [.int ((Int32.ofInt 0))]) rfl ?_
        refine En_top (by decide : (Int32.ofInt 0).toInt = 0) (fun z15 h16 => ?_)
        exact En_ret (v := some (Value.int z15)) rfl rfl (retZ rfl rfl (by first | exact q_55451d0a83 h16 | omega) (by first | exact q_87849c3859 h16 | omega)) ⟨hσ0, hF0, z15, rfl, ⟨by first | exact q_097a37c2ae h16 | omega, by first | exact q_e269517bee h16 | omega, fun _ => by omega, CPw_n h8 (by (first | exact q_130eb18579 h14 h13 | omega)) (by (first | exact q_d2dcd30e56 h16 | omega))⟩⟩
      · refine En_Ps 1 (pc' := 11) (lv' := [(0, .ref s), (1, .int a), (2, .int y1)]) (st' := [.ref s]) rfl ?_
        refine En_getR (j := 4) (g' := 19) (u := 0) rfl rfl rfl hs (by decide +kernel) hσ0 (by decide +kernel) (fun a18 h17 ha18 => ?_)
        refine En_Ps 1 (pc' := 15) (lv' := [(0, .ref s), (1, .int a), (2, .int y1)]) (st' := [.int y1, .ref a18]) rfl ?_
        refine En_aald (g' := 28) (u := 0) rfl rfl ha18 (by decide +kernel) hσ0 (by first | exact q_58e6e51dcc h5 | omega) (lnI (by decide +kernel : LN _ = 4) (by first | exact q_1a45a931b1 h14 h12 | omega)) (FTsgl (by decide +kernel)) (fun a20 h19 ha20 => ?_)
        refine En_getI (j := 3) (l := (-1)) (u := 3) rfl rfl rfl ha20 (by decide +kernel) hσ0 (by decide +kernel) (fun z22 h21 h23 h24 => ?_)
        refine En_Ps 1 (pc' := 20) (lv' := [(0, .ref s), (1, .int a), (2, .int y1)]) (st' := [.int a, .int z22]) rfl ?_
        have h25 := DRc (d := y1.toInt) hX h17 h19 (by (first | exact q_58e6e51dcc h5 | omega)) (by (first | exact q_52e7395150 h14 h12 | omega))
        have h26 := lc_d (d := y1.toInt) (by (first | exact q_58e6e51dcc h5 | omega)) (by (first | exact q_52e7395150 h14 h12 | omega))
        have h27 : Wv (13 + 4 * y1.toInt) = z22.toInt := KN_v hK (Or.inr (Or.inl ⟨by (first | exact q_549ef2026b h5 | omega), by (first | exact q_6d937ea7be h14 h12 | omega), by omega⟩)) (by (first | exact q_ecbead000b h5 | omega)) (by (first | exact q_2958ed35f5 h6 | omega)) (by omega) (by (first | exact q_67bf5599ba h26.2.2.2.2.2.2.2 | omega)) h21
        refine En_icNe _ rfl rfl rfl (fun h28 => ?_) (fun h28 => ?_)
        · refine En_Ps 1 (pc' := 28) (lv' := [(2, .int ((y1 + Int32.ofInt 1))), (0, .ref s), (1, .int a)]) (st' := []) rfl ?_
          refine En_lv1 (addI rfl (by decide : (Int32.ofInt 1).toInt = 1) (by first | exact q_465ab79ac1 h5 | omega) (by first | exact q_f7282962fd h6 | omega)) (fun z29 h30 => ?_)
          refine En_Ps 1 (pc' := 2) (lv' := [(2, .int z29), (0, .ref s), (1, .int a)]) (st' := []) rfl ?_
          refine En_lv (lv := [(0, .ref s), (1, .int a), (2, .int z29)]) ⟨rfl, rfl, rfl, trivial⟩ ?_
          exact ih2 z29 (by first | exact q_35104ce9d3 h30 h5 | omega) (by first | exact q_de42116b63 h30 h14 h12 | omega) (by first | exact q_3d8d70ace2 h30 h7 | omega) (NCw_s h8 (by rw [h27]; (first | exact q_f3cb68eaf4 h28 | omega)) (by (first | exact q_ba1b2c713b h30 | omega)))
        · refine En_Ps 1 (pc' := 24) (lv' := [(0, .ref s), (1, .int a), (2, .int y1)]) (st' := [.int ((Int32.ofInt 1))]) rfl ?_
          refine En_top (by decide : (Int32.ofInt 1).toInt = 1) (fun z31 h32 => ?_)
          exact En_ret (v := some (Value.int z31)) rfl rfl (retZ rfl rfl (by first | exact q_2b07c97645 h32 | omega) (by first | exact q_d9e7cbb253 h32 | omega)) ⟨hσ0, hF0, z31, rfl, ⟨by first | exact q_ad3eee31ca h32 | omega, by first | exact q_81cf297dc4 h32 | omega, fun hh => by first | exact ⟨q_0989a0d07f h28 h23, q_c3d83eb9e6 h28 h24⟩ | omega, CPw_1 (y := y1.toInt) (by (first | exact q_58e6e51dcc h5 | omega)) (by (first | exact q_4cbdceccfe h14 h13 | omega)) (by (first | exact q_f0aa810593 h13 h12 | omega)) (by rw [h27]; (first | exact q_b1495600e7 h28 | omega)) (by (first | exact q_0bfa10f27c h32 | omega))⟩⟩
  have := (by decide : (Int32.ofInt 0).toInt = 0)
  refine En_lv (lv := [(0, .ref s), (1, .int a), (2, .int ((Int32.ofInt 0)))]) ⟨rfl, rfl, rfl, trivial⟩ ?_
  exact key2 (Int.toNat (4) + 1) ((Int32.ofInt 0)) (by decide) (by decide) (by first | exact toN_lt _ | omega) (fun q q0 q1 => by (first | exact q_4a3c5b87cf q1 q0 this | omega))
/-- DoorSchool$Plan.knocks()I -/
abbrev P_51x (σ0 : SG) (s : Nat) (sg : Int32) : PO := fun v σ => WT σ ∧ Fr [] σ0 σ ∧ ∃ ret : Int32, v = some (Value.int ret) ∧ -ret.toInt + 1 ≤ 0 ∧ ret.toInt - 16 ≤ 0 ∧ ret.toInt = pI sg.toInt
set_option maxRecDepth 10000 in
set_option maxHeartbeats 4000000 in
theorem c_51x (σ0 : SG) (hσ0 : WT σ0) (s : Nat) (hs : TG s = 18) (sg : Int32) (h_sg : (σ0 s)[1]? = some (Value.int sg)) (hp0 : -sg.toInt ≤ 0) : En 0 0 none mr_51 (P_51x σ0 s sg) 0 [(0, .ref s)] [] σ0 := by
  obtain ⟨hl_sg, hu_sg⟩ := WT_int hσ0 (g := 18) hs (by decide +kernel) (l := (-1)) (u := 4) (by decide +kernel) h_sg
  have hF0 : Fr [] σ0 σ0 := Fr_rfl
  refine En_Ps 2 (pc' := 2) (lv' := [(0, .ref s)]) (st' := [.ref s, .int ((Int32.ofInt 1))]) rfl ?_
  refine En_getK (j := 1) h_sg rfl rfl rfl hs (by decide +kernel) ?_
  refine En_Ps 1 (pc' := 6) (lv' := [(0, .ref s)]) (st' := [.int ((((Int32.ofInt 1)) <<< (sg &&& 31)))]) rfl ?_
  refine En_nam (fun z1 h2 => ?_)
  have h3 := shl1_v (y := sg) rfl (by (first | exact q_ef1e8e38bf hp0 | omega)) (by (first | exact q_c82ed93a8c hu_sg | omega))
  rw [← h2] at h3
  have h4 := shl1_p (y := sg) 4 rfl (by (first | exact q_ef1e8e38bf hp0 | omega)) (by (first | exact q_584a054cc0 hu_sg | omega)) (by decide)
  rw [← h2] at h4
  exact En_ret (v := some (Value.int z1)) rfl rfl rfl ⟨hσ0, hF0, z1, rfl, ⟨by (first | exact q_996bab80f3 h4.1 | omega), by omega, (by (first | exact q_b1495600e7 h3 | omega))⟩⟩
/-- DoorSchool$Plan.isDoor(I)Z -/
abbrev P_47x (σ0 : SG) (s : Nat) (a : Int32) (n : Int32) : PO := fun v σ => WT σ ∧ Fr [] σ0 σ ∧ ∃ ret : Int32, v = some (Value.int ret) ∧ -ret.toInt ≤ 0 ∧ ret.toInt - 1 ≤ 0 ∧ Imp (-ret.toInt + 1 ≤ 0) (-a.toInt ≤ 0 ∧ a.toInt - n.toInt + 1 ≤ 0) ∧ Imp (-a.toInt ≤ 0 ∧ a.toInt - n.toInt + 1 ≤ 0) (-ret.toInt + 1 ≤ 0) ∧ Imp (ret.toInt ≤ 0 ∧ -ret.toInt ≤ 0) (-a.toInt - 2147483648 ≤ 0 ∧ a.toInt - 2147483647 ≤ 0) ∧ Imp (ret.toInt - 1 ≤ 0 ∧ -ret.toInt + 1 ≤ 0) (-a.toInt ≤ 0 ∧ a.toInt - 3 ≤ 0)
set_option maxRecDepth 10000 in
set_option maxHeartbeats 4000000 in
theorem c_47x (σ0 : SG) (hσ0 : WT σ0) (s : Nat) (hs : TG s = 18) (a : Int32) (n : Int32) (h_n : (σ0 s)[3]? = some (Value.int n)) : En 0 0 none mr_47 (P_47x σ0 s a n) 0 [(0, .ref s), (1, .int a)] [] σ0 := by
  obtain ⟨hl_n, hu_n⟩ := WT_int hσ0 (g := 18) hs (by decide +kernel) (l := 0) (u := 4) (by decide +kernel) h_n
  have := Int32.le_toInt a
  have := Int32.toInt_lt a
  have hF0 : Fr [] σ0 σ0 := Fr_rfl
  refine En_Ps 1 (pc' := 1) (lv' := [(0, .ref s), (1, .int a)]) (st' := [.int a]) rfl ?_
  refine En_iLt _ rfl rfl (fun h1 => ?_) (fun h1 => ?_)
  · refine En_Ps 1 (pc' := 17) (lv' := [(0, .ref s), (1, .int a)]) (st' := [.int ((Int32.ofInt 0))]) rfl ?_
    refine En_top (by decide : (Int32.ofInt 0).toInt = 0) (fun z2 h3 => ?_)
    exact En_ret (v := some (Value.int z2)) rfl rfl (retZ rfl rfl (by first | exact q_55451d0a83 h3 | omega) (by first | exact q_87849c3859 h3 | omega)) ⟨hσ0, hF0, z2, rfl, ⟨by first | exact q_097a37c2ae h3 | omega, by first | exact q_e269517bee h3 | omega, fun _ => by omega, fun _ => by omega, fun _ => by omega, fun _ => by omega⟩⟩
  · refine En_Ps 2 (pc' := 6) (lv' := [(0, .ref s), (1, .int a)]) (st' := [.ref s, .int a]) rfl ?_
    refine En_getK (j := 3) h_n rfl rfl rfl hs (by decide +kernel) ?_
    refine En_icGe _ rfl rfl rfl (fun h4 => ?_) (fun h4 => ?_)
    · refine En_Ps 1 (pc' := 17) (lv' := [(0, .ref s), (1, .int a)]) (st' := [.int ((Int32.ofInt 0))]) rfl ?_
      refine En_top (by decide : (Int32.ofInt 0).toInt = 0) (fun z5 h6 => ?_)
      exact En_ret (v := some (Value.int z5)) rfl rfl (retZ rfl rfl (by first | exact q_55451d0a83 h6 | omega) (by first | exact q_87849c3859 h6 | omega)) ⟨hσ0, hF0, z5, rfl, ⟨by first | exact q_097a37c2ae h6 | omega, by first | exact q_e269517bee h6 | omega, fun _ => by omega, fun _ => by omega, fun _ => by omega, fun _ => by omega⟩⟩
    · refine En_Ps 2 (pc' := 17) (lv' := [(0, .ref s), (1, .int a)]) (st' := [.int ((Int32.ofInt 1))]) rfl ?_
      refine En_top (by decide : (Int32.ofInt 1).toInt = 1) (fun z7 h8 => ?_)
      exact En_ret (v := some (Value.int z7)) rfl rfl (retZ rfl rfl (by first | exact q_2b07c97645 h8 | omega) (by first | exact q_d9e7cbb253 h8 | omega)) ⟨hσ0, hF0, z7, rfl, ⟨by first | exact q_ad3eee31ca h8 | omega, by first | exact q_81cf297dc4 h8 | omega, fun hh => by first | exact ⟨q_c803b490ef h1, q_1be5a5166e h4⟩ | omega, fun hh => by first | exact q_a439be255a h8 | omega, fun hh => by first | exact ⟨q_0d55f0b380 h1, q_d9cc3a00e4 h4 hu_n⟩ | omega, fun hh => by first | exact ⟨q_c803b490ef h1, q_14bb4498e6 h4 hu_n⟩ | omega⟩⟩
/-- DoorSchool$Plan.isKnock(I)Z -/
abbrev P_49x (σ0 : SG) (s : Nat) (a : Int32) (l : Int32) (sg : Int32) : PO := fun v σ => WT σ ∧ Fr [] σ0 σ ∧ ∃ ret : Int32, v = some (Value.int ret) ∧ -ret.toInt ≤ 0 ∧ ret.toInt - 1 ≤ 0 ∧ Imp (ret.toInt - 1 ≤ 0 ∧ -ret.toInt + 1 ≤ 0) (-a.toInt ≤ 0 ∧ a.toInt - 15 ≤ 0) ∧ ((ret.toInt = 1 ∧ 0 < l.toInt ∧ 0 ≤ a.toInt ∧ a.toInt < pI sg.toInt) ∨ (ret.toInt = 0 ∧ (l.toInt ≤ 0 ∨ a.toInt < 0 ∨ pI sg.toInt ≤ a.toInt)))
set_option maxRecDepth 10000 in
set_option maxHeartbeats 4000000 in
theorem c_49x (σ0 : SG) (hσ0 : WT σ0) (s : Nat) (hs : TG s = 18) (a : Int32) (l : Int32) (h_l : (σ0 s)[0]? = some (Value.int l)) (sg : Int32) (h_sg : (σ0 s)[1]? = some (Value.int sg)) (hp0 : -sg.toInt ≤ 0) : En 1 20 none mr_49 (P_49x σ0 s a l sg) 0 [(0, .ref s), (1, .int a)] [] σ0 := by
  obtain ⟨hl_l, hu_l⟩ := WT_int hσ0 (g := 18) hs (by decide +kernel) (l := 0) (u := 1601) (by decide +kernel) h_l
  obtain ⟨hl_sg, hu_sg⟩ := WT_int hσ0 (g := 18) hs (by decide +kernel) (l := (-1)) (u := 4) (by decide +kernel) h_sg
  have hF0 : Fr [] σ0 σ0 := Fr_rfl
  refine En_Ps 1 (pc' := 1) (lv' := [(0, .ref s), (1, .int a)]) (st' := [.ref s]) rfl ?_
  refine En_callV rfl rfl rfl rfl rfl rfl rfl rfl hs (by decide +kernel) rfl (c_43x σ0 hσ0 s hs l h_l) (by decide) (by decide) (fun v2 σ3 h1 => ?_)
  obtain ⟨h4, h5, z7, rfl, h6⟩ := h1
  have h8 := Fr_trans hF0 h5 (by decide +kernel)
  have h9 := Imp_m h6.2.2.1
  have h10 := Imp_m h6.2.2.2
  refine En_iEq _ rfl rfl (fun h11 => ?_) (fun h11 => ?_)
  · refine En_Ps 1 (pc' := 24) (lv' := [(0, .ref s), (1, .int a)]) (st' := [.int ((Int32.ofInt 0))]) rfl ?_
    refine En_top (by decide : (Int32.ofInt 0).toInt = 0) (fun z12 h13 => ?_)
    exact En_ret (v := some (Value.int z12)) rfl rfl (retZ rfl rfl (by first | exact q_55451d0a83 h13 | omega) (by first | exact q_87849c3859 h13 | omega)) ⟨h4, h8, z12, rfl, ⟨by first | exact q_097a37c2ae h13 | omega, by first | exact q_e269517bee h13 | omega, fun _ => by omega, (by (first | exact q_ae4aed3c30 h13 h10 h11 | omega))⟩⟩
  · have h14 := Imp_m h6.2.2.1 (by first | exact q_e3350da514 h11 h6.1 | omega)
    have h15 := Imp_m h6.2.2.2 (by first | exact q_68fbff215b h14 | omega)
    refine En_Ps 1 (pc' := 8) (lv' := [(0, .ref s), (1, .int a)]) (st' := [.int a]) rfl ?_
    refine En_iLt _ rfl rfl (fun h16 => ?_) (fun h16 => ?_)
    · refine En_Ps 1 (pc' := 24) (lv' := [(0, .ref s), (1, .int a)]) (st' := [.int ((Int32.ofInt 0))]) rfl ?_
      refine En_top (by decide : (Int32.ofInt 0).toInt = 0) (fun z17 h18 => ?_)
      exact En_ret (v := some (Value.int z17)) rfl rfl (retZ rfl rfl (by first | exact q_55451d0a83 h18 | omega) (by first | exact q_87849c3859 h18 | omega)) ⟨h4, h8, z17, rfl, ⟨by first | exact q_097a37c2ae h18 | omega, by first | exact q_e269517bee h18 | omega, fun _ => by omega, (by (first | exact q_012ba17f3e h18 h16 | omega))⟩⟩
    · refine En_Ps 2 (pc' := 13) (lv' := [(0, .ref s), (1, .int a)]) (st' := [.ref s, .int a]) rfl ?_
      refine En_callV rfl rfl rfl rfl rfl rfl rfl rfl hs (by decide +kernel) rfl (c_51x σ3 h4 s hs sg ((h5 _ _ (inW hs (by decide +kernel))).trans h_sg) (by first | exact q_a555021d16 hp0 | omega)) (by decide) (by decide) (fun v20 σ21 h19 => ?_)
      obtain ⟨h22, h23, z25, rfl, h24⟩ := h19
      have h26 := h24.2.2
      have h27 := Fr_trans h8 h23 (by decide +kernel)
      have h28 := h26
      refine En_icGe _ rfl rfl rfl (fun h29 => ?_) (fun h29 => ?_)
      · refine En_Ps 1 (pc' := 24) (lv' := [(0, .ref s), (1, .int a)]) (st' := [.int ((Int32.ofInt 0))]) rfl ?_
        refine En_top (by decide : (Int32.ofInt 0).toInt = 0) (fun z30 h31 => ?_)
        exact En_ret (v := some (Value.int z30)) rfl rfl (retZ rfl rfl (by first | exact q_55451d0a83 h31 | omega) (by first | exact q_87849c3859 h31 | omega)) ⟨h22, h27, z30, rfl, ⟨by first | exact q_097a37c2ae h31 | omega, by first | exact q_e269517bee h31 | omega, fun _ => by omega, (by (first | exact q_5fa0ee3959 h31 h29 h28 | omega))⟩⟩
      · refine En_Ps 2 (pc' := 24) (lv' := [(0, .ref s), (1, .int a)]) (st' := [.int ((Int32.ofInt 1))]) rfl ?_
        refine En_top (by decide : (Int32.ofInt 1).toInt = 1) (fun z32 h33 => ?_)
        exact En_ret (v := some (Value.int z32)) rfl rfl (retZ rfl rfl (by first | exact q_2b07c97645 h33 | omega) (by first | exact q_d9e7cbb253 h33 | omega)) ⟨h22, h27, z32, rfl, ⟨by first | exact q_ad3eee31ca h33 | omega, by first | exact q_81cf297dc4 h33 | omega, fun hh => by first | exact ⟨q_c803b490ef h16, q_5cc51917cd h29 h24.2.1⟩ | omega, (by (first | exact q_bcfd16039b h33 h14 h16 h29 h28 | omega))⟩⟩
/-- DoorSchool$Plan.isRule(II)Z -/
abbrev P_50x (σ0 : SG) (s : Nat) (a : Int32) (b : Int32) (l : Int32) (sg : Int32) : PO := fun v σ => WT σ ∧ Fr [] σ0 σ ∧ ∃ ret : Int32, v = some (Value.int ret) ∧ -ret.toInt ≤ 0 ∧ ret.toInt - 1 ≤ 0 ∧ Imp (ret.toInt - 1 ≤ 0 ∧ -ret.toInt + 1 ≤ 0) (-a.toInt ≤ 0 ∧ a.toInt - 15 ≤ 0 ∧ -b.toInt ≤ 0 ∧ b.toInt - 15 ≤ 0) ∧ ((ret.toInt = 1 ∧ 0 < l.toInt ∧ 0 ≤ a.toInt ∧ a.toInt < pI sg.toInt ∧ 0 ≤ b.toInt ∧ b.toInt ≤ a.toInt ∧ sbI b.toInt a.toInt = 1) ∨ (ret.toInt = 0 ∧ (l.toInt ≤ 0 ∨ a.toInt < 0 ∨ pI sg.toInt ≤ a.toInt ∨ b.toInt < 0 ∨ 15 < b.toInt ∨ sbI b.toInt a.toInt ≠ 1)))
set_option maxRecDepth 10000 in
set_option maxHeartbeats 4000000 in
theorem c_50x (σ0 : SG) (hσ0 : WT σ0) (s : Nat) (hs : TG s = 18) (a : Int32) (b : Int32) (l : Int32) (h_l : (σ0 s)[0]? = some (Value.int l)) (sg : Int32) (h_sg : (σ0 s)[1]? = some (Value.int sg)) (hp0 : -sg.toInt ≤ 0) : En 2 41 none mr_50 (P_50x σ0 s a b l sg) 0 [(0, .ref s), (1, .int a), (2, .int b)] [] σ0 := by
  obtain ⟨hl_l, hu_l⟩ := WT_int hσ0 (g := 18) hs (by decide +kernel) (l := 0) (u := 1601) (by decide +kernel) h_l
  obtain ⟨hl_sg, hu_sg⟩ := WT_int hσ0 (g := 18) hs (by decide +kernel) (l := (-1)) (u := 4) (by decide +kernel) h_sg
  have hF0 : Fr [] σ0 σ0 := Fr_rfl
  refine En_Ps 2 (pc' := 2) (lv' := [(0, .ref s), (1, .int a), (2, .int b)]) (st' := [.int a, .ref s]) rfl ?_
  refine En_callV rfl rfl rfl rfl rfl rfl rfl rfl hs (by decide +kernel) rfl (c_49x σ0 hσ0 s hs a l h_l sg h_sg (by first | exact q_a555021d16 hp0 | omega)) (by decide) (by decide) (fun v2 σ3 h1 => ?_)
  obtain ⟨h4, h5, z7, rfl, h6⟩ := h1
  have h8 := h6.2.2.2
  have h9 := Fr_trans hF0 h5 (by decide +kernel)
  have h10 := Imp_m h6.2.2.1
  have h11 := h8
  refine En_iEq _ rfl rfl (fun h12 => ?_) (fun h12 => ?_)
  · refine En_Ps 1 (pc' := 21) (lv' := [(0, .ref s), (1, .int a), (2, .int b)]) (st' := [.int ((Int32.ofInt 0))]) rfl ?_
    refine En_top (by decide : (Int32.ofInt 0).toInt = 0) (fun z13 h14 => ?_)
    exact En_ret (v := some (Value.int z13)) rfl rfl (retZ rfl rfl (by first | exact q_55451d0a83 h14 | omega) (by first | exact q_87849c3859 h14 | omega)) ⟨h4, h9, z13, rfl, ⟨by first | exact q_097a37c2ae h14 | omega, by first | exact q_e269517bee h14 | omega, fun _ => by omega, (by (first | exact q_8a6a88a492 h11 h12 h14 | omega))⟩⟩
  · have h15 := Imp_m h6.2.2.1 (by first | exact ⟨q_ad5b726bf8 h6.2.1, q_e3350da514 h12 h6.1⟩ | omega)
    refine En_Ps 4 (pc' := 12) (lv' := [(0, .ref s), (1, .int a), (2, .int b)]) (st' := [.int ((a ^^^ ((Int32.ofInt (-1))))), .int b]) rfl ?_
    refine En_nam (fun z16 h17 => ?_)
    refine En_Ps 1 (pc' := 13) (lv' := [(0, .ref s), (1, .int a), (2, .int b)]) (st' := [.int ((b &&& z16))]) rfl ?_
    refine En_nam (fun z18 h19 => ?_)
    refine En_iNe _ rfl rfl (fun h20 => ?_) (fun h20 => ?_)
    · have := fun (q9 : 0 ≤ b.toInt) => sub_sbw h19 h17 rfl rfl q9 (by (first | exact q_ef1e8e38bf h15.1 | omega)) (by (first | exact q_5a5f544404 h15.2 | omega))
      refine En_Ps 1 (pc' := 21) (lv' := [(0, .ref s), (1, .int a), (2, .int b)]) (st' := [.int ((Int32.ofInt 0))]) rfl ?_
      refine En_top (by decide : (Int32.ofInt 0).toInt = 0) (fun z21 h22 => ?_)
      exact En_ret (v := some (Value.int z21)) rfl rfl (retZ rfl rfl (by first | exact q_55451d0a83 h22 | omega) (by first | exact q_87849c3859 h22 | omega)) ⟨h4, h9, z21, rfl, ⟨by first | exact q_097a37c2ae h22 | omega, by first | exact q_e269517bee h22 | omega, fun _ => by omega, (by (first | exact q_bda1ddf0a3 h20 this h22 | omega))⟩⟩
    · obtain ⟨h23, h24⟩ := andn_zero h19 h17 h20 rfl rfl (by (first | exact q_ef1e8e38bf h15.1 | omega))
      have := sub_sbw h19 h17 rfl rfl (by (first | exact q_58e6e51dcc h23 | omega)) (by (first | exact q_ef1e8e38bf h15.1 | omega)) (by (first | exact q_5a5f544404 h15.2 | omega))
      refine En_Ps 2 (pc' := 21) (lv' := [(0, .ref s), (1, .int a), (2, .int b)]) (st' := [.int ((Int32.ofInt 1))]) rfl ?_
      refine En_top (by decide : (Int32.ofInt 1).toInt = 1) (fun z25 h26 => ?_)
      exact En_ret (v := some (Value.int z25)) rfl rfl (retZ rfl rfl (by first | exact q_2b07c97645 h26 | omega) (by first | exact q_d9e7cbb253 h26 | omega)) ⟨h4, h9, z25, rfl, ⟨by first | exact q_ad3eee31ca h26 | omega, by first | exact q_81cf297dc4 h26 | omega, fun _ => by (first | exact q_1cde2393fd h15.1 h15.2 h23 h24 | omega), (by (first | exact q_33b4757e7f h26 h11 h12 h6.1 h15.1 h23 h24 this.1 h20 | omega))⟩⟩
/-- DoorSchool$Plan.modelOf(I)LDoorSchool$Door; -/
abbrev P_52x (σ0 : SG) (Wv : Int → Int) (gd : Int) (s : Nat) (a : Int32) : PO := fun v σ => WT σ ∧ Fr [] σ0 σ ∧ ∃ ret : Nat, TG ret = 28 ∧ v = some (Value.ref ret) ∧ (ret = s + 10 + 4 * (rlW Wv a.toInt).toNat ∧ -1 ≤ Wv (13 + 4 * a.toInt))
set_option maxRecDepth 10000 in
set_option maxHeartbeats 4000000 in
theorem c_52x {Wv : Int → Int} {gd : Int} (σ0 : SG) (hσ0 : WT σ0) (s : Nat) (hs : TG s = 18) (a : Int32) (hl_a : 0 ≤ a.toInt) (hu_a : a.toInt ≤ 3) (hP : PLA s) (hX : FXP σ0 s) (hKd : KN σ0 s Wv (actD Wv gd)) (hd : a.toInt < Wv 2) : En 0 0 none mr_52 (P_52x σ0 Wv gd s a) 0 [(0, .ref s), (1, .int a)] [] σ0 := by
  have hF0 : Fr [] σ0 σ0 := Fr_rfl
  refine En_Ps 1 (pc' := 1) (lv' := [(0, .ref s), (1, .int a)]) (st' := [.ref s]) rfl ?_
  refine En_getR (j := 4) (g' := 19) (u := 0) rfl rfl rfl hs (by decide +kernel) hσ0 (by decide +kernel) (fun a2 h1 ha2 => ?_)
  have t3 : a2 = s + 1 := ref_uniq h1 (FXP_fr hP hX hF0 (by decide +kernel)).1
  refine En_Ps 1 (pc' := 5) (lv' := [(0, .ref s), (1, .int a)]) (st' := [.int a, .ref a2]) rfl ?_
  refine En_aald (g' := 28) (u := 0) rfl rfl ha2 (by decide +kernel) hσ0 (by first | exact q_58e6e51dcc hl_a | omega) (lnI (by decide +kernel : LN _ = 4) (by first | exact q_f3bb6f88f7 hu_a | omega)) (FTsgl (by decide +kernel)) (fun a5 h4 ha5 => ?_)
  have t6 : a5 = s + 10 + 4 * (a.toInt).toNat := DRe (d := a.toInt) (FXP_fr hP hX hF0 (by decide +kernel)) t3 h4 (by omega) (by omega)
  have t7 := lc_d (d := a.toInt) (by omega) (by omega)
  refine En_getI (j := 3) (l := (-1)) (u := 3) rfl rfl rfl ha5 (by decide +kernel) hσ0 (by decide +kernel) (fun z9 h8 h10 h11 => ?_)
  have t12 : Wv (13 + 4 * (a.toInt)) = z9.toInt := KN_v hKd (Or.inr (Or.inl ⟨by omega, by omega, by omega⟩)) (by omega) (by omega) (by omega) (by omega) h8
  refine En_Ps 3 (pc' := 12) (lv' := [(2, .int z9), (0, .ref s), (1, .int a)]) (st' := [.int ((Int32.ofInt (-1))), .int z9]) rfl ?_
  refine En_icNe _ rfl (by decide : (Int32.ofInt (-1)).toInt = -1) rfl (fun h13 => ?_) (fun h13 => ?_)
  · refine En_Ps 1 (pc' := 25) (lv' := [(2, .int z9), (0, .ref s), (1, .int a)]) (st' := [.ref s]) rfl ?_
    refine En_getK (j := 4) h1 rfl rfl rfl hs (by decide +kernel) ?_
    refine En_Ps 1 (pc' := 29) (lv' := [(2, .int z9), (0, .ref s), (1, .int a)]) (st' := [.int z9, .ref a2]) rfl ?_
    refine En_aald (g' := 28) (u := 0) rfl rfl ha2 (by decide +kernel) hσ0 (by first | exact q_eab05c2344 h13 h10 | omega) (lnI (by decide +kernel : LN _ = 4) (by first | exact q_f3bb6f88f7 h11 | omega)) (FTsgl (by decide +kernel)) (fun a15 h14 ha15 => ?_)
    have t16 : a15 = s + 10 + 4 * (z9.toInt).toNat := DRe (d := z9.toInt) (FXP_fr hP hX hF0 (by decide +kernel)) t3 h14 (by omega) (by omega)
    have t17 := lc_d (d := z9.toInt) (by omega) (by omega)
    exact En_ret (v := some (Value.ref a15)) rfl rfl rfl ⟨hσ0, hF0, a15, ha15, rfl, ⟨by rw [rlW_c t12 (by omega)]; exact t16, by omega⟩⟩
  · refine En_Ps 1 (pc' := 16) (lv' := [(2, .int z9), (0, .ref s), (1, .int a)]) (st' := [.ref s]) rfl ?_
    refine En_getK (j := 4) h1 rfl rfl rfl hs (by decide +kernel) ?_
    refine En_Ps 1 (pc' := 20) (lv' := [(2, .int z9), (0, .ref s), (1, .int a)]) (st' := [.int a, .ref a2]) rfl ?_
    refine En_aald (g' := 28) (u := 0) rfl rfl ha2 (by decide +kernel) hσ0 (by first | exact q_58e6e51dcc hl_a | omega) (lnI (by decide +kernel : LN _ = 4) (by first | exact q_f3bb6f88f7 hu_a | omega)) (FTsgl (by decide +kernel)) (fun a19 h18 ha19 => ?_)
    have t20 : a19 = s + 10 + 4 * (a.toInt).toNat := DRe (d := a.toInt) (FXP_fr hP hX hF0 (by decide +kernel)) t3 h18 (by omega) (by omega)
    have t21 := lc_d (d := a.toInt) (by omega) (by omega)
    refine En_Ps 1 (pc' := 30) (lv' := [(2, .int z9), (0, .ref s), (1, .int a)]) (st' := [.ref a19]) rfl ?_
    exact En_ret (v := some (Value.ref a19)) rfl rfl rfl ⟨hσ0, hF0, a19, ha19, rfl, ⟨by rw [rlW_s t12 (by omega)]; exact t20, by omega⟩⟩
/-- DoorSchool$Plan.takeFrom(LDoorSchool$Plan;)V -/
abbrev P_53ax (σ0 : SG) (s : Nat) (a : Nat) (sg : Int32) : PO := fun v σ => WT σ ∧ Fr [(20, 2), (21, 0), (22, 0), (23, 0), (24, 0), (25, 0), (26, 0), (27, 0), (28, 1), (28, 2), (28, 3), (31, 0), (31, 1), (31, 2), (31, 3), (31, 6), (31, 7), (31, 8), (31, 11), (31, 14)] σ0 σ ∧ v = none ∧ CPD σ0 σ s a (fun _ => True)
set_option maxRecDepth 10000 in
set_option maxHeartbeats 4000000 in
theorem c_53ax (σ0 : SG) (hσ0 : WT σ0) (s : Nat) (hs : TG s = 31) (a : Nat) (ha : TG a = 18) (sg : Int32) (h_sg : (σ0 a)[1]? = some (Value.int sg)) (hp0 : -sg.toInt ≤ 0) (hS : SEP s a) (hX : FXP σ0 s) (hY : FXP σ0 a) : En 3 102 none mr_53 (P_53ax σ0 s a sg) 0 [(0, .ref s), (1, .ref a)] [] σ0 := by
  obtain ⟨hl_sg, hu_sg⟩ := WT_int hσ0 (g := 18) ha (by decide +kernel) (l := (-1)) (u := 4) (by decide +kernel) h_sg
  have hF0 : Fr [(20, 2), (21, 0), (22, 0), (23, 0), (24, 0), (25, 0), (26, 0), (27, 0), (28, 1), (28, 2), (28, 3), (31, 0), (31, 1), (31, 2), (31, 3), (31, 6), (31, 7), (31, 8), (31, 11), (31, 14)] σ0 σ0 := Fr_rfl
  have sep := SEP_d hS
  refine En_Ps 2 (pc' := 2) (lv' := [(0, .ref s), (1, .ref a)]) (st' := [.ref a, .ref s]) rfl ?_
  refine En_getI (j := 0) (l := 0) (u := 1601) rfl rfl rfl ha (by decide +kernel) hσ0 (by decide +kernel) (fun z2 h1 h3 h4 => ?_)
  refine En_put (j := 0) rfl rfl rfl hs (by decide +kernel) rfl (vI (l := 0) (u := 1601) (by decide +kernel) rfl (by first | exact q_58e6e51dcc h3 | omega) (by first | exact q_3232882bcd h4 | omega)) hσ0 hF0 (by decide +kernel) (fun σ5 h6 h7 h8 h9 => ?_)
  have c10 := CPD_put (i0 := 7) (CPD_0 (σ := σ0)) hS h1 h8 h9 (by decide) (by decide) (by decide) (by decide)
  refine En_Ps 2 (pc' := 10) (lv' := [(0, .ref s), (1, .ref a)]) (st' := [.ref a, .ref s]) rfl ?_
  refine En_getK (j := 1) ((h9 _ _ (Or.inr (by decide))).trans h_sg) rfl rfl rfl ha (by decide +kernel) ?_
  refine En_put (j := 1) rfl rfl rfl hs (by decide +kernel) rfl (vI (l := 0) (u := 4) (by decide +kernel) rfl (by first | exact q_ef1e8e38bf hp0 | omega) (by first | exact q_c82ed93a8c hu_sg | omega)) h6 h7 (by decide +kernel) (fun σ11 h12 h13 h14 h15 => ?_)
  have c16 := CPD_put (i0 := 0) c10 hS ((h9 _ _ (Or.inr (by decide))).trans h_sg) h14 h15 (by decide) (by decide) (by decide) (by decide)
  refine En_Ps 2 (pc' := 18) (lv' := [(0, .ref s), (1, .ref a)]) (st' := [.ref a, .ref s]) rfl ?_
  refine En_getI (j := 2) (l := (-1)) (u := 3) rfl rfl rfl ha (by decide +kernel) h12 (by decide +kernel) (fun z18 h17 h19 h20 => ?_)
  refine En_put (j := 2) rfl rfl rfl hs (by decide +kernel) rfl (vI (l := (-1)) (u := 3) (by decide +kernel) rfl (by first | exact q_77b189e83d h19 | omega) (by first | exact q_da5e9b976f h20 | omega)) h12 h13 (by decide +kernel) (fun σ21 h22 h23 h24 h25 => ?_)
  have c26 := CPD_put (i0 := 1) c16 hS h17 h24 h25 (by decide) (by decide) (by decide) (by decide)
  refine En_Ps 2 (pc' := 26) (lv' := [(0, .ref s), (1, .ref a)]) (st' := [.ref a, .ref s]) rfl ?_
  refine En_getI (j := 3) (l := 0) (u := 4) rfl rfl rfl ha (by decide +kernel) h22 (by decide +kernel) (fun z28 h27 h29 h30 => ?_)
  refine En_put (j := 3) rfl rfl rfl hs (by decide +kernel) rfl (vI (l := 0) (u := 4) (by decide +kernel) rfl (by first | exact q_58e6e51dcc h29 | omega) (by first | exact q_c82ed93a8c h30 | omega)) h22 h23 (by decide +kernel) (fun σ31 h32 h33 h34 h35 => ?_)
  have c36 := CPD_put (i0 := 2) c26 hS h27 h34 h35 (by decide) (by decide) (by decide) (by decide)
  refine En_Ps 2 (pc' := 34) (lv' := [(2, .int ((Int32.ofInt 0))), (0, .ref s), (1, .ref a)]) (st' := []) rfl ?_
  have key34 : ∀ (n34 : Nat) (σ38 : SG) (y37 : Int32), WT σ38 → Fr [(20, 2), (21, 0), (22, 0), (23, 0), (24, 0), (25, 0), (26, 0), (27, 0), (28, 1), (28, 2), (28, 3), (31, 0), (31, 1), (31, 2), (31, 3), (31, 6), (31, 7), (31, 8), (31, 11), (31, 14)] σ0 σ38 → (σ38 a)[1]? = some (Value.int sg) → (σ38 a)[0]? = some (Value.int z2) → (σ38 s)[0]? = some (Value.int z2) → (σ38 s)[1]? = some (Value.int sg) → (σ38 a)[2]? = some (Value.int z18) → (σ38 s)[2]? = some (Value.int z18) → (σ38 a)[3]? = some (Value.int z28) → (σ38 s)[3]? = some (Value.int z28) → 0 ≤ y37.toInt → y37.toInt ≤ 4 → -y37.toInt + 4 < (n34 : Int) → CPL σ0 σ38 s a y37.toInt → En 3 102 none mr_53 (P_53ax σ0 s a sg) 34 [(0, .ref s), (1, .ref a), (2, .int y37)] [] σ38 := by
    intro n34
    induction n34 with
    | zero =>
      intro σ38 y37 h39 h40 h41 h42 h43 h44 h45 h46 h47 h48 h49 h50 h51 h52
      first | exact (q_20d6385c6f h51 h50).elim | (exfalso; omega)
    | succ n34 ih34 =>
      intro σ38 y37 h39 h40 h41 h42 h43 h44 h45 h46 h47 h48 h49 h50 h51 h52
      refine En_Ps 2 (pc' := 36) (lv' := [(0, .ref s), (1, .ref a), (2, .int y37)]) (st' := [.int ((Int32.ofInt 4)), .int y37]) rfl ?_
      refine En_icGe _ rfl (by decide : (Int32.ofInt 4).toInt = 4) rfl (fun h53 => ?_) (fun h53 => ?_)
      · have c54 := CPL_4 h52 (by (first | exact q_d5be2e3227 h53 h50 | omega))
        refine En_Ps 1 (pc' := 61) (lv' := [(0, .ref s), (1, .ref a), (2, .int y37)]) (st' := [.ref s]) rfl ?_
        refine En_getR (j := 5) (g' := 20) (u := 0) rfl rfl rfl hs (by decide +kernel) h39 (by decide +kernel) (fun a56 h55 ha56 => ?_)
        have t57 : a56 = s + 2 := ref_uniq h55 (FXI_fr (PLI_of hs) hX h40 (by decide +kernel)).2.1
        refine En_Ps 1 (pc' := 65) (lv' := [(0, .ref s), (1, .ref a), (2, .int y37)]) (st' := [.ref a, .ref a56]) rfl ?_
        refine En_getR (j := 5) (g' := 20) (u := 0) rfl rfl rfl ha (by decide +kernel) h39 (by decide +kernel) (fun a59 h58 ha59 => ?_)
        have t60 : a59 = a + 2 := ref_uniq h58 (FXP_fr (PLA_of ha) hY h40 (by decide +kernel)).2.1
        obtain ⟨a62, h61, ha62⟩ := WT_peekR (g := 20) (j := 0) (g' := 21) (u := 0) h39 ha56 (by decide +kernel) (by decide +kernel)
        have t63 : a62 = s + 3 := EKk (FXI_fr (PLI_of hs) hX h40 (by decide +kernel)) t57 h61
        obtain ⟨a65, h64, ha65⟩ := WT_peekR (g := 20) (j := 1) (g' := 22) (u := 0) h39 ha56 (by decide +kernel) (by decide +kernel)
        have t66 : a65 = s + 4 := EKo (FXI_fr (PLI_of hs) hX h40 (by decide +kernel)) t57 h64
        obtain ⟨a68, h67, ha68⟩ := WT_peekR (g := 20) (j := 0) (g' := 21) (u := 0) h39 ha59 (by decide +kernel) (by decide +kernel)
        have t69 : a68 = a + 3 := EKk (FXP_fr (PLA_of ha) hY h40 (by decide +kernel)) t60 h67
        obtain ⟨a71, h70, ha71⟩ := WT_peekR (g := 20) (j := 1) (g' := 22) (u := 0) h39 ha59 (by decide +kernel) (by decide +kernel)
        have t72 : a71 = a + 4 := EKo (FXP_fr (PLA_of ha) hY h40 (by decide +kernel)) t60 h70
        obtain ⟨z74, h73, h75, h76⟩ := WT_peekI h39 ha59 (by decide +kernel : FT 20 2 = (0, 0, 13)) (by decide +kernel)
        refine En_callV rfl rfl rfl rfl rfl rfl rfl rfl ha56 (by decide +kernel) rfl (c_40x σ38 h39 a56 ha56 a59 ha59 a62 ha62 h61 a65 ha65 h64 a68 ha68 h67 a71 ha71 h70 z74 h73 (by omega) (by omega) (by omega)) (by decide) (by decide) (fun v78 σ79 h77 => ?_)
        obtain ⟨h80, h81, rfl, h82⟩ := h77
        have h83 := h82
        have h84 := Fr_trans h40 h81 (by decide +kernel)
        have c85 := CPD_ex c54 hS h83 (by omega) (by omega) (by omega) (by omega) (by omega) (by omega)
        refine En_Ps 2 (pc' := 73) (lv' := [(0, .ref s), (1, .ref a), (2, .int y37)]) (st' := [.ref a, .ref s]) rfl ?_
        refine En_getI (j := 6) (l := 0) (u := 15) rfl rfl rfl ha (by decide +kernel) h80 (by decide +kernel) (fun z87 h86 h88 h89 => ?_)
        refine En_put (j := 6) rfl rfl rfl hs (by decide +kernel) rfl (vI (l := 0) (u := 15) (by decide +kernel) rfl (by first | exact q_58e6e51dcc h88 | omega) (by first | exact q_5a4d8a7e08 h89 | omega)) h80 h84 (by decide +kernel) (fun σ90 h91 h92 h93 h94 => ?_)
        have c95 := CPD_put (i0 := 8) c85 hS h86 h93 h94 (by decide) (by decide) (by decide) (by decide)
        refine En_Ps 2 (pc' := 81) (lv' := [(0, .ref s), (1, .ref a), (2, .int y37)]) (st' := [.ref a, .ref s]) rfl ?_
        refine En_getI (j := 7) (l := 0) (u := 15) rfl rfl rfl ha (by decide +kernel) h91 (by decide +kernel) (fun z97 h96 h98 h99 => ?_)
        refine En_put (j := 7) rfl rfl rfl hs (by decide +kernel) rfl (vI (l := 0) (u := 15) (by decide +kernel) rfl (by first | exact q_58e6e51dcc h98 | omega) (by first | exact q_5a4d8a7e08 h99 | omega)) h91 h92 (by decide +kernel) (fun σ100 h101 h102 h103 h104 => ?_)
        have c105 := CPD_put (i0 := 9) c95 hS h96 h103 h104 (by decide) (by decide) (by decide) (by decide)
        refine En_Ps 2 (pc' := 89) (lv' := [(0, .ref s), (1, .ref a), (2, .int y37)]) (st' := [.ref a, .ref s]) rfl ?_
        refine En_getI (j := 8) (l := 0) (u := 4) rfl rfl rfl ha (by decide +kernel) h101 (by decide +kernel) (fun z107 h106 h108 h109 => ?_)
        refine En_put (j := 8) rfl rfl rfl hs (by decide +kernel) rfl (vI (l := 0) (u := 4) (by decide +kernel) rfl (by first | exact q_58e6e51dcc h108 | omega) (by first | exact q_c82ed93a8c h109 | omega)) h101 h102 (by decide +kernel) (fun σ110 h111 h112 h113 h114 => ?_)
        have c115 := CPD_put (i0 := 4) c105 hS h106 h113 h114 (by decide) (by decide) (by decide) (by decide)
        refine En_Ps 1 (pc' := 96) (lv' := [(0, .ref s), (1, .ref a), (2, .int y37)]) (st' := [.ref a]) rfl ?_
        refine En_getR (j := 9) (g' := 23) (u := 0) rfl rfl rfl ha (by decide +kernel) h111 (by decide +kernel) (fun a117 h116 ha117 => ?_)
        have t118 : a117 = a + 5 := ref_uniq h116 (FXP_fr (PLA_of ha) hY h112 (by decide +kernel)).2.2.1
        refine En_Ps 2 (pc' := 101) (lv' := [(0, .ref s), (1, .ref a), (2, .int y37)]) (st' := [.ref s, .int ((Int32.ofInt 0)), .ref a117]) rfl ?_
        refine En_getR (j := 9) (g' := 23) (u := 0) rfl rfl rfl hs (by decide +kernel) h111 (by decide +kernel) (fun a120 h119 ha120 => ?_)
        have t121 : a120 = s + 5 := ref_uniq h119 (FXI_fr (PLI_of hs) hX h112 (by decide +kernel)).2.2.1
        refine En_Ps 2 (pc' := 106) (lv' := [(0, .ref s), (1, .ref a), (2, .int y37)]) (st' := [.int ((Int32.ofInt 4)), .int ((Int32.ofInt 0)), .ref a120, .int ((Int32.ofInt 0)), .ref a117]) rfl ?_
        refine En_copyX (n0 := 4) (n1 := 4) (by decide : (Int32.ofInt 4).toInt = 4) (by decide : (Int32.ofInt 0).toInt = 0) (by decide : (Int32.ofInt 0).toInt = 0) rfl rfl rfl rfl ha117 ha120 (by decide +kernel) (by decide +kernel) (by decide +kernel) (by decide +kernel) (by decide +kernel) (by (first | decide | omega)) (by (first | decide | omega)) (by (first | decide | omega)) (by (first | decide | omega)) (by (first | decide | omega)) h111 h112 (by decide +kernel) (fun σ122 h123 h124 h125 h126 => ?_)
        have h127 := ROW_mk (n := 4) h125 h126 (by decide) (by decide) (by decide)
        have c128 := CPD_row c115 hS h127 t121 t118 (by decide) (by decide +kernel)
        refine En_Ps 1 (pc' := 110) (lv' := [(0, .ref s), (1, .ref a), (2, .int y37)]) (st' := [.ref a]) rfl ?_
        refine En_getR (j := 10) (g' := 24) (u := 0) rfl rfl rfl ha (by decide +kernel) h123 (by decide +kernel) (fun a130 h129 ha130 => ?_)
        have t131 : a130 = a + 6 := ref_uniq h129 (FXP_fr (PLA_of ha) hY h124 (by decide +kernel)).2.2.2.1
        refine En_Ps 2 (pc' := 115) (lv' := [(0, .ref s), (1, .ref a), (2, .int y37)]) (st' := [.ref s, .int ((Int32.ofInt 0)), .ref a130]) rfl ?_
        refine En_getR (j := 10) (g' := 24) (u := 0) rfl rfl rfl hs (by decide +kernel) h123 (by decide +kernel) (fun a133 h132 ha133 => ?_)
        have t134 : a133 = s + 6 := ref_uniq h132 (FXI_fr (PLI_of hs) hX h124 (by decide +kernel)).2.2.2.1
        refine En_Ps 2 (pc' := 120) (lv' := [(0, .ref s), (1, .ref a), (2, .int y37)]) (st' := [.int ((Int32.ofInt 4)), .int ((Int32.ofInt 0)), .ref a133, .int ((Int32.ofInt 0)), .ref a130]) rfl ?_
        refine En_copyX (n0 := 4) (n1 := 4) (by decide : (Int32.ofInt 4).toInt = 4) (by decide : (Int32.ofInt 0).toInt = 0) (by decide : (Int32.ofInt 0).toInt = 0) rfl rfl rfl rfl ha130 ha133 (by decide +kernel) (by decide +kernel) (by decide +kernel) (by decide +kernel) (by decide +kernel) (by (first | decide | omega)) (by (first | decide | omega)) (by (first | decide | omega)) (by (first | decide | omega)) (by (first | decide | omega)) h123 h124 (by decide +kernel) (fun σ135 h136 h137 h138 h139 => ?_)
        have h140 := ROW_mk (n := 4) h138 h139 (by decide) (by decide) (by decide)
        have c141 := CPD_row c128 hS h140 t134 t131 (by decide) (by decide +kernel)
        refine En_Ps 2 (pc' := 125) (lv' := [(0, .ref s), (1, .ref a), (2, .int y37)]) (st' := [.ref a, .ref s]) rfl ?_
        refine En_getI (j := 11) (l := 0) (u := 6) rfl rfl rfl ha (by decide +kernel) h136 (by decide +kernel) (fun z143 h142 h144 h145 => ?_)
        refine En_put (j := 11) rfl rfl rfl hs (by decide +kernel) rfl (vI (l := 0) (u := 6) (by decide +kernel) rfl (by first | exact q_58e6e51dcc h144 | omega) (by first | exact q_615333d33f h145 | omega)) h136 h137 (by decide +kernel) (fun σ146 h147 h148 h149 h150 => ?_)
        have c151 := CPD_put (i0 := 5) c141 hS h142 h149 h150 (by decide) (by decide) (by decide) (by decide)
        refine En_Ps 1 (pc' := 132) (lv' := [(0, .ref s), (1, .ref a), (2, .int y37)]) (st' := [.ref a]) rfl ?_
        refine En_getR (j := 12) (g' := 25) (u := 0) rfl rfl rfl ha (by decide +kernel) h147 (by decide +kernel) (fun a153 h152 ha153 => ?_)
        have t154 : a153 = a + 7 := ref_uniq h152 (FXP_fr (PLA_of ha) hY h148 (by decide +kernel)).2.2.2.2.1
        refine En_Ps 2 (pc' := 137) (lv' := [(0, .ref s), (1, .ref a), (2, .int y37)]) (st' := [.ref s, .int ((Int32.ofInt 0)), .ref a153]) rfl ?_
        refine En_getR (j := 12) (g' := 25) (u := 0) rfl rfl rfl hs (by decide +kernel) h147 (by decide +kernel) (fun a156 h155 ha156 => ?_)
        have t157 : a156 = s + 7 := ref_uniq h155 (FXI_fr (PLI_of hs) hX h148 (by decide +kernel)).2.2.2.2.1
        refine En_Ps 2 (pc' := 143) (lv' := [(0, .ref s), (1, .ref a), (2, .int y37)]) (st' := [.int (((Int8.ofInt 6).toInt32)), .int ((Int32.ofInt 0)), .ref a156, .int ((Int32.ofInt 0)), .ref a153]) rfl ?_
        refine En_copyX (n0 := 6) (n1 := 6) (by decide : ((Int8.ofInt 6).toInt32).toInt = 6) (by decide : (Int32.ofInt 0).toInt = 0) (by decide : (Int32.ofInt 0).toInt = 0) rfl rfl rfl rfl ha153 ha156 (by decide +kernel) (by decide +kernel) (by decide +kernel) (by decide +kernel) (by decide +kernel) (by (first | decide | omega)) (by (first | decide | omega)) (by (first | decide | omega)) (by (first | decide | omega)) (by (first | decide | omega)) h147 h148 (by decide +kernel) (fun σ158 h159 h160 h161 h162 => ?_)
        have h163 := ROW_mk (n := 6) h161 h162 (by decide) (by decide) (by decide)
        have c164 := CPD_row c151 hS h163 t157 t154 (by decide) (by decide +kernel)
        refine En_Ps 1 (pc' := 147) (lv' := [(0, .ref s), (1, .ref a), (2, .int y37)]) (st' := [.ref a]) rfl ?_
        refine En_getR (j := 13) (g' := 26) (u := 0) rfl rfl rfl ha (by decide +kernel) h159 (by decide +kernel) (fun a166 h165 ha166 => ?_)
        have t167 : a166 = a + 8 := ref_uniq h165 (FXP_fr (PLA_of ha) hY h160 (by decide +kernel)).2.2.2.2.2.1
        refine En_Ps 2 (pc' := 152) (lv' := [(0, .ref s), (1, .ref a), (2, .int y37)]) (st' := [.ref s, .int ((Int32.ofInt 0)), .ref a166]) rfl ?_
        refine En_getR (j := 13) (g' := 26) (u := 0) rfl rfl rfl hs (by decide +kernel) h159 (by decide +kernel) (fun a169 h168 ha169 => ?_)
        have t170 : a169 = s + 8 := ref_uniq h168 (FXI_fr (PLI_of hs) hX h160 (by decide +kernel)).2.2.2.2.2.1
        refine En_Ps 2 (pc' := 158) (lv' := [(0, .ref s), (1, .ref a), (2, .int y37)]) (st' := [.int (((Int8.ofInt 6).toInt32)), .int ((Int32.ofInt 0)), .ref a169, .int ((Int32.ofInt 0)), .ref a166]) rfl ?_
        refine En_copyX (n0 := 6) (n1 := 6) (by decide : ((Int8.ofInt 6).toInt32).toInt = 6) (by decide : (Int32.ofInt 0).toInt = 0) (by decide : (Int32.ofInt 0).toInt = 0) rfl rfl rfl rfl ha166 ha169 (by decide +kernel) (by decide +kernel) (by decide +kernel) (by decide +kernel) (by decide +kernel) (by (first | decide | omega)) (by (first | decide | omega)) (by (first | decide | omega)) (by (first | decide | omega)) (by (first | decide | omega)) h159 h160 (by decide +kernel) (fun σ171 h172 h173 h174 h175 => ?_)
        have h176 := ROW_mk (n := 6) h174 h175 (by decide) (by decide) (by decide)
        have c177 := CPD_row c164 hS h176 t170 t167 (by decide) (by decide +kernel)
        refine En_Ps 2 (pc' := 163) (lv' := [(0, .ref s), (1, .ref a), (2, .int y37)]) (st' := [.ref a, .ref s]) rfl ?_
        refine En_getI (j := 14) (l := 0) (u := 60) rfl rfl rfl ha (by decide +kernel) h172 (by decide +kernel) (fun z179 h178 h180 h181 => ?_)
        refine En_put (j := 14) rfl rfl rfl hs (by decide +kernel) rfl (vI (l := 0) (u := 60) (by decide +kernel) rfl (by first | exact q_58e6e51dcc h180 | omega) (by first | exact q_d3912a5755 h181 | omega)) h172 h173 (by decide +kernel) (fun σ182 h183 h184 h185 h186 => ?_)
        have c187 := CPD_put (i0 := 6) c177 hS h178 h185 h186 (by decide) (by decide) (by decide) (by decide)
        refine En_Ps 1 (pc' := 170) (lv' := [(0, .ref s), (1, .ref a), (2, .int y37)]) (st' := [.ref a]) rfl ?_
        refine En_getR (j := 15) (g' := 27) (u := 0) rfl rfl rfl ha (by decide +kernel) h183 (by decide +kernel) (fun a189 h188 ha189 => ?_)
        have t190 : a189 = a + 9 := ref_uniq h188 (FXP_fr (PLA_of ha) hY h184 (by decide +kernel)).2.2.2.2.2.2.1
        refine En_Ps 2 (pc' := 175) (lv' := [(0, .ref s), (1, .ref a), (2, .int y37)]) (st' := [.ref s, .int ((Int32.ofInt 0)), .ref a189]) rfl ?_
        refine En_getR (j := 15) (g' := 27) (u := 0) rfl rfl rfl hs (by decide +kernel) h183 (by decide +kernel) (fun a192 h191 ha192 => ?_)
        have t193 : a192 = s + 9 := ref_uniq h191 (FXI_fr (PLI_of hs) hX h184 (by decide +kernel)).2.2.2.2.2.2.1
        refine En_Ps 2 (pc' := 181) (lv' := [(0, .ref s), (1, .ref a), (2, .int y37)]) (st' := [.int (((Int8.ofInt 60).toInt32)), .int ((Int32.ofInt 0)), .ref a192, .int ((Int32.ofInt 0)), .ref a189]) rfl ?_
        refine En_copyX (n0 := 60) (n1 := 60) (by decide : ((Int8.ofInt 60).toInt32).toInt = 60) (by decide : (Int32.ofInt 0).toInt = 0) (by decide : (Int32.ofInt 0).toInt = 0) rfl rfl rfl rfl ha189 ha192 (by decide +kernel) (by decide +kernel) (by decide +kernel) (by decide +kernel) (by decide +kernel) (by (first | decide | omega)) (by (first | decide | omega)) (by (first | decide | omega)) (by (first | decide | omega)) (by (first | decide | omega)) h183 h184 (by decide +kernel) (fun σ194 h195 h196 h197 h198 => ?_)
        have h199 := ROW_mk (n := 60) h197 h198 (by decide) (by decide) (by decide)
        have c200 := CPD_row c187 hS h199 t193 t190 (by decide) (by decide +kernel)
        exact En_ret (v := none) rfl rfl rfl ⟨h195, h196, rfl, CPD_all c200⟩
      · refine En_Ps 1 (pc' := 40) (lv' := [(0, .ref s), (1, .ref a), (2, .int y37)]) (st' := [.ref s]) rfl ?_
        refine En_getR (j := 4) (g' := 19) (u := 0) rfl rfl rfl hs (by decide +kernel) h39 (by decide +kernel) (fun a202 h201 ha202 => ?_)
        have t203 : a202 = s + 1 := ref_uniq h201 (FXI_fr (PLI_of hs) hX h40 (by decide +kernel)).1
        refine En_Ps 1 (pc' := 44) (lv' := [(0, .ref s), (1, .ref a), (2, .int y37)]) (st' := [.int y37, .ref a202]) rfl ?_
        refine En_aald (g' := 28) (u := 0) rfl rfl ha202 (by decide +kernel) h39 (by first | exact q_58e6e51dcc h49 | omega) (lnI (by decide +kernel : LN _ = 4) (by first | exact q_074a8b422d h53 | omega)) (FTsgl (by decide +kernel)) (fun a205 h204 ha205 => ?_)
        have t206 : a205 = s + 10 + 4 * (y37.toInt).toNat := DRe (d := y37.toInt) (FXI_fr (PLI_of hs) hX h40 (by decide +kernel)) t203 h204 (by (first | exact q_58e6e51dcc h49 | omega)) (by (first | exact q_d7767d4ccc h53 | omega))
        have t207 := lc_d (d := y37.toInt) (by (first | exact q_58e6e51dcc h49 | omega)) (by (first | exact q_d7767d4ccc h53 | omega))
        refine En_Ps 1 (pc' := 46) (lv' := [(0, .ref s), (1, .ref a), (2, .int y37)]) (st' := [.ref a, .ref a205]) rfl ?_
        refine En_getR (j := 4) (g' := 19) (u := 0) rfl rfl rfl ha (by decide +kernel) h39 (by decide +kernel) (fun a209 h208 ha209 => ?_)
        have t210 : a209 = a + 1 := ref_uniq h208 (FXP_fr (PLA_of ha) hY h40 (by decide +kernel)).1
        refine En_Ps 1 (pc' := 50) (lv' := [(0, .ref s), (1, .ref a), (2, .int y37)]) (st' := [.int y37, .ref a209, .ref a205]) rfl ?_
        refine En_aald (g' := 28) (u := 0) rfl rfl ha209 (by decide +kernel) h39 (by first | exact q_58e6e51dcc h49 | omega) (lnI (by decide +kernel : LN _ = 4) (by first | exact q_074a8b422d h53 | omega)) (FTsgl (by decide +kernel)) (fun a212 h211 ha212 => ?_)
        have t213 : a212 = a + 10 + 4 * (y37.toInt).toNat := DRe (d := y37.toInt) (FXP_fr (PLA_of ha) hY h40 (by decide +kernel)) t210 h211 (by (first | exact q_58e6e51dcc h49 | omega)) (by (first | exact q_d7767d4ccc h53 | omega))
        have t214 := lc_d (d := y37.toInt) (by (first | exact q_58e6e51dcc h49 | omega)) (by (first | exact q_d7767d4ccc h53 | omega))
        obtain ⟨a216, h215, ha216⟩ := WT_peekR (g := 28) (j := 0) (g' := 20) (u := 0) h39 ha205 (by decide +kernel) (by decide +kernel)
        have t217 : a216 = s + 11 + 4 * (y37.toInt).toNat := DLc (d := y37.toInt) (FXI_fr (PLI_of hs) hX h40 (by decide +kernel)) t206 h215 (by (first | exact q_58e6e51dcc h49 | omega)) (by (first | exact q_d7767d4ccc h53 | omega))
        obtain ⟨a219, h218, ha219⟩ := WT_peekR (g := 20) (j := 0) (g' := 21) (u := 0) h39 ha216 (by decide +kernel) (by decide +kernel)
        have t220 : a219 = s + 12 + 4 * (y37.toInt).toNat := DKk (d := y37.toInt) (FXI_fr (PLI_of hs) hX h40 (by decide +kernel)) t217 h218 (by (first | exact q_58e6e51dcc h49 | omega)) (by (first | exact q_d7767d4ccc h53 | omega))
        obtain ⟨a222, h221, ha222⟩ := WT_peekR (g := 20) (j := 1) (g' := 22) (u := 0) h39 ha216 (by decide +kernel) (by decide +kernel)
        have t223 : a222 = s + 13 + 4 * (y37.toInt).toNat := DKo (d := y37.toInt) (FXI_fr (PLI_of hs) hX h40 (by decide +kernel)) t217 h221 (by (first | exact q_58e6e51dcc h49 | omega)) (by (first | exact q_d7767d4ccc h53 | omega))
        obtain ⟨a225, h224, ha225⟩ := WT_peekR (g := 28) (j := 0) (g' := 20) (u := 0) h39 ha212 (by decide +kernel) (by decide +kernel)
        have t226 : a225 = a + 11 + 4 * (y37.toInt).toNat := DLc (d := y37.toInt) (FXP_fr (PLA_of ha) hY h40 (by decide +kernel)) t213 h224 (by (first | exact q_58e6e51dcc h49 | omega)) (by (first | exact q_d7767d4ccc h53 | omega))
        obtain ⟨a228, h227, ha228⟩ := WT_peekR (g := 20) (j := 0) (g' := 21) (u := 0) h39 ha225 (by decide +kernel) (by decide +kernel)
        have t229 : a228 = a + 12 + 4 * (y37.toInt).toNat := DKk (d := y37.toInt) (FXP_fr (PLA_of ha) hY h40 (by decide +kernel)) t226 h227 (by (first | exact q_58e6e51dcc h49 | omega)) (by (first | exact q_d7767d4ccc h53 | omega))
        obtain ⟨a231, h230, ha231⟩ := WT_peekR (g := 20) (j := 1) (g' := 22) (u := 0) h39 ha225 (by decide +kernel) (by decide +kernel)
        have t232 : a231 = a + 13 + 4 * (y37.toInt).toNat := DKo (d := y37.toInt) (FXP_fr (PLA_of ha) hY h40 (by decide +kernel)) t226 h230 (by (first | exact q_58e6e51dcc h49 | omega)) (by (first | exact q_d7767d4ccc h53 | omega))
        refine En_callV rfl rfl rfl rfl rfl rfl rfl rfl ha205 (by decide +kernel) rfl (c_14x σ38 h39 a205 ha205 a212 ha212 a216 ha216 h215 a219 ha219 h218 a222 ha222 h221 a225 ha225 h224 a228 ha228 h227 a231 ha231 h230 (by omega) (by omega) (by omega)) (by decide) (by decide) (fun v234 σ235 h233 => ?_)
        obtain ⟨h236, h237, rfl, h238⟩ := h233
        have h239 := h238
        have h240 := Fr_trans h40 h237 (by decide +kernel)
        have c241 := CPL_s (y' := y37.toInt + 1) h52 hS h239 (by omega) (by omega) (by omega) (by omega) (by omega) (by omega) (by omega) (by omega) (by (first | exact q_58e6e51dcc h49 | omega)) (by (first | exact q_d7767d4ccc h53 | omega)) rfl
        refine En_Ps 1 (pc' := 57) (lv' := [(2, .int ((y37 + Int32.ofInt 1))), (0, .ref s), (1, .ref a)]) (st' := []) rfl ?_
        refine En_lv1 (addI rfl (by decide : (Int32.ofInt 1).toInt = 1) (by first | exact q_465ab79ac1 h49 | omega) (by first | exact q_d8bf7f475a h53 | omega)) (fun z242 h243 => ?_)
        refine En_Ps 1 (pc' := 34) (lv' := [(2, .int z242), (0, .ref s), (1, .ref a)]) (st' := []) rfl ?_
        refine En_lv (lv := [(0, .ref s), (1, .ref a), (2, .int z242)]) ⟨rfl, rfl, rfl, trivial⟩ ?_
        exact ih34 σ235 z242 h236 h240 ((h237 _ _ (inW ha (by decide +kernel))).trans h41) ((h237 _ _ (inW ha (by decide +kernel))).trans h42) ((h237 _ _ (inW hs (by decide +kernel))).trans h43) ((h237 _ _ (inW hs (by decide +kernel))).trans h44) ((h237 _ _ (inW ha (by decide +kernel))).trans h45) ((h237 _ _ (inW hs (by decide +kernel))).trans h46) ((h237 _ _ (inW ha (by decide +kernel))).trans h47) ((h237 _ _ (inW hs (by decide +kernel))).trans h48) (by first | exact q_35104ce9d3 h243 h49 | omega) (by first | exact q_ddc5c16a68 h243 h53 | omega) (by first | exact q_3d8d70ace2 h243 h51 | omega) (CPL_e c241 (by (first | exact q_dd63493976 h243 | omega)))
  have := (by decide : (Int32.ofInt 0).toInt = 0)
  refine En_lv (lv := [(0, .ref s), (1, .ref a), (2, .int ((Int32.ofInt 0)))]) ⟨rfl, rfl, rfl, trivial⟩ ?_
  exact key34 (Int.toNat (4) + 1) σ31 ((Int32.ofInt 0)) h32 h33 ((h35 _ _ (Or.inr (by decide))).trans ((h25 _ _ (Or.inr (by decide))).trans ((h15 _ _ (Or.inl (neTG ha hs (by decide)))).trans ((h9 _ _ (Or.inr (by decide))).trans h_sg)))) ((h35 _ _ (Or.inr (by decide))).trans ((h25 _ _ (Or.inr (by decide))).trans ((h15 _ _ (Or.inr (by decide))).trans ((h9 _ _ (Or.inl (neTG ha hs (by decide)))).trans h1)))) ((h35 _ _ (Or.inr (by decide))).trans ((h25 _ _ (Or.inr (by decide))).trans ((h15 _ _ (Or.inr (by decide))).trans h8))) ((h35 _ _ (Or.inr (by decide))).trans ((h25 _ _ (Or.inr (by decide))).trans h14)) ((h35 _ _ (Or.inr (by decide))).trans ((h25 _ _ (Or.inl (neTG ha hs (by decide)))).trans h17)) ((h35 _ _ (Or.inr (by decide))).trans h24) ((h35 _ _ (Or.inl (neTG ha hs (by decide)))).trans h27) h34 (by decide) (by decide) (by first | exact toN_lt _ | omega) (CPL_0 c36 (by decide))
end
/-! 32.n02 -/
section
/-- DoorSchool$Plan.takeFrom(LDoorSchool$Plan;)V -/
abbrev P_53bx (σ0 : SG) (s : Nat) (a : Nat) : PO := fun v σ => WT σ ∧ Fr [(18, 0), (18, 1), (18, 2), (18, 3), (18, 6), (18, 7), (18, 8), (18, 11), (18, 14), (20, 2), (21, 0), (22, 0), (23, 0), (24, 0), (25, 0), (26, 0), (27, 0), (28, 1), (28, 2), (28, 3)] σ0 σ ∧ ∃ sh : Int32, (σ s)[1]? = some (Value.int sh) ∧ v = none ∧ -sh.toInt ≤ 0 ∧ sh.toInt - 4 ≤ 0 ∧ CPD σ0 σ s a (fun _ => True)
set_option maxRecDepth 10000 in
set_option maxHeartbeats 4000000 in
theorem c_53bx (σ0 : SG) (hσ0 : WT σ0) (s : Nat) (hs : TG s = 18) (a : Nat) (ha : TG a = 31) (hS : SEP s a) (hX : FXP σ0 s) (hY : FXP σ0 a) : En 3 102 none mr_53 (P_53bx σ0 s a) 0 [(0, .ref s), (1, .ref a)] [] σ0 := by
  have hF0 : Fr [(18, 0), (18, 1), (18, 2), (18, 3), (18, 6), (18, 7), (18, 8), (18, 11), (18, 14), (20, 2), (21, 0), (22, 0), (23, 0), (24, 0), (25, 0), (26, 0), (27, 0), (28, 1), (28, 2), (28, 3)] σ0 σ0 := Fr_rfl
  have sep := SEP_d hS
  refine En_Ps 2 (pc' := 2) (lv' := [(0, .ref s), (1, .ref a)]) (st' := [.ref a, .ref s]) rfl ?_
  refine En_getI (j := 0) (l := 0) (u := 1601) rfl rfl rfl ha (by decide +kernel) hσ0 (by decide +kernel) (fun z2 h1 h3 h4 => ?_)
  refine En_put (j := 0) rfl rfl rfl hs (by decide +kernel) rfl (vI (l := 0) (u := 1601) (by decide +kernel) rfl (by first | exact q_58e6e51dcc h3 | omega) (by first | exact q_3232882bcd h4 | omega)) hσ0 hF0 (by decide +kernel) (fun σ5 h6 h7 h8 h9 => ?_)
  have c10 := CPD_put (i0 := 7) (CPD_0 (σ := σ0)) hS h1 h8 h9 (by decide) (by decide) (by decide) (by decide)
  refine En_Ps 2 (pc' := 10) (lv' := [(0, .ref s), (1, .ref a)]) (st' := [.ref a, .ref s]) rfl ?_
  refine En_getI (j := 1) (l := 0) (u := 4) rfl rfl rfl ha (by decide +kernel) h6 (by decide +kernel) (fun z12 h11 h13 h14 => ?_)
  refine En_put (j := 1) rfl rfl rfl hs (by decide +kernel) rfl (vI (l := (-1)) (u := 4) (by decide +kernel) rfl (by first | exact q_5b439548fc h13 | omega) (by first | exact q_c82ed93a8c h14 | omega)) h6 h7 (by decide +kernel) (fun σ15 h16 h17 h18 h19 => ?_)
  have c20 := CPD_put (i0 := 0) c10 hS h11 h18 h19 (by decide) (by decide) (by decide) (by decide)
  refine En_Ps 2 (pc' := 18) (lv' := [(0, .ref s), (1, .ref a)]) (st' := [.ref a, .ref s]) rfl ?_
  refine En_getI (j := 2) (l := (-1)) (u := 3) rfl rfl rfl ha (by decide +kernel) h16 (by decide +kernel) (fun z22 h21 h23 h24 => ?_)
  refine En_put (j := 2) rfl rfl rfl hs (by decide +kernel) rfl (vI (l := (-1)) (u := 3) (by decide +kernel) rfl (by first | exact q_77b189e83d h23 | omega) (by first | exact q_da5e9b976f h24 | omega)) h16 h17 (by decide +kernel) (fun σ25 h26 h27 h28 h29 => ?_)
  have c30 := CPD_put (i0 := 1) c20 hS h21 h28 h29 (by decide) (by decide) (by decide) (by decide)
  refine En_Ps 2 (pc' := 26) (lv' := [(0, .ref s), (1, .ref a)]) (st' := [.ref a, .ref s]) rfl ?_
  refine En_getI (j := 3) (l := 0) (u := 4) rfl rfl rfl ha (by decide +kernel) h26 (by decide +kernel) (fun z32 h31 h33 h34 => ?_)
  refine En_put (j := 3) rfl rfl rfl hs (by decide +kernel) rfl (vI (l := 0) (u := 4) (by decide +kernel) rfl (by first | exact q_58e6e51dcc h33 | omega) (by first | exact q_c82ed93a8c h34 | omega)) h26 h27 (by decide +kernel) (fun σ35 h36 h37 h38 h39 => ?_)
  have c40 := CPD_put (i0 := 2) c30 hS h31 h38 h39 (by decide) (by decide) (by decide) (by decide)
  refine En_Ps 2 (pc' := 34) (lv' := [(2, .int ((Int32.ofInt 0))), (0, .ref s), (1, .ref a)]) (st' := []) rfl ?_
  have key34 : ∀ (n34 : Nat) (σ42 : SG) (y41 : Int32), WT σ42 → Fr [(18, 0), (18, 1), (18, 2), (18, 3), (18, 6), (18, 7), (18, 8), (18, 11), (18, 14), (20, 2), (21, 0), (22, 0), (23, 0), (24, 0), (25, 0), (26, 0), (27, 0), (28, 1), (28, 2), (28, 3)] σ0 σ42 → (σ42 a)[0]? = some (Value.int z2) → (σ42 s)[0]? = some (Value.int z2) → (σ42 a)[1]? = some (Value.int z12) → (σ42 s)[1]? = some (Value.int z12) → (σ42 a)[2]? = some (Value.int z22) → (σ42 s)[2]? = some (Value.int z22) → (σ42 a)[3]? = some (Value.int z32) → (σ42 s)[3]? = some (Value.int z32) → 0 ≤ y41.toInt → y41.toInt ≤ 4 → -y41.toInt + 4 < (n34 : Int) → CPL σ0 σ42 s a y41.toInt → En 3 102 none mr_53 (P_53bx σ0 s a) 34 [(0, .ref s), (1, .ref a), (2, .int y41)] [] σ42 := by
    intro n34
    induction n34 with
    | zero =>
      intro σ42 y41 h43 h44 h45 h46 h47 h48 h49 h50 h51 h52 h53 h54 h55 h56
      first | exact (q_20d6385c6f h55 h54).elim | (exfalso; omega)
    | succ n34 ih34 =>
      intro σ42 y41 h43 h44 h45 h46 h47 h48 h49 h50 h51 h52 h53 h54 h55 h56
      refine En_Ps 2 (pc' := 36) (lv' := [(0, .ref s), (1, .ref a), (2, .int y41)]) (st' := [.int ((Int32.ofInt 4)), .int y41]) rfl ?_
      refine En_icGe _ rfl (by decide : (Int32.ofInt 4).toInt = 4) rfl (fun h57 => ?_) (fun h57 => ?_)
      · have c58 := CPL_4 h56 (by (first | exact q_d5be2e3227 h57 h54 | omega))
        refine En_Ps 1 (pc' := 61) (lv' := [(0, .ref s), (1, .ref a), (2, .int y41)]) (st' := [.ref s]) rfl ?_
        refine En_getR (j := 5) (g' := 20) (u := 0) rfl rfl rfl hs (by decide +kernel) h43 (by decide +kernel) (fun a60 h59 ha60 => ?_)
        have t61 : a60 = s + 2 := ref_uniq h59 (FXP_fr (PLA_of hs) hX h44 (by decide +kernel)).2.1
        refine En_Ps 1 (pc' := 65) (lv' := [(0, .ref s), (1, .ref a), (2, .int y41)]) (st' := [.ref a, .ref a60]) rfl ?_
        refine En_getR (j := 5) (g' := 20) (u := 0) rfl rfl rfl ha (by decide +kernel) h43 (by decide +kernel) (fun a63 h62 ha63 => ?_)
        have t64 : a63 = a + 2 := ref_uniq h62 (FXI_fr (PLI_of ha) hY h44 (by decide +kernel)).2.1
        obtain ⟨a66, h65, ha66⟩ := WT_peekR (g := 20) (j := 0) (g' := 21) (u := 0) h43 ha60 (by decide +kernel) (by decide +kernel)
        have t67 : a66 = s + 3 := EKk (FXP_fr (PLA_of hs) hX h44 (by decide +kernel)) t61 h65
        obtain ⟨a69, h68, ha69⟩ := WT_peekR (g := 20) (j := 1) (g' := 22) (u := 0) h43 ha60 (by decide +kernel) (by decide +kernel)
        have t70 : a69 = s + 4 := EKo (FXP_fr (PLA_of hs) hX h44 (by decide +kernel)) t61 h68
        obtain ⟨a72, h71, ha72⟩ := WT_peekR (g := 20) (j := 0) (g' := 21) (u := 0) h43 ha63 (by decide +kernel) (by decide +kernel)
        have t73 : a72 = a + 3 := EKk (FXI_fr (PLI_of ha) hY h44 (by decide +kernel)) t64 h71
        obtain ⟨a75, h74, ha75⟩ := WT_peekR (g := 20) (j := 1) (g' := 22) (u := 0) h43 ha63 (by decide +kernel) (by decide +kernel)
        have t76 : a75 = a + 4 := EKo (FXI_fr (PLI_of ha) hY h44 (by decide +kernel)) t64 h74
        obtain ⟨z78, h77, h79, h80⟩ := WT_peekI h43 ha63 (by decide +kernel : FT 20 2 = (0, 0, 13)) (by decide +kernel)
        refine En_callV rfl rfl rfl rfl rfl rfl rfl rfl ha60 (by decide +kernel) rfl (c_40x σ42 h43 a60 ha60 a63 ha63 a66 ha66 h65 a69 ha69 h68 a72 ha72 h71 a75 ha75 h74 z78 h77 (by omega) (by omega) (by omega)) (by decide) (by decide) (fun v82 σ83 h81 => ?_)
        obtain ⟨h84, h85, rfl, h86⟩ := h81
        have h87 := h86
        have h88 := Fr_trans h44 h85 (by decide +kernel)
        have c89 := CPD_ex c58 hS h87 (by omega) (by omega) (by omega) (by omega) (by omega) (by omega)
        refine En_Ps 2 (pc' := 73) (lv' := [(0, .ref s), (1, .ref a), (2, .int y41)]) (st' := [.ref a, .ref s]) rfl ?_
        refine En_getI (j := 6) (l := 0) (u := 15) rfl rfl rfl ha (by decide +kernel) h84 (by decide +kernel) (fun z91 h90 h92 h93 => ?_)
        refine En_put (j := 6) rfl rfl rfl hs (by decide +kernel) rfl (vI (l := 0) (u := 15) (by decide +kernel) rfl (by first | exact q_58e6e51dcc h92 | omega) (by first | exact q_5a4d8a7e08 h93 | omega)) h84 h88 (by decide +kernel) (fun σ94 h95 h96 h97 h98 => ?_)
        have c99 := CPD_put (i0 := 8) c89 hS h90 h97 h98 (by decide) (by decide) (by decide) (by decide)
        refine En_Ps 2 (pc' := 81) (lv' := [(0, .ref s), (1, .ref a), (2, .int y41)]) (st' := [.ref a, .ref s]) rfl ?_
        refine En_getI (j := 7) (l := 0) (u := 15) rfl rfl rfl ha (by decide +kernel) h95 (by decide +kernel) (fun z101 h100 h102 h103 => ?_)
        refine En_put (j := 7) rfl rfl rfl hs (by decide +kernel) rfl (vI (l := 0) (u := 15) (by decide +kernel) rfl (by first | exact q_58e6e51dcc h102 | omega) (by first | exact q_5a4d8a7e08 h103 | omega)) h95 h96 (by decide +kernel) (fun σ104 h105 h106 h107 h108 => ?_)
        have c109 := CPD_put (i0 := 9) c99 hS h100 h107 h108 (by decide) (by decide) (by decide) (by decide)
        refine En_Ps 2 (pc' := 89) (lv' := [(0, .ref s), (1, .ref a), (2, .int y41)]) (st' := [.ref a, .ref s]) rfl ?_
        refine En_getI (j := 8) (l := 0) (u := 4) rfl rfl rfl ha (by decide +kernel) h105 (by decide +kernel) (fun z111 h110 h112 h113 => ?_)
        refine En_put (j := 8) rfl rfl rfl hs (by decide +kernel) rfl (vI (l := 0) (u := 4) (by decide +kernel) rfl (by first | exact q_58e6e51dcc h112 | omega) (by first | exact q_c82ed93a8c h113 | omega)) h105 h106 (by decide +kernel) (fun σ114 h115 h116 h117 h118 => ?_)
        have c119 := CPD_put (i0 := 4) c109 hS h110 h117 h118 (by decide) (by decide) (by decide) (by decide)
        refine En_Ps 1 (pc' := 96) (lv' := [(0, .ref s), (1, .ref a), (2, .int y41)]) (st' := [.ref a]) rfl ?_
        refine En_getR (j := 9) (g' := 23) (u := 0) rfl rfl rfl ha (by decide +kernel) h115 (by decide +kernel) (fun a121 h120 ha121 => ?_)
        have t122 : a121 = a + 5 := ref_uniq h120 (FXI_fr (PLI_of ha) hY h116 (by decide +kernel)).2.2.1
        refine En_Ps 2 (pc' := 101) (lv' := [(0, .ref s), (1, .ref a), (2, .int y41)]) (st' := [.ref s, .int ((Int32.ofInt 0)), .ref a121]) rfl ?_
        refine En_getR (j := 9) (g' := 23) (u := 0) rfl rfl rfl hs (by decide +kernel) h115 (by decide +kernel) (fun a124 h123 ha124 => ?_)
        have t125 : a124 = s + 5 := ref_uniq h123 (FXP_fr (PLA_of hs) hX h116 (by decide +kernel)).2.2.1
        refine En_Ps 2 (pc' := 106) (lv' := [(0, .ref s), (1, .ref a), (2, .int y41)]) (st' := [.int ((Int32.ofInt 4)), .int ((Int32.ofInt 0)), .ref a124, .int ((Int32.ofInt 0)), .ref a121]) rfl ?_
        refine En_copyX (n0 := 4) (n1 := 4) (by decide : (Int32.ofInt 4).toInt = 4) (by decide : (Int32.ofInt 0).toInt = 0) (by decide : (Int32.ofInt 0).toInt = 0) rfl rfl rfl rfl ha121 ha124 (by decide +kernel) (by decide +kernel) (by decide +kernel) (by decide +kernel) (by decide +kernel) (by (first | decide | omega)) (by (first | decide | omega)) (by (first | decide | omega)) (by (first | decide | omega)) (by (first | decide | omega)) h115 h116 (by decide +kernel) (fun σ126 h127 h128 h129 h130 => ?_)
        have h131 := ROW_mk (n := 4) h129 h130 (by decide) (by decide) (by decide)
        have c132 := CPD_row c119 hS h131 t125 t122 (by decide) (by decide +kernel)
        refine En_Ps 1 (pc' := 110) (lv' := [(0, .ref s), (1, .ref a), (2, .int y41)]) (st' := [.ref a]) rfl ?_
        refine En_getR (j := 10) (g' := 24) (u := 0) rfl rfl rfl ha (by decide +kernel) h127 (by decide +kernel) (fun a134 h133 ha134 => ?_)
        have t135 : a134 = a + 6 := ref_uniq h133 (FXI_fr (PLI_of ha) hY h128 (by decide +kernel)).2.2.2.1
        refine En_Ps 2 (pc' := 115) (lv' := [(0, .ref s), (1, .ref a), (2, .int y41)]) (st' := [.ref s, .int ((Int32.ofInt 0)), .ref a134]) rfl ?_
        refine En_getR (j := 10) (g' := 24) (u := 0) rfl rfl rfl hs (by decide +kernel) h127 (by decide +kernel) (fun a137 h136 ha137 => ?_)
        have t138 : a137 = s + 6 := ref_uniq h136 (FXP_fr (PLA_of hs) hX h128 (by decide +kernel)).2.2.2.1
        refine En_Ps 2 (pc' := 120) (lv' := [(0, .ref s), (1, .ref a), (2, .int y41)]) (st' := [.int ((Int32.ofInt 4)), .int ((Int32.ofInt 0)), .ref a137, .int ((Int32.ofInt 0)), .ref a134]) rfl ?_
        refine En_copyX (n0 := 4) (n1 := 4) (by decide : (Int32.ofInt 4).toInt = 4) (by decide : (Int32.ofInt 0).toInt = 0) (by decide : (Int32.ofInt 0).toInt = 0) rfl rfl rfl rfl ha134 ha137 (by decide +kernel) (by decide +kernel) (by decide +kernel) (by decide +kernel) (by decide +kernel) (by (first | decide | omega)) (by (first | decide | omega)) (by (first | decide | omega)) (by (first | decide | omega)) (by (first | decide | omega)) h127 h128 (by decide +kernel) (fun σ139 h140 h141 h142 h143 => ?_)
        have h144 := ROW_mk (n := 4) h142 h143 (by decide) (by decide) (by decide)
        have c145 := CPD_row c132 hS h144 t138 t135 (by decide) (by decide +kernel)
        refine En_Ps 2 (pc' := 125) (lv' := [(0, .ref s), (1, .ref a), (2, .int y41)]) (st' := [.ref a, .ref s]) rfl ?_
        refine En_getI (j := 11) (l := 0) (u := 6) rfl rfl rfl ha (by decide +kernel) h140 (by decide +kernel) (fun z147 h146 h148 h149 => ?_)
        refine En_put (j := 11) rfl rfl rfl hs (by decide +kernel) rfl (vI (l := 0) (u := 6) (by decide +kernel) rfl (by first | exact q_58e6e51dcc h148 | omega) (by first | exact q_615333d33f h149 | omega)) h140 h141 (by decide +kernel) (fun σ150 h151 h152 h153 h154 => ?_)
        have c155 := CPD_put (i0 := 5) c145 hS h146 h153 h154 (by decide) (by decide) (by decide) (by decide)
        refine En_Ps 1 (pc' := 132) (lv' := [(0, .ref s), (1, .ref a), (2, .int y41)]) (st' := [.ref a]) rfl ?_
        refine En_getR (j := 12) (g' := 25) (u := 0) rfl rfl rfl ha (by decide +kernel) h151 (by decide +kernel) (fun a157 h156 ha157 => ?_)
        have t158 : a157 = a + 7 := ref_uniq h156 (FXI_fr (PLI_of ha) hY h152 (by decide +kernel)).2.2.2.2.1
        refine En_Ps 2 (pc' := 137) (lv' := [(0, .ref s), (1, .ref a), (2, .int y41)]) (st' := [.ref s, .int ((Int32.ofInt 0)), .ref a157]) rfl ?_
        refine En_getR (j := 12) (g' := 25) (u := 0) rfl rfl rfl hs (by decide +kernel) h151 (by decide +kernel) (fun a160 h159 ha160 => ?_)
        have t161 : a160 = s + 7 := ref_uniq h159 (FXP_fr (PLA_of hs) hX h152 (by decide +kernel)).2.2.2.2.1
        refine En_Ps 2 (pc' := 143) (lv' := [(0, .ref s), (1, .ref a), (2, .int y41)]) (st' := [.int (((Int8.ofInt 6).toInt32)), .int ((Int32.ofInt 0)), .ref a160, .int ((Int32.ofInt 0)), .ref a157]) rfl ?_
        refine En_copyX (n0 := 6) (n1 := 6) (by decide : ((Int8.ofInt 6).toInt32).toInt = 6) (by decide : (Int32.ofInt 0).toInt = 0) (by decide : (Int32.ofInt 0).toInt = 0) rfl rfl rfl rfl ha157 ha160 (by decide +kernel) (by decide +kernel) (by decide +kernel) (by decide +kernel) (by decide +kernel) (by (first | decide | omega)) (by (first | decide | omega)) (by (first | decide | omega)) (by (first | decide | omega)) (by (first | decide | omega)) h151 h152 (by decide +kernel) (fun σ162 h163 h164 h165 h166 => ?_)
        have h167 := ROW_mk (n := 6) h165 h166 (by decide) (by decide) (by decide)
        have c168 := CPD_row c155 hS h167 t161 t158 (by decide) (by decide +kernel)
        refine En_Ps 1 (pc' := 147) (lv' := [(0, .ref s), (1, .ref a), (2, .int y41)]) (st' := [.ref a]) rfl ?_
        refine En_getR (j := 13) (g' := 26) (u := 0) rfl rfl rfl ha (by decide +kernel) h163 (by decide +kernel) (fun a170 h169 ha170 => ?_)
        have t171 : a170 = a + 8 := ref_uniq h169 (FXI_fr (PLI_of ha) hY h164 (by decide +kernel)).2.2.2.2.2.1
        refine En_Ps 2 (pc' := 152) (lv' := [(0, .ref s), (1, .ref a), (2, .int y41)]) (st' := [.ref s, .int ((Int32.ofInt 0)), .ref a170]) rfl ?_
        refine En_getR (j := 13) (g' := 26) (u := 0) rfl rfl rfl hs (by decide +kernel) h163 (by decide +kernel) (fun a173 h172 ha173 => ?_)
        have t174 : a173 = s + 8 := ref_uniq h172 (FXP_fr (PLA_of hs) hX h164 (by decide +kernel)).2.2.2.2.2.1
        refine En_Ps 2 (pc' := 158) (lv' := [(0, .ref s), (1, .ref a), (2, .int y41)]) (st' := [.int (((Int8.ofInt 6).toInt32)), .int ((Int32.ofInt 0)), .ref a173, .int ((Int32.ofInt 0)), .ref a170]) rfl ?_
        refine En_copyX (n0 := 6) (n1 := 6) (by decide : ((Int8.ofInt 6).toInt32).toInt = 6) (by decide : (Int32.ofInt 0).toInt = 0) (by decide : (Int32.ofInt 0).toInt = 0) rfl rfl rfl rfl ha170 ha173 (by decide +kernel) (by decide +kernel) (by decide +kernel) (by decide +kernel) (by decide +kernel) (by (first | decide | omega)) (by (first | decide | omega)) (by (first | decide | omega)) (by (first | decide | omega)) (by (first | decide | omega)) h163 h164 (by decide +kernel) (fun σ175 h176 h177 h178 h179 => ?_)
        have h180 := ROW_mk (n := 6) h178 h179 (by decide) (by decide) (by decide)
        have c181 := CPD_row c168 hS h180 t174 t171 (by decide) (by decide +kernel)
        refine En_Ps 2 (pc' := 163) (lv' := [(0, .ref s), (1, .ref a), (2, .int y41)]) (st' := [.ref a, .ref s]) rfl ?_
        refine En_getI (j := 14) (l := 0) (u := 60) rfl rfl rfl ha (by decide +kernel) h176 (by decide +kernel) (fun z183 h182 h184 h185 => ?_)
        refine En_put (j := 14) rfl rfl rfl hs (by decide +kernel) rfl (vI (l := 0) (u := 60) (by decide +kernel) rfl (by first | exact q_58e6e51dcc h184 | omega) (by first | exact q_d3912a5755 h185 | omega)) h176 h177 (by decide +kernel) (fun σ186 h187 h188 h189 h190 => ?_)
        have c191 := CPD_put (i0 := 6) c181 hS h182 h189 h190 (by decide) (by decide) (by decide) (by decide)
        refine En_Ps 1 (pc' := 170) (lv' := [(0, .ref s), (1, .ref a), (2, .int y41)]) (st' := [.ref a]) rfl ?_
        refine En_getR (j := 15) (g' := 27) (u := 0) rfl rfl rfl ha (by decide +kernel) h187 (by decide +kernel) (fun a193 h192 ha193 => ?_)
        have t194 : a193 = a + 9 := ref_uniq h192 (FXI_fr (PLI_of ha) hY h188 (by decide +kernel)).2.2.2.2.2.2.1
        refine En_Ps 2 (pc' := 175) (lv' := [(0, .ref s), (1, .ref a), (2, .int y41)]) (st' := [.ref s, .int ((Int32.ofInt 0)), .ref a193]) rfl ?_
        refine En_getR (j := 15) (g' := 27) (u := 0) rfl rfl rfl hs (by decide +kernel) h187 (by decide +kernel) (fun a196 h195 ha196 => ?_)
        have t197 : a196 = s + 9 := ref_uniq h195 (FXP_fr (PLA_of hs) hX h188 (by decide +kernel)).2.2.2.2.2.2.1
        refine En_Ps 2 (pc' := 181) (lv' := [(0, .ref s), (1, .ref a), (2, .int y41)]) (st' := [.int (((Int8.ofInt 60).toInt32)), .int ((Int32.ofInt 0)), .ref a196, .int ((Int32.ofInt 0)), .ref a193]) rfl ?_
        refine En_copyX (n0 := 60) (n1 := 60) (by decide : ((Int8.ofInt 60).toInt32).toInt = 60) (by decide : (Int32.ofInt 0).toInt = 0) (by decide : (Int32.ofInt 0).toInt = 0) rfl rfl rfl rfl ha193 ha196 (by decide +kernel) (by decide +kernel) (by decide +kernel) (by decide +kernel) (by decide +kernel) (by (first | decide | omega)) (by (first | decide | omega)) (by (first | decide | omega)) (by (first | decide | omega)) (by (first | decide | omega)) h187 h188 (by decide +kernel) (fun σ198 h199 h200 h201 h202 => ?_)
        have h203 := ROW_mk (n := 60) h201 h202 (by decide) (by decide) (by decide)
        have c204 := CPD_row c191 hS h203 t197 t194 (by decide) (by decide +kernel)
        exact En_ret (v := none) rfl rfl rfl ⟨h199, h200, z12, ((h201 _ _ (neTG hs ha196 (by decide))).trans ((h190 _ _ (Or.inr (by decide))).trans ((h178 _ _ (neTG hs ha173 (by decide))).trans ((h165 _ _ (neTG hs ha160 (by decide))).trans ((h154 _ _ (Or.inr (by decide))).trans ((h142 _ _ (neTG hs ha137 (by decide))).trans ((h129 _ _ (neTG hs ha124 (by decide))).trans ((h118 _ _ (Or.inr (by decide))).trans ((h108 _ _ (Or.inr (by decide))).trans ((h98 _ _ (Or.inr (by decide))).trans ((h85 _ _ (inW hs (by decide +kernel))).trans h48))))))))))), rfl, ⟨by first | exact q_c803b490ef h13 | omega, by first | exact q_3919a0a4ce h14 | omega, CPD_all c204⟩⟩
      · refine En_Ps 1 (pc' := 40) (lv' := [(0, .ref s), (1, .ref a), (2, .int y41)]) (st' := [.ref s]) rfl ?_
        refine En_getR (j := 4) (g' := 19) (u := 0) rfl rfl rfl hs (by decide +kernel) h43 (by decide +kernel) (fun a206 h205 ha206 => ?_)
        have t207 : a206 = s + 1 := ref_uniq h205 (FXP_fr (PLA_of hs) hX h44 (by decide +kernel)).1
        refine En_Ps 1 (pc' := 44) (lv' := [(0, .ref s), (1, .ref a), (2, .int y41)]) (st' := [.int y41, .ref a206]) rfl ?_
        refine En_aald (g' := 28) (u := 0) rfl rfl ha206 (by decide +kernel) h43 (by first | exact q_58e6e51dcc h53 | omega) (lnI (by decide +kernel : LN _ = 4) (by first | exact q_074a8b422d h57 | omega)) (FTsgl (by decide +kernel)) (fun a209 h208 ha209 => ?_)
        have t210 : a209 = s + 10 + 4 * (y41.toInt).toNat := DRe (d := y41.toInt) (FXP_fr (PLA_of hs) hX h44 (by decide +kernel)) t207 h208 (by (first | exact q_58e6e51dcc h53 | omega)) (by (first | exact q_d7767d4ccc h57 | omega))
        have t211 := lc_d (d := y41.toInt) (by (first | exact q_58e6e51dcc h53 | omega)) (by (first | exact q_d7767d4ccc h57 | omega))
        refine En_Ps 1 (pc' := 46) (lv' := [(0, .ref s), (1, .ref a), (2, .int y41)]) (st' := [.ref a, .ref a209]) rfl ?_
        refine En_getR (j := 4) (g' := 19) (u := 0) rfl rfl rfl ha (by decide +kernel) h43 (by decide +kernel) (fun a213 h212 ha213 => ?_)
        have t214 : a213 = a + 1 := ref_uniq h212 (FXI_fr (PLI_of ha) hY h44 (by decide +kernel)).1
        refine En_Ps 1 (pc' := 50) (lv' := [(0, .ref s), (1, .ref a), (2, .int y41)]) (st' := [.int y41, .ref a213, .ref a209]) rfl ?_
        refine En_aald (g' := 28) (u := 0) rfl rfl ha213 (by decide +kernel) h43 (by first | exact q_58e6e51dcc h53 | omega) (lnI (by decide +kernel : LN _ = 4) (by first | exact q_074a8b422d h57 | omega)) (FTsgl (by decide +kernel)) (fun a216 h215 ha216 => ?_)
        have t217 : a216 = a + 10 + 4 * (y41.toInt).toNat := DRe (d := y41.toInt) (FXI_fr (PLI_of ha) hY h44 (by decide +kernel)) t214 h215 (by (first | exact q_58e6e51dcc h53 | omega)) (by (first | exact q_d7767d4ccc h57 | omega))
        have t218 := lc_d (d := y41.toInt) (by (first | exact q_58e6e51dcc h53 | omega)) (by (first | exact q_d7767d4ccc h57 | omega))
        obtain ⟨a220, h219, ha220⟩ := WT_peekR (g := 28) (j := 0) (g' := 20) (u := 0) h43 ha209 (by decide +kernel) (by decide +kernel)
        have t221 : a220 = s + 11 + 4 * (y41.toInt).toNat := DLc (d := y41.toInt) (FXP_fr (PLA_of hs) hX h44 (by decide +kernel)) t210 h219 (by (first | exact q_58e6e51dcc h53 | omega)) (by (first | exact q_d7767d4ccc h57 | omega))
        obtain ⟨a223, h222, ha223⟩ := WT_peekR (g := 20) (j := 0) (g' := 21) (u := 0) h43 ha220 (by decide +kernel) (by decide +kernel)
        have t224 : a223 = s + 12 + 4 * (y41.toInt).toNat := DKk (d := y41.toInt) (FXP_fr (PLA_of hs) hX h44 (by decide +kernel)) t221 h222 (by (first | exact q_58e6e51dcc h53 | omega)) (by (first | exact q_d7767d4ccc h57 | omega))
        obtain ⟨a226, h225, ha226⟩ := WT_peekR (g := 20) (j := 1) (g' := 22) (u := 0) h43 ha220 (by decide +kernel) (by decide +kernel)
        have t227 : a226 = s + 13 + 4 * (y41.toInt).toNat := DKo (d := y41.toInt) (FXP_fr (PLA_of hs) hX h44 (by decide +kernel)) t221 h225 (by (first | exact q_58e6e51dcc h53 | omega)) (by (first | exact q_d7767d4ccc h57 | omega))
        obtain ⟨a229, h228, ha229⟩ := WT_peekR (g := 28) (j := 0) (g' := 20) (u := 0) h43 ha216 (by decide +kernel) (by decide +kernel)
        have t230 : a229 = a + 11 + 4 * (y41.toInt).toNat := DLc (d := y41.toInt) (FXI_fr (PLI_of ha) hY h44 (by decide +kernel)) t217 h228 (by (first | exact q_58e6e51dcc h53 | omega)) (by (first | exact q_d7767d4ccc h57 | omega))
        obtain ⟨a232, h231, ha232⟩ := WT_peekR (g := 20) (j := 0) (g' := 21) (u := 0) h43 ha229 (by decide +kernel) (by decide +kernel)
        have t233 : a232 = a + 12 + 4 * (y41.toInt).toNat := DKk (d := y41.toInt) (FXI_fr (PLI_of ha) hY h44 (by decide +kernel)) t230 h231 (by (first | exact q_58e6e51dcc h53 | omega)) (by (first | exact q_d7767d4ccc h57 | omega))
        obtain ⟨a235, h234, ha235⟩ := WT_peekR (g := 20) (j := 1) (g' := 22) (u := 0) h43 ha229 (by decide +kernel) (by decide +kernel)
        have t236 : a235 = a + 13 + 4 * (y41.toInt).toNat := DKo (d := y41.toInt) (FXI_fr (PLI_of ha) hY h44 (by decide +kernel)) t230 h234 (by (first | exact q_58e6e51dcc h53 | omega)) (by (first | exact q_d7767d4ccc h57 | omega))
        refine En_callV rfl rfl rfl rfl rfl rfl rfl rfl ha209 (by decide +kernel) rfl (c_14x σ42 h43 a209 ha209 a216 ha216 a220 ha220 h219 a223 ha223 h222 a226 ha226 h225 a229 ha229 h228 a232 ha232 h231 a235 ha235 h234 (by omega) (by omega) (by omega)) (by decide) (by decide) (fun v238 σ239 h237 => ?_)
        obtain ⟨h240, h241, rfl, h242⟩ := h237
        have h243 := h242
        have h244 := Fr_trans h44 h241 (by decide +kernel)
        have c245 := CPL_s (y' := y41.toInt + 1) h56 hS h243 (by omega) (by omega) (by omega) (by omega) (by omega) (by omega) (by omega) (by omega) (by (first | exact q_58e6e51dcc h53 | omega)) (by (first | exact q_d7767d4ccc h57 | omega)) rfl
        refine En_Ps 1 (pc' := 57) (lv' := [(2, .int ((y41 + Int32.ofInt 1))), (0, .ref s), (1, .ref a)]) (st' := []) rfl ?_
        refine En_lv1 (addI rfl (by decide : (Int32.ofInt 1).toInt = 1) (by first | exact q_465ab79ac1 h53 | omega) (by first | exact q_d8bf7f475a h57 | omega)) (fun z246 h247 => ?_)
        refine En_Ps 1 (pc' := 34) (lv' := [(2, .int z246), (0, .ref s), (1, .ref a)]) (st' := []) rfl ?_
        refine En_lv (lv := [(0, .ref s), (1, .ref a), (2, .int z246)]) ⟨rfl, rfl, rfl, trivial⟩ ?_
        exact ih34 σ239 z246 h240 h244 ((h241 _ _ (inW ha (by decide +kernel))).trans h45) ((h241 _ _ (inW hs (by decide +kernel))).trans h46) ((h241 _ _ (inW ha (by decide +kernel))).trans h47) ((h241 _ _ (inW hs (by decide +kernel))).trans h48) ((h241 _ _ (inW ha (by decide +kernel))).trans h49) ((h241 _ _ (inW hs (by decide +kernel))).trans h50) ((h241 _ _ (inW ha (by decide +kernel))).trans h51) ((h241 _ _ (inW hs (by decide +kernel))).trans h52) (by first | exact q_35104ce9d3 h247 h53 | omega) (by first | exact q_ddc5c16a68 h247 h57 | omega) (by first | exact q_3d8d70ace2 h247 h55 | omega) (CPL_e c245 (by (first | exact q_dd63493976 h247 | omega)))
  have := (by decide : (Int32.ofInt 0).toInt = 0)
  refine En_lv (lv := [(0, .ref s), (1, .ref a), (2, .int ((Int32.ofInt 0)))]) ⟨rfl, rfl, rfl, trivial⟩ ?_
  exact key34 (Int.toNat (4) + 1) σ35 ((Int32.ofInt 0)) h36 h37 ((h39 _ _ (Or.inr (by decide))).trans ((h29 _ _ (Or.inr (by decide))).trans ((h19 _ _ (Or.inr (by decide))).trans ((h9 _ _ (Or.inl (neTG ha hs (by decide)))).trans h1)))) ((h39 _ _ (Or.inr (by decide))).trans ((h29 _ _ (Or.inr (by decide))).trans ((h19 _ _ (Or.inr (by decide))).trans h8))) ((h39 _ _ (Or.inr (by decide))).trans ((h29 _ _ (Or.inr (by decide))).trans ((h19 _ _ (Or.inl (neTG ha hs (by decide)))).trans h11))) ((h39 _ _ (Or.inr (by decide))).trans ((h29 _ _ (Or.inr (by decide))).trans h18)) ((h39 _ _ (Or.inr (by decide))).trans ((h29 _ _ (Or.inl (neTG ha hs (by decide)))).trans h21)) ((h39 _ _ (Or.inr (by decide))).trans h28) ((h39 _ _ (Or.inl (neTG ha hs (by decide)))).trans h31) h38 (by decide) (by decide) (by first | exact toN_lt _ | omega) (CPL_0 c40 (by decide))
/-- DoorSchool$Reader.blame(I)V -/
abbrev P_54x (σ0 : SG) (By : Int → Int) (Nb : Int) (Sp : PS) (a : Int32) (f : Int32) : PO := fun v σ => WT σ ∧ Fr [(3, 5), (3, 6)] σ0 σ ∧ ∃ f1 : Int32, (σ 3)[5]? = some (Value.int f1) ∧ v = none ∧ -f1.toInt + 1 ≤ 0 ∧ f1.toInt - 3 ≤ 0 ∧ -f1.toInt + f.toInt ≤ 0 ∧ Imp (f.toInt ≤ 0) (f1.toInt - a.toInt ≤ 0 ∧ -f1.toInt + a.toInt ≤ 0) ∧ Imp (-f.toInt + 1 ≤ 0) (f1.toInt - f.toInt ≤ 0 ∧ -f1.toInt + f.toInt ≤ 0) ∧ CT By Nb σ (err By Nb a.toInt Sp)
set_option maxRecDepth 10000 in
set_option maxHeartbeats 4000000 in
theorem c_54x {By : Int → Int} {Nb : Int} {Sp : PS} (σ0 : SG) (hσ0 : WT σ0) (a : Int32) (hl_a : 1 ≤ a.toInt) (hu_a : a.toInt ≤ 3) (f : Int32) (h_f : (σ0 3)[5]? = some (Value.int f)) (hC : CT By Nb σ0 Sp) : En 0 0 none mr_54 (P_54x σ0 By Nb Sp a f) 0 [(0, .ref 3), (1, .int a)] [] σ0 := by
  obtain ⟨hl_f, hu_f⟩ := WT_int hσ0 (g := 3) (by decide +kernel) (by decide +kernel) (l := 0) (u := 3) (by decide +kernel) h_f
  have hF0 : Fr [(3, 5), (3, 6)] σ0 σ0 := Fr_rfl
  have h1 := CT_k hC h_f
  obtain ⟨z3, h2, h4, h5⟩ := WT_peekI hσ0 tgz_3 (by decide +kernel : FT 3 2 = (0, 0, 1600)) (by decide +kernel)
  refine En_Ps 1 (pc' := 1) (lv' := [(0, .ref 3), (1, .int a)]) (st' := [.ref 3]) rfl ?_
  refine En_getK (j := 5) h_f rfl rfl rfl tgz_3 (by decide +kernel) ?_
  refine En_iNe _ rfl rfl (fun h6 => ?_) (fun h6 => ?_)
  · exact En_ret (v := none) rfl rfl rfl ⟨hσ0, hF0, f, h_f, rfl, ⟨by first | exact q_e74c65d0a8 h6 hl_f | omega, by first | exact q_e9a8eec0c4 hu_f | omega, by first | exact q_857069189f | omega, fun hh => by first | exact ⟨q_f1b4405731 hl_a hh, q_6030c79a6f h6 hl_f hh⟩ | omega, fun hh => by first | exact ⟨q_1bb76abeaf, q_857069189f⟩ | omega, (by rw [err_bad (by (first | exact q_957696b956 h6 hl_f h1 | omega))]; exact hC)⟩⟩
  · refine En_Ps 2 (pc' := 9) (lv' := [(0, .ref 3), (1, .int a)]) (st' := [.int a, .ref 3]) rfl ?_
    refine En_put (j := 5) rfl rfl rfl tgz_3 (by decide +kernel) rfl (vI (l := 0) (u := 3) (by decide +kernel) rfl (by first | exact q_337a85e294 hl_a | omega) (by first | exact q_da5e9b976f hu_a | omega)) hσ0 hF0 (by decide +kernel) (fun σ7 h8 h9 h10 h11 => ?_)
    refine En_Ps 2 (pc' := 14) (lv' := [(0, .ref 3), (1, .int a)]) (st' := [.ref 3, .ref 3]) rfl ?_
    refine En_getK (j := 2) ((h11 _ _ (Or.inr (by decide))).trans h2) rfl rfl rfl tgz_3 (by decide +kernel) ?_
    refine En_put (j := 6) rfl rfl rfl tgz_3 (by decide +kernel) rfl (vI (l := (-1)) (u := 1600) (by decide +kernel) rfl (by first | exact q_5b439548fc h4 | omega) (by first | exact q_246f9048f8 h5 | omega)) h8 h9 (by decide +kernel) (fun σ12 h13 h14 h15 h16 => ?_)
    exact En_ret (v := none) rfl rfl rfl ⟨h13, h14, a, ((h16 _ _ (Or.inr (by decide))).trans h10), rfl, ⟨by first | exact q_996bab80f3 hl_a | omega, by first | exact q_e9a8eec0c4 hu_a | omega, by first | exact q_6caa29d3e5 hl_a h6 | omega, fun hh => by first | exact ⟨q_1bb76abeaf, q_857069189f⟩ | omega, fun hh => by first | exact ⟨q_9f4a304547 hh h6, q_6caa29d3e5 hl_a h6⟩ | omega, CT_err hC (by (first | exact q_ca23768860 h1 h6 | omega)) (by (first | exact q_5135621b52 hl_a | omega)) h14 (by decide +kernel) (ci_at (j := 5) ((h16 _ _ (Or.inr (by decide))).trans h10) rfl) h2 (ci_at (j := 6) h15 rfl)⟩⟩
/-- DoorSchool$Reader.isBlank(B)Z -/
abbrev P_56x (σ0 : SG) (a : Int32) : PO := fun v σ => WT σ ∧ Fr [] σ0 σ ∧ ∃ ret : Int32, v = some (Value.int ret) ∧ -ret.toInt ≤ 0 ∧ ret.toInt - 1 ≤ 0 ∧ Imp (ret.toInt - 1 ≤ 0 ∧ -ret.toInt + 1 ≤ 0) (-a.toInt + 10 ≤ 0 ∧ a.toInt - 32 ≤ 0) ∧ ((ret.toInt = 1 ∧ (a.toInt = 32 ∨ a.toInt = 10)) ∨ (ret.toInt = 0 ∧ a.toInt ≠ 32 ∧ a.toInt ≠ 10))
set_option maxRecDepth 10000 in
set_option maxHeartbeats 4000000 in
theorem c_56x (σ0 : SG) (hσ0 : WT σ0) (a : Int32) (hl_a : (-128) ≤ a.toInt) (hu_a : a.toInt ≤ 127) : En 0 0 none mr_56 (P_56x σ0 a) 0 [(0, .int a)] [] σ0 := by
  have hF0 : Fr [] σ0 σ0 := Fr_rfl
  refine En_Ps 2 (pc' := 3) (lv' := [(0, .int a)]) (st' := [.int (((Int8.ofInt 32).toInt32)), .int a]) rfl ?_
  refine En_icEq _ rfl (by decide : ((Int8.ofInt 32).toInt32).toInt = 32) rfl (fun h1 => ?_) (fun h1 => ?_)
  · refine En_Ps 2 (pc' := 17) (lv' := [(0, .int a)]) (st' := [.int ((Int32.ofInt 1))]) rfl ?_
    refine En_top (by decide : (Int32.ofInt 1).toInt = 1) (fun z2 h3 => ?_)
    exact En_ret (v := some (Value.int z2)) rfl rfl (retZ rfl rfl (by first | exact q_2b07c97645 h3 | omega) (by first | exact q_d9e7cbb253 h3 | omega)) ⟨hσ0, hF0, z2, rfl, ⟨by first | exact q_ad3eee31ca h3 | omega, by first | exact q_81cf297dc4 h3 | omega, fun hh => by first | exact ⟨q_c7bbab7bf1 h1, q_9db9c28d84 h1⟩ | omega, (by (first | exact q_71f8192873 h3 h1 | omega))⟩⟩
  · refine En_Ps 2 (pc' := 9) (lv' := [(0, .int a)]) (st' := [.int (((Int8.ofInt 10).toInt32)), .int a]) rfl ?_
    refine En_icNe _ rfl (by decide : ((Int8.ofInt 10).toInt32).toInt = 10) rfl (fun h4 => ?_) (fun h4 => ?_)
    · refine En_Ps 1 (pc' := 17) (lv' := [(0, .int a)]) (st' := [.int ((Int32.ofInt 0))]) rfl ?_
      refine En_top (by decide : (Int32.ofInt 0).toInt = 0) (fun z5 h6 => ?_)
      exact En_ret (v := some (Value.int z5)) rfl rfl (retZ rfl rfl (by first | exact q_55451d0a83 h6 | omega) (by first | exact q_87849c3859 h6 | omega)) ⟨hσ0, hF0, z5, rfl, ⟨by first | exact q_097a37c2ae h6 | omega, by first | exact q_e269517bee h6 | omega, fun _ => by omega, (by (first | exact q_fc41398999 h6 h4 h1 | omega))⟩⟩
    · refine En_Ps 2 (pc' := 17) (lv' := [(0, .int a)]) (st' := [.int ((Int32.ofInt 1))]) rfl ?_
      refine En_top (by decide : (Int32.ofInt 1).toInt = 1) (fun z7 h8 => ?_)
      exact En_ret (v := some (Value.int z7)) rfl rfl (retZ rfl rfl (by first | exact q_2b07c97645 h8 | omega) (by first | exact q_d9e7cbb253 h8 | omega)) ⟨hσ0, hF0, z7, rfl, ⟨by first | exact q_ad3eee31ca h8 | omega, by first | exact q_81cf297dc4 h8 | omega, fun hh => by first | exact ⟨q_bda69c322b h4, q_cc78147568 h4⟩ | omega, (by (first | exact q_b9c8b6ef91 h8 h4 | omega))⟩⟩
/-- DoorSchool$Reader.kindAt(I)I -/
abbrev P_57x (σ0 : SG) (By : Int → Int) (Nb : Int) (a : Int32) (m : Int32) : PO := fun v σ => WT σ ∧ Fr [] σ0 σ ∧ ∃ ret : Int32, v = some (Value.int ret) ∧ -ret.toInt ≤ 0 ∧ ret.toInt - 4 ≤ 0 ∧ Imp (-ret.toInt + 1 ≤ 0) (a.toInt - m.toInt + 1 ≤ 0) ∧ ret.toInt = kA By Nb a.toInt
set_option maxRecDepth 10000 in
set_option maxHeartbeats 4000000 in
theorem c_57x {By : Int → Int} {Nb : Int} (σ0 : SG) (hσ0 : WT σ0) (a : Int32) (hl_a : 0 ≤ a.toInt) (hu_a : a.toInt ≤ 1600) (m : Int32) (h_m : (σ0 1)[1]? = some (Value.int m)) (hT : TPc By Nb σ0) : En 0 0 none mr_57 (P_57x σ0 By Nb a m) 0 [(0, .ref 3), (1, .int a)] [] σ0 := by
  obtain ⟨hl_m, hu_m⟩ := WT_int hσ0 (g := 1) (by decide +kernel) (by decide +kernel) (l := 0) (u := 1600) (by decide +kernel) h_m
  have hF0 : Fr [] σ0 σ0 := Fr_rfl
  refine En_Ps 2 (pc' := 2) (lv' := [(0, .ref 3), (1, .int a)]) (st' := [.ref 3, .int a]) rfl ?_
  refine En_getU (j := 0) (u := 1) (g' := 1) (q := 0) rfl rfl rfl tgz_3 (by decide +kernel) hσ0 (by decide +kernel) un_1_1 (fun h1 => ?_)
  refine En_getK (j := 1) h_m rfl rfl rfl tgz_1 (by decide +kernel) ?_
  refine En_icLt _ rfl rfl rfl (fun h3 => ?_) (fun h3 => ?_)
  · refine En_Ps 1 (pc' := 14) (lv' := [(0, .ref 3), (1, .int a)]) (st' := [.ref 3]) rfl ?_
    refine En_getK (j := 0) h1 rfl rfl rfl tgz_3 (by decide +kernel) ?_
    refine En_getU (j := 0) (u := 2) (g' := 2) (q := 0) rfl rfl rfl tgz_1 (by decide +kernel) hσ0 (by decide +kernel) un_2_2 (fun h4 => ?_)
    refine En_Ps 1 (pc' := 21) (lv' := [(0, .ref 3), (1, .int a)]) (st' := [.int a, .ref 2]) rfl ?_
    refine En_bald (l := (-128)) (u := 127) rfl rfl tgz_2 (by decide +kernel) hσ0 (by first | exact q_58e6e51dcc hl_a | omega) (lnI (by decide +kernel : LN _ = 1600) (by first | exact q_dde7d71509 h3 hu_m | omega)) (FTsgl (by decide +kernel)) (fun z7 h6 h8 h9 => ?_)
    refine En_Ps 3 (pc' := 26) (lv' := [(2, .int z7), (0, .ref 3), (1, .int a)]) (st' := [.int (((Int8.ofInt 97).toInt32)), .int z7]) rfl ?_
    refine En_icLt _ rfl (by decide : ((Int8.ofInt 97).toInt32).toInt = 97) rfl (fun h10 => ?_) (fun h10 => ?_)
    · refine En_Ps 2 (pc' := 40) (lv' := [(2, .int z7), (0, .ref 3), (1, .int a)]) (st' := [.int (((Int8.ofInt 48).toInt32)), .int z7]) rfl ?_
      refine En_icLt _ rfl (by decide : ((Int8.ofInt 48).toInt32).toInt = 48) rfl (fun h11 => ?_) (fun h11 => ?_)
      · refine En_Ps 2 (pc' := 54) (lv' := [(2, .int z7), (0, .ref 3), (1, .int a)]) (st' := [.int (((Int8.ofInt 59).toInt32)), .int z7]) rfl ?_
        refine En_icNe _ rfl (by decide : ((Int8.ofInt 59).toInt32).toInt = 59) rfl (fun h12 => ?_) (fun hx => by first | exact (q_fbe680e378 hx h11).elim | (exfalso; omega))
        refine En_Ps 1 (pc' := 62) (lv' := [(2, .int z7), (0, .ref 3), (1, .int a)]) (st' := [.int ((Int32.ofInt 4))]) rfl ?_
        refine En_top (by decide : (Int32.ofInt 4).toInt = 4) (fun z13 h14 => ?_)
        exact En_ret (v := some (Value.int z13)) rfl rfl rfl ⟨hσ0, hF0, z13, rfl, ⟨by first | exact q_405755f924 h14 | omega, by first | exact q_ddd5c72b0d h14 | omega, fun hh => by first | exact q_1be5a5166e h3 | omega, (by have k9 := kA_c hT h_m (fun _ => h6) (by (first | exact q_58e6e51dcc hl_a | omega) : 0 ≤ a.toInt); (first | exact q_cf7e15aa5d k9 h3 h11 h14 | omega))⟩⟩
      · refine En_Ps 2 (pc' := 46) (lv' := [(2, .int z7), (0, .ref 3), (1, .int a)]) (st' := [.int (((Int8.ofInt 57).toInt32)), .int z7]) rfl ?_
        refine En_icGt _ rfl (by decide : ((Int8.ofInt 57).toInt32).toInt = 57) rfl (fun h15 => ?_) (fun h15 => ?_)
        · refine En_Ps 2 (pc' := 54) (lv' := [(2, .int z7), (0, .ref 3), (1, .int a)]) (st' := [.int (((Int8.ofInt 59).toInt32)), .int z7]) rfl ?_
          refine En_icNe _ rfl (by decide : ((Int8.ofInt 59).toInt32).toInt = 59) rfl (fun h16 => ?_) (fun h16 => ?_)
          · refine En_Ps 1 (pc' := 62) (lv' := [(2, .int z7), (0, .ref 3), (1, .int a)]) (st' := [.int ((Int32.ofInt 4))]) rfl ?_
            refine En_top (by decide : (Int32.ofInt 4).toInt = 4) (fun z17 h18 => ?_)
            exact En_ret (v := some (Value.int z17)) rfl rfl rfl ⟨hσ0, hF0, z17, rfl, ⟨by first | exact q_405755f924 h18 | omega, by first | exact q_ddd5c72b0d h18 | omega, fun hh => by first | exact q_1be5a5166e h3 | omega, (by have k9 := kA_c hT h_m (fun _ => h6) (by (first | exact q_58e6e51dcc hl_a | omega) : 0 ≤ a.toInt); (first | exact q_951faedaef k9 h3 h10 h15 h18 h16 | omega))⟩⟩
          · refine En_Ps 2 (pc' := 62) (lv' := [(2, .int z7), (0, .ref 3), (1, .int a)]) (st' := [.int ((Int32.ofInt 3))]) rfl ?_
            refine En_top (by decide : (Int32.ofInt 3).toInt = 3) (fun z19 h20 => ?_)
            exact En_ret (v := some (Value.int z19)) rfl rfl rfl ⟨hσ0, hF0, z19, rfl, ⟨by first | exact q_8a7bb54a7c h20 | omega, by first | exact q_3c1765b54d h20 | omega, fun hh => by first | exact q_1be5a5166e h3 | omega, (by have k9 := kA_c hT h_m (fun _ => h6) (by (first | exact q_58e6e51dcc hl_a | omega) : 0 ≤ a.toInt); (first | exact q_08aa0d6e90 k9 h3 h16 h20 | omega))⟩⟩
        · refine En_Ps 1 (pc' := 50) (lv' := [(2, .int z7), (0, .ref 3), (1, .int a)]) (st' := [.int ((Int32.ofInt 2))]) rfl ?_
          refine En_top (by decide : (Int32.ofInt 2).toInt = 2) (fun z21 h22 => ?_)
          exact En_ret (v := some (Value.int z21)) rfl rfl rfl ⟨hσ0, hF0, z21, rfl, ⟨by first | exact q_1984c8b6d4 h22 | omega, by first | exact q_6a1f4978ed h22 | omega, fun hh => by first | exact q_1be5a5166e h3 | omega, (by have k9 := kA_c hT h_m (fun _ => h6) (by (first | exact q_58e6e51dcc hl_a | omega) : 0 ≤ a.toInt); (first | exact q_505e45d4bf k9 h3 h15 h22 h11 | omega))⟩⟩
    · refine En_Ps 2 (pc' := 32) (lv' := [(2, .int z7), (0, .ref 3), (1, .int a)]) (st' := [.int (((Int8.ofInt 122).toInt32)), .int z7]) rfl ?_
      refine En_icGt _ rfl (by decide : ((Int8.ofInt 122).toInt32).toInt = 122) rfl (fun h23 => ?_) (fun h23 => ?_)
      · refine En_Ps 2 (pc' := 40) (lv' := [(2, .int z7), (0, .ref 3), (1, .int a)]) (st' := [.int (((Int8.ofInt 48).toInt32)), .int z7]) rfl ?_
        refine En_icLt _ rfl (by decide : ((Int8.ofInt 48).toInt32).toInt = 48) rfl (fun hx => by first | exact (q_c3c8561073 h23 hx).elim | (exfalso; omega)) (fun h24 => ?_)
        refine En_Ps 2 (pc' := 46) (lv' := [(2, .int z7), (0, .ref 3), (1, .int a)]) (st' := [.int (((Int8.ofInt 57).toInt32)), .int z7]) rfl ?_
        refine En_icGt _ rfl (by decide : ((Int8.ofInt 57).toInt32).toInt = 57) rfl (fun h25 => ?_) (fun hx => by first | exact (q_97de91e8fb h23 hx).elim | (exfalso; omega))
        refine En_Ps 2 (pc' := 54) (lv' := [(2, .int z7), (0, .ref 3), (1, .int a)]) (st' := [.int (((Int8.ofInt 59).toInt32)), .int z7]) rfl ?_
        refine En_icNe _ rfl (by decide : ((Int8.ofInt 59).toInt32).toInt = 59) rfl (fun h26 => ?_) (fun hx => by first | exact (q_8f7866e711 h23 hx).elim | (exfalso; omega))
        refine En_Ps 1 (pc' := 62) (lv' := [(2, .int z7), (0, .ref 3), (1, .int a)]) (st' := [.int ((Int32.ofInt 4))]) rfl ?_
        refine En_top (by decide : (Int32.ofInt 4).toInt = 4) (fun z27 h28 => ?_)
        exact En_ret (v := some (Value.int z27)) rfl rfl rfl ⟨hσ0, hF0, z27, rfl, ⟨by first | exact q_405755f924 h28 | omega, by first | exact q_ddd5c72b0d h28 | omega, fun hh => by first | exact q_1be5a5166e h3 | omega, (by have k9 := kA_c hT h_m (fun _ => h6) (by (first | exact q_58e6e51dcc hl_a | omega) : 0 ≤ a.toInt); (first | exact q_adaaa6054f k9 h3 h23 h28 | omega))⟩⟩
      · refine En_Ps 1 (pc' := 36) (lv' := [(2, .int z7), (0, .ref 3), (1, .int a)]) (st' := [.int ((Int32.ofInt 1))]) rfl ?_
        refine En_top (by decide : (Int32.ofInt 1).toInt = 1) (fun z29 h30 => ?_)
        exact En_ret (v := some (Value.int z29)) rfl rfl rfl ⟨hσ0, hF0, z29, rfl, ⟨by first | exact q_ad3eee31ca h30 | omega, by first | exact q_494aa80098 h30 | omega, fun hh => by first | exact q_1be5a5166e h3 | omega, (by have k9 := kA_c hT h_m (fun _ => h6) (by (first | exact q_58e6e51dcc hl_a | omega) : 0 ≤ a.toInt); (first | exact q_60ff90b603 k9 h3 h30 h10 h23 | omega))⟩⟩
  · refine En_Ps 1 (pc' := 12) (lv' := [(0, .ref 3), (1, .int a)]) (st' := [.int ((Int32.ofInt 0))]) rfl ?_
    refine En_top (by decide : (Int32.ofInt 0).toInt = 0) (fun z31 h32 => ?_)
    exact En_ret (v := some (Value.int z31)) rfl rfl rfl ⟨hσ0, hF0, z31, rfl, ⟨by first | exact q_097a37c2ae h32 | omega, by first | exact q_d4b5472250 h32 | omega, fun _ => by omega, kA_end hT h_m (by (first | exact q_7b14c78c18 h3 | omega)) (by (first | exact q_d2dcd30e56 h32 | omega))⟩⟩
/-- DoorSchool$Reader.numberHere(II)I -/
abbrev P_58x (σ0 : SG) (By : Int → Int) (Nb : Int) (Sp : PS) (a : Int32) (b : Int32) (f : Int32) : PO := fun v σ => WT σ ∧ Fr [(3, 5), (3, 6)] σ0 σ ∧ ∃ f1 : Int32, (σ 3)[5]? = some (Value.int f1) ∧ ∃ ret : Int32, v = some (Value.int ret) ∧ ret.toInt - 1000000 ≤ 0 ∧ -f1.toInt ≤ 0 ∧ f1.toInt - 3 ≤ 0 ∧ -f1.toInt + f.toInt ≤ 0 ∧ f.toInt - f1.toInt ≤ 0 ∧ Imp (f1.toInt ≤ 0) (a.toInt - ret.toInt ≤ 0 ∧ ret.toInt - b.toInt ≤ 0) ∧ Imp (-f1.toInt + 1 ≤ 0) (ret.toInt + 1 ≤ 0 ∧ -ret.toInt - 1 ≤ 0) ∧ Imp (-b.toInt - 1 ≤ 0) (ret.toInt - b.toInt ≤ 0) ∧ Imp (-a.toInt - 1 ≤ 0) (-ret.toInt - 1 ≤ 0) ∧ (CT By Nb σ (nH By Nb a.toInt b.toInt Sp) ∧ Imp ((nH By Nb a.toInt b.toInt Sp).1 = 0) (ret.toInt = tV By Nb Sp.2.2.1))
set_option maxRecDepth 10000 in
set_option maxHeartbeats 4000000 in
theorem c_58x {By : Int → Int} {Nb : Int} {Sp : PS} (σ0 : SG) (hσ0 : WT σ0) (a : Int32) (b : Int32) (f : Int32) (h_f : (σ0 3)[5]? = some (Value.int f)) (hC : CT By Nb σ0 Sp) : En 1 21 none mr_58 (P_58x σ0 By Nb Sp a b f) 0 [(0, .ref 3), (1, .int a), (2, .int b)] [] σ0 := by
  obtain ⟨hl_f, hu_f⟩ := WT_int hσ0 (g := 3) (by decide +kernel) (by decide +kernel) (l := 0) (u := 3) (by decide +kernel) h_f
  have hF0 : Fr [(3, 5), (3, 6)] σ0 σ0 := Fr_rfl
  obtain ⟨z2, h1, h3, h4⟩ := WT_peekI hσ0 tgz_3 (by decide +kernel : FT 3 1 = (0, 0, 4)) (by decide +kernel)
  obtain ⟨z6, h5, h7, h8⟩ := WT_peekI hσ0 tgz_3 (by decide +kernel : FT 3 4 = (0, (-2147483648), 1000000)) (by decide +kernel)
  have h9 := CT_k hC h_f
  have h10 : Imp (Sp.1 = 0) (tK By Nb Sp.2.2.1 = z2.toInt) := CT_t hC h1
  have h11 : Imp (Sp.1 = 0 ∧ tK By Nb Sp.2.2.1 = 2) (z6.toInt = tV By Nb Sp.2.2.1 ∧ 0 ≤ tV By Nb Sp.2.2.1) := fun q => CT_u hC h5 q.1 q.2
  refine En_Ps 1 (pc' := 1) (lv' := [(0, .ref 3), (1, .int a), (2, .int b)]) (st' := [.ref 3]) rfl ?_
  refine En_getK (j := 1) h1 rfl rfl rfl tgz_3 (by decide +kernel) ?_
  refine En_Ps 1 (pc' := 5) (lv' := [(0, .ref 3), (1, .int a), (2, .int b)]) (st' := [.int ((Int32.ofInt 2)), .int z2]) rfl ?_
  refine En_icEq _ rfl (by decide : (Int32.ofInt 2).toInt = 2) rfl (fun h12 => ?_) (fun h12 => ?_)
  · refine En_Ps 1 (pc' := 17) (lv' := [(0, .ref 3), (1, .int a), (2, .int b)]) (st' := [.ref 3]) rfl ?_
    refine En_getK (j := 4) h5 rfl rfl rfl tgz_3 (by decide +kernel) ?_
    refine En_Ps 1 (pc' := 21) (lv' := [(0, .ref 3), (1, .int a), (2, .int b)]) (st' := [.int a, .int z6]) rfl ?_
    refine En_icLt _ rfl rfl rfl (fun h13 => ?_) (fun h13 => ?_)
    · refine En_Ps 2 (pc' := 34) (lv' := [(0, .ref 3), (1, .int a), (2, .int b)]) (st' := [.int ((Int32.ofInt 2)), .ref 3]) rfl ?_
      have := (by decide : ((Int32.ofInt 2)).toInt = 2)
      refine En_callV rfl rfl rfl rfl rfl rfl rfl rfl tgz_3 (by decide +kernel) rfl (c_54x σ0 hσ0 ((Int32.ofInt 2)) (geI (by decide : (Int32.ofInt 2).toInt = 2) (by decide)) (leI (by decide : (Int32.ofInt 2).toInt = 2) (by decide)) f h_f hC) (by decide) (by decide) (fun v15 σ16 h14 => ?_)
      obtain ⟨h17, h18, z20, h21, rfl, h19⟩ := h14
      have h22 := h19.2.2.2.2.2
      have h23 := Fr_trans hF0 h18 (by decide +kernel)
      obtain ⟨S24, h25⟩ : ∃ q : PS, q = err By Nb 2 Sp := ⟨_, rfl⟩
      have h26 : CT By Nb σ16 S24 := by rw [h25]; exact (CT_eq h22 (err_cg (by (first | exact q_bef0c64981 this | omega))))
      have h27 := CT_k h26 h21
      have h28 : Imp (S24.1 = 0) (tK By Nb S24.2.2.1 = z2.toInt) := CT_t h26 ((h18 _ _ (inW tgz_3 (by decide +kernel))).trans h1)
      have h29 : Imp (S24.1 = 0 ∧ tK By Nb S24.2.2.1 = 2) (z6.toInt = tV By Nb S24.2.2.1 ∧ 0 ≤ tV By Nb S24.2.2.1) := fun q => CT_u h26 ((h18 _ _ (inW tgz_3 (by decide +kernel))).trans h5) q.1 q.2
      have h30 : S24.2.2.2 = Sp.2.2.2 := by rw [h25]; exact err_w
      refine En_Ps 1 (pc' := 38) (lv' := [(0, .ref 3), (1, .int a), (2, .int b)]) (st' := [.ref 3]) rfl ?_
      refine En_getK (j := 5) h21 rfl rfl rfl tgz_3 (by decide +kernel) ?_
      refine En_iNe _ rfl rfl (fun h31 => ?_) (fun hx => by exfalso; have := Imp_m h19.2.2.2.1 (by (first | exact q_e3adf33a46 h19.1 hx | omega)); have := Imp_m h19.2.2.2.2.1 (by (first | exact q_f4f2768de0 h19.1 hx | omega)); (first | exact q_a0b22f2d75 h19.1 hx | omega))
      refine En_Ps 1 (pc' := 52) (lv' := [(0, .ref 3), (1, .int a), (2, .int b)]) (st' := [.int ((Int32.ofInt (-1)))]) rfl ?_
      refine En_top (by decide : (Int32.ofInt (-1)).toInt = -1) (fun z32 h33 => ?_)
      exact En_ret (v := some (Value.int z32)) rfl rfl rfl ⟨h17, h23, z20, h21, z32, rfl, ⟨by first | exact q_fa25b07a5c h33 | omega, by first | exact q_1a6ee862c1 h19.1 | omega, by first | exact q_c733b715bf h19.2.1 | omega, by first | exact q_d22b102a8e h19.2.2.1 | omega, by first | exact q_83f4b1e050 h19.2.2.1 | omega, fun _ => by have := Imp_m h19.2.2.2.1 (by omega); have := Imp_m h19.2.2.2.2.1 (by omega); omega, fun hh => by first | exact ⟨q_4eb6dac66d h33, q_6ba54b61e9 h33⟩ | omega, fun hh => by first | exact q_6e3f7f1a8e h33 hh | omega, fun hh => by first | exact q_6ba54b61e9 h33 | omega, (by first | (subst h25; have q := nHc_1 (By := By) (Nb := Nb) (lo := a.toInt) (hi := b.toInt) (S := Sp) (fun zz => by (try have i0 := Imp_m h28 (by omega)); (try have i1 := Imp_m h10 (by (first | exact q_d2dcd30e56 zz | omega))); (try have i2 := Imp_m h11 (by (first | exact q_49ee5a0449 zz i1 h12 | omega))); (try have i3 := Imp_m h29 (by omega)); (try have i4 := Imp_m h19.2.2.2.1 (by (first | exact q_d8d8e6600d h9 zz | omega))); (try have i5 := Imp_m h19.2.2.2.2.1 (by omega)); (first | exact q_2aa498dba4 i5.1 i4.2 zz this h9 | omega)); rw [q]; exact ⟨h26, fun zz => by (try have i0 := Imp_m h28 (by omega)); (try have i1 := Imp_m h10 (by omega)); (try have i2 := Imp_m h11 (by omega)); (try have i3 := Imp_m h29 (by omega)); (try have i4 := Imp_m h19.2.2.2.1 (by omega)); (try have i5 := Imp_m h19.2.2.2.2.1 (by omega)); omega⟩) | (subst h25; have q := nHc_2 (By := By) (Nb := Nb) (lo := a.toInt) (hi := b.toInt) (S := Sp) (fun zz => by (try have i0 := Imp_m h28 (by omega)); (try have i1 := Imp_m h10 (by (first | exact q_d2dcd30e56 zz | omega))); (try have i2 := Imp_m h11 (by (first | exact q_49ee5a0449 zz i1 h12 | omega))); (try have i3 := Imp_m h29 (by omega)); (try have i4 := Imp_m h19.2.2.2.1 (by (first | exact q_d8d8e6600d h9 zz | omega))); (try have i5 := Imp_m h19.2.2.2.2.1 (by omega)); (first | exact q_f2743a0358 i1 h12 i2.1 h13 | omega)); rw [q]; exact ⟨h26, fun zz => by (try have i0 := Imp_m h28 (by (first | exact q_d2dcd30e56 zz | omega))); (try have i1 := Imp_m h10 (by (first | exact q_f5e4ebb229 h9 hl_f h27 h19.1 zz | omega))); (try have i2 := Imp_m h11 (by (first | exact q_9e8c1888a1 h27 h19.1 zz h31 | omega))); (try have i3 := Imp_m h29 (by (first | exact q_10a482fe3d zz h27 h19.1 h31 | omega))); (try have i4 := Imp_m h19.2.2.2.1 (by (first | exact q_3383951b80 h27 h19.1 zz | omega))); (try have i5 := Imp_m h19.2.2.2.2.1 (by (first | exact q_eb7bcac33b i4.2 h27 this zz | omega))); (first | exact q_a611b7c660 h31 h19.1 h27 zz i2.2 h33 | omega)⟩) | (subst h25; have q := nHc_0 (By := By) (Nb := Nb) (lo := a.toInt) (hi := b.toInt) (S := Sp) (fun zz => by (try have i0 := Imp_m h28 (by omega)); (try have i1 := Imp_m h10 (by omega)); (try have i2 := Imp_m h11 (by omega)); (try have i3 := Imp_m h29 (by omega)); (try have i4 := Imp_m h19.2.2.2.1 (by omega)); (try have i5 := Imp_m h19.2.2.2.2.1 (by omega)); omega); rw [q]; exact ⟨h26, fun zz => by (try have i0 := Imp_m h28 (by omega)); (try have i1 := Imp_m h10 (by omega)); (try have i2 := Imp_m h11 (by omega)); (try have i3 := Imp_m h29 (by omega)); (try have i4 := Imp_m h19.2.2.2.1 (by omega)); (try have i5 := Imp_m h19.2.2.2.2.1 (by omega)); omega⟩))⟩⟩
    · refine En_Ps 1 (pc' := 25) (lv' := [(0, .ref 3), (1, .int a), (2, .int b)]) (st' := [.ref 3]) rfl ?_
      refine En_getK (j := 4) h5 rfl rfl rfl tgz_3 (by decide +kernel) ?_
      refine En_Ps 1 (pc' := 29) (lv' := [(0, .ref 3), (1, .int a), (2, .int b)]) (st' := [.int b, .int z6]) rfl ?_
      refine En_icLe _ rfl rfl rfl (fun h34 => ?_) (fun h34 => ?_)
      · refine En_Ps 1 (pc' := 38) (lv' := [(0, .ref 3), (1, .int a), (2, .int b)]) (st' := [.ref 3]) rfl ?_
        refine En_getK (j := 5) h_f rfl rfl rfl tgz_3 (by decide +kernel) ?_
        refine En_iNe _ rfl rfl (fun h35 => ?_) (fun h35 => ?_)
        · refine En_Ps 1 (pc' := 52) (lv' := [(0, .ref 3), (1, .int a), (2, .int b)]) (st' := [.int ((Int32.ofInt (-1)))]) rfl ?_
          refine En_top (by decide : (Int32.ofInt (-1)).toInt = -1) (fun z36 h37 => ?_)
          exact En_ret (v := some (Value.int z36)) rfl rfl rfl ⟨hσ0, hF0, f, h_f, z36, rfl, ⟨by first | exact q_fa25b07a5c h37 | omega, by first | exact q_787f1164f6 h35 hl_f | omega, by first | exact q_e9a8eec0c4 hu_f | omega, by first | exact q_857069189f | omega, by first | exact q_1bb76abeaf | omega, fun _ => by omega, fun hh => by first | exact ⟨q_4eb6dac66d h37, q_6ba54b61e9 h37⟩ | omega, fun hh => by first | exact q_6e3f7f1a8e h37 hh | omega, fun hh => by first | exact q_6ba54b61e9 h37 | omega, (by first | (have q := nHc_1 (By := By) (Nb := Nb) (lo := a.toInt) (hi := b.toInt) (S := Sp) (fun zz => by (try have i0 := Imp_m h10 (by (first | exact q_d2dcd30e56 zz | omega))); (try have i1 := Imp_m h11 (by (first | exact q_42063cbd06 h35 hl_f h9 zz | omega))); (first | exact q_8e42d3661a h35 hl_f h9 zz | omega)); rw [q]; exact ⟨hC, fun zz => by (try have i0 := Imp_m h10 (by omega)); (try have i1 := Imp_m h11 (by omega)); omega⟩) | (have q := nHc_2 (By := By) (Nb := Nb) (lo := a.toInt) (hi := b.toInt) (S := Sp) (fun zz => by (try have i0 := Imp_m h10 (by (first | exact q_d2dcd30e56 zz | omega))); (try have i1 := Imp_m h11 (by (first | exact q_42063cbd06 h35 hl_f h9 zz | omega))); (first | exact q_3d9d4aca6d h35 hl_f h9 zz | omega)); rw [q]; exact ⟨hC, fun zz => by (try have i0 := Imp_m h10 (by omega)); (try have i1 := Imp_m h11 (by omega)); omega⟩) | (have q := nHc_0 (By := By) (Nb := Nb) (lo := a.toInt) (hi := b.toInt) (S := Sp) (fun zz => by (try have i0 := Imp_m h10 (by (first | exact q_d2dcd30e56 zz | omega))); (try have i1 := Imp_m h11 (by (first | exact q_42063cbd06 h35 hl_f h9 zz | omega))); (first | exact q_6099250a5e h35 hl_f h9 zz | omega)); rw [q]; exact ⟨hC, fun zz => by (try have i0 := Imp_m h10 (by (first | exact q_d2dcd30e56 zz | omega))); (try have i1 := Imp_m h11 (by (first | exact q_42063cbd06 h35 hl_f h9 zz | omega))); (first | exact q_bba9b97ba6 h35 hl_f h9 zz i1.2 h37 | omega)⟩))⟩⟩
        · refine En_Ps 1 (pc' := 45) (lv' := [(0, .ref 3), (1, .int a), (2, .int b)]) (st' := [.ref 3]) rfl ?_
          refine En_getK (j := 4) h5 rfl rfl rfl tgz_3 (by decide +kernel) ?_
          refine En_Ps 1 (pc' := 52) (lv' := [(0, .ref 3), (1, .int a), (2, .int b)]) (st' := [.int z6]) rfl ?_
          exact En_ret (v := some (Value.int z6)) rfl rfl rfl ⟨hσ0, hF0, f, h_f, z6, rfl, ⟨by first | exact q_b319b3558a h8 | omega, by first | exact q_c803b490ef hl_f | omega, by first | exact q_bd3fa30443 h35 | omega, by first | exact q_857069189f | omega, by first | exact q_1bb76abeaf | omega, fun hh => by first | exact ⟨q_15b82e7ad8 h13, q_15b82e7ad8 h34⟩ | omega, fun _ => by omega, fun hh => by first | exact q_15b82e7ad8 h34 | omega, fun hh => by first | exact q_a393f6e16a h13 hh | omega, (by first | (have q := nHc_1 (By := By) (Nb := Nb) (lo := a.toInt) (hi := b.toInt) (S := Sp) (fun zz => by (try have i0 := Imp_m h10 (by (first | exact q_d2dcd30e56 zz | omega))); (try have i1 := Imp_m h11 (by (first | exact q_49ee5a0449 zz i0 h12 | omega))); omega); rw [q]; exact ⟨hC, fun zz => by (try have i0 := Imp_m h10 (by omega)); (try have i1 := Imp_m h11 (by omega)); omega⟩) | (have q := nHc_2 (By := By) (Nb := Nb) (lo := a.toInt) (hi := b.toInt) (S := Sp) (fun zz => by (try have i0 := Imp_m h10 (by (first | exact q_d2dcd30e56 zz | omega))); (try have i1 := Imp_m h11 (by (first | exact q_49ee5a0449 zz i0 h12 | omega))); omega); rw [q]; exact ⟨hC, fun zz => by (try have i0 := Imp_m h10 (by omega)); (try have i1 := Imp_m h11 (by omega)); omega⟩) | (have q := nHc_0 (By := By) (Nb := Nb) (lo := a.toInt) (hi := b.toInt) (S := Sp) (fun zz => by (try have i0 := Imp_m h10 (by (first | exact q_d2dcd30e56 zz | omega))); (try have i1 := Imp_m h11 (by (first | exact q_49ee5a0449 zz i0 h12 | omega))); (first | exact q_18d359cf1d i0 h12 i1.1 h13 h34 | omega)); rw [q]; exact ⟨hC, fun zz => by (try have i0 := Imp_m h10 (by (first | exact q_d2dcd30e56 zz | omega))); (try have i1 := Imp_m h11 (by (first | exact q_49ee5a0449 zz i0 h12 | omega))); (first | exact q_b1495600e7 i1.1 | omega)⟩))⟩⟩
      · refine En_Ps 2 (pc' := 34) (lv' := [(0, .ref 3), (1, .int a), (2, .int b)]) (st' := [.int ((Int32.ofInt 2)), .ref 3]) rfl ?_
        have := (by decide : ((Int32.ofInt 2)).toInt = 2)
        refine En_callV rfl rfl rfl rfl rfl rfl rfl rfl tgz_3 (by decide +kernel) rfl (c_54x σ0 hσ0 ((Int32.ofInt 2)) (geI (by decide : (Int32.ofInt 2).toInt = 2) (by decide)) (leI (by decide : (Int32.ofInt 2).toInt = 2) (by decide)) f h_f hC) (by decide) (by decide) (fun v39 σ40 h38 => ?_)
        obtain ⟨h41, h42, z44, h45, rfl, h43⟩ := h38
        have h46 := h43.2.2.2.2.2
        have h47 := Fr_trans hF0 h42 (by decide +kernel)
        obtain ⟨S48, h49⟩ : ∃ q : PS, q = err By Nb 2 Sp := ⟨_, rfl⟩
        have h50 : CT By Nb σ40 S48 := by rw [h49]; exact (CT_eq h46 (err_cg (by (first | exact q_bef0c64981 this | omega))))
        have h51 := CT_k h50 h45
        have h52 : Imp (S48.1 = 0) (tK By Nb S48.2.2.1 = z2.toInt) := CT_t h50 ((h42 _ _ (inW tgz_3 (by decide +kernel))).trans h1)
        have h53 : Imp (S48.1 = 0 ∧ tK By Nb S48.2.2.1 = 2) (z6.toInt = tV By Nb S48.2.2.1 ∧ 0 ≤ tV By Nb S48.2.2.1) := fun q => CT_u h50 ((h42 _ _ (inW tgz_3 (by decide +kernel))).trans h5) q.1 q.2
        have h54 : S48.2.2.2 = Sp.2.2.2 := by rw [h49]; exact err_w
        refine En_Ps 1 (pc' := 38) (lv' := [(0, .ref 3), (1, .int a), (2, .int b)]) (st' := [.ref 3]) rfl ?_
        refine En_getK (j := 5) h45 rfl rfl rfl tgz_3 (by decide +kernel) ?_
        refine En_iNe _ rfl rfl (fun h55 => ?_) (fun hx => by exfalso; have := Imp_m h43.2.2.2.1 (by (first | exact q_e3adf33a46 h43.1 hx | omega)); have := Imp_m h43.2.2.2.2.1 (by (first | exact q_f4f2768de0 h43.1 hx | omega)); (first | exact q_a0b22f2d75 h43.1 hx | omega))
        refine En_Ps 1 (pc' := 52) (lv' := [(0, .ref 3), (1, .int a), (2, .int b)]) (st' := [.int ((Int32.ofInt (-1)))]) rfl ?_
        refine En_top (by decide : (Int32.ofInt (-1)).toInt = -1) (fun z56 h57 => ?_)
        exact En_ret (v := some (Value.int z56)) rfl rfl rfl ⟨h41, h47, z44, h45, z56, rfl, ⟨by first | exact q_fa25b07a5c h57 | omega, by first | exact q_1a6ee862c1 h43.1 | omega, by first | exact q_c733b715bf h43.2.1 | omega, by first | exact q_d22b102a8e h43.2.2.1 | omega, by first | exact q_83f4b1e050 h43.2.2.1 | omega, fun _ => by have := Imp_m h43.2.2.2.1 (by omega); have := Imp_m h43.2.2.2.2.1 (by omega); omega, fun hh => by first | exact ⟨q_4eb6dac66d h57, q_6ba54b61e9 h57⟩ | omega, fun hh => by first | exact q_6e3f7f1a8e h57 hh | omega, fun hh => by first | exact q_6ba54b61e9 h57 | omega, (by first | (subst h49; have q := nHc_1 (By := By) (Nb := Nb) (lo := a.toInt) (hi := b.toInt) (S := Sp) (fun zz => by (try have i0 := Imp_m h52 (by omega)); (try have i1 := Imp_m h10 (by (first | exact q_d2dcd30e56 zz | omega))); (try have i2 := Imp_m h11 (by (first | exact q_49ee5a0449 zz i1 h12 | omega))); (try have i3 := Imp_m h53 (by omega)); (try have i4 := Imp_m h43.2.2.2.1 (by (first | exact q_d8d8e6600d h9 zz | omega))); (try have i5 := Imp_m h43.2.2.2.2.1 (by omega)); (first | exact q_2aa498dba4 i5.1 i4.2 zz this h9 | omega)); rw [q]; exact ⟨h50, fun zz => by (try have i0 := Imp_m h52 (by omega)); (try have i1 := Imp_m h10 (by omega)); (try have i2 := Imp_m h11 (by omega)); (try have i3 := Imp_m h53 (by omega)); (try have i4 := Imp_m h43.2.2.2.1 (by omega)); (try have i5 := Imp_m h43.2.2.2.2.1 (by omega)); omega⟩) | (subst h49; have q := nHc_2 (By := By) (Nb := Nb) (lo := a.toInt) (hi := b.toInt) (S := Sp) (fun zz => by (try have i0 := Imp_m h52 (by omega)); (try have i1 := Imp_m h10 (by (first | exact q_d2dcd30e56 zz | omega))); (try have i2 := Imp_m h11 (by (first | exact q_49ee5a0449 zz i1 h12 | omega))); (try have i3 := Imp_m h53 (by omega)); (try have i4 := Imp_m h43.2.2.2.1 (by (first | exact q_d8d8e6600d h9 zz | omega))); (try have i5 := Imp_m h43.2.2.2.2.1 (by omega)); (first | exact q_12c362bdec i1 h12 i2.1 h34 | omega)); rw [q]; exact ⟨h50, fun zz => by (try have i0 := Imp_m h52 (by (first | exact q_d2dcd30e56 zz | omega))); (try have i1 := Imp_m h10 (by (first | exact q_f5e4ebb229 h9 hl_f h51 h43.1 zz | omega))); (try have i2 := Imp_m h11 (by (first | exact q_9e8c1888a1 h51 h43.1 zz h55 | omega))); (try have i3 := Imp_m h53 (by (first | exact q_10a482fe3d zz h51 h43.1 h55 | omega))); (try have i4 := Imp_m h43.2.2.2.1 (by (first | exact q_3383951b80 h51 h43.1 zz | omega))); (try have i5 := Imp_m h43.2.2.2.2.1 (by (first | exact q_eb7bcac33b i4.2 h51 this zz | omega))); (first | exact q_a611b7c660 h55 h43.1 h51 zz i2.2 h57 | omega)⟩) | (subst h49; have q := nHc_0 (By := By) (Nb := Nb) (lo := a.toInt) (hi := b.toInt) (S := Sp) (fun zz => by (try have i0 := Imp_m h52 (by omega)); (try have i1 := Imp_m h10 (by omega)); (try have i2 := Imp_m h11 (by omega)); (try have i3 := Imp_m h53 (by omega)); (try have i4 := Imp_m h43.2.2.2.1 (by omega)); (try have i5 := Imp_m h43.2.2.2.2.1 (by omega)); omega); rw [q]; exact ⟨h50, fun zz => by (try have i0 := Imp_m h52 (by omega)); (try have i1 := Imp_m h10 (by omega)); (try have i2 := Imp_m h11 (by omega)); (try have i3 := Imp_m h53 (by omega)); (try have i4 := Imp_m h43.2.2.2.1 (by omega)); (try have i5 := Imp_m h43.2.2.2.2.1 (by omega)); omega⟩))⟩⟩
  · refine En_Ps 2 (pc' := 10) (lv' := [(0, .ref 3), (1, .int a), (2, .int b)]) (st' := [.int ((Int32.ofInt 1)), .ref 3]) rfl ?_
    have := (by decide : ((Int32.ofInt 1)).toInt = 1)
    refine En_callV rfl rfl rfl rfl rfl rfl rfl rfl tgz_3 (by decide +kernel) rfl (c_54x σ0 hσ0 ((Int32.ofInt 1)) (geI (by decide : (Int32.ofInt 1).toInt = 1) (by decide)) (leI (by decide : (Int32.ofInt 1).toInt = 1) (by decide)) f h_f hC) (by decide) (by decide) (fun v59 σ60 h58 => ?_)
    obtain ⟨h61, h62, z64, h65, rfl, h63⟩ := h58
    have h66 := h63.2.2.2.2.2
    have h67 := Fr_trans hF0 h62 (by decide +kernel)
    obtain ⟨S68, h69⟩ : ∃ q : PS, q = err By Nb 1 Sp := ⟨_, rfl⟩
    have h70 : CT By Nb σ60 S68 := by rw [h69]; exact (CT_eq h66 (err_cg (by (first | exact q_0bfa10f27c this | omega))))
    have h71 := CT_k h70 h65
    have h72 : Imp (S68.1 = 0) (tK By Nb S68.2.2.1 = z2.toInt) := CT_t h70 ((h62 _ _ (inW tgz_3 (by decide +kernel))).trans h1)
    have h73 : Imp (S68.1 = 0 ∧ tK By Nb S68.2.2.1 = 2) (z6.toInt = tV By Nb S68.2.2.1 ∧ 0 ≤ tV By Nb S68.2.2.1) := fun q => CT_u h70 ((h62 _ _ (inW tgz_3 (by decide +kernel))).trans h5) q.1 q.2
    have h74 : S68.2.2.2 = Sp.2.2.2 := by rw [h69]; exact err_w
    refine En_Ps 2 (pc' := 38) (lv' := [(0, .ref 3), (1, .int a), (2, .int b)]) (st' := [.ref 3]) rfl ?_
    refine En_getK (j := 5) h65 rfl rfl rfl tgz_3 (by decide +kernel) ?_
    refine En_iNe _ rfl rfl (fun h75 => ?_) (fun hx => by exfalso; have := Imp_m h63.2.2.2.1 (by (first | exact q_e3adf33a46 h63.1 hx | omega)); have := Imp_m h63.2.2.2.2.1 (by (first | exact q_f4f2768de0 h63.1 hx | omega)); (first | exact q_a0b22f2d75 h63.1 hx | omega))
    refine En_Ps 1 (pc' := 52) (lv' := [(0, .ref 3), (1, .int a), (2, .int b)]) (st' := [.int ((Int32.ofInt (-1)))]) rfl ?_
    refine En_top (by decide : (Int32.ofInt (-1)).toInt = -1) (fun z76 h77 => ?_)
    exact En_ret (v := some (Value.int z76)) rfl rfl rfl ⟨h61, h67, z64, h65, z76, rfl, ⟨by first | exact q_fa25b07a5c h77 | omega, by first | exact q_1a6ee862c1 h63.1 | omega, by first | exact q_c733b715bf h63.2.1 | omega, by first | exact q_d22b102a8e h63.2.2.1 | omega, by first | exact q_83f4b1e050 h63.2.2.1 | omega, fun _ => by have := Imp_m h63.2.2.2.1 (by omega); have := Imp_m h63.2.2.2.2.1 (by omega); omega, fun hh => by first | exact ⟨q_4eb6dac66d h77, q_6ba54b61e9 h77⟩ | omega, fun hh => by first | exact q_6e3f7f1a8e h77 hh | omega, fun hh => by first | exact q_6ba54b61e9 h77 | omega, (by first | (subst h69; have q := nHc_1 (By := By) (Nb := Nb) (lo := a.toInt) (hi := b.toInt) (S := Sp) (fun zz => by (try have i0 := Imp_m h72 (by omega)); (try have i1 := Imp_m h10 (by (first | exact q_d2dcd30e56 zz | omega))); (try have i2 := Imp_m h11 (by omega)); (try have i3 := Imp_m h73 (by omega)); (try have i4 := Imp_m h63.2.2.2.1 (by (first | exact q_d8d8e6600d h9 zz | omega))); (try have i5 := Imp_m h63.2.2.2.2.1 (by omega)); (first | exact q_b9ac7352ba h12 i1 | omega)); rw [q]; exact ⟨h70, fun zz => by (try have i0 := Imp_m h72 (by (first | exact q_d2dcd30e56 zz | omega))); (try have i1 := Imp_m h10 (by (first | exact q_f5e4ebb229 h9 hl_f h71 h63.1 zz | omega))); (try have i2 := Imp_m h11 (by (first | exact q_9e8c1888a1 h71 h63.1 zz h75 | omega))); (try have i3 := Imp_m h73 (by (first | exact q_10a482fe3d zz h71 h63.1 h75 | omega))); (try have i4 := Imp_m h63.2.2.2.1 (by (first | exact q_3383951b80 h71 h63.1 zz | omega))); (try have i5 := Imp_m h63.2.2.2.2.1 (by (first | exact q_c1d968cc7e h71 h63.1 zz | omega))); (first | exact q_a611b7c660 h75 h63.1 h71 zz i2.2 h77 | omega)⟩) | (subst h69; have q := nHc_2 (By := By) (Nb := Nb) (lo := a.toInt) (hi := b.toInt) (S := Sp) (fun zz => by (try have i0 := Imp_m h72 (by omega)); (try have i1 := Imp_m h10 (by omega)); (try have i2 := Imp_m h11 (by omega)); (try have i3 := Imp_m h73 (by omega)); (try have i4 := Imp_m h63.2.2.2.1 (by omega)); (try have i5 := Imp_m h63.2.2.2.2.1 (by omega)); omega); rw [q]; exact ⟨h70, fun zz => by (try have i0 := Imp_m h72 (by omega)); (try have i1 := Imp_m h10 (by omega)); (try have i2 := Imp_m h11 (by omega)); (try have i3 := Imp_m h73 (by omega)); (try have i4 := Imp_m h63.2.2.2.1 (by omega)); (try have i5 := Imp_m h63.2.2.2.2.1 (by omega)); omega⟩) | (subst h69; have q := nHc_0 (By := By) (Nb := Nb) (lo := a.toInt) (hi := b.toInt) (S := Sp) (fun zz => by (try have i0 := Imp_m h72 (by omega)); (try have i1 := Imp_m h10 (by omega)); (try have i2 := Imp_m h11 (by omega)); (try have i3 := Imp_m h73 (by omega)); (try have i4 := Imp_m h63.2.2.2.1 (by omega)); (try have i5 := Imp_m h63.2.2.2.2.1 (by omega)); omega); rw [q]; exact ⟨h70, fun zz => by (try have i0 := Imp_m h72 (by omega)); (try have i1 := Imp_m h10 (by omega)); (try have i2 := Imp_m h11 (by omega)); (try have i3 := Imp_m h73 (by omega)); (try have i4 := Imp_m h63.2.2.2.1 (by omega)); (try have i5 := Imp_m h63.2.2.2.2.1 (by omega)); omega⟩))⟩⟩
/-- DoorSchool$Reader.step()V -/
abbrev P_72x (σ0 : SG) (By : Int → Int) (Nb : Int) (p : Int32) : PO := fun v σ => WT σ ∧ Fr [(3, 1), (3, 2), (3, 3), (3, 4)] σ0 σ ∧ v = none ∧ (TPc By Nb σ ∧ TKc By Nb p.toInt σ)
set_option maxRecDepth 10000 in
set_option maxHeartbeats 4000000 in
theorem c_72x {By : Int → Int} {Nb : Int} (σ0 : SG) (hσ0 : WT σ0) (p : Int32) (h_p : (σ0 3)[3]? = some (Value.int p)) (hT : TPc By Nb σ0) (hf : p.toInt ≤ Nb) : En 1 22 none mr_72 (P_72x σ0 By Nb p) 0 [(0, .ref 3)] [] σ0 := by
  obtain ⟨hl_p, hu_p⟩ := WT_int hσ0 (g := 3) (by decide +kernel) (by decide +kernel) (l := 0) (u := 1600) (by decide +kernel) h_p
  have hF0 : Fr [(3, 1), (3, 2), (3, 3), (3, 4)] σ0 σ0 := Fr_rfl
  refine En_Ps 2 (pc' := 2) (lv' := [(0, .ref 3)]) (st' := [.ref 3, .ref 3]) rfl ?_
  refine En_getK (j := 3) h_p rfl rfl rfl tgz_3 (by decide +kernel) ?_
  refine En_put (j := 2) rfl rfl rfl tgz_3 (by decide +kernel) rfl (vI (l := 0) (u := 1600) (by decide +kernel) rfl (by first | exact q_58e6e51dcc hl_p | omega) (by first | exact q_246f9048f8 hu_p | omega)) hσ0 hF0 (by decide +kernel) (fun σ1 h2 h3 h4 h5 => ?_)
  have key8 : ∀ (n8 : Nat) (σ7 : SG) (y6 : Int32), WT σ7 → Fr [(3, 1), (3, 2), (3, 3), (3, 4)] σ0 σ7 → (σ7 3)[3]? = some (Value.int p) → (σ7 3)[2]? = some (Value.int y6) → 0 ≤ y6.toInt → y6.toInt ≤ 1600 → p.toInt - y6.toInt ≤ 0 → -y6.toInt + 1600 < (n8 : Int) → tS By Nb (y6.toInt) = tS By Nb p.toInt → y6.toInt ≤ Nb → En 1 22 none mr_72 (P_72x σ0 By Nb p) 8 [(0, .ref 3)] [] σ7 := by
    intro n8
    induction n8 with
    | zero =>
      intro σ7 y6 h8 h9 h10 h11 h12 h13 h14 h15 h16 h17
      first | exact (q_46bc035002 h15 h13).elim | (exfalso; omega)
    | succ n8 ih8 =>
      intro σ7 y6 h8 h9 h10 h11 h12 h13 h14 h15 h16 h17
      refine En_Ps 1 (pc' := 9) (lv' := [(0, .ref 3)]) (st' := [.ref 3]) rfl ?_
      refine En_getK (j := 2) h11 rfl rfl rfl tgz_3 (by decide +kernel) ?_
      refine En_Ps 1 (pc' := 13) (lv' := [(0, .ref 3)]) (st' := [.ref 3, .int y6]) rfl ?_
      refine En_getU (j := 0) (u := 1) (g' := 1) (q := 0) rfl rfl rfl tgz_3 (by decide +kernel) h8 (by decide +kernel) un_1_1 (fun h18 => ?_)
      refine En_getI (j := 1) (l := 0) (u := 1600) rfl rfl rfl tgz_1 (by decide +kernel) h8 (by decide +kernel) (fun z21 h20 h22 h23 => ?_)
      refine En_icGe _ rfl rfl rfl (fun h24 => ?_) (fun h24 => ?_)
      · have h25 := Nb_c (TPc_fr hT h9 (by decide +kernel)) h20
        have h26 : tS By Nb p.toInt = y6.toInt := BLc_no h16 (by (first | exact q_fdc1636a7f h25 h24 | omega))
        refine En_Ps 3 (pc' := 56) (lv' := [(0, .ref 3)]) (st' := [.ref 3, .ref 3, .ref 3]) rfl ?_
        refine En_getK (j := 2) h11 rfl rfl rfl tgz_3 (by decide +kernel) ?_
        refine En_callV rfl rfl rfl rfl rfl rfl rfl rfl tgz_3 (by decide +kernel) rfl (c_57x σ7 h8 y6 (geI rfl (by first | exact q_58e6e51dcc h12 | omega)) (leI rfl (by first | exact q_246f9048f8 h13 | omega)) z21 h20 (TPc_fr hT h9 (by decide +kernel))) (by decide) (by decide) (fun v28 σ29 h27 => ?_)
        obtain ⟨h30, h31, z33, rfl, h32⟩ := h27
        have h34 := h32.2.2.2
        obtain rfl : σ7 = σ29 := Fr_nil h31
        have h35 := h34
        refine En_put (j := 1) rfl rfl rfl tgz_3 (by decide +kernel) rfl (vI (l := 0) (u := 4) (by decide +kernel) rfl (by first | exact q_ef1e8e38bf h32.1 | omega) (by first | exact q_3b0dd79e8e h32.2.1 | omega)) h8 h9 (by decide +kernel) (fun σ36 h37 h38 h39 h40 => ?_)
        refine En_Ps 2 (pc' := 67) (lv' := [(0, .ref 3)]) (st' := [.int ((Int32.ofInt 0)), .ref 3]) rfl ?_
        have := fullI ((Int32.ofInt 0))
        refine En_put (j := 4) rfl rfl rfl tgz_3 (by decide +kernel) rfl (vI (l := (-2147483648)) (u := 1000000) (by decide +kernel) (by decide : (Int32.ofInt 0).toInt = 0) (by decide) (by decide)) h37 h38 (by decide +kernel) (fun σ41 h42 h43 h44 h45 => ?_)
        refine En_Ps 2 (pc' := 72) (lv' := [(0, .ref 3)]) (st' := [.ref 3, .ref 3]) rfl ?_
        refine En_getK (j := 2) ((h45 _ _ (Or.inr (by decide))).trans ((h40 _ _ (Or.inr (by decide))).trans h11)) rfl rfl rfl tgz_3 (by decide +kernel) ?_
        refine En_put (j := 3) rfl rfl rfl tgz_3 (by decide +kernel) rfl (vI (l := 0) (u := 1600) (by decide +kernel) rfl (by first | exact q_58e6e51dcc h12 | omega) (by first | exact q_246f9048f8 h13 | omega)) h42 h43 (by decide +kernel) (fun σ46 h47 h48 h49 h50 => ?_)
        refine En_Ps 1 (pc' := 79) (lv' := [(0, .ref 3)]) (st' := [.ref 3]) rfl ?_
        refine En_getK (j := 1) ((h50 _ _ (Or.inr (by decide))).trans ((h45 _ _ (Or.inr (by decide))).trans h39)) rfl rfl rfl tgz_3 (by decide +kernel) ?_
        refine En_Ps 1 (pc' := 83) (lv' := [(0, .ref 3)]) (st' := [.int ((Int32.ofInt 3)), .int z33]) rfl ?_
        refine En_icEq _ rfl (by decide : (Int32.ofInt 3).toInt = 3) rfl (fun hx => by exfalso; have := Imp_m h32.2.2.1 (by (first | exact q_e843bd7aad hx | omega)); (first | exact q_22002202d7 h24 this | omega)) (fun h51 => ?_)
        refine En_Ps 1 (pc' := 87) (lv' := [(0, .ref 3)]) (st' := [.ref 3]) rfl ?_
        refine En_getK (j := 1) ((h50 _ _ (Or.inr (by decide))).trans ((h45 _ _ (Or.inr (by decide))).trans h39)) rfl rfl rfl tgz_3 (by decide +kernel) ?_
        refine En_Ps 1 (pc' := 91) (lv' := [(0, .ref 3)]) (st' := [.int ((Int32.ofInt 4)), .int z33]) rfl ?_
        refine En_icNe _ rfl (by decide : (Int32.ofInt 4).toInt = 4) rfl (fun h52 => ?_) (fun hx => by exfalso; have := Imp_m h32.2.2.1 (by (first | exact q_50239dc789 hx | omega)); (first | exact q_22002202d7 h24 this | omega))
        have key104 : ∀ (n104 : Nat) (σ55 : SG) (y53 : Int32) (y54 : Int32), WT σ55 → Fr [(3, 1), (3, 2), (3, 3), (3, 4)] σ0 σ55 → (σ55 3)[2]? = some (Value.int y6) → (σ55 3)[0]? = some (Value.ref 1) → (σ55 1)[1]? = some (Value.int z21) → (σ55 3)[1]? = some (Value.int z33) → (σ55 3)[4]? = some (Value.int y53) → (σ55 3)[3]? = some (Value.int y54) → 0 ≤ y53.toInt → y53.toInt ≤ 1000000 → 0 ≤ y54.toInt → y54.toInt ≤ 1600 → 1600 - y54.toInt < (n104 : Int) → STL By Nb (z33.toInt) (y6.toInt) (y54.toInt) (y53.toInt) → y54.toInt ≤ 1600 → En 1 22 none mr_72 (P_72x σ0 By Nb p) 104 [(0, .ref 3)] [] σ55 := by
          intro n104
          induction n104 with
          | zero =>
            intro σ55 y53 y54 h56 h57 h58 h59 h60 h61 h62 h63 h64 h65 h66 h67 h68 h69 h70
            exfalso; (first | exact q_1fb3d2be5b h68 h70 | omega)
          | succ n104 ih104 =>
            intro σ55 y53 y54 h56 h57 h58 h59 h60 h61 h62 h63 h64 h65 h66 h67 h68 h69 h70
            refine En_Ps 1 (pc' := 105) (lv' := [(0, .ref 3)]) (st' := [.ref 3]) rfl ?_
            refine En_getK (j := 1) h61 rfl rfl rfl tgz_3 (by decide +kernel) ?_
            refine En_Ps 1 (pc' := 109) (lv' := [(0, .ref 3)]) (st' := [.int ((Int32.ofInt 1)), .int z33]) rfl ?_
            refine En_icEq _ rfl (by decide : (Int32.ofInt 1).toInt = 1) rfl (fun hx => by exfalso; have := Imp_m h32.2.2.1 (by (first | exact q_a439be255a hx | omega)); (first | exact q_22002202d7 h24 this | omega)) (fun h71 => ?_)
            refine En_Ps 1 (pc' := 113) (lv' := [(0, .ref 3)]) (st' := [.ref 3]) rfl ?_
            refine En_getK (j := 1) h61 rfl rfl rfl tgz_3 (by decide +kernel) ?_
            refine En_Ps 1 (pc' := 117) (lv' := [(0, .ref 3)]) (st' := [.int ((Int32.ofInt 2)), .int z33]) rfl ?_
            refine En_icNe _ rfl (by decide : (Int32.ofInt 2).toInt = 2) rfl (fun h72 => ?_) (fun hx => by exfalso; have := Imp_m h32.2.2.1 (by (first | exact q_dc003f84d1 hx | omega)); (first | exact q_22002202d7 h24 this | omega))
            have h73 := Nb_c (TPc_fr hT h57 (by decide +kernel)) h60
            have h74 := kA_ge (By := By) (Nb := Nb) (i := y54.toInt)
            exact En_ret (v := none) rfl rfl rfl ⟨h56, h57, rfl, ⟨(TPc_fr hT h57 (by decide +kernel)), TKc_of (y := y6.toInt) (k := z33.toInt) (e := y54.toInt) (by (first | exact q_58e6e51dcc hl_p | omega)) hf h26 (by (first | exact q_a8fb2024c1 h35 | omega)) (STL_x h69 (by (first | exact q_d81bb5e69c h32.1 h32.2.1 | omega)) (by (first | exact q_b150d257f8 h71 h72 h51 h52 h32.2.1 | omega))) ((ci_at (j := 3) h63 rfl)) ((ci_at (j := 2) h58 rfl)) ((ci_at (j := 1) h61 rfl)) (fun zz => ((ci_at (j := 4) h62 rfl)).trans (h69.2.1 zz))⟩⟩
        have := (by decide : (Int32.ofInt 0).toInt = 0)
        exact key104 (Int.toNat (1600 - y6.toInt) + 1) σ46 ((Int32.ofInt 0)) y6 h47 h48 ((h50 _ _ (Or.inr (by decide))).trans ((h45 _ _ (Or.inr (by decide))).trans ((h40 _ _ (Or.inr (by decide))).trans h11))) ((h50 _ _ (Or.inr (by decide))).trans ((h45 _ _ (Or.inr (by decide))).trans ((h40 _ _ (Or.inr (by decide))).trans h18))) ((h50 _ _ (Or.inr (by decide))).trans ((h45 _ _ (Or.inr (by decide))).trans ((h40 _ _ (Or.inl (neTG tgz_1 tgz_3 (by decide)))).trans h20))) ((h50 _ _ (Or.inr (by decide))).trans ((h45 _ _ (Or.inr (by decide))).trans h39)) ((h50 _ _ (Or.inr (by decide))).trans h44) h49 (by decide) (by decide) (by first | exact q_58e6e51dcc h12 | omega) (by first | exact q_246f9048f8 h13 | omega) (by omega) (STL_0 (by (first | exact q_f80612ac51 this h32.1 h51 h52 h32.2.1 | omega))) (by (first | exact q_246f9048f8 h13 | omega))
      · refine En_Ps 1 (pc' := 23) (lv' := [(0, .ref 3)]) (st' := [.ref 3]) rfl ?_
        refine En_getK (j := 0) h18 rfl rfl rfl tgz_3 (by decide +kernel) ?_
        refine En_getU (j := 0) (u := 2) (g' := 2) (q := 0) rfl rfl rfl tgz_1 (by decide +kernel) h8 (by decide +kernel) un_2_2 (fun h75 => ?_)
        refine En_Ps 1 (pc' := 30) (lv' := [(0, .ref 3)]) (st' := [.ref 3, .ref 2]) rfl ?_
        refine En_getK (j := 2) h11 rfl rfl rfl tgz_3 (by decide +kernel) ?_
        refine En_bald (l := (-128)) (u := 127) rfl rfl tgz_2 (by decide +kernel) h8 (by first | exact q_58e6e51dcc h12 | omega) (lnI (by decide +kernel : LN _ = 1600) (by first | exact q_dde7d71509 h24 h23 | omega)) (FTsgl (by decide +kernel)) (fun z78 h77 h79 h80 => ?_)
        refine En_callS rfl rfl rfl rfl rfl rfl rfl rfl rfl (c_56x σ7 h8 z78 (geI rfl (by first | exact q_2d836ce3e1 h79 | omega)) (leI rfl (by first | exact q_a18ee2e349 h80 | omega))) (by decide) (by decide) (fun v82 σ83 h81 => ?_)
        obtain ⟨h84, h85, z87, rfl, h86⟩ := h81
        have h88 := h86.2.2.2
        obtain rfl : σ7 = σ83 := Fr_nil h85
        have h89 := By_c (i := y6.toInt) (TPc_fr hT h9 (by decide +kernel)) h20 (by (first | exact q_58e6e51dcc h12 | omega)) (by (first | exact q_114b7bcb5b h24 | omega)) h77
        have h90 := h88
        refine En_iEq _ rfl rfl (fun h91 => ?_) (fun h91 => ?_)
        · have h92 := Nb_c (TPc_fr hT h9 (by decide +kernel)) h20
          have h93 : tS By Nb p.toInt = y6.toInt := BLc_no h16 (by (first | exact q_ce056194e4 h90 h91 h89.2 | omega))
          refine En_Ps 3 (pc' := 56) (lv' := [(0, .ref 3)]) (st' := [.ref 3, .ref 3, .ref 3]) rfl ?_
          refine En_getK (j := 2) h11 rfl rfl rfl tgz_3 (by decide +kernel) ?_
          refine En_callV rfl rfl rfl rfl rfl rfl rfl rfl tgz_3 (by decide +kernel) rfl (c_57x σ7 h8 y6 (geI rfl (by first | exact q_58e6e51dcc h12 | omega)) (leI rfl (by first | exact q_246f9048f8 h13 | omega)) z21 h20 (TPc_fr hT h9 (by decide +kernel))) (by decide) (by decide) (fun v95 σ96 h94 => ?_)
          obtain ⟨h97, h98, z100, rfl, h99⟩ := h94
          have h101 := h99.2.2.2
          obtain rfl : σ7 = σ96 := Fr_nil h98
          have h102 := h101
          refine En_put (j := 1) rfl rfl rfl tgz_3 (by decide +kernel) rfl (vI (l := 0) (u := 4) (by decide +kernel) rfl (by first | exact q_ef1e8e38bf h99.1 | omega) (by first | exact q_3b0dd79e8e h99.2.1 | omega)) h8 h9 (by decide +kernel) (fun σ103 h104 h105 h106 h107 => ?_)
          refine En_Ps 2 (pc' := 67) (lv' := [(0, .ref 3)]) (st' := [.int ((Int32.ofInt 0)), .ref 3]) rfl ?_
          have := fullI ((Int32.ofInt 0))
          refine En_put (j := 4) rfl rfl rfl tgz_3 (by decide +kernel) rfl (vI (l := (-2147483648)) (u := 1000000) (by decide +kernel) (by decide : (Int32.ofInt 0).toInt = 0) (by decide) (by decide)) h104 h105 (by decide +kernel) (fun σ108 h109 h110 h111 h112 => ?_)
          refine En_Ps 2 (pc' := 72) (lv' := [(0, .ref 3)]) (st' := [.ref 3, .ref 3]) rfl ?_
          refine En_getK (j := 2) ((h112 _ _ (Or.inr (by decide))).trans ((h107 _ _ (Or.inr (by decide))).trans h11)) rfl rfl rfl tgz_3 (by decide +kernel) ?_
          refine En_put (j := 3) rfl rfl rfl tgz_3 (by decide +kernel) rfl (vI (l := 0) (u := 1600) (by decide +kernel) rfl (by first | exact q_58e6e51dcc h12 | omega) (by first | exact q_246f9048f8 h13 | omega)) h109 h110 (by decide +kernel) (fun σ113 h114 h115 h116 h117 => ?_)
          refine En_Ps 1 (pc' := 79) (lv' := [(0, .ref 3)]) (st' := [.ref 3]) rfl ?_
          refine En_getK (j := 1) ((h117 _ _ (Or.inr (by decide))).trans ((h112 _ _ (Or.inr (by decide))).trans h106)) rfl rfl rfl tgz_3 (by decide +kernel) ?_
          refine En_Ps 1 (pc' := 83) (lv' := [(0, .ref 3)]) (st' := [.int ((Int32.ofInt 3)), .int z100]) rfl ?_
          refine En_icEq _ rfl (by decide : (Int32.ofInt 3).toInt = 3) rfl (fun h118 => ?_) (fun h118 => ?_)
          · have h119 := Imp_m h99.2.2.1 (by first | exact q_e843bd7aad h118 | omega)
            refine En_Ps 2 (pc' := 96) (lv' := [(0, .ref 3)]) (st' := [.ref 3, .ref 3]) rfl ?_
            refine En_getK (j := 3) h116 rfl rfl rfl tgz_3 (by decide +kernel) ?_
            refine En_Ps 2 (pc' := 101) (lv' := [(0, .ref 3)]) (st' := [.int ((y6 + ((Int32.ofInt 1)))), .ref 3]) rfl ?_
            refine En_top (addI rfl (by decide : (Int32.ofInt 1).toInt = 1) (by first | exact q_465ab79ac1 h12 | omega) (by first | exact q_1c9c6c18a7 h13 | omega)) (fun z120 h121 => ?_)
            refine En_put (j := 3) rfl rfl rfl tgz_3 (by decide +kernel) rfl (vI (l := 0) (u := 1600) (by decide +kernel) rfl (by first | exact q_35104ce9d3 h121 h12 | omega) (by first | exact q_ad9a5f3bc2 h121 h24 h23 | omega)) h114 h115 (by decide +kernel) (fun σ122 h123 h124 h125 h126 => ?_)
            have key104 : ∀ (n104 : Nat) (σ129 : SG) (y127 : Int32) (y128 : Int32), WT σ129 → Fr [(3, 1), (3, 2), (3, 3), (3, 4)] σ0 σ129 → (σ129 3)[2]? = some (Value.int y6) → (σ129 3)[0]? = some (Value.ref 1) → (σ129 1)[1]? = some (Value.int z21) → (σ129 1)[0]? = some (Value.ref 2) → (σ129 2)[(y6.toInt).toNat]? = some (Value.int z78) → (σ129 3)[1]? = some (Value.int z100) → (σ129 3)[4]? = some (Value.int y127) → (σ129 3)[3]? = some (Value.int y128) → 0 ≤ y127.toInt → y127.toInt ≤ 1000000 → 0 ≤ y128.toInt → y128.toInt ≤ 1600 → 1600 - y128.toInt < (n104 : Int) → STL By Nb (z100.toInt) (y6.toInt) (y128.toInt) (y127.toInt) → y128.toInt ≤ 1600 → En 1 22 none mr_72 (P_72x σ0 By Nb p) 104 [(0, .ref 3)] [] σ129 := by
              intro n104
              induction n104 with
              | zero =>
                intro σ129 y127 y128 h130 h131 h132 h133 h134 h135 h136 h137 h138 h139 h140 h141 h142 h143 h144 h145 h146
                exfalso; (first | exact q_1fb3d2be5b h144 h146 | omega)
              | succ n104 ih104 =>
                intro σ129 y127 y128 h130 h131 h132 h133 h134 h135 h136 h137 h138 h139 h140 h141 h142 h143 h144 h145 h146
                refine En_Ps 1 (pc' := 105) (lv' := [(0, .ref 3)]) (st' := [.ref 3]) rfl ?_
                refine En_getK (j := 1) h137 rfl rfl rfl tgz_3 (by decide +kernel) ?_
                refine En_Ps 1 (pc' := 109) (lv' := [(0, .ref 3)]) (st' := [.int ((Int32.ofInt 1)), .int z100]) rfl ?_
                refine En_icEq _ rfl (by decide : (Int32.ofInt 1).toInt = 1) rfl (fun hx => by first | exact (q_5098fe9510 h118 hx).elim | (exfalso; omega)) (fun h147 => ?_)
                refine En_Ps 1 (pc' := 113) (lv' := [(0, .ref 3)]) (st' := [.ref 3]) rfl ?_
                refine En_getK (j := 1) h137 rfl rfl rfl tgz_3 (by decide +kernel) ?_
                refine En_Ps 1 (pc' := 117) (lv' := [(0, .ref 3)]) (st' := [.int ((Int32.ofInt 2)), .int z100]) rfl ?_
                refine En_icNe _ rfl (by decide : (Int32.ofInt 2).toInt = 2) rfl (fun h148 => ?_) (fun hx => by first | exact (q_fcd27edbae h118 hx).elim | (exfalso; omega))
                have h149 := Nb_c (TPc_fr hT h131 (by decide +kernel)) h134
                have h150 := kA_ge (By := By) (Nb := Nb) (i := y128.toInt)
                exact En_ret (v := none) rfl rfl rfl ⟨h130, h131, rfl, ⟨(TPc_fr hT h131 (by decide +kernel)), TKc_of (y := y6.toInt) (k := z100.toInt) (e := y128.toInt) (by (first | exact q_58e6e51dcc hl_p | omega)) hf h93 (by (first | exact q_a8fb2024c1 h102 | omega)) (STL_x h145 (by (first | exact q_d48175bf3d h118 | omega)) (by (first | exact q_56ff3b8fea h118 | omega))) ((ci_at (j := 3) h139 rfl)) ((ci_at (j := 2) h132 rfl)) ((ci_at (j := 1) h137 rfl)) (fun zz => ((ci_at (j := 4) h138 rfl)).trans (h145.2.1 zz))⟩⟩
            have := (by decide : (Int32.ofInt 0).toInt = 0)
            exact key104 (Int.toNat (1600 - z120.toInt) + 1) σ122 ((Int32.ofInt 0)) z120 h123 h124 ((h126 _ _ (Or.inr (by decide))).trans ((h117 _ _ (Or.inr (by decide))).trans ((h112 _ _ (Or.inr (by decide))).trans ((h107 _ _ (Or.inr (by decide))).trans h11)))) ((h126 _ _ (Or.inr (by decide))).trans ((h117 _ _ (Or.inr (by decide))).trans ((h112 _ _ (Or.inr (by decide))).trans ((h107 _ _ (Or.inr (by decide))).trans h18)))) ((h126 _ _ (Or.inr (by decide))).trans ((h117 _ _ (Or.inr (by decide))).trans ((h112 _ _ (Or.inr (by decide))).trans ((h107 _ _ (Or.inl (neTG tgz_1 tgz_3 (by decide)))).trans h20)))) ((h126 _ _ (Or.inr (by decide))).trans ((h117 _ _ (Or.inr (by decide))).trans ((h112 _ _ (Or.inr (by decide))).trans ((h107 _ _ (Or.inr (by decide))).trans h75)))) ((h126 _ _ (Or.inl (neTG tgz_2 tgz_3 (by decide)))).trans ((h117 _ _ (Or.inl (neTG tgz_2 tgz_3 (by decide)))).trans ((h112 _ _ (Or.inl (neTG tgz_2 tgz_3 (by decide)))).trans ((h107 _ _ (Or.inl (neTG tgz_2 tgz_3 (by decide)))).trans h77)))) ((h126 _ _ (Or.inr (by decide))).trans ((h117 _ _ (Or.inr (by decide))).trans ((h112 _ _ (Or.inr (by decide))).trans h106))) ((h126 _ _ (Or.inr (by decide))).trans ((h117 _ _ (Or.inr (by decide))).trans h111)) h125 (by decide) (by decide) (by first | exact q_35104ce9d3 h121 h12 | omega) (by first | exact q_ad9a5f3bc2 h121 h24 h23 | omega) (by omega) (STL_0 (by (first | exact q_e33a0f5396 h118 h121 | omega))) (by (first | exact q_02c0cd8258 h121 h119 h23 | omega))
          · refine En_Ps 1 (pc' := 87) (lv' := [(0, .ref 3)]) (st' := [.ref 3]) rfl ?_
            refine En_getK (j := 1) ((h117 _ _ (Or.inr (by decide))).trans ((h112 _ _ (Or.inr (by decide))).trans h106)) rfl rfl rfl tgz_3 (by decide +kernel) ?_
            refine En_Ps 1 (pc' := 91) (lv' := [(0, .ref 3)]) (st' := [.int ((Int32.ofInt 4)), .int z100]) rfl ?_
            refine En_icNe _ rfl (by decide : (Int32.ofInt 4).toInt = 4) rfl (fun h151 => ?_) (fun h151 => ?_)
            · have key104 : ∀ (n104 : Nat) (σ154 : SG) (y152 : Int32) (y153 : Int32), WT σ154 → Fr [(3, 1), (3, 2), (3, 3), (3, 4)] σ0 σ154 → (σ154 3)[2]? = some (Value.int y6) → (σ154 3)[0]? = some (Value.ref 1) → (σ154 1)[1]? = some (Value.int z21) → (σ154 1)[0]? = some (Value.ref 2) → (σ154 2)[(y6.toInt).toNat]? = some (Value.int z78) → (σ154 3)[1]? = some (Value.int z100) → (σ154 3)[4]? = some (Value.int y152) → (σ154 3)[3]? = some (Value.int y153) → 0 ≤ y152.toInt → y152.toInt ≤ 1000000 → 0 ≤ y153.toInt → y153.toInt ≤ 1600 → 1600 - y153.toInt < (n104 : Int) → STL By Nb (z100.toInt) (y6.toInt) (y153.toInt) (y152.toInt) → y153.toInt ≤ 1600 → En 1 22 none mr_72 (P_72x σ0 By Nb p) 104 [(0, .ref 3)] [] σ154 := by
                intro n104
                induction n104 with
                | zero =>
                  intro σ154 y152 y153 h155 h156 h157 h158 h159 h160 h161 h162 h163 h164 h165 h166 h167 h168 h169 h170 h171
                  exfalso; (first | exact q_1fb3d2be5b h169 h171 | omega)
                | succ n104 ih104 =>
                  intro σ154 y152 y153 h155 h156 h157 h158 h159 h160 h161 h162 h163 h164 h165 h166 h167 h168 h169 h170 h171
                  refine En_Ps 1 (pc' := 105) (lv' := [(0, .ref 3)]) (st' := [.ref 3]) rfl ?_
                  refine En_getK (j := 1) h162 rfl rfl rfl tgz_3 (by decide +kernel) ?_
                  refine En_Ps 1 (pc' := 109) (lv' := [(0, .ref 3)]) (st' := [.int ((Int32.ofInt 1)), .int z100]) rfl ?_
                  refine En_icEq _ rfl (by decide : (Int32.ofInt 1).toInt = 1) rfl (fun h172 => ?_) (fun h172 => ?_)
                  · have h173 := Imp_m h99.2.2.1 (by first | exact q_a439be255a h172 | omega)
                    refine En_Ps 1 (pc' := 121) (lv' := [(0, .ref 3)]) (st' := [.ref 3]) rfl ?_
                    refine En_getK (j := 3) h164 rfl rfl rfl tgz_3 (by decide +kernel) ?_
                    refine En_Ps 1 (pc' := 125) (lv' := [(0, .ref 3)]) (st' := [.ref 3, .int y153]) rfl ?_
                    refine En_getK (j := 0) h158 rfl rfl rfl tgz_3 (by decide +kernel) ?_
                    refine En_getK (j := 1) h159 rfl rfl rfl tgz_1 (by decide +kernel) ?_
                    refine En_icGe _ rfl rfl rfl (fun h174 => ?_) (fun h174 => ?_)
                    · have h175 := Nb_c (TPc_fr hT h156 (by decide +kernel)) h159
                      have h176 := kA_ge (By := By) (Nb := Nb) (i := y153.toInt)
                      exact En_ret (v := none) rfl rfl rfl ⟨h155, h156, rfl, ⟨(TPc_fr hT h156 (by decide +kernel)), TKc_of (y := y6.toInt) (k := z100.toInt) (e := y153.toInt) (by (first | exact q_58e6e51dcc hl_p | omega)) hf h93 (by (first | exact q_a8fb2024c1 h102 | omega)) (STL_x h170 (by (first | exact q_250cf38408 h172 | omega)) (by (first | exact q_aa6af27ffd h176 h175 h174 h172 | omega))) ((ci_at (j := 3) h164 rfl)) ((ci_at (j := 2) h157 rfl)) ((ci_at (j := 1) h162 rfl)) (fun zz => ((ci_at (j := 4) h163 rfl)).trans (h170.2.1 zz))⟩⟩
                    · refine En_Ps 2 (pc' := 136) (lv' := [(0, .ref 3)]) (st' := [.ref 3, .ref 3]) rfl ?_
                      refine En_getK (j := 3) h164 rfl rfl rfl tgz_3 (by decide +kernel) ?_
                      refine En_callV rfl rfl rfl rfl rfl rfl rfl rfl tgz_3 (by decide +kernel) rfl (c_57x σ154 h155 y153 (geI rfl (by first | exact q_58e6e51dcc h167 | omega)) (leI rfl (by first | exact q_246f9048f8 h168 | omega)) z21 h159 (TPc_fr hT h156 (by decide +kernel))) (by decide) (by decide) (fun v178 σ179 h177 => ?_)
                      obtain ⟨h180, h181, z183, rfl, h182⟩ := h177
                      have h184 := h182.2.2.2
                      obtain rfl : σ154 = σ179 := Fr_nil h181
                      have h185 := h184
                      refine En_Ps 1 (pc' := 143) (lv' := [(0, .ref 3)]) (st' := [.ref 3, .int z183]) rfl ?_
                      refine En_getK (j := 1) h162 rfl rfl rfl tgz_3 (by decide +kernel) ?_
                      refine En_icNe _ rfl rfl rfl (fun h186 => ?_) (fun h186 => ?_)
                      · have h187 := Nb_c (TPc_fr hT h156 (by decide +kernel)) h159
                        have h188 := kA_ge (By := By) (Nb := Nb) (i := y153.toInt)
                        exact En_ret (v := none) rfl rfl rfl ⟨h155, h156, rfl, ⟨(TPc_fr hT h156 (by decide +kernel)), TKc_of (y := y6.toInt) (k := z100.toInt) (e := y153.toInt) (by (first | exact q_58e6e51dcc hl_p | omega)) hf h93 (by (first | exact q_a8fb2024c1 h102 | omega)) (STL_x h170 (by (first | exact q_250cf38408 h172 | omega)) (by (first | exact q_6e3b33692d h186 h185 | omega))) ((ci_at (j := 3) h164 rfl)) ((ci_at (j := 2) h157 rfl)) ((ci_at (j := 1) h162 rfl)) (fun zz => ((ci_at (j := 4) h163 rfl)).trans (h170.2.1 zz))⟩⟩
                      · have h189 := Imp_m h182.2.2.1 (by first | exact q_05a4ec538e h186 h172 | omega)
                        refine En_Ps 1 (pc' := 150) (lv' := [(0, .ref 3)]) (st' := [.ref 3]) rfl ?_
                        refine En_getK (j := 1) h162 rfl rfl rfl tgz_3 (by decide +kernel) ?_
                        refine En_Ps 1 (pc' := 154) (lv' := [(0, .ref 3)]) (st' := [.int ((Int32.ofInt 2)), .int z100]) rfl ?_
                        refine En_icNe _ rfl (by decide : (Int32.ofInt 2).toInt = 2) rfl (fun h190 => ?_) (fun hx => by first | exact (q_561217d961 hx h172).elim | (exfalso; omega))
                        have h191 : z100.toInt = 2 → y152.toInt = min 1000000 (10 * y152.toInt + By (y153.toInt) - 48) := fun zz => by (first | exact q_19c20cd1e7 zz h172 | omega)
                        refine En_Ps 2 (pc' := 191) (lv' := [(0, .ref 3)]) (st' := [.ref 3, .ref 3]) rfl ?_
                        refine En_getK (j := 3) h164 rfl rfl rfl tgz_3 (by decide +kernel) ?_
                        refine En_Ps 2 (pc' := 196) (lv' := [(0, .ref 3)]) (st' := [.int ((y153 + ((Int32.ofInt 1)))), .ref 3]) rfl ?_
                        refine En_top (addI rfl (by decide : (Int32.ofInt 1).toInt = 1) (by first | exact q_465ab79ac1 h167 | omega) (by first | exact q_1c9c6c18a7 h168 | omega)) (fun z192 h193 => ?_)
                        refine En_put (j := 3) rfl rfl rfl tgz_3 (by decide +kernel) rfl (vI (l := 0) (u := 1600) (by decide +kernel) rfl (by first | exact q_35104ce9d3 h193 h167 | omega) (by first | exact q_ad9a5f3bc2 h193 h174 h23 | omega)) h155 h156 (by decide +kernel) (fun σ194 h195 h196 h197 h198 => ?_)
                        refine En_Ps 1 (pc' := 104) (lv' := [(0, .ref 3)]) (st' := []) rfl ?_
                        exact ih104 σ194 y152 z192 h195 h196 ((h198 _ _ (Or.inr (by decide))).trans h157) ((h198 _ _ (Or.inr (by decide))).trans h158) ((h198 _ _ (Or.inr (by decide))).trans h159) ((h198 _ _ (Or.inr (by decide))).trans h160) ((h198 _ _ (Or.inl (neTG tgz_2 tgz_3 (by decide)))).trans h161) ((h198 _ _ (Or.inr (by decide))).trans h162) ((h198 _ _ (Or.inr (by decide))).trans h163) h197 (by first | exact q_58e6e51dcc h165 | omega) (by first | exact q_2507c1a77a h166 | omega) (by first | exact q_35104ce9d3 h193 h167 | omega) (by first | exact q_ad9a5f3bc2 h193 h174 h23 | omega) (by omega) (STL_s (e := y153.toInt) h170 (by (first | exact q_8666eeb13d h172 | omega)) (by (first | exact q_aeeede310e h186 h185 | omega)) (by (first | exact q_ba1b2c713b h193 | omega)) (fun zz => h191 zz)) (by (first | exact q_02c0cd8258 h193 h189 h23 | omega))
                  · refine En_Ps 1 (pc' := 113) (lv' := [(0, .ref 3)]) (st' := [.ref 3]) rfl ?_
                    refine En_getK (j := 1) h162 rfl rfl rfl tgz_3 (by decide +kernel) ?_
                    refine En_Ps 1 (pc' := 117) (lv' := [(0, .ref 3)]) (st' := [.int ((Int32.ofInt 2)), .int z100]) rfl ?_
                    refine En_icNe _ rfl (by decide : (Int32.ofInt 2).toInt = 2) rfl (fun h199 => ?_) (fun h199 => ?_)
                    · have h200 := Nb_c (TPc_fr hT h156 (by decide +kernel)) h159
                      have h201 := kA_ge (By := By) (Nb := Nb) (i := y153.toInt)
                      exact En_ret (v := none) rfl rfl rfl ⟨h155, h156, rfl, ⟨(TPc_fr hT h156 (by decide +kernel)), TKc_of (y := y6.toInt) (k := z100.toInt) (e := y153.toInt) (by (first | exact q_58e6e51dcc hl_p | omega)) hf h93 (by (first | exact q_a8fb2024c1 h102 | omega)) (STL_x h170 (by (first | exact q_d81bb5e69c h99.1 h99.2.1 | omega)) (by (first | exact q_b150d257f8 h172 h199 h118 h151 h99.2.1 | omega))) ((ci_at (j := 3) h164 rfl)) ((ci_at (j := 2) h157 rfl)) ((ci_at (j := 1) h162 rfl)) (fun zz => ((ci_at (j := 4) h163 rfl)).trans (h170.2.1 zz))⟩⟩
                    · have h202 := Imp_m h99.2.2.1 (by first | exact q_dc003f84d1 h199 | omega)
                      refine En_Ps 1 (pc' := 121) (lv' := [(0, .ref 3)]) (st' := [.ref 3]) rfl ?_
                      refine En_getK (j := 3) h164 rfl rfl rfl tgz_3 (by decide +kernel) ?_
                      refine En_Ps 1 (pc' := 125) (lv' := [(0, .ref 3)]) (st' := [.ref 3, .int y153]) rfl ?_
                      refine En_getK (j := 0) h158 rfl rfl rfl tgz_3 (by decide +kernel) ?_
                      refine En_getK (j := 1) h159 rfl rfl rfl tgz_1 (by decide +kernel) ?_
                      refine En_icGe _ rfl rfl rfl (fun h203 => ?_) (fun h203 => ?_)
                      · have h204 := Nb_c (TPc_fr hT h156 (by decide +kernel)) h159
                        have h205 := kA_ge (By := By) (Nb := Nb) (i := y153.toInt)
                        exact En_ret (v := none) rfl rfl rfl ⟨h155, h156, rfl, ⟨(TPc_fr hT h156 (by decide +kernel)), TKc_of (y := y6.toInt) (k := z100.toInt) (e := y153.toInt) (by (first | exact q_58e6e51dcc hl_p | omega)) hf h93 (by (first | exact q_a8fb2024c1 h102 | omega)) (STL_x h170 (by (first | exact q_9540a50c34 h199 | omega)) (by (first | exact q_02d4de1beb h205 h204 h203 h199 | omega))) ((ci_at (j := 3) h164 rfl)) ((ci_at (j := 2) h157 rfl)) ((ci_at (j := 1) h162 rfl)) (fun zz => ((ci_at (j := 4) h163 rfl)).trans (h170.2.1 zz))⟩⟩
                      · refine En_Ps 2 (pc' := 136) (lv' := [(0, .ref 3)]) (st' := [.ref 3, .ref 3]) rfl ?_
                        refine En_getK (j := 3) h164 rfl rfl rfl tgz_3 (by decide +kernel) ?_
                        refine En_callV rfl rfl rfl rfl rfl rfl rfl rfl tgz_3 (by decide +kernel) rfl (c_57x σ154 h155 y153 (geI rfl (by first | exact q_58e6e51dcc h167 | omega)) (leI rfl (by first | exact q_246f9048f8 h168 | omega)) z21 h159 (TPc_fr hT h156 (by decide +kernel))) (by decide) (by decide) (fun v207 σ208 h206 => ?_)
                        obtain ⟨h209, h210, z212, rfl, h211⟩ := h206
                        have h213 := h211.2.2.2
                        obtain rfl : σ154 = σ208 := Fr_nil h210
                        have h214 := h213
                        refine En_Ps 1 (pc' := 143) (lv' := [(0, .ref 3)]) (st' := [.ref 3, .int z212]) rfl ?_
                        refine En_getK (j := 1) h162 rfl rfl rfl tgz_3 (by decide +kernel) ?_
                        refine En_icNe _ rfl rfl rfl (fun h215 => ?_) (fun h215 => ?_)
                        · have h216 := Nb_c (TPc_fr hT h156 (by decide +kernel)) h159
                          have h217 := kA_ge (By := By) (Nb := Nb) (i := y153.toInt)
                          exact En_ret (v := none) rfl rfl rfl ⟨h155, h156, rfl, ⟨(TPc_fr hT h156 (by decide +kernel)), TKc_of (y := y6.toInt) (k := z100.toInt) (e := y153.toInt) (by (first | exact q_58e6e51dcc hl_p | omega)) hf h93 (by (first | exact q_a8fb2024c1 h102 | omega)) (STL_x h170 (by (first | exact q_9540a50c34 h199 | omega)) (by (first | exact q_6e3b33692d h215 h214 | omega))) ((ci_at (j := 3) h164 rfl)) ((ci_at (j := 2) h157 rfl)) ((ci_at (j := 1) h162 rfl)) (fun zz => ((ci_at (j := 4) h163 rfl)).trans (h170.2.1 zz))⟩⟩
                        · have h218 := Imp_m h211.2.2.1 (by first | exact q_07cb94ee96 h215 h199 | omega)
                          refine En_Ps 1 (pc' := 150) (lv' := [(0, .ref 3)]) (st' := [.ref 3]) rfl ?_
                          refine En_getK (j := 1) h162 rfl rfl rfl tgz_3 (by decide +kernel) ?_
                          refine En_Ps 1 (pc' := 154) (lv' := [(0, .ref 3)]) (st' := [.int ((Int32.ofInt 2)), .int z100]) rfl ?_
                          refine En_icNe _ rfl (by decide : (Int32.ofInt 2).toInt = 2) rfl (fun hx => by first | exact (q_d5d2ccb19c h199 hx).elim | (exfalso; omega)) (fun h219 => ?_)
                          refine En_Ps 3 (pc' := 161) (lv' := [(0, .ref 3)]) (st' := [.ref 3, .int (((Int8.ofInt 10).toInt32)), .ref 3]) rfl ?_
                          refine En_getK (j := 4) h163 rfl rfl rfl tgz_3 (by decide +kernel) ?_
                          refine En_Ps 1 (pc' := 165) (lv' := [(0, .ref 3)]) (st' := [.int (((((Int8.ofInt 10).toInt32)) * y152)), .ref 3]) rfl ?_
                          refine En_top (mulI (by decide : ((Int8.ofInt 10).toInt32).toInt = 10) rfl (Z := 10 * y152.toInt) (by first | exact q_9f72b99036 | omega) (by first | exact q_66aa5f5af3 h165 | omega) (by first | exact q_f11460079f h166 | omega)) (fun z220 h221 => ?_)
                          refine En_Ps 1 (pc' := 166) (lv' := [(0, .ref 3)]) (st' := [.ref 3, .int z220, .ref 3]) rfl ?_
                          refine En_getK (j := 0) h158 rfl rfl rfl tgz_3 (by decide +kernel) ?_
                          refine En_getK (j := 0) h160 rfl rfl rfl tgz_1 (by decide +kernel) ?_
                          refine En_Ps 1 (pc' := 173) (lv' := [(0, .ref 3)]) (st' := [.ref 3, .ref 2, .int z220, .ref 3]) rfl ?_
                          refine En_getK (j := 3) h164 rfl rfl rfl tgz_3 (by decide +kernel) ?_
                          refine En_bald (l := (-128)) (u := 127) rfl rfl tgz_2 (by decide +kernel) h155 (by first | exact q_58e6e51dcc h167 | omega) (lnI (by decide +kernel : LN _ = 1600) (by first | exact q_dde7d71509 h203 h23 | omega)) (FTsgl (by decide +kernel)) (fun z223 h222 h224 h225 => ?_)
                          have h226 := kA_c (i := y153.toInt) (TPc_fr hT h156 (by decide +kernel)) h159 (fun _ => h222) (by (first | exact q_58e6e51dcc h167 | omega))
                          refine En_Ps 1 (pc' := 178) (lv' := [(0, .ref 3)]) (st' := [.int ((z220 + z223)), .ref 3]) rfl ?_
                          refine En_top (addI rfl rfl (by first | exact q_0908e1ebf2 h221 h224 h165 | omega) (by first | exact q_ab63a7cdb5 h221 h225 h166 | omega)) (fun z227 h228 => ?_)
                          refine En_Ps 2 (pc' := 181) (lv' := [(0, .ref 3)]) (st' := [.int ((z227 - (((Int8.ofInt 48).toInt32)))), .ref 3]) rfl ?_
                          refine En_top (subI rfl (by decide : ((Int8.ofInt 48).toInt32).toInt = 48) (by first | exact q_2fda172f3e h228 h221 h224 h165 | omega) (by first | exact q_08fe8bd518 h228 h221 h225 h166 | omega)) (fun z229 h230 => ?_)
                          refine En_Ps 1 (pc' := 183) (lv' := [(0, .ref 3)]) (st' := [.int ((1000000 : Int32)), .int z229, .ref 3]) rfl ?_
                          have := (by decide : ((1000000 : Int32)).toInt = 1000000)
                          refine En_callS rfl rfl rfl rfl rfl rfl rfl rfl rfl (c_11 σ154 h155 z229 ((1000000 : Int32))) (by decide) (by decide) (fun v232 σ233 h231 => ?_)
                          obtain ⟨h234, h235, z237, rfl, h236⟩ := h231
                          obtain rfl : σ154 = σ233 := Fr_nil h235
                          have := fullI z237
                          refine En_put (j := 4) rfl rfl rfl tgz_3 (by decide +kernel) rfl (vI (l := (-2147483648)) (u := 1000000) (by decide +kernel) rfl (by (first | exact q_e1843a3ec8 this.1 | omega)) (by (first | exact q_538b9bf638 h236.2.1 (by decide) | omega))) h155 h156 (by decide +kernel) (fun σ238 h239 h240 h241 h242 => ?_)
                          have h244 := By_c (i := y153.toInt) (TPc_fr hT h240 (by decide +kernel)) ((h242 _ _ (Or.inr (by decide))).trans h159) (by (first | exact q_58e6e51dcc h167 | omega)) (by (first | exact q_fcb0714316 h218 | omega)) ((h242 _ _ (Or.inl (neTG tgz_2 tgz_3 (by decide)))).trans h222)
                          have h243 : z100.toInt = 2 → z237.toInt = min 1000000 (10 * y152.toInt + By (y153.toInt) - 48) := fun zz => by omega
                          refine En_Ps 2 (pc' := 191) (lv' := [(0, .ref 3)]) (st' := [.ref 3, .ref 3]) rfl ?_
                          refine En_getK (j := 3) ((h242 _ _ (Or.inr (by decide))).trans h164) rfl rfl rfl tgz_3 (by decide +kernel) ?_
                          refine En_Ps 2 (pc' := 196) (lv' := [(0, .ref 3)]) (st' := [.int ((y153 + ((Int32.ofInt 1)))), .ref 3]) rfl ?_
                          refine En_top (addI rfl (by decide : (Int32.ofInt 1).toInt = 1) (by first | exact q_465ab79ac1 h167 | omega) (by first | exact q_1c9c6c18a7 h168 | omega)) (fun z245 h246 => ?_)
                          refine En_put (j := 3) rfl rfl rfl tgz_3 (by decide +kernel) rfl (vI (l := 0) (u := 1600) (by decide +kernel) rfl (by first | exact q_35104ce9d3 h246 h167 | omega) (by first | exact q_ad9a5f3bc2 h246 h203 h23 | omega)) h239 h240 (by decide +kernel) (fun σ247 h248 h249 h250 h251 => ?_)
                          refine En_Ps 1 (pc' := 104) (lv' := [(0, .ref 3)]) (st' := []) rfl ?_
                          exact ih104 σ247 z237 z245 h248 h249 ((h251 _ _ (Or.inr (by decide))).trans ((h242 _ _ (Or.inr (by decide))).trans h157)) ((h251 _ _ (Or.inr (by decide))).trans ((h242 _ _ (Or.inr (by decide))).trans h158)) ((h251 _ _ (Or.inr (by decide))).trans ((h242 _ _ (Or.inr (by decide))).trans h159)) ((h251 _ _ (Or.inr (by decide))).trans ((h242 _ _ (Or.inr (by decide))).trans h160)) ((h251 _ _ (Or.inl (neTG tgz_2 tgz_3 (by decide)))).trans ((h242 _ _ (Or.inl (neTG tgz_2 tgz_3 (by decide)))).trans h161)) ((h251 _ _ (Or.inr (by decide))).trans ((h242 _ _ (Or.inr (by decide))).trans h162)) ((h251 _ _ (Or.inr (by decide))).trans h241) h250 (by omega) (by (first | exact q_538b9bf638 h236.2.1 (by decide) | omega)) (by first | exact q_35104ce9d3 h246 h167 | omega) (by first | exact q_ad9a5f3bc2 h246 h203 h23 | omega) (by omega) (STL_s (e := y153.toInt) h170 (by (first | exact q_2c796c762e h219 | omega)) (by (first | exact q_aeeede310e h215 h214 | omega)) (by (first | exact q_ba1b2c713b h246 | omega)) (fun zz => h243 zz)) (by (first | exact q_02c0cd8258 h246 h218 h23 | omega))
              have := (by decide : (Int32.ofInt 0).toInt = 0)
              exact key104 (Int.toNat (1600 - y6.toInt) + 1) σ113 ((Int32.ofInt 0)) y6 h114 h115 ((h117 _ _ (Or.inr (by decide))).trans ((h112 _ _ (Or.inr (by decide))).trans ((h107 _ _ (Or.inr (by decide))).trans h11))) ((h117 _ _ (Or.inr (by decide))).trans ((h112 _ _ (Or.inr (by decide))).trans ((h107 _ _ (Or.inr (by decide))).trans h18))) ((h117 _ _ (Or.inr (by decide))).trans ((h112 _ _ (Or.inr (by decide))).trans ((h107 _ _ (Or.inl (neTG tgz_1 tgz_3 (by decide)))).trans h20))) ((h117 _ _ (Or.inr (by decide))).trans ((h112 _ _ (Or.inr (by decide))).trans ((h107 _ _ (Or.inr (by decide))).trans h75))) ((h117 _ _ (Or.inl (neTG tgz_2 tgz_3 (by decide)))).trans ((h112 _ _ (Or.inl (neTG tgz_2 tgz_3 (by decide)))).trans ((h107 _ _ (Or.inl (neTG tgz_2 tgz_3 (by decide)))).trans h77))) ((h117 _ _ (Or.inr (by decide))).trans ((h112 _ _ (Or.inr (by decide))).trans h106)) ((h117 _ _ (Or.inr (by decide))).trans h111) h116 (by decide) (by decide) (by first | exact q_58e6e51dcc h12 | omega) (by first | exact q_246f9048f8 h13 | omega) (by omega) (STL_0 (by (first | exact q_f80612ac51 this h99.1 h118 h151 h99.2.1 | omega))) (by (first | exact q_246f9048f8 h13 | omega))
            · have h252 := Imp_m h99.2.2.1 (by first | exact q_50239dc789 h151 | omega)
              refine En_Ps 2 (pc' := 96) (lv' := [(0, .ref 3)]) (st' := [.ref 3, .ref 3]) rfl ?_
              refine En_getK (j := 3) h116 rfl rfl rfl tgz_3 (by decide +kernel) ?_
              refine En_Ps 2 (pc' := 101) (lv' := [(0, .ref 3)]) (st' := [.int ((y6 + ((Int32.ofInt 1)))), .ref 3]) rfl ?_
              refine En_top (addI rfl (by decide : (Int32.ofInt 1).toInt = 1) (by first | exact q_465ab79ac1 h12 | omega) (by first | exact q_1c9c6c18a7 h13 | omega)) (fun z253 h254 => ?_)
              refine En_put (j := 3) rfl rfl rfl tgz_3 (by decide +kernel) rfl (vI (l := 0) (u := 1600) (by decide +kernel) rfl (by first | exact q_35104ce9d3 h254 h12 | omega) (by first | exact q_ad9a5f3bc2 h254 h24 h23 | omega)) h114 h115 (by decide +kernel) (fun σ255 h256 h257 h258 h259 => ?_)
              have key104 : ∀ (n104 : Nat) (σ262 : SG) (y260 : Int32) (y261 : Int32), WT σ262 → Fr [(3, 1), (3, 2), (3, 3), (3, 4)] σ0 σ262 → (σ262 3)[2]? = some (Value.int y6) → (σ262 3)[0]? = some (Value.ref 1) → (σ262 1)[1]? = some (Value.int z21) → (σ262 1)[0]? = some (Value.ref 2) → (σ262 2)[(y6.toInt).toNat]? = some (Value.int z78) → (σ262 3)[1]? = some (Value.int z100) → (σ262 3)[4]? = some (Value.int y260) → (σ262 3)[3]? = some (Value.int y261) → 0 ≤ y260.toInt → y260.toInt ≤ 1000000 → 0 ≤ y261.toInt → y261.toInt ≤ 1600 → 1600 - y261.toInt < (n104 : Int) → STL By Nb (z100.toInt) (y6.toInt) (y261.toInt) (y260.toInt) → y261.toInt ≤ 1600 → En 1 22 none mr_72 (P_72x σ0 By Nb p) 104 [(0, .ref 3)] [] σ262 := by
                intro n104
                induction n104 with
                | zero =>
                  intro σ262 y260 y261 h263 h264 h265 h266 h267 h268 h269 h270 h271 h272 h273 h274 h275 h276 h277 h278 h279
                  exfalso; (first | exact q_1fb3d2be5b h277 h279 | omega)
                | succ n104 ih104 =>
                  intro σ262 y260 y261 h263 h264 h265 h266 h267 h268 h269 h270 h271 h272 h273 h274 h275 h276 h277 h278 h279
                  refine En_Ps 1 (pc' := 105) (lv' := [(0, .ref 3)]) (st' := [.ref 3]) rfl ?_
                  refine En_getK (j := 1) h270 rfl rfl rfl tgz_3 (by decide +kernel) ?_
                  refine En_Ps 1 (pc' := 109) (lv' := [(0, .ref 3)]) (st' := [.int ((Int32.ofInt 1)), .int z100]) rfl ?_
                  refine En_icEq _ rfl (by decide : (Int32.ofInt 1).toInt = 1) rfl (fun hx => by first | exact (q_976dd12763 h151 hx).elim | (exfalso; omega)) (fun h280 => ?_)
                  refine En_Ps 1 (pc' := 113) (lv' := [(0, .ref 3)]) (st' := [.ref 3]) rfl ?_
                  refine En_getK (j := 1) h270 rfl rfl rfl tgz_3 (by decide +kernel) ?_
                  refine En_Ps 1 (pc' := 117) (lv' := [(0, .ref 3)]) (st' := [.int ((Int32.ofInt 2)), .int z100]) rfl ?_
                  refine En_icNe _ rfl (by decide : (Int32.ofInt 2).toInt = 2) rfl (fun h281 => ?_) (fun hx => by first | exact (q_683ea544d9 h151 hx).elim | (exfalso; omega))
                  have h282 := Nb_c (TPc_fr hT h264 (by decide +kernel)) h267
                  have h283 := kA_ge (By := By) (Nb := Nb) (i := y261.toInt)
                  exact En_ret (v := none) rfl rfl rfl ⟨h263, h264, rfl, ⟨(TPc_fr hT h264 (by decide +kernel)), TKc_of (y := y6.toInt) (k := z100.toInt) (e := y261.toInt) (by (first | exact q_58e6e51dcc hl_p | omega)) hf h93 (by (first | exact q_a8fb2024c1 h102 | omega)) (STL_x h278 (by (first | exact q_0db62aa727 h151 | omega)) (by (first | exact q_b451212fd5 h151 | omega))) ((ci_at (j := 3) h272 rfl)) ((ci_at (j := 2) h265 rfl)) ((ci_at (j := 1) h270 rfl)) (fun zz => ((ci_at (j := 4) h271 rfl)).trans (h278.2.1 zz))⟩⟩
              have := (by decide : (Int32.ofInt 0).toInt = 0)
              exact key104 (Int.toNat (1600 - z253.toInt) + 1) σ255 ((Int32.ofInt 0)) z253 h256 h257 ((h259 _ _ (Or.inr (by decide))).trans ((h117 _ _ (Or.inr (by decide))).trans ((h112 _ _ (Or.inr (by decide))).trans ((h107 _ _ (Or.inr (by decide))).trans h11)))) ((h259 _ _ (Or.inr (by decide))).trans ((h117 _ _ (Or.inr (by decide))).trans ((h112 _ _ (Or.inr (by decide))).trans ((h107 _ _ (Or.inr (by decide))).trans h18)))) ((h259 _ _ (Or.inr (by decide))).trans ((h117 _ _ (Or.inr (by decide))).trans ((h112 _ _ (Or.inr (by decide))).trans ((h107 _ _ (Or.inl (neTG tgz_1 tgz_3 (by decide)))).trans h20)))) ((h259 _ _ (Or.inr (by decide))).trans ((h117 _ _ (Or.inr (by decide))).trans ((h112 _ _ (Or.inr (by decide))).trans ((h107 _ _ (Or.inr (by decide))).trans h75)))) ((h259 _ _ (Or.inl (neTG tgz_2 tgz_3 (by decide)))).trans ((h117 _ _ (Or.inl (neTG tgz_2 tgz_3 (by decide)))).trans ((h112 _ _ (Or.inl (neTG tgz_2 tgz_3 (by decide)))).trans ((h107 _ _ (Or.inl (neTG tgz_2 tgz_3 (by decide)))).trans h77)))) ((h259 _ _ (Or.inr (by decide))).trans ((h117 _ _ (Or.inr (by decide))).trans ((h112 _ _ (Or.inr (by decide))).trans h106))) ((h259 _ _ (Or.inr (by decide))).trans ((h117 _ _ (Or.inr (by decide))).trans h111)) h258 (by decide) (by decide) (by first | exact q_35104ce9d3 h254 h12 | omega) (by first | exact q_ad9a5f3bc2 h254 h24 h23 | omega) (by omega) (STL_0 (by (first | exact q_b4dc297ab6 h151 h254 | omega))) (by (first | exact q_02c0cd8258 h254 h252 h23 | omega))
        · have h284 := Imp_m h86.2.2.1 (by first | exact ⟨q_ad5b726bf8 h86.2.1, q_e3350da514 h91 h86.1⟩ | omega)
          refine En_Ps 2 (pc' := 42) (lv' := [(0, .ref 3)]) (st' := [.ref 3, .ref 3]) rfl ?_
          refine En_getK (j := 2) h11 rfl rfl rfl tgz_3 (by decide +kernel) ?_
          refine En_Ps 2 (pc' := 47) (lv' := [(0, .ref 3)]) (st' := [.int ((y6 + ((Int32.ofInt 1)))), .ref 3]) rfl ?_
          refine En_top (addI rfl (by decide : (Int32.ofInt 1).toInt = 1) (by first | exact q_465ab79ac1 h12 | omega) (by first | exact q_1c9c6c18a7 h13 | omega)) (fun z285 h286 => ?_)
          refine En_put (j := 2) rfl rfl rfl tgz_3 (by decide +kernel) rfl (vI (l := 0) (u := 1600) (by decide +kernel) rfl (by first | exact q_35104ce9d3 h286 h12 | omega) (by first | exact q_ad9a5f3bc2 h286 h24 h23 | omega)) h8 h9 (by decide +kernel) (fun σ287 h288 h289 h290 h291 => ?_)
          have h292 := BLc_go (y := y6.toInt) (z := z285.toInt) (by (first | exact q_114b7bcb5b h89.1 | omega)) (by (first | exact q_f4ce003da9 h90 h91 h86.1 h89.2 h284.2 h284.1 | omega)) (by (first | exact q_ba1b2c713b h286 | omega)) h16
          refine En_Ps 1 (pc' := 8) (lv' := [(0, .ref 3)]) (st' := []) rfl ?_
          exact ih8 σ287 z285 h288 h289 ((h291 _ _ (Or.inr (by decide))).trans h10) h290 (by first | exact q_35104ce9d3 h286 h12 | omega) (by first | exact q_ad9a5f3bc2 h286 h24 h23 | omega) (by first | exact q_3a5e225620 h14 h286 | omega) (by first | exact q_98eaa778fc h286 h15 | omega) (h292.1) (h292.2)
  exact key8 (Int.toNat (-p.toInt + 1600) + 1) σ1 p h2 h3 ((h5 _ _ (Or.inr (by decide))).trans h_p) h4 (by first | exact q_58e6e51dcc hl_p | omega) (by first | exact q_246f9048f8 hu_p | omega) (by first | exact q_1bb76abeaf | omega) (by first | exact toN_lt _ | omega) (rfl) (hf)
end
/-! 32.n03 -/
section
/-- DoorSchool$Reader.pass(Z)V -/
abbrev P_59x (σ0 : SG) (By : Int → Int) (Nb : Int) (Sp : PS) (a : Int32) (f : Int32) : PO := fun v σ => WT σ ∧ Fr [(3, 1), (3, 2), (3, 3), (3, 4), (3, 5), (3, 6)] σ0 σ ∧ ∃ f1 : Int32, (σ 3)[5]? = some (Value.int f1) ∧ v = none ∧ -f1.toInt ≤ 0 ∧ f1.toInt - 3 ≤ 0 ∧ -f1.toInt + f.toInt ≤ 0 ∧ Imp (-a.toInt + 1 ≤ 0) (f1.toInt - f.toInt ≤ 0 ∧ -f1.toInt + f.toInt ≤ 0) ∧ f.toInt - f1.toInt ≤ 0 ∧ Imp (a.toInt ≤ 0) (-f1.toInt + 1 ≤ 0) ∧ CT By Nb σ (pss By Nb a.toInt Sp)
set_option maxRecDepth 10000 in
set_option maxHeartbeats 4000000 in
theorem c_59x {By : Int → Int} {Nb : Int} {Sp : PS} (σ0 : SG) (hσ0 : WT σ0) (a : Int32) (hl_a : 0 ≤ a.toInt) (hu_a : a.toInt ≤ 1) (f : Int32) (h_f : (σ0 3)[5]? = some (Value.int f)) (hC : CT By Nb σ0 Sp) : En 2 42 none mr_59 (P_59x σ0 By Nb Sp a f) 0 [(0, .ref 3), (1, .int a)] [] σ0 := by
  obtain ⟨hl_f, hu_f⟩ := WT_int hσ0 (g := 3) (by decide +kernel) (by decide +kernel) (l := 0) (u := 3) (by decide +kernel) h_f
  have hF0 : Fr [(3, 1), (3, 2), (3, 3), (3, 4), (3, 5), (3, 6)] σ0 σ0 := Fr_rfl
  have h1 := CT_k hC h_f
  refine En_Ps 1 (pc' := 1) (lv' := [(0, .ref 3), (1, .int a)]) (st' := [.int a]) rfl ?_
  refine En_iNe _ rfl rfl (fun h2 => ?_) (fun h2 => ?_)
  · refine En_Ps 1 (pc' := 10) (lv' := [(0, .ref 3), (1, .int a)]) (st' := [.ref 3]) rfl ?_
    refine En_getK (j := 5) h_f rfl rfl rfl tgz_3 (by decide +kernel) ?_
    refine En_iNe _ rfl rfl (fun h3 => ?_) (fun h3 => ?_)
    · exact En_ret (v := none) rfl rfl rfl ⟨hσ0, hF0, f, h_f, rfl, ⟨by first | exact q_787f1164f6 h3 hl_f | omega, by first | exact q_e9a8eec0c4 hu_f | omega, by first | exact q_857069189f | omega, fun hh => by first | exact ⟨q_1bb76abeaf, q_857069189f⟩ | omega, by first | exact q_1bb76abeaf | omega, fun hh => by first | exact q_e74c65d0a8 h3 hl_f | omega, (by first | exact CT_eq hC (pss_bad (by (first | exact q_957696b956 h3 hl_f h1 | omega))).symm | exact CT_eq hC (psc_1 (by omega)) | exact CT_eq hC (psc_0 (by omega)))⟩⟩
    · refine En_Ps 1 (pc' := 17) (lv' := [(0, .ref 3), (1, .int a)]) (st' := [.ref 3]) rfl ?_
      obtain ⟨z5, h4, h6, h7⟩ := WT_peekI hσ0 tgz_3 (by decide +kernel : FT 3 3 = (0, 0, 1600)) (by decide +kernel)
      refine En_callV rfl rfl rfl rfl rfl rfl rfl rfl tgz_3 (by decide +kernel) rfl (c_72x σ0 hσ0 z5 h4 hC.1 (CT_at hC (by (first | exact q_ca23768860 h1 h3 | omega)) h4)) (by decide) (by decide) (fun v9 σ10 h8 => ?_)
      obtain ⟨h11, h12, rfl, h13⟩ := h8
      have h14 := h13
      have h15 := Fr_trans hF0 h12 (by decide +kernel)
      obtain ⟨S16, h17⟩ : ∃ q : PS, q = adv By Nb Sp := ⟨_, rfl⟩
      have h18 : CT By Nb σ10 S16 := by rw [h17]; exact (CT_adv hC (by (first | exact q_ca23768860 h1 h3 | omega)) h4 h12 (by decide +kernel) h14.2)
      have h19 := CT_k h18 ((h12 _ _ (inW tgz_3 (by decide +kernel))).trans h_f)
      have h20 : S16.2.2.2 = Sp.2.2.2 := by rw [h17]; exact adv_w
      have h21 : S16.1 = Sp.1 := by rw [h17]; exact adv_1
      exact En_ret (v := none) rfl rfl rfl ⟨h11, h15, f, ((h12 _ _ (inW tgz_3 (by decide +kernel))).trans h_f), rfl, ⟨by first | exact q_c803b490ef hl_f | omega, by first | exact q_bd3fa30443 h3 | omega, by first | exact q_857069189f | omega, fun hh => by first | exact ⟨q_1bb76abeaf, q_857069189f⟩ | omega, by first | exact q_1bb76abeaf | omega, fun _ => by omega, (by subst h17; first | exact CT_eq h18 (pss_bad (by omega)).symm | exact CT_eq h18 (psc_1 (by (first | exact q_f13d7d62c0 h2 hl_a hu_a | omega))) | exact CT_eq h18 (psc_0 (by omega)))⟩⟩
  · refine En_Ps 2 (pc' := 6) (lv' := [(0, .ref 3), (1, .int a)]) (st' := [.int ((Int32.ofInt 1)), .ref 3]) rfl ?_
    have := (by decide : ((Int32.ofInt 1)).toInt = 1)
    refine En_callV rfl rfl rfl rfl rfl rfl rfl rfl tgz_3 (by decide +kernel) rfl (c_54x σ0 hσ0 ((Int32.ofInt 1)) (geI (by decide : (Int32.ofInt 1).toInt = 1) (by decide)) (leI (by decide : (Int32.ofInt 1).toInt = 1) (by decide)) f h_f hC) (by decide) (by decide) (fun v23 σ24 h22 => ?_)
    obtain ⟨h25, h26, z28, h29, rfl, h27⟩ := h22
    have h30 := h27.2.2.2.2.2
    have h31 := Fr_trans hF0 h26 (by decide +kernel)
    obtain ⟨S32, h33⟩ : ∃ q : PS, q = err By Nb 1 Sp := ⟨_, rfl⟩
    have h34 : CT By Nb σ24 S32 := by rw [h33]; exact (CT_eq h30 (err_cg (by (first | exact q_0bfa10f27c this | omega))))
    have h35 := CT_k h34 h29
    have h36 : S32.2.2.2 = Sp.2.2.2 := by rw [h33]; exact err_w
    refine En_Ps 1 (pc' := 10) (lv' := [(0, .ref 3), (1, .int a)]) (st' := [.ref 3]) rfl ?_
    refine En_getK (j := 5) h29 rfl rfl rfl tgz_3 (by decide +kernel) ?_
    refine En_iNe _ rfl rfl (fun h37 => ?_) (fun hx => by exfalso; have := Imp_m h27.2.2.2.1 (by (first | exact q_e3adf33a46 h27.1 hx | omega)); have := Imp_m h27.2.2.2.2.1 (by (first | exact q_f4f2768de0 h27.1 hx | omega)); (first | exact q_a0b22f2d75 h27.1 hx | omega))
    exact En_ret (v := none) rfl rfl rfl ⟨h25, h31, z28, h29, rfl, ⟨by first | exact q_1a6ee862c1 h27.1 | omega, by first | exact q_c733b715bf h27.2.1 | omega, by first | exact q_d22b102a8e h27.2.2.1 | omega, fun _ => by omega, by first | exact q_83f4b1e050 h27.2.2.1 | omega, fun hh => by first | exact q_68fbff215b h27.1 | omega, (by subst h33; first | exact CT_eq h34 (pss_bad (by omega)).symm | exact CT_eq h34 (psc_1 (by omega)) | exact CT_eq h34 (psc_0 (by (first | exact q_5e94eb2bf7 h2 | omega))))⟩⟩
/-- DoorSchool$Reader.stands(Ljava/lang/String;)Z -/
abbrev P_71gx (iL : Nat) (σ0 : SG) (By : Int → Int) (Nb : Int) (Sp : PS) : PO := fun v σ => WT σ ∧ Fr [] σ0 σ ∧ ∃ ret : Int32, v = some (Value.int ret) ∧ -ret.toInt ≤ 0 ∧ ret.toInt - 1 ≤ 0 ∧ Imp (Sp.1 = 0) (ret.toInt = iW By Nb iL Sp)
set_option maxRecDepth 10000 in
set_option maxHeartbeats 4000000 in
theorem c_71gx (iL nL : Nat) (gn : (decide (iL < NSTR) && decide (LENS.getD iL 0 = nL)) = true) (gN : (Int32.ofNat nL).toInt = (nL : Int)) (gL : (LW iL).length = nL) (g1 : 1 ≤ nL) (g9 : nL ≤ 20) {By : Int → Int} {Nb : Int} {Sp : PS} (σ0 : SG) (hσ0 : WT σ0) (hC : CT By Nb σ0 Sp) : En 4 90 none mr_71 (P_71gx iL σ0 By Nb Sp) 0 [(0, .ref 3), (1, .retAddr (2 * iL + 1))] [] σ0 := by
  have hF0 : Fr [] σ0 σ0 := Fr_rfl
  obtain ⟨z2, h1, h3, h4⟩ := WT_peekI hσ0 tgz_3 (by decide +kernel : FT 3 1 = (0, 0, 4)) (by decide +kernel)
  obtain ⟨z6, h5, h7, h8⟩ := WT_peekI hσ0 tgz_3 (by decide +kernel : FT 3 3 = (0, 0, 1600)) (by decide +kernel)
  obtain ⟨z10, h9, h11, h12⟩ := WT_peekI hσ0 tgz_3 (by decide +kernel : FT 3 2 = (0, 0, 1600)) (by decide +kernel)
  have h13 : Imp (Sp.1 = 0) (tK By Nb Sp.2.2.1 = z2.toInt) := CT_t hC h1
  refine En_Ps 1 (pc' := 1) (lv' := [(0, .ref 3), (1, .retAddr (2 * iL + 1))]) (st' := [.ref 3]) rfl ?_
  refine En_getK (j := 1) h1 rfl rfl rfl tgz_3 (by decide +kernel) ?_
  refine En_Ps 1 (pc' := 5) (lv' := [(0, .ref 3), (1, .retAddr (2 * iL + 1))]) (st' := [.int ((Int32.ofInt 1)), .int z2]) rfl ?_
  refine En_icNe _ rfl (by decide : (Int32.ofInt 1).toInt = 1) rfl (fun h14 => ?_) (fun h14 => ?_)
  · refine En_Ps 1 (pc' := 25) (lv' := [(0, .ref 3), (1, .retAddr (2 * iL + 1))]) (st' := [.int ((Int32.ofInt 0))]) rfl ?_
    refine En_top (by decide : (Int32.ofInt 0).toInt = 0) (fun z15 h16 => ?_)
    exact En_ret (v := some (Value.int z15)) rfl rfl (retZ rfl rfl (by (first | exact q_55451d0a83 h16 | omega)) (by (first | exact q_87849c3859 h16 | omega))) ⟨hσ0, hF0, z15, rfl, ⟨by (first | exact q_097a37c2ae h16 | omega), by (first | exact q_e269517bee h16 | omega), fun z => by have q1 := CT_t hC h1 z; have q2 := CT_fa hC h5 h9 z; have q := iW_0 (By := By) (Nb := Nb) (i := iL) (S := Sp) (by simp only [gL]; omega); (first | exact q_324d2e55e5 q h16 | omega)⟩⟩
  · refine En_Ps 1 (pc' := 9) (lv' := [(0, .ref 3), (1, .retAddr (2 * iL + 1))]) (st' := [.ref 3]) rfl ?_
    refine En_getK (j := 3) h5 rfl rfl rfl tgz_3 (by decide +kernel) ?_
    refine En_Ps 1 (pc' := 13) (lv' := [(0, .ref 3), (1, .retAddr (2 * iL + 1))]) (st' := [.ref 3, .int z6]) rfl ?_
    refine En_getK (j := 2) h9 rfl rfl rfl tgz_3 (by decide +kernel) ?_
    refine En_Ps 1 (pc' := 17) (lv' := [(0, .ref 3), (1, .retAddr (2 * iL + 1))]) (st' := [.int ((z6 - z10))]) rfl ?_
    refine En_top (subI rfl rfl (by (first | exact q_263332819c h12 h7 | omega)) (by (first | exact q_cd9bb0c6c6 h11 h8 | omega))) (fun z17 h18 => ?_)
    refine En_Ps 1 (pc' := 18) (lv' := [(0, .ref 3), (1, .retAddr (2 * iL + 1))]) (st' := [.retAddr (2 * iL + 1), .int z17]) rfl ?_
    refine En_slen iL nL rfl rfl gn rfl ?_
    refine En_icEq _ rfl gN rfl (fun h19 => ?_) (fun h19 => ?_)
    · refine En_Ps 2 (pc' := 28) (lv' := [(2, .int ((Int32.ofInt 0))), (0, .ref 3), (1, .retAddr (2 * iL + 1))]) (st' := []) rfl ?_
      have key28 : ∀ (n28 : Nat) (σ21 : SG) (y20 : Int32), WT σ21 → Fr [] σ0 σ21 → (σ21 3)[1]? = some (Value.int z2) → (σ21 3)[3]? = some (Value.int z6) → (σ21 3)[2]? = some (Value.int z10) → 0 ≤ y20.toInt → y20.toInt ≤ nL → z6.toInt - y20.toInt < (n28 : Int) → Imp (Sp.1 = 0) (ISQ By Nb iL Sp 1 y20.toInt) → En 4 90 none mr_71 (P_71gx iL σ0 By Nb Sp) 28 [(0, .ref 3), (1, .retAddr (2 * iL + 1)), (2, .int y20)] [] σ21 := by
        intro n28
        induction n28 with
        | zero =>
          intro σ21 y20 h22 h23 h24 h25 h26 h27 h28 h29 h30
          exfalso; omega
        | succ n28 ih28 =>
          intro σ21 y20 h22 h23 h24 h25 h26 h27 h28 h29 h30
          refine En_Ps 2 (pc' := 30) (lv' := [(0, .ref 3), (1, .retAddr (2 * iL + 1)), (2, .int y20)]) (st' := [.retAddr (2 * iL + 1), .int y20]) rfl ?_
          refine En_slen iL nL rfl rfl gn rfl ?_
          refine En_icGe _ rfl gN rfl (fun h31 => ?_) (fun h31 => ?_)
          · refine En_Ps 1 (pc' := 67) (lv' := [(0, .ref 3), (1, .retAddr (2 * iL + 1)), (2, .int y20)]) (st' := [.int ((Int32.ofInt 1))]) rfl ?_
            refine En_top (by decide : (Int32.ofInt 1).toInt = 1) (fun z32 h33 => ?_)
            exact En_ret (v := some (Value.int z32)) rfl rfl (retZ rfl rfl (by (first | exact q_2b07c97645 h33 | omega)) (by (first | exact q_d9e7cbb253 h33 | omega))) ⟨h22, h23, z32, rfl, ⟨by (first | exact q_ad3eee31ca h33 | omega), by (first | exact q_81cf297dc4 h33 | omega), fun z => by have q := ISQ_x (Imp_m h30 z) (Or.inr (by simp only [gL]; omega)); (first | exact q_09d314a96c q h33 | omega)⟩⟩
          · refine En_Ps 1 (pc' := 37) (lv' := [(0, .ref 3), (1, .retAddr (2 * iL + 1)), (2, .int y20)]) (st' := [.ref 3]) rfl ?_
            refine En_getU (j := 0) (u := 1) (g' := 1) (q := 0) rfl rfl rfl tgz_3 (by decide +kernel) h22 (by decide +kernel) un_1_1 (fun h34 => ?_)
            refine En_getU (j := 0) (u := 2) (g' := 2) (q := 0) rfl rfl rfl tgz_1 (by decide +kernel) h22 (by decide +kernel) un_2_2 (fun h36 => ?_)
            refine En_Ps 1 (pc' := 44) (lv' := [(0, .ref 3), (1, .retAddr (2 * iL + 1)), (2, .int y20)]) (st' := [.ref 3, .ref 2]) rfl ?_
            refine En_getK (j := 2) h26 rfl rfl rfl tgz_3 (by decide +kernel) ?_
            refine En_Ps 2 (pc' := 49) (lv' := [(0, .ref 3), (1, .retAddr (2 * iL + 1)), (2, .int y20)]) (st' := [.int ((z10 + y20)), .ref 2]) rfl ?_
            refine En_top (addI rfl rfl (by (first | exact q_2da77528c2 h27 h11 | omega)) (by omega)) (fun z38 h39 => ?_)
            refine En_bald (l := (-128)) (u := 127) rfl rfl tgz_2 (by decide +kernel) h22 (by (first | exact q_7b8a1c11b3 h39 h27 h11 | omega)) (lnI (by decide +kernel : LN _ = 1600) (by omega)) (FTsgl (by decide +kernel)) (fun z41 h40 h42 h43 => ?_)
            refine En_Ps 2 (pc' := 52) (lv' := [(0, .ref 3), (1, .retAddr (2 * iL + 1)), (2, .int y20)]) (st' := [.int y20, .retAddr (2 * iL + 1), .int z41]) rfl ?_
            refine En_scharX iL nL rfl rfl rfl gn (by (first | exact q_58e6e51dcc h27 | omega)) (by omega) rfl (fun z44 h45 h46 h47 => ?_)
            refine En_icEq _ rfl rfl rfl (fun h48 => ?_) (fun h48 => ?_)
            · refine En_Ps 1 (pc' := 63) (lv' := [(2, .int ((y20 + Int32.ofInt 1))), (0, .ref 3), (1, .retAddr (2 * iL + 1))]) (st' := []) rfl ?_
              refine En_lv1 (addI rfl (by decide : (Int32.ofInt 1).toInt = 1) (by (first | exact q_465ab79ac1 h27 | omega)) (by omega)) (fun z49 h50 => ?_)
              refine En_Ps 1 (pc' := 28) (lv' := [(2, .int z49), (0, .ref 3), (1, .retAddr (2 * iL + 1))]) (st' := []) rfl ?_
              refine En_lv (lv := [(0, .ref 3), (1, .retAddr (2 * iL + 1)), (2, .int z49)]) ⟨rfl, rfl, rfl, trivial⟩ ?_
              exact ih28 σ21 z49 h22 h23 h24 h25 h26 (by (first | exact q_35104ce9d3 h50 h27 | omega)) (by omega) (by omega) (fun z => by have q1 := CT_t hC h1 z; have q2 := CT_fa hC h5 h9 z; exact ISQc_n (CT_fr hC h23 (by decide +kernel)) (Imp_m h30 z) (by simp only [gL]; omega) (by (first | exact q_77a4a34311 q2.2.1 h39 | omega)) h40 h47 (by (first | exact q_ba1b2c713b h50 | omega)) (by (first | exact q_b485ccbcd0 h48 | omega)))
            · refine En_Ps 1 (pc' := 59) (lv' := [(0, .ref 3), (1, .retAddr (2 * iL + 1)), (2, .int y20)]) (st' := [.int ((Int32.ofInt 0))]) rfl ?_
              refine En_top (by decide : (Int32.ofInt 0).toInt = 0) (fun z51 h52 => ?_)
              exact En_ret (v := some (Value.int z51)) rfl rfl (retZ rfl rfl (by (first | exact q_55451d0a83 h52 | omega)) (by (first | exact q_87849c3859 h52 | omega))) ⟨h22, h23, z51, rfl, ⟨by (first | exact q_097a37c2ae h52 | omega), by (first | exact q_e269517bee h52 | omega), fun z => by have q1 := CT_t hC h1 z; have q2 := CT_fa hC h5 h9 z; have q := ISQc_n (b' := 0) (CT_fr hC h23 (by decide +kernel)) (Imp_m h30 z) (by simp only [gL]; omega) (by (first | exact q_77a4a34311 q2.2.1 h39 | omega)) h40 h47 rfl (Or.inr ⟨rfl, by (first | exact q_f3cb68eaf4 h48 | omega)⟩); have q2 := ISQ_x q (Or.inl rfl); (first | exact q_09c5cf1202 q2 h52 | omega)⟩⟩
      have := (by decide : (Int32.ofInt 0).toInt = 0)
      refine En_lv (lv := [(0, .ref 3), (1, .retAddr (2 * iL + 1)), (2, .int ((Int32.ofInt 0)))]) ⟨rfl, rfl, rfl, trivial⟩ ?_
      exact key28 (Int.toNat (z6.toInt) + 1) σ0 ((Int32.ofInt 0)) hσ0 hF0 h1 h5 h9 (by (first | exact q_55451d0a83 this | omega)) (by omega) (by omega) (fun z => by have q1 := CT_t hC h1 z; have q2 := CT_fa hC h5 h9 z; exact ISQc_s (by decide) z (by (first | exact q_d82c26df7c q1 h14 | omega)) (by simp only [gL]; omega))
    · refine En_Ps 1 (pc' := 25) (lv' := [(0, .ref 3), (1, .retAddr (2 * iL + 1))]) (st' := [.int ((Int32.ofInt 0))]) rfl ?_
      refine En_top (by decide : (Int32.ofInt 0).toInt = 0) (fun z53 h54 => ?_)
      exact En_ret (v := some (Value.int z53)) rfl rfl (retZ rfl rfl (by (first | exact q_55451d0a83 h54 | omega)) (by (first | exact q_87849c3859 h54 | omega))) ⟨hσ0, hF0, z53, rfl, ⟨by (first | exact q_097a37c2ae h54 | omega), by (first | exact q_e269517bee h54 | omega), fun z => by have q1 := CT_t hC h1 z; have q2 := CT_fa hC h5 h9 z; have q := iW_0 (By := By) (Nb := Nb) (i := iL) (S := Sp) (by simp only [gL]; omega); (first | exact q_324d2e55e5 q h54 | omega)⟩⟩
/-- DoorSchool$Reader.stands(Ljava/lang/String;)Z -/
abbrev P_71s0x (σ0 : SG) (By : Int → Int) (Nb : Int) (Sp : PS) : PO := fun v σ => WT σ ∧ Fr [] σ0 σ ∧ ∃ ret : Int32, v = some (Value.int ret) ∧ -ret.toInt ≤ 0 ∧ ret.toInt - 1 ≤ 0 ∧ Imp (Sp.1 = 0) (ret.toInt = iW By Nb 0 Sp)
set_option maxRecDepth 10000 in
set_option maxHeartbeats 4000000 in
theorem c_71s0x {By : Int → Int} {Nb : Int} {Sp : PS} (σ0 : SG) (hσ0 : WT σ0) (hC : CT By Nb σ0 Sp) : En 4 90 none mr_71 (P_71s0x σ0 By Nb Sp) 0 [(0, .ref 3), (1, .retAddr 1)] [] σ0 := c_71gx 0 5 (by decide) (by decide) (by decide) (by decide) (by decide) σ0 hσ0 hC
/-- DoorSchool$Reader.stands(Ljava/lang/String;)Z -/
abbrev P_71s1x (σ0 : SG) (By : Int → Int) (Nb : Int) (Sp : PS) : PO := fun v σ => WT σ ∧ Fr [] σ0 σ ∧ ∃ ret : Int32, v = some (Value.int ret) ∧ -ret.toInt ≤ 0 ∧ ret.toInt - 1 ≤ 0 ∧ Imp (Sp.1 = 0) (ret.toInt = iW By Nb 1 Sp)
set_option maxRecDepth 10000 in
set_option maxHeartbeats 4000000 in
theorem c_71s1x {By : Int → Int} {Nb : Int} {Sp : PS} (σ0 : SG) (hσ0 : WT σ0) (hC : CT By Nb σ0 Sp) : En 4 90 none mr_71 (P_71s1x σ0 By Nb Sp) 0 [(0, .ref 3), (1, .retAddr 3)] [] σ0 := c_71gx 1 6 (by decide) (by decide) (by decide) (by decide) (by decide) σ0 hσ0 hC
/-- DoorSchool$Reader.stands(Ljava/lang/String;)Z -/
abbrev P_71s2x (σ0 : SG) (By : Int → Int) (Nb : Int) (Sp : PS) : PO := fun v σ => WT σ ∧ Fr [] σ0 σ ∧ ∃ ret : Int32, v = some (Value.int ret) ∧ -ret.toInt ≤ 0 ∧ ret.toInt - 1 ≤ 0 ∧ Imp (Sp.1 = 0) (ret.toInt = iW By Nb 2 Sp)
set_option maxRecDepth 10000 in
set_option maxHeartbeats 4000000 in
theorem c_71s2x {By : Int → Int} {Nb : Int} {Sp : PS} (σ0 : SG) (hσ0 : WT σ0) (hC : CT By Nb σ0 Sp) : En 4 90 none mr_71 (P_71s2x σ0 By Nb Sp) 0 [(0, .ref 3), (1, .retAddr 5)] [] σ0 := c_71gx 2 4 (by decide) (by decide) (by decide) (by decide) (by decide) σ0 hσ0 hC
/-- DoorSchool$Reader.stands(Ljava/lang/String;)Z -/
abbrev P_71s3x (σ0 : SG) (By : Int → Int) (Nb : Int) (Sp : PS) : PO := fun v σ => WT σ ∧ Fr [] σ0 σ ∧ ∃ ret : Int32, v = some (Value.int ret) ∧ -ret.toInt ≤ 0 ∧ ret.toInt - 1 ≤ 0 ∧ Imp (Sp.1 = 0) (ret.toInt = iW By Nb 3 Sp)
set_option maxRecDepth 10000 in
set_option maxHeartbeats 4000000 in
theorem c_71s3x {By : Int → Int} {Nb : Int} {Sp : PS} (σ0 : SG) (hσ0 : WT σ0) (hC : CT By Nb σ0 Sp) : En 4 90 none mr_71 (P_71s3x σ0 By Nb Sp) 0 [(0, .ref 3), (1, .retAddr 7)] [] σ0 := c_71gx 3 4 (by decide) (by decide) (by decide) (by decide) (by decide) σ0 hσ0 hC
/-- DoorSchool$Reader.stands(Ljava/lang/String;)Z -/
abbrev P_71s4x (σ0 : SG) (By : Int → Int) (Nb : Int) (Sp : PS) : PO := fun v σ => WT σ ∧ Fr [] σ0 σ ∧ ∃ ret : Int32, v = some (Value.int ret) ∧ -ret.toInt ≤ 0 ∧ ret.toInt - 1 ≤ 0 ∧ Imp (Sp.1 = 0) (ret.toInt = iW By Nb 4 Sp)
set_option maxRecDepth 10000 in
set_option maxHeartbeats 4000000 in
theorem c_71s4x {By : Int → Int} {Nb : Int} {Sp : PS} (σ0 : SG) (hσ0 : WT σ0) (hC : CT By Nb σ0 Sp) : En 4 90 none mr_71 (P_71s4x σ0 By Nb Sp) 0 [(0, .ref 3), (1, .retAddr 9)] [] σ0 := c_71gx 4 5 (by decide) (by decide) (by decide) (by decide) (by decide) σ0 hσ0 hC
/-- DoorSchool$Reader.stands(Ljava/lang/String;)Z -/
abbrev P_71s5x (σ0 : SG) (By : Int → Int) (Nb : Int) (Sp : PS) : PO := fun v σ => WT σ ∧ Fr [] σ0 σ ∧ ∃ ret : Int32, v = some (Value.int ret) ∧ -ret.toInt ≤ 0 ∧ ret.toInt - 1 ≤ 0 ∧ Imp (Sp.1 = 0) (ret.toInt = iW By Nb 5 Sp)
set_option maxRecDepth 10000 in
set_option maxHeartbeats 4000000 in
theorem c_71s5x {By : Int → Int} {Nb : Int} {Sp : PS} (σ0 : SG) (hσ0 : WT σ0) (hC : CT By Nb σ0 Sp) : En 4 90 none mr_71 (P_71s5x σ0 By Nb Sp) 0 [(0, .ref 3), (1, .retAddr 11)] [] σ0 := c_71gx 5 5 (by decide) (by decide) (by decide) (by decide) (by decide) σ0 hσ0 hC
/-- DoorSchool$Reader.stands(Ljava/lang/String;)Z -/
abbrev P_71s6x (σ0 : SG) (By : Int → Int) (Nb : Int) (Sp : PS) : PO := fun v σ => WT σ ∧ Fr [] σ0 σ ∧ ∃ ret : Int32, v = some (Value.int ret) ∧ -ret.toInt ≤ 0 ∧ ret.toInt - 1 ≤ 0 ∧ Imp (Sp.1 = 0) (ret.toInt = iW By Nb 6 Sp)
set_option maxRecDepth 10000 in
set_option maxHeartbeats 4000000 in
theorem c_71s6x {By : Int → Int} {Nb : Int} {Sp : PS} (σ0 : SG) (hσ0 : WT σ0) (hC : CT By Nb σ0 Sp) : En 4 90 none mr_71 (P_71s6x σ0 By Nb Sp) 0 [(0, .ref 3), (1, .retAddr 13)] [] σ0 := c_71gx 6 6 (by decide) (by decide) (by decide) (by decide) (by decide) σ0 hσ0 hC
/-- DoorSchool$Reader.stands(Ljava/lang/String;)Z -/
abbrev P_71s7x (σ0 : SG) (By : Int → Int) (Nb : Int) (Sp : PS) : PO := fun v σ => WT σ ∧ Fr [] σ0 σ ∧ ∃ ret : Int32, v = some (Value.int ret) ∧ -ret.toInt ≤ 0 ∧ ret.toInt - 1 ≤ 0 ∧ Imp (Sp.1 = 0) (ret.toInt = iW By Nb 7 Sp)
set_option maxRecDepth 10000 in
set_option maxHeartbeats 4000000 in
theorem c_71s7x {By : Int → Int} {Nb : Int} {Sp : PS} (σ0 : SG) (hσ0 : WT σ0) (hC : CT By Nb σ0 Sp) : En 4 90 none mr_71 (P_71s7x σ0 By Nb Sp) 0 [(0, .ref 3), (1, .retAddr 15)] [] σ0 := c_71gx 7 7 (by decide) (by decide) (by decide) (by decide) (by decide) σ0 hσ0 hC
/-- DoorSchool$Reader.stands(Ljava/lang/String;)Z -/
abbrev P_71s8x (σ0 : SG) (By : Int → Int) (Nb : Int) (Sp : PS) : PO := fun v σ => WT σ ∧ Fr [] σ0 σ ∧ ∃ ret : Int32, v = some (Value.int ret) ∧ -ret.toInt ≤ 0 ∧ ret.toInt - 1 ≤ 0 ∧ Imp (Sp.1 = 0) (ret.toInt = iW By Nb 8 Sp)
set_option maxRecDepth 10000 in
set_option maxHeartbeats 4000000 in
theorem c_71s8x {By : Int → Int} {Nb : Int} {Sp : PS} (σ0 : SG) (hσ0 : WT σ0) (hC : CT By Nb σ0 Sp) : En 4 90 none mr_71 (P_71s8x σ0 By Nb Sp) 0 [(0, .ref 3), (1, .retAddr 17)] [] σ0 := c_71gx 8 4 (by decide) (by decide) (by decide) (by decide) (by decide) σ0 hσ0 hC
/-- DoorSchool$Reader.stands(Ljava/lang/String;)Z -/
abbrev P_71s9x (σ0 : SG) (By : Int → Int) (Nb : Int) (Sp : PS) : PO := fun v σ => WT σ ∧ Fr [] σ0 σ ∧ ∃ ret : Int32, v = some (Value.int ret) ∧ -ret.toInt ≤ 0 ∧ ret.toInt - 1 ≤ 0 ∧ Imp (Sp.1 = 0) (ret.toInt = iW By Nb 9 Sp)
set_option maxRecDepth 10000 in
set_option maxHeartbeats 4000000 in
theorem c_71s9x {By : Int → Int} {Nb : Int} {Sp : PS} (σ0 : SG) (hσ0 : WT σ0) (hC : CT By Nb σ0 Sp) : En 4 90 none mr_71 (P_71s9x σ0 By Nb Sp) 0 [(0, .ref 3), (1, .retAddr 19)] [] σ0 := c_71gx 9 5 (by decide) (by decide) (by decide) (by decide) (by decide) σ0 hσ0 hC
/-- DoorSchool$Reader.stands(Ljava/lang/String;)Z -/
abbrev P_71s10x (σ0 : SG) (By : Int → Int) (Nb : Int) (Sp : PS) : PO := fun v σ => WT σ ∧ Fr [] σ0 σ ∧ ∃ ret : Int32, v = some (Value.int ret) ∧ -ret.toInt ≤ 0 ∧ ret.toInt - 1 ≤ 0 ∧ Imp (Sp.1 = 0) (ret.toInt = iW By Nb 10 Sp)
set_option maxRecDepth 10000 in
set_option maxHeartbeats 4000000 in
theorem c_71s10x {By : Int → Int} {Nb : Int} {Sp : PS} (σ0 : SG) (hσ0 : WT σ0) (hC : CT By Nb σ0 Sp) : En 4 90 none mr_71 (P_71s10x σ0 By Nb Sp) 0 [(0, .ref 3), (1, .retAddr 21)] [] σ0 := c_71gx 10 6 (by decide) (by decide) (by decide) (by decide) (by decide) σ0 hσ0 hC
/-- DoorSchool$Reader.stands(Ljava/lang/String;)Z -/
abbrev P_71s11x (σ0 : SG) (By : Int → Int) (Nb : Int) (Sp : PS) : PO := fun v σ => WT σ ∧ Fr [] σ0 σ ∧ ∃ ret : Int32, v = some (Value.int ret) ∧ -ret.toInt ≤ 0 ∧ ret.toInt - 1 ≤ 0 ∧ Imp (Sp.1 = 0) (ret.toInt = iW By Nb 11 Sp)
set_option maxRecDepth 10000 in
set_option maxHeartbeats 4000000 in
theorem c_71s11x {By : Int → Int} {Nb : Int} {Sp : PS} (σ0 : SG) (hσ0 : WT σ0) (hC : CT By Nb σ0 Sp) : En 4 90 none mr_71 (P_71s11x σ0 By Nb Sp) 0 [(0, .ref 3), (1, .retAddr 23)] [] σ0 := c_71gx 11 8 (by decide) (by decide) (by decide) (by decide) (by decide) σ0 hσ0 hC
/-- DoorSchool$Reader.stands(Ljava/lang/String;)Z -/
abbrev P_71s12x (σ0 : SG) (By : Int → Int) (Nb : Int) (Sp : PS) : PO := fun v σ => WT σ ∧ Fr [] σ0 σ ∧ ∃ ret : Int32, v = some (Value.int ret) ∧ -ret.toInt ≤ 0 ∧ ret.toInt - 1 ≤ 0 ∧ Imp (Sp.1 = 0) (ret.toInt = iW By Nb 12 Sp)
set_option maxRecDepth 10000 in
set_option maxHeartbeats 4000000 in
theorem c_71s12x {By : Int → Int} {Nb : Int} {Sp : PS} (σ0 : SG) (hσ0 : WT σ0) (hC : CT By Nb σ0 Sp) : En 4 90 none mr_71 (P_71s12x σ0 By Nb Sp) 0 [(0, .ref 3), (1, .retAddr 25)] [] σ0 := c_71gx 12 4 (by decide) (by decide) (by decide) (by decide) (by decide) σ0 hσ0 hC
/-- DoorSchool$Reader.stands(Ljava/lang/String;)Z -/
abbrev P_71s13x (σ0 : SG) (By : Int → Int) (Nb : Int) (Sp : PS) : PO := fun v σ => WT σ ∧ Fr [] σ0 σ ∧ ∃ ret : Int32, v = some (Value.int ret) ∧ -ret.toInt ≤ 0 ∧ ret.toInt - 1 ≤ 0 ∧ Imp (Sp.1 = 0) (ret.toInt = iW By Nb 13 Sp)
set_option maxRecDepth 10000 in
set_option maxHeartbeats 4000000 in
theorem c_71s13x {By : Int → Int} {Nb : Int} {Sp : PS} (σ0 : SG) (hσ0 : WT σ0) (hC : CT By Nb σ0 Sp) : En 4 90 none mr_71 (P_71s13x σ0 By Nb Sp) 0 [(0, .ref 3), (1, .retAddr 27)] [] σ0 := c_71gx 13 5 (by decide) (by decide) (by decide) (by decide) (by decide) σ0 hσ0 hC
/-- DoorSchool$Reader.stands(Ljava/lang/String;)Z -/
abbrev P_71s14x (σ0 : SG) (By : Int → Int) (Nb : Int) (Sp : PS) : PO := fun v σ => WT σ ∧ Fr [] σ0 σ ∧ ∃ ret : Int32, v = some (Value.int ret) ∧ -ret.toInt ≤ 0 ∧ ret.toInt - 1 ≤ 0 ∧ Imp (Sp.1 = 0) (ret.toInt = iW By Nb 14 Sp)
set_option maxRecDepth 10000 in
set_option maxHeartbeats 4000000 in
theorem c_71s14x {By : Int → Int} {Nb : Int} {Sp : PS} (σ0 : SG) (hσ0 : WT σ0) (hC : CT By Nb σ0 Sp) : En 4 90 none mr_71 (P_71s14x σ0 By Nb Sp) 0 [(0, .ref 3), (1, .retAddr 29)] [] σ0 := c_71gx 14 5 (by decide) (by decide) (by decide) (by decide) (by decide) σ0 hσ0 hC
/-- DoorSchool$Reader.stands(Ljava/lang/String;)Z -/
abbrev P_71s15x (σ0 : SG) (By : Int → Int) (Nb : Int) (Sp : PS) : PO := fun v σ => WT σ ∧ Fr [] σ0 σ ∧ ∃ ret : Int32, v = some (Value.int ret) ∧ -ret.toInt ≤ 0 ∧ ret.toInt - 1 ≤ 0 ∧ Imp (Sp.1 = 0) (ret.toInt = iW By Nb 15 Sp)
set_option maxRecDepth 10000 in
set_option maxHeartbeats 4000000 in
theorem c_71s15x {By : Int → Int} {Nb : Int} {Sp : PS} (σ0 : SG) (hσ0 : WT σ0) (hC : CT By Nb σ0 Sp) : En 4 90 none mr_71 (P_71s15x σ0 By Nb Sp) 0 [(0, .ref 3), (1, .retAddr 31)] [] σ0 := c_71gx 15 5 (by decide) (by decide) (by decide) (by decide) (by decide) σ0 hσ0 hC
/-- DoorSchool$Reader.stands(Ljava/lang/String;)Z -/
abbrev P_71s16x (σ0 : SG) (By : Int → Int) (Nb : Int) (Sp : PS) : PO := fun v σ => WT σ ∧ Fr [] σ0 σ ∧ ∃ ret : Int32, v = some (Value.int ret) ∧ -ret.toInt ≤ 0 ∧ ret.toInt - 1 ≤ 0 ∧ Imp (Sp.1 = 0) (ret.toInt = iW By Nb 16 Sp)
set_option maxRecDepth 10000 in
set_option maxHeartbeats 4000000 in
theorem c_71s16x {By : Int → Int} {Nb : Int} {Sp : PS} (σ0 : SG) (hσ0 : WT σ0) (hC : CT By Nb σ0 Sp) : En 4 90 none mr_71 (P_71s16x σ0 By Nb Sp) 0 [(0, .ref 3), (1, .retAddr 33)] [] σ0 := c_71gx 16 8 (by decide) (by decide) (by decide) (by decide) (by decide) σ0 hσ0 hC
/-- DoorSchool$Reader.stands(Ljava/lang/String;)Z -/
abbrev P_71s17x (σ0 : SG) (By : Int → Int) (Nb : Int) (Sp : PS) : PO := fun v σ => WT σ ∧ Fr [] σ0 σ ∧ ∃ ret : Int32, v = some (Value.int ret) ∧ -ret.toInt ≤ 0 ∧ ret.toInt - 1 ≤ 0 ∧ Imp (Sp.1 = 0) (ret.toInt = iW By Nb 17 Sp)
set_option maxRecDepth 10000 in
set_option maxHeartbeats 4000000 in
theorem c_71s17x {By : Int → Int} {Nb : Int} {Sp : PS} (σ0 : SG) (hσ0 : WT σ0) (hC : CT By Nb σ0 Sp) : En 4 90 none mr_71 (P_71s17x σ0 By Nb Sp) 0 [(0, .ref 3), (1, .retAddr 35)] [] σ0 := c_71gx 17 4 (by decide) (by decide) (by decide) (by decide) (by decide) σ0 hσ0 hC
/-- DoorSchool$Reader.takeNumber(II)I -/
abbrev P_73x (σ0 : SG) (By : Int → Int) (Nb : Int) (Sp : PS) (a : Int32) (b : Int32) (f : Int32) : PO := fun v σ => WT σ ∧ Fr [(3, 1), (3, 2), (3, 3), (3, 4), (3, 5), (3, 6)] σ0 σ ∧ ∃ f1 : Int32, (σ 3)[5]? = some (Value.int f1) ∧ ∃ ret : Int32, v = some (Value.int ret) ∧ ret.toInt - 1000000 ≤ 0 ∧ -f1.toInt ≤ 0 ∧ f1.toInt - 3 ≤ 0 ∧ -f1.toInt + f.toInt ≤ 0 ∧ f.toInt - f1.toInt ≤ 0 ∧ Imp (f1.toInt ≤ 0) (a.toInt - ret.toInt ≤ 0 ∧ ret.toInt - b.toInt ≤ 0) ∧ Imp (-f1.toInt + 1 ≤ 0) (ret.toInt + 1 ≤ 0 ∧ -ret.toInt - 1 ≤ 0) ∧ Imp (-b.toInt - 1 ≤ 0) (ret.toInt - b.toInt ≤ 0) ∧ Imp (-a.toInt - 1 ≤ 0) (-ret.toInt - 1 ≤ 0) ∧ (CT By Nb σ (tN By Nb a.toInt b.toInt Sp) ∧ Imp ((tN By Nb a.toInt b.toInt Sp).1 = 0) (ret.toInt = tV By Nb Sp.2.2.1))
set_option maxRecDepth 10000 in
set_option maxHeartbeats 4000000 in
theorem c_73x {By : Int → Int} {Nb : Int} {Sp : PS} (σ0 : SG) (hσ0 : WT σ0) (a : Int32) (b : Int32) (f : Int32) (h_f : (σ0 3)[5]? = some (Value.int f)) (hC : CT By Nb σ0 Sp) : En 2 43 none mr_73 (P_73x σ0 By Nb Sp a b f) 0 [(0, .ref 3), (1, .int a), (2, .int b)] [] σ0 := by
  obtain ⟨hl_f, hu_f⟩ := WT_int hσ0 (g := 3) (by decide +kernel) (by decide +kernel) (l := 0) (u := 3) (by decide +kernel) h_f
  have hF0 : Fr [(3, 1), (3, 2), (3, 3), (3, 4), (3, 5), (3, 6)] σ0 σ0 := Fr_rfl
  have h1 := CT_k hC h_f
  refine En_Ps 3 (pc' := 3) (lv' := [(0, .ref 3), (1, .int a), (2, .int b)]) (st' := [.int b, .int a, .ref 3]) rfl ?_
  refine En_callV rfl rfl rfl rfl rfl rfl rfl rfl tgz_3 (by decide +kernel) rfl (c_58x σ0 hσ0 a b f h_f hC) (by decide) (by decide) (fun v3 σ4 h2 => ?_)
  obtain ⟨h5, h6, z8, h9, z10, rfl, h7⟩ := h2
  have h11 := h7.2.2.2.2.2.2.2.2.2
  have h12 := Fr_trans hF0 h6 (by decide +kernel)
  have h13 : nH By Nb a.toInt b.toInt Sp = nH By Nb (a.toInt) (b.toInt) Sp := nH_cg2 (fun zz => by (first | exact q_61ddd2b576 | omega)) (fun zz => by (first | exact q_61ddd2b576 | omega))
  obtain ⟨S14, h15⟩ : ∃ q : PS, q = nH By Nb (a.toInt) (b.toInt) Sp := ⟨_, rfl⟩
  have h16 : CT By Nb σ4 S14 := by rw [h15]; exact (CT_eq h11.1 h13)
  have h17 := CT_k h16 h9
  have h18 : Imp (S14.1 = 0) (z10.toInt = tV By Nb Sp.2.2.1) := fun z => Imp_m h11.2 (by rw [h13, ← h15]; exact z)
  have h19 : Imp (S14.1 = 0) (Sp.1 = 0 ∧ tK By Nb Sp.2.2.1 = 2 ∧ a.toInt ≤ tV By Nb Sp.2.2.1 ∧ tV By Nb Sp.2.2.1 ≤ b.toInt) := fun z => nH_gg (by rw [← h15]; exact z)
  have h20 : S14.2.2.2 = Sp.2.2.2 := by rw [h15]; exact nH_w
  refine En_Ps 2 (pc' := 8) (lv' := [(3, .int z10), (0, .ref 3), (1, .int a), (2, .int b)]) (st' := [.ref 3]) rfl ?_
  refine En_getK (j := 5) h9 rfl rfl rfl tgz_3 (by decide +kernel) ?_
  refine En_iNe _ rfl rfl (fun h21 => ?_) (fun h21 => ?_)
  · have h22 := Imp_m h7.2.2.2.2.2.2.1 (by first | exact q_e3350da514 h21 h7.2.1 | omega)
    refine En_Ps 1 (pc' := 19) (lv' := [(3, .int z10), (0, .ref 3), (1, .int a), (2, .int b)]) (st' := [.int z10]) rfl ?_
    exact En_ret (v := some (Value.int z10)) rfl rfl rfl ⟨h5, h12, z8, h9, z10, rfl, ⟨by first | exact q_bd5229abc9 h22.1 | omega, by first | exact q_bc42505ae9 h21 h7.2.1 | omega, by first | exact q_c733b715bf h7.2.2.1 | omega, by first | exact q_d22b102a8e h7.2.2.2.1 | omega, by first | exact q_83f4b1e050 h7.2.2.2.1 | omega, fun _ => by have := Imp_m h7.2.2.2.2.2.1 (by omega); have := Imp_m h7.2.2.2.2.2.2.2.1 (by (first | exact q_edd4ae9b14 this.2 h22.2 | omega)); omega, fun hh => by first | exact ⟨q_b60e76ae01 h22.1, q_98e1bded96 h22.2⟩ | omega, fun hh => by first | exact q_26f50f4f39 h22.1 hh | omega, fun hh => by first | exact q_98e1bded96 h22.2 | omega, (by have q0 : tN By Nb a.toInt b.toInt Sp = S14 := (by first | (subst h15; rfl) | (subst h15; unfold tN; exact adv_bad (by (first | exact q_f23c6e8e00 h21 h7.2.1 h17 | omega)))); rw [q0]; exact ⟨h16, fun zz => by (try have i0 := Imp_m h19 (by (first | exact q_d2dcd30e56 zz | omega))); (try have i1 := Imp_m h18 (by (first | exact q_d2dcd30e56 zz | omega))); (try have i2 := Imp_m h7.2.2.2.2.2.1 (by (first | exact q_d8d8e6600d h17 zz | omega))); (try have i3 := Imp_m h7.2.2.2.2.2.2.2.1 (by (first | exact q_edd4ae9b14 i2.2 h22.2 | omega))); (try have i4 := Imp_m h7.2.2.2.2.2.2.2.2.1 (by (first | exact q_530e47224a h21 h7.2.1 h17 zz | omega))); (first | exact q_b1495600e7 i1 | omega)⟩)⟩⟩
  · have h23 := Imp_m h7.2.2.2.2.2.1 (by first | exact q_c5d285f1b9 h21 | omega)
    refine En_Ps 1 (pc' := 15) (lv' := [(3, .int z10), (0, .ref 3), (1, .int a), (2, .int b)]) (st' := [.ref 3]) rfl ?_
    obtain ⟨z25, h24, h26, h27⟩ := WT_peekI h5 tgz_3 (by decide +kernel : FT 3 3 = (0, 0, 1600)) (by decide +kernel)
    refine En_callV rfl rfl rfl rfl rfl rfl rfl rfl tgz_3 (by decide +kernel) rfl (c_72x σ4 h5 z25 h24 h16.1 (CT_at h16 (by (first | exact q_ca23768860 h17 h21 | omega)) h24)) (by decide) (by decide) (fun v29 σ30 h28 => ?_)
    obtain ⟨h31, h32, rfl, h33⟩ := h28
    have h34 := h33
    have h35 := Fr_trans h12 h32 (by decide +kernel)
    obtain ⟨S36, h37⟩ : ∃ q : PS, q = adv By Nb S14 := ⟨_, rfl⟩
    have h38 : CT By Nb σ30 S36 := by rw [h37]; exact (CT_adv h16 (by (first | exact q_ca23768860 h17 h21 | omega)) h24 h32 (by decide +kernel) h34.2)
    have h39 := CT_k h38 ((h32 _ _ (inW tgz_3 (by decide +kernel))).trans h9)
    have h40 : S36.2.2.2 = S14.2.2.2 := by rw [h37]; exact adv_w
    have h41 : S36.1 = S14.1 := by rw [h37]; exact adv_1
    refine En_Ps 1 (pc' := 19) (lv' := [(3, .int z10), (0, .ref 3), (1, .int a), (2, .int b)]) (st' := [.int z10]) rfl ?_
    exact En_ret (v := some (Value.int z10)) rfl rfl rfl ⟨h31, h35, z8, ((h32 _ _ (inW tgz_3 (by decide +kernel))).trans h9), z10, rfl, ⟨by first | exact q_1c284fde89 h7.1 | omega, by first | exact q_a555021d16 h7.2.1 | omega, by first | exact q_bd3fa30443 h21 | omega, by first | exact q_d22b102a8e h7.2.2.2.1 | omega, by first | exact q_83f4b1e050 h7.2.2.2.1 | omega, fun hh => by first | exact ⟨q_f67127b06c h23.1, q_f67127b06c h23.2⟩ | omega, fun _ => by have := Imp_m h7.2.2.2.2.2.2.1 (by omega); have := Imp_m h7.2.2.2.2.2.2.2.1 (by (first | exact q_edd4ae9b14 h23.2 this.2 | omega)); omega, fun hh => by first | exact q_f67127b06c h23.2 | omega, fun hh => by first | exact q_edd4ae9b14 h23.1 hh | omega, (by have q0 : tN By Nb a.toInt b.toInt Sp = S36 := (by first | (subst h37; subst h15; rfl) | (subst h37; subst h15; unfold tN; exact adv_bad (by omega))); rw [q0]; exact ⟨h38, fun zz => by (try have i0 := Imp_m h19 (by (first | exact q_7ed2936742 h41 zz | omega))); (try have i1 := Imp_m h18 (by (first | exact q_7ed2936742 h41 zz | omega))); (try have i2 := Imp_m h7.2.2.2.2.2.2.1 (by omega)); (try have i3 := Imp_m h7.2.2.2.2.2.2.2.1 (by (first | exact q_edd4ae9b14 h23.2 i2.2 | omega))); (try have i4 := Imp_m h7.2.2.2.2.2.2.2.2.1 (by omega)); (first | exact q_b1495600e7 i1 | omega)⟩)⟩⟩
/-- DoorSchool$Reader.readFirst(LDoorSchool$Plan;)V -/
abbrev P_65x (σ0 : SG) (By : Int → Int) (Nb : Int) (Sp : PS) (a : Nat) (f : Int32) : PO := fun v σ => WT σ ∧ Fr [(3, 1), (3, 2), (3, 3), (3, 4), (3, 5), (3, 6), (18, 1), (18, 2)] σ0 σ ∧ ∃ f1 : Int32, (σ 3)[5]? = some (Value.int f1) ∧ ∃ sg1 : Int32, (σ a)[1]? = some (Value.int sg1) ∧ v = none ∧ OUT σ0 σ a ∧ -f1.toInt ≤ 0 ∧ f1.toInt - 3 ≤ 0 ∧ -f1.toInt + f.toInt ≤ 0 ∧ -sg1.toInt - 1 ≤ 0 ∧ sg1.toInt - 4 ≤ 0 ∧ f.toInt - f1.toInt ≤ 0 ∧ -sg1.toInt - f1.toInt ≤ 0 ∧ (OTH a σ0 σ ∧ CT By Nb σ (fFirst By Nb Sp) ∧ ((fFirst By Nb Sp).1 = 0 → KN σ a (fFirst By Nb Sp).2.2.2 (act (fFirst By Nb Sp).2.2.2)))
set_option maxRecDepth 10000 in
set_option maxHeartbeats 4000000 in
theorem c_65x {By : Int → Int} {Nb : Int} {Sp : PS} (σ0 : SG) (hσ0 : WT σ0) (a : Nat) (ha : TG a = 18) (f : Int32) (h_f : (σ0 3)[5]? = some (Value.int f)) (hC : CT By Nb σ0 Sp) (hg : Sp.1 = 0) (hP : PLA a) (hX : FXP σ0 a) (hK : KN σ0 a Sp.2.2.2 (act Sp.2.2.2)) : En 5 112 none mr_65 (P_65x σ0 By Nb Sp a f) 0 [(0, .ref 3), (1, .ref a)] [] σ0 := by
  obtain ⟨hl_f, hu_f⟩ := WT_int hσ0 (g := 3) (by decide +kernel) (by decide +kernel) (l := 0) (u := 3) (by decide +kernel) h_f
  have hF0 : Fr [(3, 1), (3, 2), (3, 3), (3, 4), (3, 5), (3, 6), (18, 1), (18, 2)] σ0 σ0 := Fr_rfl
  have h1 := CT_k hC h_f
  have h2 : Imp (Sp.1 = 0) (KN σ0 a Sp.2.2.2 (fun t => act Sp.2.2.2 t)) := fun _ => hK
  refine En_Ps 2 (pc' := 2) (lv' := [(0, .ref 3), (1, .ref a)]) (st' := [.ref 3, .ref 3]) rfl ?_
  refine En_ldcS (i := 10) rfl rfl rfl ?_
  refine En_callV rfl rfl rfl rfl rfl rfl rfl rfl tgz_3 (by decide +kernel) rfl (c_71s10x σ0 hσ0 hC) (by decide) (by decide) (fun v4 σ5 h3 => ?_)
  obtain ⟨h6, h7, z9, rfl, h8⟩ := h3
  have h10 := h8.2.2
  obtain rfl : σ0 = σ5 := Fr_nil h7
  have h11 := h10
  refine En_callV rfl rfl rfl rfl rfl rfl rfl rfl tgz_3 (by decide +kernel) rfl (c_59x σ0 hσ0 z9 (geI rfl (by first | exact q_ef1e8e38bf h8.1 | omega)) (leI rfl (by first | exact q_733c8bfbae h8.2.1 | omega)) f h_f hC) (by decide) (by decide) (fun v13 σ14 h12 => ?_)
  obtain ⟨h15, h16, z18, h19, rfl, h17⟩ := h12
  have h20 := h17.2.2.2.2.2.2
  have h21 := Fr_trans hF0 h16 (by decide +kernel)
  have h22 := OTH_fr (OTH_0 (a := a) (σ := σ0)) h16 (by decide +kernel)
  have h23 : pss By Nb z9.toInt Sp = pss By Nb (iW By Nb 10 Sp) Sp := pss_cg2 (fun zz => by (try have i0 := Imp_m h11 (by (first | exact q_d2dcd30e56 zz | omega))); (first | exact q_b1495600e7 i0 | omega))
  obtain ⟨S24, h25⟩ : ∃ q : PS, q = pss By Nb (iW By Nb 10 Sp) Sp := ⟨_, rfl⟩
  have h26 : CT By Nb σ14 S24 := by rw [h25]; exact (CT_eq h20 h23)
  have h27 := CT_k h26 h19
  have h28 : S24.2.2.2 = Sp.2.2.2 := by rw [h25]; exact pss_w
  have h29 : Imp (S24.1 = 0) (Sp.1 = 0) := fun z => (pss_g (by rw [h23, ← h25]; exact z)).1
  have h30 : Imp (S24.1 = 0) (z9.toInt = 1) := fun z => (pss_g (by rw [h23, ← h25]; exact z)).2.1
  have h31 : Imp (S24.1 = 0) (KN σ14 a Sp.2.2.2 (fun t => act Sp.2.2.2 t)) := fun zz => KN_fr hP (Imp_m h2 (by (try have i0 := Imp_m h30 (by (first | exact q_d2dcd30e56 zz | omega))); (try have i1 := Imp_m h29 (by (first | exact q_d2dcd30e56 zz | omega))); (try have i2 := Imp_m h11 (by (first | exact q_d2dcd30e56 i1 | omega))); (first | exact q_d2dcd30e56 i1 | omega))) h16 (by decide +kernel)
  have h32 : S24.2.2.2 = Sp.2.2.2 := h28.trans (rfl : Sp.2.2.2 = Sp.2.2.2)
  have o33 : OUT σ0 σ14 a := OUT_fr OUT_0 h16 (by decide +kernel)
  refine En_Ps 2 (pc' := 12) (lv' := [(0, .ref 3), (1, .ref a)]) (st' := [.ref 3, .ref 3]) rfl ?_
  refine En_ldcS (i := 13) rfl rfl rfl ?_
  refine En_callV rfl rfl rfl rfl rfl rfl rfl rfl tgz_3 (by decide +kernel) rfl (c_71s13x σ14 h15 h26) (by decide) (by decide) (fun v35 σ36 h34 => ?_)
  obtain ⟨h37, h38, z40, rfl, h39⟩ := h34
  have h41 := h39.2.2
  obtain rfl : σ14 = σ36 := Fr_nil h38
  have h42 := h41
  refine En_callV rfl rfl rfl rfl rfl rfl rfl rfl tgz_3 (by decide +kernel) rfl (c_59x σ14 h15 z40 (geI rfl (by first | exact q_ef1e8e38bf h39.1 | omega)) (leI rfl (by first | exact q_733c8bfbae h39.2.1 | omega)) z18 h19 h26) (by decide) (by decide) (fun v44 σ45 h43 => ?_)
  obtain ⟨h46, h47, z49, h50, rfl, h48⟩ := h43
  have h51 := h48.2.2.2.2.2.2
  have h52 := Fr_trans h21 h47 (by decide +kernel)
  have h53 := OTH_fr h22 h47 (by decide +kernel)
  have h54 : pss By Nb z40.toInt S24 = pss By Nb (iW By Nb 13 S24) S24 := pss_cg2 (fun zz => by (try have i0 := Imp_m h42 (by (first | exact q_d2dcd30e56 zz | omega))); (try have i1 := Imp_m h30 (by (first | exact q_d2dcd30e56 zz | omega))); (try have i2 := Imp_m h29 (by (first | exact q_d2dcd30e56 zz | omega))); (try have i3 := Imp_m h11 (by (first | exact q_d2dcd30e56 i2 | omega))); (try have i4 := Imp_m h17.2.2.2.1 (by (first | exact q_a439be255a i1 | omega))); (try have i5 := Imp_m h17.2.2.2.2.2.1 (by omega)); (first | exact q_b1495600e7 i0 | omega))
  obtain ⟨S55, h56⟩ : ∃ q : PS, q = pss By Nb (iW By Nb 13 S24) S24 := ⟨_, rfl⟩
  have h57 : CT By Nb σ45 S55 := by rw [h56]; exact (CT_eq h51 h54)
  have h58 := CT_k h57 h50
  have h59 : S55.2.2.2 = S24.2.2.2 := by rw [h56]; exact pss_w
  have h60 : Imp (S55.1 = 0) (S24.1 = 0) := fun z => (pss_g (by rw [h54, ← h56]; exact z)).1
  have h61 : Imp (S55.1 = 0) (z40.toInt = 1) := fun z => (pss_g (by rw [h54, ← h56]; exact z)).2.1
  have h62 : Imp (S55.1 = 0) (KN σ45 a Sp.2.2.2 (fun t => act Sp.2.2.2 t)) := fun zz => KN_fr hP (Imp_m h31 (by (try have i0 := Imp_m h61 (by (first | exact q_d2dcd30e56 zz | omega))); (try have i1 := Imp_m h60 (by (first | exact q_d2dcd30e56 zz | omega))); (try have i2 := Imp_m h42 (by (first | exact q_d2dcd30e56 i1 | omega))); (try have i3 := Imp_m h30 (by (first | exact q_d2dcd30e56 i1 | omega))); (try have i4 := Imp_m h29 (by (first | exact q_d2dcd30e56 i1 | omega))); (try have i5 := Imp_m h11 (by (first | exact q_d2dcd30e56 i4 | omega))); (try have i6 := Imp_m h17.2.2.2.1 (by (first | exact q_a439be255a i3 | omega))); (try have i7 := Imp_m h17.2.2.2.2.2.1 (by omega)); (first | exact q_d2dcd30e56 i1 | omega))) h47 (by decide +kernel)
  have h63 : S55.2.2.2 = Sp.2.2.2 := h59.trans h32
  have o64 : OUT σ0 σ45 a := OUT_fr o33 h47 (by decide +kernel)
  refine En_Ps 4 (pc' := 24) (lv' := [(0, .ref 3), (1, .ref a)]) (st' := [.int ((Int32.ofInt 4)), .int ((Int32.ofInt 2)), .ref 3, .ref a]) rfl ?_
  have := (by decide : ((Int32.ofInt 2)).toInt = 2)
  have := (by decide : ((Int32.ofInt 4)).toInt = 4)
  refine En_callV rfl rfl rfl rfl rfl rfl rfl rfl tgz_3 (by decide +kernel) rfl (c_73x σ45 h46 ((Int32.ofInt 2)) ((Int32.ofInt 4)) z49 h50 h57) (by decide) (by decide) (fun v66 σ67 h65 => ?_)
  obtain ⟨h68, h69, z71, h72, z73, rfl, h70⟩ := h65
  have h74 := h70.2.2.2.2.2.2.2.2.2
  have h75 := Fr_trans h52 h69 (by decide +kernel)
  have h76 := Imp_m h70.2.2.2.2.2.1
  have h77 := Imp_m h70.2.2.2.2.2.2.1
  have h78 := Imp_m h70.2.2.2.2.2.2.2.1
  have h79 := Imp_m h70.2.2.2.2.2.2.2.2.1
  have h80 := OTH_fr h53 h69 (by decide +kernel)
  have h81 : tN By Nb ((Int32.ofInt 2)).toInt ((Int32.ofInt 4)).toInt S55 = tN By Nb (2) (4) S55 := tN_cg2 (fun zz => by (first | exact q_bef0c64981 (by decide) | omega)) (fun zz => by (first | exact q_d0a5206d26 this | omega))
  obtain ⟨S82, h83⟩ : ∃ q : PS, q = tN By Nb (2) (4) S55 := ⟨_, rfl⟩
  have h84 : CT By Nb σ67 S82 := by rw [h83]; exact (CT_eq h74.1 h81)
  have h85 := CT_k h84 h72
  have h86 : Imp (S82.1 = 0) (z73.toInt = tV By Nb S55.2.2.1) := fun z => Imp_m h74.2 (by rw [h81, ← h83]; exact z)
  have h87 : Imp (S82.1 = 0) (S55.1 = 0 ∧ tK By Nb S55.2.2.1 = 2 ∧ 2 ≤ tV By Nb S55.2.2.1 ∧ tV By Nb S55.2.2.1 ≤ 4) := fun z => tN_gg (by rw [← h83]; exact z)
  have h88 : S82.2.2.2 = S55.2.2.2 := by rw [h83]; exact tN_w
  have h89 : Imp (S82.1 = 0) (KN σ67 a Sp.2.2.2 (fun t => act Sp.2.2.2 t)) := fun zz => KN_fr hP (Imp_m h62 (by (try have i0 := Imp_m h87 (by (first | exact q_d2dcd30e56 zz | omega))); (try have i1 := Imp_m h86 (by (first | exact q_d2dcd30e56 zz | omega))); (try have i2 := Imp_m h61 (by (first | exact q_d2dcd30e56 i0.1 | omega))); (try have i3 := Imp_m h60 (by (first | exact q_d2dcd30e56 i0.1 | omega))); (try have i4 := Imp_m h42 (by (first | exact q_d2dcd30e56 i3 | omega))); (try have i5 := Imp_m h30 (by (first | exact q_d2dcd30e56 i3 | omega))); (try have i6 := Imp_m h29 (by (first | exact q_d2dcd30e56 i3 | omega))); (try have i7 := Imp_m h11 (by (first | exact q_d2dcd30e56 i6 | omega))); (try have i8 := Imp_m h17.2.2.2.1 (by (first | exact q_a439be255a i5 | omega))); (try have i9 := Imp_m h17.2.2.2.2.2.1 (by omega)); (try have i10 := Imp_m h48.2.2.2.1 (by (first | exact q_a439be255a i2 | omega))); (try have i11 := Imp_m h48.2.2.2.2.2.1 (by (first | exact q_9240dd55cf i9 i3 h27 | omega))); (first | exact q_d2dcd30e56 i0.1 | omega))) h69 (by decide +kernel)
  have h90 : S82.2.2.2 = Sp.2.2.2 := h88.trans h63
  have o91 : OUT σ0 σ67 a := OUT_fr o64 h69 (by decide +kernel)
  have h92 := Imp_m h70.2.2.2.2.2.2.2.1 (by (first | exact q_e984b62faf this | omega))
  have h93 := Imp_m h70.2.2.2.2.2.2.2.2.1 (by (first | exact q_3eaee27298 (by decide) | omega))
  refine En_put (j := 1) rfl rfl rfl ha (by decide +kernel) rfl (vI (l := (-1)) (u := 4) (by decide +kernel) rfl (by first | exact q_ce01e7a6da h93 | omega) (by (first | exact q_9799a3bf7d h92 this | omega))) h68 h75 (by decide +kernel) (fun σ94 h95 h96 h97 h98 => ?_)
  have h99 := OTH_pt h80 h98
  obtain ⟨S100, h101⟩ : ∃ q : PS, q = wst S82 (0) ((tV By Nb S55.2.2.1)) := ⟨_, rfl⟩
  have h102 : CT By Nb σ94 S100 := by rw [h101]; exact CT_wst (CT_ne h84 h98 (by have := hP; unfold PLA at this; omega))
  have h103 : Imp (S100.1 = 0) (KN σ94 a (uPd Sp.2.2.2 (0) ((tV By Nb S55.2.2.1))) (fun t => (act Sp.2.2.2 t ∨ t = 0))) := fun zz => KN_st (Imp_m h89 (by rw [h101] at zz; exact zz)) h97 h98 (by (first | decide | omega)) (by (first | decide | omega)) (by rw [lcO_lt (by decide) (by decide), Nat.add_zero]) (by decide) (by have z2 : S82.1 = 0 := (by rw [h101] at zz; exact zz); (try have i0 := Imp_m h87 (by (first | exact q_d2dcd30e56 z2 | omega))); (try have i1 := Imp_m h86 (by (first | exact q_d2dcd30e56 z2 | omega))); (try have i2 := Imp_m h61 (by (first | exact q_d2dcd30e56 i0.1 | omega))); (try have i3 := Imp_m h60 (by (first | exact q_d2dcd30e56 i0.1 | omega))); (try have i4 := Imp_m h42 (by (first | exact q_d2dcd30e56 i3 | omega))); (try have i5 := Imp_m h30 (by (first | exact q_d2dcd30e56 i3 | omega))); (try have i6 := Imp_m h29 (by (first | exact q_d2dcd30e56 i3 | omega))); (try have i7 := Imp_m h11 (by (first | exact q_d2dcd30e56 i6 | omega))); (try have i8 := Imp_m h17.2.2.2.1 (by (first | exact q_a439be255a i5 | omega))); (try have i9 := Imp_m h17.2.2.2.2.2.1 (by omega)); (try have i10 := Imp_m h48.2.2.2.1 (by (first | exact q_a439be255a i2 | omega))); (try have i11 := Imp_m h48.2.2.2.2.2.1 (by (first | exact q_9240dd55cf i9 i3 h27 | omega))); (try have i12 := Imp_m h70.2.2.2.2.2.1 (by (first | exact q_3383951b80 h58 i11 i0.1 | omega))); (try have i13 := Imp_m h70.2.2.2.2.2.2.1 (by (first | exact q_c1d968cc7e h58 i11 i0.1 | omega))); (first | exact q_a8fb2024c1 i1 | omega))
  have h104 : S100.2.2.2 = (uPd Sp.2.2.2 (0) ((tV By Nb S55.2.2.1))) := by rw [h101]; show uPd S82.2.2.2 _ _ = _; rw [h90]
  have h105 : S100.1 = S82.1 := by rw [h101]; rfl
  have h106 := CT_k h102 ((h98 _ _ (Or.inr (by decide))).trans h72)
  have o107 : OUT σ0 σ94 a := OUT_st o91 h98 (by omega)
  refine En_Ps 2 (pc' := 32) (lv' := [(0, .ref 3), (1, .ref a)]) (st' := [.ref 3, .ref 3]) rfl ?_
  refine En_ldcS (i := 16) rfl rfl rfl ?_
  refine En_callV rfl rfl rfl rfl rfl rfl rfl rfl tgz_3 (by decide +kernel) rfl (c_71s16x σ94 h95 h102) (by decide) (by decide) (fun v109 σ110 h108 => ?_)
  obtain ⟨h111, h112, z114, rfl, h113⟩ := h108
  have h115 := h113.2.2
  obtain rfl : σ94 = σ110 := Fr_nil h112
  have h116 := h115
  refine En_callV rfl rfl rfl rfl rfl rfl rfl rfl tgz_3 (by decide +kernel) rfl (c_59x σ94 h95 z114 (geI rfl (by first | exact q_ef1e8e38bf h113.1 | omega)) (leI rfl (by first | exact q_733c8bfbae h113.2.1 | omega)) z71 ((h98 _ _ (Or.inr (by decide))).trans h72) h102) (by decide) (by decide) (fun v118 σ119 h117 => ?_)
  obtain ⟨h120, h121, z123, h124, rfl, h122⟩ := h117
  have h125 := h122.2.2.2.2.2.2
  have h126 := Fr_trans h96 h121 (by decide +kernel)
  have h127 := OTH_fr h99 h121 (by decide +kernel)
  have h128 : pss By Nb z114.toInt S100 = pss By Nb (iW By Nb 16 S100) S100 := pss_cg2 (fun zz => by (try have i0 := Imp_m h116 (by (first | exact q_d2dcd30e56 zz | omega))); (try have i1 := Imp_m h87 (by (first | exact q_23692e05a7 h85 h70.2.1 h105 zz | omega))); (try have i2 := Imp_m h86 (by (first | exact q_7ed2936742 h105 zz | omega))); (try have i3 := Imp_m h61 (by (first | exact q_d2dcd30e56 i1.1 | omega))); (try have i4 := Imp_m h60 (by (first | exact q_d2dcd30e56 i1.1 | omega))); (try have i5 := Imp_m h42 (by (first | exact q_d2dcd30e56 i4 | omega))); (try have i6 := Imp_m h30 (by (first | exact q_d2dcd30e56 i4 | omega))); (try have i7 := Imp_m h29 (by (first | exact q_d2dcd30e56 i4 | omega))); (try have i8 := Imp_m h11 (by (first | exact q_d2dcd30e56 i7 | omega))); (try have i9 := Imp_m h17.2.2.2.1 (by (first | exact q_a439be255a i6 | omega))); (try have i10 := Imp_m h17.2.2.2.2.2.1 (by omega)); (try have i11 := Imp_m h48.2.2.2.1 (by (first | exact q_a439be255a i3 | omega))); (try have i12 := Imp_m h48.2.2.2.2.2.1 (by (first | exact q_9240dd55cf i10 i4 h27 | omega))); (try have i13 := Imp_m h70.2.2.2.2.2.1 (by (first | exact q_3383951b80 h58 i12 i1.1 | omega))); (try have i14 := Imp_m h70.2.2.2.2.2.2.1 (by (first | exact q_98e69b0339 i10 h27 i4 | omega))); (first | exact q_b1495600e7 i0 | omega))
  obtain ⟨S129, h130⟩ : ∃ q : PS, q = pss By Nb (iW By Nb 16 S100) S100 := ⟨_, rfl⟩
  have h131 : CT By Nb σ119 S129 := by rw [h130]; exact (CT_eq h125 h128)
  have h132 := CT_k h131 h124
  have h133 : S129.2.2.2 = S100.2.2.2 := by rw [h130]; exact pss_w
  have h134 : Imp (S129.1 = 0) (S100.1 = 0) := fun z => (pss_g (by rw [h128, ← h130]; exact z)).1
  have h135 : Imp (S129.1 = 0) (z114.toInt = 1) := fun z => (pss_g (by rw [h128, ← h130]; exact z)).2.1
  have h136 : Imp (S129.1 = 0) (KN σ119 a (uPd Sp.2.2.2 (0) ((tV By Nb S55.2.2.1))) (fun t => (act Sp.2.2.2 t ∨ t = 0))) := fun zz => KN_fr hP (Imp_m h103 (by (try have i0 := Imp_m h135 (by (first | exact q_d2dcd30e56 zz | omega))); (try have i1 := Imp_m h134 (by (first | exact q_d2dcd30e56 zz | omega))); (try have i2 := Imp_m h116 (by (first | exact q_d2dcd30e56 i1 | omega))); (try have i3 := Imp_m h87 (by (first | exact q_23692e05a7 h85 h70.2.1 h105 i1 | omega))); (try have i4 := Imp_m h86 (by (first | exact q_7ed2936742 h105 i1 | omega))); (try have i5 := Imp_m h61 (by (first | exact q_d2dcd30e56 i3.1 | omega))); (try have i6 := Imp_m h60 (by (first | exact q_d2dcd30e56 i3.1 | omega))); (try have i7 := Imp_m h42 (by (first | exact q_d2dcd30e56 i6 | omega))); (try have i8 := Imp_m h30 (by (first | exact q_d2dcd30e56 i6 | omega))); (try have i9 := Imp_m h29 (by (first | exact q_d2dcd30e56 i6 | omega))); (try have i10 := Imp_m h11 (by (first | exact q_d2dcd30e56 i9 | omega))); (try have i11 := Imp_m h17.2.2.2.1 (by (first | exact q_a439be255a i8 | omega))); (try have i12 := Imp_m h17.2.2.2.2.2.1 (by omega)); (try have i13 := Imp_m h48.2.2.2.1 (by (first | exact q_a439be255a i5 | omega))); (try have i14 := Imp_m h48.2.2.2.2.2.1 (by (first | exact q_9240dd55cf i12 i6 h27 | omega))); (try have i15 := Imp_m h70.2.2.2.2.2.1 (by (first | exact q_3383951b80 h58 i14 i3.1 | omega))); (try have i16 := Imp_m h70.2.2.2.2.2.2.1 (by (first | exact q_6a39a9fc00 h70.2.2.2.1 i14 | omega))); (first | exact q_d2dcd30e56 i1 | omega))) h121 (by decide +kernel)
  have h137 : S129.2.2.2 = (uPd Sp.2.2.2 (0) ((tV By Nb S55.2.2.1))) := h133.trans h104
  have o138 : OUT σ0 σ119 a := OUT_fr o107 h121 (by decide +kernel)
  refine En_Ps 4 (pc' := 44) (lv' := [(0, .ref 3), (1, .ref a)]) (st' := [.int ((Int32.ofInt 3)), .int ((Int32.ofInt 1)), .ref 3, .ref a]) rfl ?_
  have := (by decide : ((Int32.ofInt 1)).toInt = 1)
  have := (by decide : ((Int32.ofInt 3)).toInt = 3)
  refine En_callV rfl rfl rfl rfl rfl rfl rfl rfl tgz_3 (by decide +kernel) rfl (c_73x σ119 h120 ((Int32.ofInt 1)) ((Int32.ofInt 3)) z123 h124 h131) (by decide) (by decide) (fun v140 σ141 h139 => ?_)
  obtain ⟨h142, h143, z145, h146, z147, rfl, h144⟩ := h139
  have h148 := h144.2.2.2.2.2.2.2.2.2
  have h149 := Fr_trans h126 h143 (by decide +kernel)
  have h150 := Imp_m h144.2.2.2.2.2.1
  have h151 := Imp_m h144.2.2.2.2.2.2.1
  have h152 := Imp_m h144.2.2.2.2.2.2.2.1
  have h153 := Imp_m h144.2.2.2.2.2.2.2.2.1
  have h154 := OTH_fr h127 h143 (by decide +kernel)
  have h155 : tN By Nb ((Int32.ofInt 1)).toInt ((Int32.ofInt 3)).toInt S129 = tN By Nb (1) (3) S129 := tN_cg2 (fun zz => by (first | exact q_0bfa10f27c (by decide) | omega)) (fun zz => by (first | exact q_5736040b52 this | omega))
  obtain ⟨S156, h157⟩ : ∃ q : PS, q = tN By Nb (1) (3) S129 := ⟨_, rfl⟩
  have h158 : CT By Nb σ141 S156 := by rw [h157]; exact (CT_eq h148.1 h155)
  have h159 := CT_k h158 h146
  have h160 : Imp (S156.1 = 0) (z147.toInt = tV By Nb S129.2.2.1) := fun z => Imp_m h148.2 (by rw [h155, ← h157]; exact z)
  have h161 : Imp (S156.1 = 0) (S129.1 = 0 ∧ tK By Nb S129.2.2.1 = 2 ∧ 1 ≤ tV By Nb S129.2.2.1 ∧ tV By Nb S129.2.2.1 ≤ 3) := fun z => tN_gg (by rw [← h157]; exact z)
  have h162 : S156.2.2.2 = S129.2.2.2 := by rw [h157]; exact tN_w
  have h163 : Imp (S156.1 = 0) (KN σ141 a (uPd Sp.2.2.2 (0) ((tV By Nb S55.2.2.1))) (fun t => (act Sp.2.2.2 t ∨ t = 0))) := fun zz => KN_fr hP (Imp_m h136 (by (try have i0 := Imp_m h161 (by (first | exact q_d2dcd30e56 zz | omega))); (try have i1 := Imp_m h160 (by (first | exact q_d2dcd30e56 zz | omega))); (try have i2 := Imp_m h135 (by (first | exact q_d2dcd30e56 i0.1 | omega))); (try have i3 := Imp_m h134 (by (first | exact q_d2dcd30e56 i0.1 | omega))); (try have i4 := Imp_m h116 (by (first | exact q_d2dcd30e56 i3 | omega))); (try have i5 := Imp_m h87 (by (first | exact q_7ed2936742 h105 i3 | omega))); (try have i6 := Imp_m h86 (by (first | exact q_7ed2936742 h105 i3 | omega))); (try have i7 := Imp_m h61 (by (first | exact q_d2dcd30e56 i5.1 | omega))); (try have i8 := Imp_m h60 (by (first | exact q_d2dcd30e56 i5.1 | omega))); (try have i9 := Imp_m h42 (by (first | exact q_d2dcd30e56 i8 | omega))); (try have i10 := Imp_m h30 (by (first | exact q_d2dcd30e56 i8 | omega))); (try have i11 := Imp_m h29 (by (first | exact q_d2dcd30e56 i8 | omega))); (try have i12 := Imp_m h11 (by (first | exact q_d2dcd30e56 i11 | omega))); (try have i13 := Imp_m h17.2.2.2.1 (by (first | exact q_a439be255a i10 | omega))); (try have i14 := Imp_m h17.2.2.2.2.2.1 (by omega)); (try have i15 := Imp_m h48.2.2.2.1 (by (first | exact q_a439be255a i7 | omega))); (try have i16 := Imp_m h48.2.2.2.2.2.1 (by (first | exact q_9240dd55cf i14 i8 h27 | omega))); (try have i17 := Imp_m h70.2.2.2.2.2.1 (by (first | exact q_6ba9b433f8 i14 h27 i8 | omega))); (try have i18 := Imp_m h70.2.2.2.2.2.2.1 (by (first | exact q_98e69b0339 i14 h27 i8 | omega))); (try have i19 := Imp_m h122.2.2.2.1 (by (first | exact q_a439be255a i2 | omega))); (try have i20 := Imp_m h122.2.2.2.2.2.1 (by (first | exact q_73733e0e6a h77 h70.2.2.2.1 i16 i17.1 (by decide) | omega))); (first | exact q_d2dcd30e56 i0.1 | omega))) h143 (by decide +kernel)
  have h164 : S156.2.2.2 = (uPd Sp.2.2.2 (0) ((tV By Nb S55.2.2.1))) := h162.trans h137
  have o165 : OUT σ0 σ141 a := OUT_fr o138 h143 (by decide +kernel)
  have h166 := Imp_m h144.2.2.2.2.2.2.2.1 (by (first | exact q_135985417e this | omega))
  have h167 := Imp_m h144.2.2.2.2.2.2.2.2.1 (by (first | exact q_4dd9459605 (by decide) | omega))
  refine En_put (j := 2) rfl rfl rfl ha (by decide +kernel) rfl (vI (l := (-1)) (u := 3) (by decide +kernel) rfl (by first | exact q_ce01e7a6da h167 | omega) (by (first | exact q_1dc19f2830 h166 this | omega))) h142 h149 (by decide +kernel) (fun σ168 h169 h170 h171 h172 => ?_)
  have h173 := OTH_pj h154 h172 (by decide)
  obtain ⟨S174, h175⟩ : ∃ q : PS, q = wst S156 (1) ((tV By Nb S129.2.2.1)) := ⟨_, rfl⟩
  have h176 : CT By Nb σ168 S174 := by rw [h175]; exact CT_wst (CT_ne h158 h172 (by have := hP; unfold PLA at this; omega))
  have h177 : Imp (S174.1 = 0) (KN σ168 a (uPd (uPd Sp.2.2.2 (0) ((tV By Nb S55.2.2.1))) (1) ((tV By Nb S129.2.2.1))) (fun t => ((act Sp.2.2.2 t ∨ t = 0) ∨ t = 1))) := fun zz => KN_st (Imp_m h163 (by rw [h175] at zz; exact zz)) h171 h172 (by (first | decide | omega)) (by (first | decide | omega)) (by rw [lcO_lt (by decide) (by decide), Nat.add_zero]) (by decide) (by have z2 : S156.1 = 0 := (by rw [h175] at zz; exact zz); (try have i0 := Imp_m h161 (by (first | exact q_d2dcd30e56 z2 | omega))); (try have i1 := Imp_m h160 (by (first | exact q_d2dcd30e56 z2 | omega))); (try have i2 := Imp_m h135 (by (first | exact q_d2dcd30e56 i0.1 | omega))); (try have i3 := Imp_m h134 (by (first | exact q_d2dcd30e56 i0.1 | omega))); (try have i4 := Imp_m h116 (by (first | exact q_d2dcd30e56 i3 | omega))); (try have i5 := Imp_m h87 (by (first | exact q_7ed2936742 h105 i3 | omega))); (try have i6 := Imp_m h86 (by (first | exact q_7ed2936742 h105 i3 | omega))); (try have i7 := Imp_m h61 (by (first | exact q_d2dcd30e56 i5.1 | omega))); (try have i8 := Imp_m h60 (by (first | exact q_d2dcd30e56 i5.1 | omega))); (try have i9 := Imp_m h42 (by (first | exact q_d2dcd30e56 i8 | omega))); (try have i10 := Imp_m h30 (by (first | exact q_d2dcd30e56 i8 | omega))); (try have i11 := Imp_m h29 (by (first | exact q_d2dcd30e56 i8 | omega))); (try have i12 := Imp_m h11 (by (first | exact q_d2dcd30e56 i11 | omega))); (try have i13 := Imp_m h17.2.2.2.1 (by (first | exact q_a439be255a i10 | omega))); (try have i14 := Imp_m h17.2.2.2.2.2.1 (by omega)); (try have i15 := Imp_m h48.2.2.2.1 (by (first | exact q_a439be255a i7 | omega))); (try have i16 := Imp_m h48.2.2.2.2.2.1 (by (first | exact q_9240dd55cf i14 i8 h27 | omega))); (try have i17 := Imp_m h70.2.2.2.2.2.1 (by (first | exact q_6ba9b433f8 i14 h27 i8 | omega))); (try have i18 := Imp_m h70.2.2.2.2.2.2.1 (by (first | exact q_98e69b0339 i14 h27 i8 | omega))); (try have i19 := Imp_m h122.2.2.2.1 (by (first | exact q_a439be255a i2 | omega))); (try have i20 := Imp_m h122.2.2.2.2.2.1 (by (first | exact q_73733e0e6a h77 h70.2.2.2.1 i16 i17.1 (by decide) | omega))); (try have i21 := Imp_m h144.2.2.2.2.2.1 (by (first | exact q_6ba9b433f8 i14 h27 i8 | omega))); (try have i22 := Imp_m h144.2.2.2.2.2.2.1 (by (first | exact q_c1d968cc7e h58 i16 i5.1 | omega))); (first | exact q_a8fb2024c1 i1 | omega))
  have h178 : S174.2.2.2 = (uPd (uPd Sp.2.2.2 (0) ((tV By Nb S55.2.2.1))) (1) ((tV By Nb S129.2.2.1))) := by rw [h175]; show uPd S156.2.2.2 _ _ = _; rw [h164]
  have h179 : S174.1 = S156.1 := by rw [h175]; rfl
  have h180 := CT_k h176 ((h172 _ _ (Or.inr (by decide))).trans h146)
  have o181 : OUT σ0 σ168 a := OUT_st o165 h172 (by omega)
  have h182 : fFirst By Nb Sp = S174 := by unfold fFirst; (try dsimp only); first | (rw [← h25, ← h56, ← h83, ← h101, ← h130, ← h157, ← h175]; first | done | rfl) | (rw [← h25, ← h56, ← h83, ← h101, ← h130, ← h157, ← h175]; rw [if_pos (by omega)]; first | done | rfl) | (rw [← h25, ← h56, ← h83, ← h101, ← h130, ← h157, ← h175]; rw [if_neg (by omega)]; first | done | rfl) | (rw [← h25, ← h56, ← h83, ← h101, ← h130, ← h157, ← h175]; rw [if_neg (by omega), if_pos (by omega)]; first | done | rfl) | (rw [← h25, ← h56, ← h83, ← h101, ← h130, ← h157, ← h175]; rw [if_neg (by omega), if_neg (by omega)]; first | done | rfl) | (rw [← h25, ← h56, ← h83, ← h101, ← h130, ← h157, ← h175]; rw [if_neg (by omega), if_neg (by omega), if_neg (by omega)]; first | done | rfl)
  exact En_ret (v := none) rfl rfl rfl ⟨h169, h170, z145, ((h172 _ _ (Or.inr (by decide))).trans h146), z73, ((h172 _ _ (Or.inr (by decide))).trans ((h143 _ _ (inW ha (by decide +kernel))).trans ((h121 _ _ (inW ha (by decide +kernel))).trans h97))), rfl, ⟨o181, by first | exact q_a555021d16 h144.2.1 | omega, by first | exact q_c733b715bf h144.2.2.1 | omega, by first | exact q_6e734f6d2e h17.2.2.1 h48.2.2.1 h70.2.2.2.1 h122.2.2.1 h144.2.2.2.1 | omega, by first | exact q_98e1bded96 h93 | omega, by (first | exact q_75573f13bf h92 (by decide) | omega), by first | exact q_cf30ef85c0 h17.2.2.1 h48.2.2.1 h70.2.2.2.1 h122.2.2.1 h144.2.2.2.1 | omega, by (first | exact q_235cbafc81 h144.2.1 h76 h77 (by decide) h151 h150 h93 (by decide) h144.2.2.2.1 h122.2.2.1 | omega), (by rw [h182]; exact ⟨h173, h176, fun zz => by rw [h178]; exact KN_sub (Imp_m h177 zz) (fun t t0 t1 y => Or.inl (Or.inl (act_low (by (first | decide | omega)) (act_low (by (first | decide | omega)) y))))⟩)⟩⟩
/-- DoorSchool$Reader.takeWay()I -/
abbrev P_75x (σ0 : SG) (By : Int → Int) (Nb : Int) (Sp : PS) (f : Int32) : PO := fun v σ => WT σ ∧ Fr [(3, 1), (3, 2), (3, 3), (3, 4), (3, 5), (3, 6)] σ0 σ ∧ ∃ f1 : Int32, (σ 3)[5]? = some (Value.int f1) ∧ ∃ ret : Int32, v = some (Value.int ret) ∧ -ret.toInt - 1 ≤ 0 ∧ ret.toInt - 2 ≤ 0 ∧ -f1.toInt ≤ 0 ∧ f1.toInt - 3 ≤ 0 ∧ -f1.toInt + f.toInt ≤ 0 ∧ f.toInt - f1.toInt ≤ 0 ∧ Imp (f1.toInt ≤ 0) (-ret.toInt ≤ 0) ∧ (CT By Nb σ (tW By Nb Sp) ∧ Imp ((tW By Nb Sp).1 = 0) (ret.toInt = wyV By Nb Sp))
set_option maxRecDepth 10000 in
set_option maxHeartbeats 4000000 in
theorem c_75x {By : Int → Int} {Nb : Int} {Sp : PS} (σ0 : SG) (hσ0 : WT σ0) (f : Int32) (h_f : (σ0 3)[5]? = some (Value.int f)) (hC : CT By Nb σ0 Sp) : En 5 112 none mr_75 (P_75x σ0 By Nb Sp f) 0 [(0, .ref 3)] [] σ0 := by
  obtain ⟨hl_f, hu_f⟩ := WT_int hσ0 (g := 3) (by decide +kernel) (by decide +kernel) (l := 0) (u := 3) (by decide +kernel) h_f
  have hF0 : Fr [(3, 1), (3, 2), (3, 3), (3, 4), (3, 5), (3, 6)] σ0 σ0 := Fr_rfl
  have h1 := CT_k hC h_f
  refine En_Ps 3 (pc' := 3) (lv' := [(1, .int ((Int32.ofInt (-1)))), (0, .ref 3)]) (st' := [.ref 3]) rfl ?_
  refine En_ldcS (i := 4) rfl rfl rfl ?_
  refine En_callV rfl rfl rfl rfl rfl rfl rfl rfl tgz_3 (by decide +kernel) rfl (c_71s4x σ0 hσ0 hC) (by decide) (by decide) (fun v3 σ4 h2 => ?_)
  obtain ⟨h5, h6, z8, rfl, h7⟩ := h2
  have h9 := h7.2.2
  obtain rfl : σ0 = σ4 := Fr_nil h6
  have h10 := h9
  refine En_iEq _ rfl rfl (fun h11 => ?_) (fun h11 => ?_)
  · refine En_Ps 1 (pc' := 17) (lv' := [(1, .int ((Int32.ofInt (-1)))), (0, .ref 3)]) (st' := [.ref 3]) rfl ?_
    refine En_ldcS (i := 11) rfl rfl rfl ?_
    refine En_callV rfl rfl rfl rfl rfl rfl rfl rfl tgz_3 (by decide +kernel) rfl (c_71s11x σ0 hσ0 hC) (by decide) (by decide) (fun v13 σ14 h12 => ?_)
    obtain ⟨h15, h16, z18, rfl, h17⟩ := h12
    have h19 := h17.2.2
    obtain rfl : σ0 = σ14 := Fr_nil h16
    have h20 := h19
    refine En_iEq _ rfl rfl (fun h21 => ?_) (fun h21 => ?_)
    · refine En_Ps 1 (pc' := 31) (lv' := [(1, .int ((Int32.ofInt (-1)))), (0, .ref 3)]) (st' := [.ref 3]) rfl ?_
      refine En_ldcS (i := 7) rfl rfl rfl ?_
      refine En_callV rfl rfl rfl rfl rfl rfl rfl rfl tgz_3 (by decide +kernel) rfl (c_71s7x σ0 hσ0 hC) (by decide) (by decide) (fun v23 σ24 h22 => ?_)
      obtain ⟨h25, h26, z28, rfl, h27⟩ := h22
      have h29 := h27.2.2
      obtain rfl : σ0 = σ24 := Fr_nil h26
      have h30 := h29
      refine En_iEq _ rfl rfl (fun h31 => ?_) (fun h31 => ?_)
      · refine En_Ps 3 (pc' := 44) (lv' := [(1, .int ((Int32.ofInt (-1)))), (0, .ref 3)]) (st' := [.int ((Int32.ofInt (-1))), .int ((Int32.ofInt (-1))), .ref 3]) rfl ?_
        refine En_icEq _ (by decide : (Int32.ofInt (-1)).toInt = -1) (by decide : (Int32.ofInt (-1)).toInt = -1) rfl (fun h32 => ?_) (fun hx => by first | exact (q_9e6e7ac5cc hx).elim | (exfalso; omega))
        refine En_Ps 1 (pc' := 52) (lv' := [(1, .int ((Int32.ofInt (-1)))), (0, .ref 3)]) (st' := [.int ((Int32.ofInt 0)), .ref 3]) rfl ?_
        have := (by decide : ((Int32.ofInt 0)).toInt = 0)
        refine En_callV rfl rfl rfl rfl rfl rfl rfl rfl tgz_3 (by decide +kernel) rfl (c_59x σ0 hσ0 ((Int32.ofInt 0)) (geI (by decide : (Int32.ofInt 0).toInt = 0) (by decide)) (leI (by decide : (Int32.ofInt 0).toInt = 0) (by decide)) f h_f hC) (by decide) (by decide) (fun v34 σ35 h33 => ?_)
        obtain ⟨h36, h37, z39, h40, rfl, h38⟩ := h33
        have h41 := h38.2.2.2.2.2.2
        have h42 := Fr_trans hF0 h37 (by decide +kernel)
        have h43 : pss By Nb ((Int32.ofInt 0)).toInt Sp = tW By Nb Sp := tWc (fun zz => by (try have i0 := Imp_m h30 (by (first | exact q_d2dcd30e56 zz | omega))); (try have i1 := Imp_m h20 (by (first | exact q_d2dcd30e56 zz | omega))); (try have i2 := Imp_m h10 (by (first | exact q_d2dcd30e56 zz | omega))); (first | exact q_b2d8212733 this i2 h11 i1 h21 i0 h31 | omega))
        obtain ⟨S44, h45⟩ : ∃ q : PS, q = tW By Nb Sp := ⟨_, rfl⟩
        have h46 : CT By Nb σ35 S44 := by rw [h45]; exact (CT_eq h41 h43)
        have h47 := CT_k h46 h40
        have h48 : S44.2.2.2 = Sp.2.2.2 := by rw [h45]; exact pss_w
        have h49 : Imp (S44.1 = 0) (Sp.1 = 0) := fun z => (pss_g (by rw [h43, ← h45]; exact z)).1
        have h50 : Imp (S44.1 = 0) (((Int32.ofInt 0)).toInt = 1) := fun z => (pss_g (by rw [h43, ← h45]; exact z)).2.1
        have h51 := Imp_m h38.2.2.2.2.2.1 (by (first | exact q_c5d285f1b9 this | omega))
        refine En_Ps 1 (pc' := 56) (lv' := [(1, .int ((Int32.ofInt (-1)))), (0, .ref 3)]) (st' := [.int ((Int32.ofInt (-1)))]) rfl ?_
        refine En_top (by decide : (Int32.ofInt (-1)).toInt = -1) (fun z52 h53 => ?_)
        exact En_ret (v := some (Value.int z52)) rfl rfl rfl ⟨h36, h42, z39, h40, z52, rfl, ⟨by first | exact q_6ba54b61e9 h53 | omega, by first | exact q_0409e03873 h53 | omega, by first | exact q_1a6ee862c1 h51 | omega, by first | exact q_c733b715bf h38.2.1 | omega, by first | exact q_d22b102a8e h38.2.2.1 | omega, by first | exact q_83f4b1e050 h38.2.2.1 | omega, fun _ => by omega, ⟨CT_eq h46 (by subst h45; rfl), fun zz => wyVc (by subst h45; (try have i0 := Imp_m h50 (by (first | exact q_d2dcd30e56 zz | omega))); (try have i1 := Imp_m h49 (by (first | exact q_2527cbf79f i0 this | omega))); (try have i2 := Imp_m h30 (by (first | exact q_d2dcd30e56 i1 | omega))); (try have i3 := Imp_m h20 (by (first | exact q_d2dcd30e56 i1 | omega))); (try have i4 := Imp_m h10 (by (first | exact q_d2dcd30e56 i1 | omega))); (try have i5 := Imp_m h38.2.2.2.1 (by (first | exact q_be837d02e0 i0 this | omega))); (first | exact q_5dca538a36 i0 this | omega))⟩⟩⟩
      · refine En_Ps 5 (pc' := 44) (lv' := [(1, .int ((Int32.ofInt 2))), (0, .ref 3)]) (st' := [.int ((Int32.ofInt (-1))), .int ((Int32.ofInt 2)), .ref 3]) rfl ?_
        refine En_icEq _ (by decide : (Int32.ofInt 2).toInt = 2) (by decide : (Int32.ofInt (-1)).toInt = -1) rfl (fun hx => by first | exact (q_66a4aabbf3 hx).elim | (exfalso; omega)) (fun h54 => ?_)
        refine En_Ps 2 (pc' := 52) (lv' := [(1, .int ((Int32.ofInt 2))), (0, .ref 3)]) (st' := [.int ((Int32.ofInt 1)), .ref 3]) rfl ?_
        have := (by decide : ((Int32.ofInt 1)).toInt = 1)
        refine En_callV rfl rfl rfl rfl rfl rfl rfl rfl tgz_3 (by decide +kernel) rfl (c_59x σ0 hσ0 ((Int32.ofInt 1)) (geI (by decide : (Int32.ofInt 1).toInt = 1) (by decide)) (leI (by decide : (Int32.ofInt 1).toInt = 1) (by decide)) f h_f hC) (by decide) (by decide) (fun v56 σ57 h55 => ?_)
        obtain ⟨h58, h59, z61, h62, rfl, h60⟩ := h55
        have h63 := h60.2.2.2.2.2.2
        have h64 := Fr_trans hF0 h59 (by decide +kernel)
        have h65 : pss By Nb ((Int32.ofInt 1)).toInt Sp = tW By Nb Sp := tWc (fun zz => by (try have i0 := Imp_m h30 (by (first | exact q_d2dcd30e56 zz | omega))); (try have i1 := Imp_m h20 (by (first | exact q_d2dcd30e56 zz | omega))); (try have i2 := Imp_m h10 (by (first | exact q_d2dcd30e56 zz | omega))); (first | exact q_f96bd5b438 this i0 h31 h27.1 h27.2.1 | omega))
        obtain ⟨S66, h67⟩ : ∃ q : PS, q = tW By Nb Sp := ⟨_, rfl⟩
        have h68 : CT By Nb σ57 S66 := by rw [h67]; exact (CT_eq h63 h65)
        have h69 := CT_k h68 h62
        have h70 : S66.2.2.2 = Sp.2.2.2 := by rw [h67]; exact pss_w
        have h71 : Imp (S66.1 = 0) (Sp.1 = 0) := fun z => (pss_g (by rw [h65, ← h67]; exact z)).1
        have h72 : Imp (S66.1 = 0) (((Int32.ofInt 1)).toInt = 1) := fun z => (pss_g (by rw [h65, ← h67]; exact z)).2.1
        have h73 := Imp_m h60.2.2.2.1 (by (first | exact q_a439be255a this | omega))
        refine En_Ps 1 (pc' := 56) (lv' := [(1, .int ((Int32.ofInt 2))), (0, .ref 3)]) (st' := [.int ((Int32.ofInt 2))]) rfl ?_
        refine En_top (by decide : (Int32.ofInt 2).toInt = 2) (fun z74 h75 => ?_)
        exact En_ret (v := some (Value.int z74)) rfl rfl rfl ⟨h58, h64, z61, h62, z74, rfl, ⟨by first | exact q_3eaee27298 h75 | omega, by first | exact q_e932286a6d h75 | omega, by first | exact q_a555021d16 h60.1 | omega, by first | exact q_c733b715bf h60.2.1 | omega, by first | exact q_d22b102a8e h60.2.2.1 | omega, by first | exact q_83f4b1e050 h60.2.2.1 | omega, fun hh => by first | exact q_1984c8b6d4 h75 | omega, ⟨CT_eq h68 (by subst h67; rfl), fun zz => wyVc (by subst h67; (try have i0 := Imp_m h72 (by (first | exact q_d2dcd30e56 zz | omega))); (try have i1 := Imp_m h71 (by (first | exact q_d2dcd30e56 zz | omega))); (try have i2 := Imp_m h30 (by (first | exact q_d2dcd30e56 i1 | omega))); (try have i3 := Imp_m h20 (by (first | exact q_d2dcd30e56 i1 | omega))); (try have i4 := Imp_m h10 (by (first | exact q_d2dcd30e56 i1 | omega))); (try have i5 := Imp_m h60.2.2.2.2.2.1 (by omega)); (first | exact q_24a54b91bf i4 h11 i3 h21 h75 | omega))⟩⟩⟩
    · refine En_Ps 6 (pc' := 44) (lv' := [(1, .int ((Int32.ofInt 1))), (0, .ref 3)]) (st' := [.int ((Int32.ofInt (-1))), .int ((Int32.ofInt 1)), .ref 3]) rfl ?_
      refine En_icEq _ (by decide : (Int32.ofInt 1).toInt = 1) (by decide : (Int32.ofInt (-1)).toInt = -1) rfl (fun hx => by first | exact (q_38251b0c5f hx).elim | (exfalso; omega)) (fun h76 => ?_)
      refine En_Ps 2 (pc' := 52) (lv' := [(1, .int ((Int32.ofInt 1))), (0, .ref 3)]) (st' := [.int ((Int32.ofInt 1)), .ref 3]) rfl ?_
      have := (by decide : ((Int32.ofInt 1)).toInt = 1)
      refine En_callV rfl rfl rfl rfl rfl rfl rfl rfl tgz_3 (by decide +kernel) rfl (c_59x σ0 hσ0 ((Int32.ofInt 1)) (geI (by decide : (Int32.ofInt 1).toInt = 1) (by decide)) (leI (by decide : (Int32.ofInt 1).toInt = 1) (by decide)) f h_f hC) (by decide) (by decide) (fun v78 σ79 h77 => ?_)
      obtain ⟨h80, h81, z83, h84, rfl, h82⟩ := h77
      have h85 := h82.2.2.2.2.2.2
      have h86 := Fr_trans hF0 h81 (by decide +kernel)
      have h87 : pss By Nb ((Int32.ofInt 1)).toInt Sp = tW By Nb Sp := tWc (fun zz => by (try have i0 := Imp_m h20 (by (first | exact q_d2dcd30e56 zz | omega))); (try have i1 := Imp_m h10 (by (first | exact q_d2dcd30e56 zz | omega))); (first | exact q_5ffdc1474e this i0 h21 h17.1 h17.2.1 | omega))
      obtain ⟨S88, h89⟩ : ∃ q : PS, q = tW By Nb Sp := ⟨_, rfl⟩
      have h90 : CT By Nb σ79 S88 := by rw [h89]; exact (CT_eq h85 h87)
      have h91 := CT_k h90 h84
      have h92 : S88.2.2.2 = Sp.2.2.2 := by rw [h89]; exact pss_w
      have h93 : Imp (S88.1 = 0) (Sp.1 = 0) := fun z => (pss_g (by rw [h87, ← h89]; exact z)).1
      have h94 : Imp (S88.1 = 0) (((Int32.ofInt 1)).toInt = 1) := fun z => (pss_g (by rw [h87, ← h89]; exact z)).2.1
      have h95 := Imp_m h82.2.2.2.1 (by (first | exact q_a439be255a this | omega))
      refine En_Ps 1 (pc' := 56) (lv' := [(1, .int ((Int32.ofInt 1))), (0, .ref 3)]) (st' := [.int ((Int32.ofInt 1))]) rfl ?_
      refine En_top (by decide : (Int32.ofInt 1).toInt = 1) (fun z96 h97 => ?_)
      exact En_ret (v := some (Value.int z96)) rfl rfl rfl ⟨h80, h86, z83, h84, z96, rfl, ⟨by first | exact q_4dd9459605 h97 | omega, by first | exact q_a726a5ea71 h97 | omega, by first | exact q_a555021d16 h82.1 | omega, by first | exact q_c733b715bf h82.2.1 | omega, by first | exact q_d22b102a8e h82.2.2.1 | omega, by first | exact q_83f4b1e050 h82.2.2.1 | omega, fun hh => by first | exact q_ad3eee31ca h97 | omega, ⟨CT_eq h90 (by subst h89; rfl), fun zz => wyVc (by subst h89; (try have i0 := Imp_m h94 (by (first | exact q_d2dcd30e56 zz | omega))); (try have i1 := Imp_m h93 (by (first | exact q_d2dcd30e56 zz | omega))); (try have i2 := Imp_m h20 (by (first | exact q_d2dcd30e56 i1 | omega))); (try have i3 := Imp_m h10 (by (first | exact q_d2dcd30e56 i1 | omega))); (try have i4 := Imp_m h82.2.2.2.2.2.1 (by omega)); (first | exact q_c4ee64f454 i3 h11 i2 h21 h17.1 h17.2.1 h97 | omega))⟩⟩⟩
  · refine En_Ps 6 (pc' := 44) (lv' := [(1, .int ((Int32.ofInt 0))), (0, .ref 3)]) (st' := [.int ((Int32.ofInt (-1))), .int ((Int32.ofInt 0)), .ref 3]) rfl ?_
    refine En_icEq _ (by decide : (Int32.ofInt 0).toInt = 0) (by decide : (Int32.ofInt (-1)).toInt = -1) rfl (fun hx => by first | exact (q_29857eacf7 hx).elim | (exfalso; omega)) (fun h98 => ?_)
    refine En_Ps 2 (pc' := 52) (lv' := [(1, .int ((Int32.ofInt 0))), (0, .ref 3)]) (st' := [.int ((Int32.ofInt 1)), .ref 3]) rfl ?_
    have := (by decide : ((Int32.ofInt 1)).toInt = 1)
    refine En_callV rfl rfl rfl rfl rfl rfl rfl rfl tgz_3 (by decide +kernel) rfl (c_59x σ0 hσ0 ((Int32.ofInt 1)) (geI (by decide : (Int32.ofInt 1).toInt = 1) (by decide)) (leI (by decide : (Int32.ofInt 1).toInt = 1) (by decide)) f h_f hC) (by decide) (by decide) (fun v100 σ101 h99 => ?_)
    obtain ⟨h102, h103, z105, h106, rfl, h104⟩ := h99
    have h107 := h104.2.2.2.2.2.2
    have h108 := Fr_trans hF0 h103 (by decide +kernel)
    have h109 : pss By Nb ((Int32.ofInt 1)).toInt Sp = tW By Nb Sp := tWc (fun zz => by (try have i0 := Imp_m h10 (by (first | exact q_d2dcd30e56 zz | omega))); (first | exact q_2462d38059 this i0 h11 h7.1 h7.2.1 | omega))
    obtain ⟨S110, h111⟩ : ∃ q : PS, q = tW By Nb Sp := ⟨_, rfl⟩
    have h112 : CT By Nb σ101 S110 := by rw [h111]; exact (CT_eq h107 h109)
    have h113 := CT_k h112 h106
    have h114 : S110.2.2.2 = Sp.2.2.2 := by rw [h111]; exact pss_w
    have h115 : Imp (S110.1 = 0) (Sp.1 = 0) := fun z => (pss_g (by rw [h109, ← h111]; exact z)).1
    have h116 : Imp (S110.1 = 0) (((Int32.ofInt 1)).toInt = 1) := fun z => (pss_g (by rw [h109, ← h111]; exact z)).2.1
    have h117 := Imp_m h104.2.2.2.1 (by (first | exact q_a439be255a this | omega))
    refine En_Ps 1 (pc' := 56) (lv' := [(1, .int ((Int32.ofInt 0))), (0, .ref 3)]) (st' := [.int ((Int32.ofInt 0))]) rfl ?_
    refine En_top (by decide : (Int32.ofInt 0).toInt = 0) (fun z118 h119 => ?_)
    exact En_ret (v := some (Value.int z118)) rfl rfl rfl ⟨h102, h108, z105, h106, z118, rfl, ⟨by first | exact q_83da3d7e14 h119 | omega, by first | exact q_c4a7b98196 h119 | omega, by first | exact q_a555021d16 h104.1 | omega, by first | exact q_c733b715bf h104.2.1 | omega, by first | exact q_d22b102a8e h104.2.2.1 | omega, by first | exact q_83f4b1e050 h104.2.2.1 | omega, fun hh => by first | exact q_097a37c2ae h119 | omega, ⟨CT_eq h112 (by subst h111; rfl), fun zz => wyVc (by subst h111; (try have i0 := Imp_m h116 (by (first | exact q_d2dcd30e56 zz | omega))); (try have i1 := Imp_m h115 (by (first | exact q_d2dcd30e56 zz | omega))); (try have i2 := Imp_m h10 (by (first | exact q_d2dcd30e56 i1 | omega))); (try have i3 := Imp_m h104.2.2.2.2.2.1 (by omega)); (first | exact q_00507a37db i2 h11 h7.1 h7.2.1 h119 | omega))⟩⟩⟩
/-- DoorSchool$Reader.readDoor(LDoorSchool$Plan;)V -/
abbrev P_63x (σ0 : SG) (By : Int → Int) (Nb : Int) (Sp : PS) (a : Nat) (f : Int32) (sg : Int32) : PO := fun v σ => WT σ ∧ Fr [(3, 1), (3, 2), (3, 3), (3, 4), (3, 5), (3, 6), (18, 3), (20, 2), (28, 1), (28, 2), (28, 3)] σ0 σ ∧ ∃ f1 : Int32, (σ 3)[5]? = some (Value.int f1) ∧ v = none ∧ OUT σ0 σ a ∧ -f1.toInt ≤ 0 ∧ f1.toInt - 3 ≤ 0 ∧ -f1.toInt + f.toInt ≤ 0 ∧ f.toInt - f1.toInt ≤ 0 ∧ (CT By Nb σ (fDoor By Nb Sp) ∧ ((fDoor By Nb Sp).1 = 0 → KN σ a (fDoor By Nb Sp).2.2.2 (act (fDoor By Nb Sp).2.2.2)))
set_option maxRecDepth 10000 in
set_option maxHeartbeats 4000000 in
theorem c_63x {By : Int → Int} {Nb : Int} {Sp : PS} (σ0 : SG) (hσ0 : WT σ0) (a : Nat) (ha : TG a = 18) (f : Int32) (h_f : (σ0 3)[5]? = some (Value.int f)) (sg : Int32) (h_sg : (σ0 a)[1]? = some (Value.int sg)) (hp0 : -sg.toInt ≤ 0) (hC : CT By Nb σ0 Sp) (hg : Sp.1 = 0) (hP : PLA a) (hX : FXP σ0 a) (hK : KN σ0 a Sp.2.2.2 (act Sp.2.2.2)) : En 6 133 none mr_63 (P_63x σ0 By Nb Sp a f sg) 0 [(0, .ref 3), (1, .ref a)] [] σ0 := by
  obtain ⟨hl_f, hu_f⟩ := WT_int hσ0 (g := 3) (by decide +kernel) (by decide +kernel) (l := 0) (u := 3) (by decide +kernel) h_f
  obtain ⟨hl_sg, hu_sg⟩ := WT_int hσ0 (g := 18) ha (by decide +kernel) (l := (-1)) (u := 4) (by decide +kernel) h_sg
  have hF0 : Fr [(3, 1), (3, 2), (3, 3), (3, 4), (3, 5), (3, 6), (18, 3), (20, 2), (28, 1), (28, 2), (28, 3)] σ0 σ0 := Fr_rfl
  have h1 := CT_k hC h_f
  obtain ⟨z3, h2, h4, h5⟩ := WT_peekI hσ0 ha (by decide +kernel : FT 18 3 = (0, 0, 4)) (by decide +kernel)
  have h6 : Sp.2.2.2 2 = z3.toInt := KN_v hK (Or.inl (by decide)) (by decide) (by decide) (by rw [lcO_lt (by decide) (by decide), Nat.add_zero]) rfl h2
  refine En_Ps 1 (pc' := 1) (lv' := [(0, .ref 3), (1, .ref a)]) (st' := [.ref a]) rfl ?_
  refine En_getK (j := 3) h2 rfl rfl rfl ha (by decide +kernel) ?_
  refine En_Ps 1 (pc' := 5) (lv' := [(0, .ref 3), (1, .ref a)]) (st' := [.int ((Int32.ofInt 4)), .int z3]) rfl ?_
  refine En_icLt _ rfl (by decide : (Int32.ofInt 4).toInt = 4) rfl (fun h7 => ?_) (fun h7 => ?_)
  · refine En_Ps 1 (pc' := 15) (lv' := [(0, .ref 3), (1, .ref a)]) (st' := [.ref 3]) rfl ?_
    obtain ⟨z9, h8, h10, h11⟩ := WT_peekI hσ0 tgz_3 (by decide +kernel : FT 3 3 = (0, 0, 1600)) (by decide +kernel)
    refine En_callV rfl rfl rfl rfl rfl rfl rfl rfl tgz_3 (by decide +kernel) rfl (c_72x σ0 hσ0 z9 h8 hC.1 (CT_at hC (by (first | exact q_d2dcd30e56 hg | omega)) h8)) (by decide) (by decide) (fun v13 σ14 h12 => ?_)
    obtain ⟨h15, h16, rfl, h17⟩ := h12
    have h18 := h17
    have h19 := Fr_trans hF0 h16 (by decide +kernel)
    obtain ⟨S20, h21⟩ : ∃ q : PS, q = adv By Nb Sp := ⟨_, rfl⟩
    have h22 : CT By Nb σ14 S20 := by rw [h21]; exact (CT_adv hC (by (first | exact q_d2dcd30e56 hg | omega)) h8 h16 (by decide +kernel) h18.2)
    have h23 := CT_k h22 ((h16 _ _ (inW tgz_3 (by decide +kernel))).trans h_f)
    have h24 : S20.2.2.2 = Sp.2.2.2 := by rw [h21]; exact adv_w
    have h25 : S20.1 = Sp.1 := by rw [h21]; exact adv_1
    have h26 := KN_fr hP hK h16 (by decide +kernel)
    have h27 : S20.2.2.2 = Sp.2.2.2 := h24.trans (rfl : Sp.2.2.2 = Sp.2.2.2)
    have o28 : OUT σ0 σ14 a := OUT_fr OUT_0 h16 (by decide +kernel)
    refine En_Ps 1 (pc' := 19) (lv' := [(0, .ref 3), (1, .ref a)]) (st' := [.ref 3]) rfl ?_
    refine En_callV rfl rfl rfl rfl rfl rfl rfl rfl tgz_3 (by decide +kernel) rfl (c_75x σ14 h15 f ((h16 _ _ (inW tgz_3 (by decide +kernel))).trans h_f) h22) (by decide) (by decide) (fun v30 σ31 h29 => ?_)
    obtain ⟨h32, h33, z35, h36, z37, rfl, h34⟩ := h29
    have h38 := h34.2.2.2.2.2.2.2
    have h39 := Fr_trans h19 h33 (by decide +kernel)
    obtain ⟨S40, h41⟩ : ∃ q : PS, q = tW By Nb S20 := ⟨_, rfl⟩
    have h42 : CT By Nb σ31 S40 := by rw [h41]; exact h38.1
    have h43 := CT_k h42 h36
    have h44 : Imp (S40.1 = 0) (z37.toInt = wyV By Nb S20) := fun z => Imp_m h38.2 (by rw [← h41]; exact z)
    have h45 : Imp (S40.1 = 0) (S20.1 = 0) := fun z => tW_g (by rw [← h41]; exact z)
    have h46 : S40.2.2.2 = S20.2.2.2 := by rw [h41]; exact tW_w
    have h47 := KN_fr hP h26 h33 (by decide +kernel)
    have h48 : S40.2.2.2 = Sp.2.2.2 := h46.trans h27
    have o49 : OUT σ0 σ31 a := OUT_fr o28 h33 (by decide +kernel)
    refine En_Ps 3 (pc' := 25) (lv' := [(2, .int z37), (0, .ref 3), (1, .ref a)]) (st' := [.ref 3, .ref 3]) rfl ?_
    refine En_ldcS (i := 14) rfl rfl rfl ?_
    refine En_callV rfl rfl rfl rfl rfl rfl rfl rfl tgz_3 (by decide +kernel) rfl (c_71s14x σ31 h32 h42) (by decide) (by decide) (fun v51 σ52 h50 => ?_)
    obtain ⟨h53, h54, z56, rfl, h55⟩ := h50
    have h57 := h55.2.2
    obtain rfl : σ31 = σ52 := Fr_nil h54
    have h58 := h57
    refine En_callV rfl rfl rfl rfl rfl rfl rfl rfl tgz_3 (by decide +kernel) rfl (c_59x σ31 h32 z56 (geI rfl (by first | exact q_ef1e8e38bf h55.1 | omega)) (leI rfl (by first | exact q_733c8bfbae h55.2.1 | omega)) z35 h36 h42) (by decide) (by decide) (fun v60 σ61 h59 => ?_)
    obtain ⟨h62, h63, z65, h66, rfl, h64⟩ := h59
    have h67 := h64.2.2.2.2.2.2
    have h68 := Fr_trans h39 h63 (by decide +kernel)
    have h69 : pss By Nb z56.toInt S40 = pss By Nb (iW By Nb 14 S40) S40 := pss_cg2 (fun zz => by (try have i0 := Imp_m h58 (by (first | exact q_d2dcd30e56 zz | omega))); (try have i1 := Imp_m h45 (by (first | exact q_d2dcd30e56 zz | omega))); (try have i2 := Imp_m h44 (by (first | exact q_d2dcd30e56 zz | omega))); (try have i3 := Imp_m h34.2.2.2.2.2.2.1 (by (first | exact q_d8d8e6600d h43 zz | omega))); (first | exact q_b1495600e7 i0 | omega))
    obtain ⟨S70, h71⟩ : ∃ q : PS, q = pss By Nb (iW By Nb 14 S40) S40 := ⟨_, rfl⟩
    have h72 : CT By Nb σ61 S70 := by rw [h71]; exact (CT_eq h67 h69)
    have h73 := CT_k h72 h66
    have h74 : S70.2.2.2 = S40.2.2.2 := by rw [h71]; exact pss_w
    have h75 : Imp (S70.1 = 0) (S40.1 = 0) := fun z => (pss_g (by rw [h69, ← h71]; exact z)).1
    have h76 : Imp (S70.1 = 0) (z56.toInt = 1) := fun z => (pss_g (by rw [h69, ← h71]; exact z)).2.1
    have h77 := KN_fr hP h47 h63 (by decide +kernel)
    have h78 : S70.2.2.2 = Sp.2.2.2 := h74.trans h48
    have o79 : OUT σ0 σ61 a := OUT_fr o49 h63 (by decide +kernel)
    refine En_Ps 3 (pc' := 37) (lv' := [(2, .int z37), (0, .ref 3), (1, .ref a)]) (st' := [.int (((Int8.ofInt 50).toInt32)), .int ((Int32.ofInt 0)), .ref 3]) rfl ?_
    have := (by decide : ((Int32.ofInt 0)).toInt = 0)
    have := (by decide : (((Int8.ofInt 50).toInt32)).toInt = 50)
    refine En_callV rfl rfl rfl rfl rfl rfl rfl rfl tgz_3 (by decide +kernel) rfl (c_73x σ61 h62 ((Int32.ofInt 0)) (((Int8.ofInt 50).toInt32)) z65 h66 h72) (by decide) (by decide) (fun v81 σ82 h80 => ?_)
    obtain ⟨h83, h84, z86, h87, z88, rfl, h85⟩ := h80
    have h89 := h85.2.2.2.2.2.2.2.2.2
    have h90 := Fr_trans h68 h84 (by decide +kernel)
    have h91 : tN By Nb ((Int32.ofInt 0)).toInt (((Int8.ofInt 50).toInt32)).toInt S70 = tN By Nb (0) (50) S70 := tN_cg2 (fun zz => by (first | exact q_d2dcd30e56 (by decide) | omega)) (fun zz => by (first | exact q_cd3ef21b91 this | omega))
    obtain ⟨S92, h93⟩ : ∃ q : PS, q = tN By Nb (0) (50) S70 := ⟨_, rfl⟩
    have h94 : CT By Nb σ82 S92 := by rw [h93]; exact (CT_eq h89.1 h91)
    have h95 := CT_k h94 h87
    have h96 : Imp (S92.1 = 0) (z88.toInt = tV By Nb S70.2.2.1) := fun z => Imp_m h89.2 (by rw [h91, ← h93]; exact z)
    have h97 : Imp (S92.1 = 0) (S70.1 = 0 ∧ tK By Nb S70.2.2.1 = 2 ∧ 0 ≤ tV By Nb S70.2.2.1 ∧ tV By Nb S70.2.2.1 ≤ 50) := fun z => tN_gg (by rw [← h93]; exact z)
    have h98 : S92.2.2.2 = S70.2.2.2 := by rw [h93]; exact tN_w
    have h99 := KN_fr hP h77 h84 (by decide +kernel)
    have h100 : S92.2.2.2 = Sp.2.2.2 := h98.trans h78
    have o101 : OUT σ0 σ82 a := OUT_fr o79 h84 (by decide +kernel)
    have h102 := Imp_m h85.2.2.2.2.2.2.2.1 (by (first | exact q_7abe03e71a this | omega))
    have h103 := Imp_m h85.2.2.2.2.2.2.2.2.1 (by (first | exact q_83da3d7e14 (by decide) | omega))
    refine En_Ps 2 (pc' := 42) (lv' := [(3, .int z88), (2, .int z37), (0, .ref 3), (1, .ref a)]) (st' := [.ref 3]) rfl ?_
    refine En_getK (j := 5) h87 rfl rfl rfl tgz_3 (by decide +kernel) ?_
    refine En_iNe _ rfl rfl (fun h104 => ?_) (fun h104 => ?_)
    · have h105 := Imp_m h85.2.2.2.2.2.2.1 (by first | exact q_e3350da514 h104 h85.2.1 | omega)
      have h106 : fDoor By Nb Sp = S92 := by unfold fDoor; (try dsimp only); first | (rw [← h21, ← h41, ← h71, ← h93]; first | done | rfl) | (rw [← h21, ← h41, ← h71, ← h93]; rw [if_pos (by omega)]; first | done | rfl) | (rw [← h21, ← h41, ← h71, ← h93]; rw [if_neg (by (first | exact q_5d6df0d229 h6 h7 | omega))]; first | done | rfl) | (rw [← h21, ← h41, ← h71, ← h93]; rw [if_neg (by (first | exact q_5d6df0d229 h6 h7 | omega)), if_pos (by omega)]; first | done | rfl) | (rw [← h21, ← h41, ← h71, ← h93]; rw [if_neg (by (first | exact q_5d6df0d229 h6 h7 | omega)), if_neg (by (first | exact q_57b55acfde h104 h85.2.1 h95 | omega))]; first | done | rfl) | (rw [← h21, ← h41, ← h71, ← h93]; rw [if_neg (by omega), if_neg (by omega), if_neg (by omega)]; first | done | rfl)
      exact En_ret (v := none) rfl rfl rfl ⟨h83, h90, z86, h87, rfl, ⟨o101, by first | exact q_bc42505ae9 h104 h85.2.1 | omega, by first | exact q_c733b715bf h85.2.2.1 | omega, by first | exact q_06e02fd287 h34.2.2.2.2.1 h64.2.2.1 h85.2.2.2.1 | omega, by first | exact q_5ee31f9195 h34.2.2.2.2.1 h64.2.2.1 h85.2.2.2.1 | omega, (by rw [h106]; exact ⟨h94, fun z => absurd z (by (first | exact q_ae2d14d533 h104 h85.2.1 h95 z | omega))⟩)⟩⟩
    · have h107 := Imp_m h34.2.2.2.2.2.2.1 (by first | exact q_aa3c9d52ea h64.2.2.1 h85.2.2.2.1 h104 | omega)
      have h108 := Imp_m h85.2.2.2.2.2.1 (by first | exact q_c5d285f1b9 h104 | omega)
      try have h109 := Imp_m h97 (by (first | exact q_ca23768860 h95 h104 | omega))
      try have h110 := Imp_m h96 (by (first | exact q_ca23768860 h95 h104 | omega))
      try have h111 := Imp_m h76 (by (first | exact q_d2dcd30e56 h109.1 | omega))
      try have h112 := Imp_m h75 (by (first | exact q_d2dcd30e56 h109.1 | omega))
      try have h113 := Imp_m h58 (by (first | exact q_d2dcd30e56 h112 | omega))
      try have h114 := Imp_m h45 (by (first | exact q_d2dcd30e56 h112 | omega))
      try have h115 := Imp_m h44 (by (first | exact q_d2dcd30e56 h112 | omega))
      refine En_Ps 1 (pc' := 49) (lv' := [(3, .int z88), (2, .int z37), (0, .ref 3), (1, .ref a)]) (st' := [.ref a]) rfl ?_
      refine En_getR (j := 4) (g' := 19) (u := 0) rfl rfl rfl ha (by decide +kernel) h83 (by decide +kernel) (fun a117 h116 ha117 => ?_)
      refine En_Ps 1 (pc' := 53) (lv' := [(3, .int z88), (2, .int z37), (0, .ref 3), (1, .ref a)]) (st' := [.ref a, .ref a117]) rfl ?_
      refine En_getK (j := 3) ((h84 _ _ (inW ha (by decide +kernel))).trans ((h63 _ _ (inW ha (by decide +kernel))).trans ((h33 _ _ (inW ha (by decide +kernel))).trans ((h16 _ _ (inW ha (by decide +kernel))).trans h2)))) rfl rfl rfl ha (by decide +kernel) ?_
      refine En_aald (g' := 28) (u := 0) rfl rfl ha117 (by decide +kernel) h83 (by first | exact q_58e6e51dcc h4 | omega) (lnI (by decide +kernel : LN _ = 4) (by first | exact q_074a8b422d h7 | omega)) (FTsgl (by decide +kernel)) (fun a119 h118 ha119 => ?_)
      have h120 := DRc (d := z3.toInt) (FXP_fr hP hX h90 (by decide +kernel)) h116 h118 (by (first | exact q_58e6e51dcc h4 | omega)) (by (first | exact q_d7767d4ccc h7 | omega))
      have h121 := lc_d (d := z3.toInt) (by (first | exact q_58e6e51dcc h4 | omega)) (by (first | exact q_d7767d4ccc h7 | omega))
      obtain ⟨a124, h123, ha124⟩ := WT_peekR (g := 28) (j := 0) (g' := 20) (u := 0) h83 ha119 (by decide +kernel) (by decide +kernel)
      have h122 := DLc (d := z3.toInt) (FXP_fr hP hX h90 (by decide +kernel)) h120 h123 (by (first | exact q_58e6e51dcc h4 | omega)) (by (first | exact q_d7767d4ccc h7 | omega))
      refine En_Ps 2 (pc' := 59) (lv' := [(3, .int z88), (2, .int z37), (0, .ref 3), (1, .ref a)]) (st' := [.int z88, .int z37, .ref a119]) rfl ?_
      refine En_callV rfl rfl rfl rfl rfl rfl rfl rfl ha119 (by decide +kernel) rfl (c_12x σ82 h83 a119 ha119 z37 z88 (geI rfl (by first | exact q_ef1e8e38bf h107 | omega)) (leI rfl (by first | exact q_2b081929f3 h34.2.1 | omega)) (geI rfl (by (first | exact q_39e281d0cf h108.1 (by decide) | omega))) (leI rfl (by (first | exact q_c47543950c h108.2 this | omega))) a124 ha124 h123) (by decide) (by decide) (fun v126 σ127 h125 => ?_)
      obtain ⟨h128, h129, rfl, h130⟩ := h125
      have h131 := h130
      have h132 := Fr_trans h90 h129 (by decide +kernel)
      obtain ⟨S133, h134⟩ : ∃ q : PS, q = wst (wst (wst (wst S92 (10 + 4 * Sp.2.2.2 2) (wyV By Nb S20)) (10 + 4 * Sp.2.2.2 2 + 1) (tV By Nb S70.2.2.1)) (10 + 4 * Sp.2.2.2 2 + 2) 0) (10 + 4 * Sp.2.2.2 2 + 3) (-1) := ⟨_, rfl⟩
      have h135 : CT By Nb σ127 S133 := by rw [h134]; exact CT_wst (CT_wst (CT_wst (CT_wst (CT_fr h94 h129 (by decide +kernel)))))
      have h138 : z3.toInt = Sp.2.2.2 2 := by (first | exact q_a8fb2024c1 h6 | omega)
      have h136 : KN σ127 a (uPd (uPd (uPd (uPd Sp.2.2.2 (10 + 4 * Sp.2.2.2 2) (wyV By Nb S20)) (10 + 4 * Sp.2.2.2 2 + 1) (tV By Nb S70.2.2.1)) (10 + 4 * Sp.2.2.2 2 + 2) 0) (10 + 4 * Sp.2.2.2 2 + 3) (-1)) (fun t => ((((act Sp.2.2.2 t ∨ t = 10 + 4 * Sp.2.2.2 2) ∨ t = 10 + 4 * Sp.2.2.2 2 + 1) ∨ t = 10 + 4 * Sp.2.2.2 2 + 2) ∨ t = 10 + 4 * Sp.2.2.2 2 + 3)) := KN_w (KN_bgn (d := Sp.2.2.2 2) h99 h131 (by (first | exact q_5c99692a5e h138 h4 | omega)) (by (first | exact q_cf6c8ae1e9 h138 h7 | omega)) (by rw [← h138]; exact h120) (by rw [← h138]; exact h122)) (uPd4_cg (by (first | exact q_b1495600e7 h115 | omega)) (by (first | exact q_b1495600e7 h110 | omega)))
      have h137 : S133.2.2.2 = (uPd (uPd (uPd (uPd Sp.2.2.2 (10 + 4 * Sp.2.2.2 2) (wyV By Nb S20)) (10 + 4 * Sp.2.2.2 2 + 1) (tV By Nb S70.2.2.1)) (10 + 4 * Sp.2.2.2 2 + 2) 0) (10 + 4 * Sp.2.2.2 2 + 3) (-1)) := by rw [h134]; show uPd (uPd (uPd (uPd S92.2.2.2 _ _) _ _) _ _) _ _ = _; rw [h100]
      have h139 : S133.1 = S92.1 := by rw [h134]; rfl
      have o140 : OUT σ0 σ127 a := OUT_bgn o101 h131 (by omega) (by omega)
      refine En_Ps 2 (pc' := 64) (lv' := [(3, .int z88), (2, .int z37), (0, .ref 3), (1, .ref a)]) (st' := [.ref a, .ref a]) rfl ?_
      refine En_getK (j := 3) ((h129 _ _ (inW ha (by decide +kernel))).trans ((h84 _ _ (inW ha (by decide +kernel))).trans ((h63 _ _ (inW ha (by decide +kernel))).trans ((h33 _ _ (inW ha (by decide +kernel))).trans ((h16 _ _ (inW ha (by decide +kernel))).trans h2))))) rfl rfl rfl ha (by decide +kernel) ?_
      refine En_Ps 2 (pc' := 69) (lv' := [(3, .int z88), (2, .int z37), (0, .ref 3), (1, .ref a)]) (st' := [.int ((z3 + ((Int32.ofInt 1)))), .ref a]) rfl ?_
      refine En_top (addI rfl (by decide : (Int32.ofInt 1).toInt = 1) (by first | exact q_465ab79ac1 h4 | omega) (by first | exact q_d8bf7f475a h7 | omega)) (fun z141 h142 => ?_)
      refine En_put (j := 3) rfl rfl rfl ha (by decide +kernel) rfl (vI (l := 0) (u := 4) (by decide +kernel) rfl (by first | exact q_35104ce9d3 h142 h4 | omega) (by first | exact q_ddc5c16a68 h142 h7 | omega)) h128 h132 (by decide +kernel) (fun σ143 h144 h145 h146 h147 => ?_)
      obtain ⟨S148, h149⟩ : ∃ q : PS, q = wst S133 (2) (Sp.2.2.2 2 + 1) := ⟨_, rfl⟩
      have h150 : CT By Nb σ143 S148 := by rw [h149]; exact CT_wst (CT_ne h135 h147 (by have := hP; unfold PLA at this; omega))
      have h151 : KN σ143 a (uPd (uPd (uPd (uPd (uPd Sp.2.2.2 (10 + 4 * Sp.2.2.2 2) (wyV By Nb S20)) (10 + 4 * Sp.2.2.2 2 + 1) (tV By Nb S70.2.2.1)) (10 + 4 * Sp.2.2.2 2 + 2) 0) (10 + 4 * Sp.2.2.2 2 + 3) (-1)) (2) (Sp.2.2.2 2 + 1)) (fun t => (((((act Sp.2.2.2 t ∨ t = 10 + 4 * Sp.2.2.2 2) ∨ t = 10 + 4 * Sp.2.2.2 2 + 1) ∨ t = 10 + 4 * Sp.2.2.2 2 + 2) ∨ t = 10 + 4 * Sp.2.2.2 2 + 3) ∨ t = 2)) := KN_st h136 h146 h147 (by (first | decide | omega)) (by (first | decide | omega)) (by rw [lcO_lt (by decide) (by decide), Nat.add_zero]) (by decide) (by (try have i0 := Imp_m h97 (by (first | exact q_ca23768860 h95 h104 | omega))); (try have i1 := Imp_m h96 (by (first | exact q_ca23768860 h95 h104 | omega))); (try have i2 := Imp_m h76 (by (first | exact q_d2dcd30e56 i0.1 | omega))); (try have i3 := Imp_m h75 (by (first | exact q_d2dcd30e56 i0.1 | omega))); (try have i4 := Imp_m h58 (by (first | exact q_d2dcd30e56 i3 | omega))); (try have i5 := Imp_m h45 (by (first | exact q_d2dcd30e56 i3 | omega))); (try have i6 := Imp_m h44 (by (first | exact q_d2dcd30e56 i3 | omega))); (try have i7 := Imp_m h64.2.2.2.1 (by (first | exact q_a439be255a i2 | omega))); (try have i8 := Imp_m h64.2.2.2.2.2.1 (by omega)); (try have i9 := Imp_m h85.2.2.2.2.2.2.1 (by (first | exact q_c15b962208 h104 h85.2.2.2.1 i8 | omega))); (first | exact q_7c897bc128 h142 h138 | omega))
      have h152 : S148.2.2.2 = (uPd (uPd (uPd (uPd (uPd Sp.2.2.2 (10 + 4 * Sp.2.2.2 2) (wyV By Nb S20)) (10 + 4 * Sp.2.2.2 2 + 1) (tV By Nb S70.2.2.1)) (10 + 4 * Sp.2.2.2 2 + 2) 0) (10 + 4 * Sp.2.2.2 2 + 3) (-1)) (2) (Sp.2.2.2 2 + 1)) := by rw [h149]; show uPd S133.2.2.2 _ _ = _; rw [h137]
      have h153 : S148.1 = S133.1 := by rw [h149]; rfl
      have h154 := CT_k h150 ((h147 _ _ (Or.inr (by decide))).trans ((h129 _ _ (inW tgz_3 (by decide +kernel))).trans h87))
      have o155 : OUT σ0 σ143 a := OUT_st o140 h147 (by omega)
      have h156 : fDoor By Nb Sp = S148 := by unfold fDoor; (try dsimp only); first | (rw [← h21, ← h41, ← h71, ← h93, ← h134, ← h149]; first | done | rfl) | (rw [← h21, ← h41, ← h71, ← h93, ← h134, ← h149]; rw [if_pos (by omega)]; first | done | rfl) | (rw [← h21, ← h41, ← h71, ← h93, ← h134, ← h149]; rw [if_neg (by (first | exact q_4d44302f46 h138 h7 | omega))]; first | done | rfl) | (rw [← h21, ← h41, ← h71, ← h93, ← h134, ← h149]; rw [if_neg (by (first | exact q_4d44302f46 h138 h7 | omega)), if_pos (by (first | exact q_ca23768860 h95 h104 | omega))]; first | done | rfl) | (rw [← h21, ← h41, ← h71, ← h93, ← h134, ← h149]; rw [if_neg (by omega), if_neg (by omega)]; first | done | rfl) | (rw [← h21, ← h41, ← h71, ← h93, ← h134, ← h149]; rw [if_neg (by omega), if_neg (by omega), if_neg (by omega)]; first | done | rfl)
      exact En_ret (v := none) rfl rfl rfl ⟨h144, h145, z86, ((h147 _ _ (Or.inr (by decide))).trans ((h129 _ _ (inW tgz_3 (by decide +kernel))).trans h87)), rfl, ⟨o155, by first | exact q_a555021d16 h85.2.1 | omega, by first | exact q_bd3fa30443 h104 | omega, by first | exact q_06e02fd287 h34.2.2.2.2.1 h64.2.2.1 h85.2.2.2.1 | omega, by first | exact q_5ee31f9195 h34.2.2.2.2.1 h64.2.2.1 h85.2.2.2.1 | omega, (by rw [h156]; exact ⟨h150, fun zz => by rw [h152]; exact KN_sub h151 (fun t t0 t1 y => ADr (act_dr (by (first | exact q_5c99692a5e h138 h4 | omega)) (by (first | exact q_cf6c8ae1e9 h138 h7 | omega)) y))⟩)⟩⟩
  · refine En_Ps 2 (pc' := 10) (lv' := [(0, .ref 3), (1, .ref a)]) (st' := [.int ((Int32.ofInt 3)), .ref 3]) rfl ?_
    have := (by decide : ((Int32.ofInt 3)).toInt = 3)
    refine En_callV rfl rfl rfl rfl rfl rfl rfl rfl tgz_3 (by decide +kernel) rfl (c_54x σ0 hσ0 ((Int32.ofInt 3)) (geI (by decide : (Int32.ofInt 3).toInt = 3) (by decide)) (leI (by decide : (Int32.ofInt 3).toInt = 3) (by decide)) f h_f hC) (by decide) (by decide) (fun v158 σ159 h157 => ?_)
    obtain ⟨h160, h161, z163, h164, rfl, h162⟩ := h157
    have h165 := h162.2.2.2.2.2
    have h166 := Fr_trans hF0 h161 (by decide +kernel)
    obtain ⟨S167, h168⟩ : ∃ q : PS, q = err By Nb 3 Sp := ⟨_, rfl⟩
    have h169 : CT By Nb σ159 S167 := by rw [h168]; exact (CT_eq h165 (err_cg (by (first | exact q_5736040b52 this | omega))))
    have h170 := CT_k h169 h164
    have h171 : S167.2.2.2 = Sp.2.2.2 := by rw [h168]; exact err_w
    have h172 := KN_fr hP hK h161 (by decide +kernel)
    have h173 : S167.2.2.2 = Sp.2.2.2 := h171.trans (rfl : Sp.2.2.2 = Sp.2.2.2)
    have o174 : OUT σ0 σ159 a := OUT_fr OUT_0 h161 (by decide +kernel)
    have h175 : fDoor By Nb Sp = S167 := by unfold fDoor; (try dsimp only); first | (rw [← h168]; first | done | rfl) | (rw [← h168]; rw [if_pos (by (first | exact q_a909a51ff5 h6 h7 | omega))]; first | done | rfl) | (rw [← h168]; rw [if_neg (by omega)]; first | done | rfl) | (rw [← h168]; rw [if_neg (by omega), if_pos (by omega)]; first | done | rfl) | (rw [← h168]; rw [if_neg (by omega), if_neg (by omega)]; first | done | rfl) | (rw [← h168]; rw [if_neg (by omega), if_neg (by omega), if_neg (by omega)]; first | done | rfl)
    exact En_ret (v := none) rfl rfl rfl ⟨h160, h166, z163, h164, rfl, ⟨o174, by first | exact q_1a6ee862c1 h162.1 | omega, by first | exact q_c733b715bf h162.2.1 | omega, by first | exact q_d22b102a8e h162.2.2.1 | omega, by first | exact q_83f4b1e050 h162.2.2.1 | omega, (by rw [h175]; exact ⟨h169, fun z => absurd z (by (first | exact q_78d9c54eee z h170 h162.1 | omega))⟩)⟩⟩
end
