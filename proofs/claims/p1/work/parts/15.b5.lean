set_option maxHeartbeats 4000000 in
set_option maxRecDepth 100000 in
theorem law_40 {L : Nat} (hL : L = 6) {xs : Nat → Int32} (hv : (((xs (Int32.ofInt 0).toNatClampNeg) &&& ((Int8.ofInt 63).toInt32)) : Int32).toInt = 40) : ∃ hf, hf.length ≤ 1000 ∧ slo hf ≤ 100000 ∧ Go MT 2048 84000 (some (L, xs)) mr_327 33 [(3, .int (Int32.ofInt 0)), (2, .ref 159), (1, .ref 0), (0, .retAddr 0)] [.int ((xs (Int32.ofInt 0).toNatClampNeg) &&& ((Int8.ofInt 63).toInt32))] h0 (some (.int 1), hf) := by
  obtain ⟨v, h1, h2, hl, hs, hr, gx, gm⟩ := op_40 (xs ((Int32.ofInt 0) + (Int32.ofInt 1)).toNatClampNeg) (xs ((Int32.ofInt 0) + (Int32.ofInt 2)).toNatClampNeg)
  refine ⟨h2, hl, hs, ?_⟩
  refine Go_swI (o := 1451) (t := 1484) rfl (by rw [hv]; decide) (by rw [hv]; rfl) (by decide) ?_
  refine Go_Ps 5 (pc' := 1489) (lv' := [(3, .int (Int32.ofInt 0)), (2, .ref 159), (1, .ref 0), (0, .retAddr 0)]) (st' := [.int ((Int32.ofInt 0) + (Int32.ofInt 1)), .retAddr 0, .ref 0]) rfl ?_
  refine Go_sld rfl (by subst hL; decide +kernel) ?_
  refine Go_Ps 4 (pc' := 1494) (lv' := [(3, .int (Int32.ofInt 0)), (2, .ref 159), (1, .ref 0), (0, .retAddr 0)]) (st' := [.int ((Int32.ofInt 0) + (Int32.ofInt 2)), .retAddr 0, .int (xs ((Int32.ofInt 0) + (Int32.ofInt 1)).toNatClampNeg), .ref 0]) rfl ?_
  refine Go_sld rfl (by subst hL; decide +kernel) ?_
  refine Go_call (v1 := (some (.int v))) (h1 := h1) (vs := [.ref 0, .int (xs ((Int32.ofInt 0) + (Int32.ofInt 1)).toNatClampNeg), .int (xs ((Int32.ofInt 0) + (Int32.ofInt 2)).toNatClampNeg)]) (r := []) rfl rfl rfl rfl (by decide) rfl rfl rfl rfl (Go_room gx (by decide) (by decide +kernel)) ?_
  refine Go_Ps 5 (pc' := 1503) (lv' := [(3, .int (Int32.ofInt 0)), (2, .ref 159), (1, .ref 0), (0, .retAddr 0)]) (st' := [.int ((Int32.ofInt 0) + (Int32.ofInt 1)), .retAddr 0, .ref 159, .int v]) rfl ?_
  refine Go_sld rfl (by subst hL; decide +kernel) ?_
  refine Go_Ps 4 (pc' := 1508) (lv' := [(3, .int (Int32.ofInt 0)), (2, .ref 159), (1, .ref 0), (0, .retAddr 0)]) (st' := [.int ((Int32.ofInt 0) + (Int32.ofInt 2)), .retAddr 0, .int (xs ((Int32.ofInt 0) + (Int32.ofInt 1)).toNatClampNeg), .ref 159, .int v]) rfl ?_
  refine Go_sld rfl (by subst hL; decide +kernel) ?_
  refine Go_call (v1 := (some (.int v))) (h1 := h2) (vs := [.ref 159, .int (xs ((Int32.ofInt 0) + (Int32.ofInt 1)).toNatClampNeg), .int (xs ((Int32.ofInt 0) + (Int32.ofInt 2)).toNatClampNeg)]) (r := [.int v]) rfl rfl rfl rfl (by decide) rfl rfl rfl (and_mk rfl hr) (Go_room gm (by decide) (by decide +kernel)) ?_
  refine Go_brT rfl rfl rfl rfl ?_
  refine Go_Ps 7 (pc' := 24) (lv' := [(3, .int ((Int32.ofInt 0) + Int32.ofInt 6)), (2, .ref 159), (1, .ref 0), (0, .retAddr 0)]) (st' := [.int ((Int32.ofNat L) - ((Int8.ofInt 6).toInt32)), .int ((Int32.ofInt 0) + Int32.ofInt 6)]) rfl ?_
  refine Go_brT rfl rfl rfl (by subst hL; decide) ?_
  refine Go_Ps 1 (pc' := 2243) (lv' := [(3, .int ((Int32.ofInt 0) + Int32.ofInt 6)), (2, .ref 159), (1, .ref 0), (0, .retAddr 0)]) (st' := [.int (Int32.ofInt 1)]) rfl ?_
  exact Go_ret rfl rfl rfl
set_option maxHeartbeats 4000000 in
set_option maxRecDepth 100000 in
theorem law_41 {L : Nat} (hL : L = 6) {xs : Nat → Int32} (hv : (((xs (Int32.ofInt 0).toNatClampNeg) &&& ((Int8.ofInt 63).toInt32)) : Int32).toInt = 41) : ∃ hf, hf.length ≤ 1000 ∧ slo hf ≤ 100000 ∧ Go MT 2048 84000 (some (L, xs)) mr_327 33 [(3, .int (Int32.ofInt 0)), (2, .ref 159), (1, .ref 0), (0, .retAddr 0)] [.int ((xs (Int32.ofInt 0).toNatClampNeg) &&& ((Int8.ofInt 63).toInt32))] h0 (some (.int 1), hf) := by
  obtain ⟨v, h1, h2, hl, hs, hr, gx, gm⟩ := op_41 (xs ((Int32.ofInt 0) + (Int32.ofInt 1)).toNatClampNeg)
  refine ⟨h2, hl, hs, ?_⟩
  refine Go_swI (o := 1484) (t := 1517) rfl (by rw [hv]; decide) (by rw [hv]; rfl) (by decide) ?_
  refine Go_Ps 5 (pc' := 1522) (lv' := [(3, .int (Int32.ofInt 0)), (2, .ref 159), (1, .ref 0), (0, .retAddr 0)]) (st' := [.int ((Int32.ofInt 0) + (Int32.ofInt 1)), .retAddr 0, .ref 0]) rfl ?_
  refine Go_sld rfl (by subst hL; decide +kernel) ?_
  refine Go_call (v1 := (some (.int v))) (h1 := h1) (vs := [.ref 0, .int (xs ((Int32.ofInt 0) + (Int32.ofInt 1)).toNatClampNeg)]) (r := []) rfl rfl rfl rfl (by decide) rfl rfl rfl rfl (Go_room gx (by decide) (by decide +kernel)) ?_
  refine Go_Ps 5 (pc' := 1531) (lv' := [(3, .int (Int32.ofInt 0)), (2, .ref 159), (1, .ref 0), (0, .retAddr 0)]) (st' := [.int ((Int32.ofInt 0) + (Int32.ofInt 1)), .retAddr 0, .ref 159, .int v]) rfl ?_
  refine Go_sld rfl (by subst hL; decide +kernel) ?_
  refine Go_call (v1 := (some (.int v))) (h1 := h2) (vs := [.ref 159, .int (xs ((Int32.ofInt 0) + (Int32.ofInt 1)).toNatClampNeg)]) (r := [.int v]) rfl rfl rfl rfl (by decide) rfl rfl rfl (and_mk rfl hr) (Go_room gm (by decide) (by decide +kernel)) ?_
  refine Go_brT rfl rfl rfl rfl ?_
  refine Go_Ps 7 (pc' := 24) (lv' := [(3, .int ((Int32.ofInt 0) + Int32.ofInt 6)), (2, .ref 159), (1, .ref 0), (0, .retAddr 0)]) (st' := [.int ((Int32.ofNat L) - ((Int8.ofInt 6).toInt32)), .int ((Int32.ofInt 0) + Int32.ofInt 6)]) rfl ?_
  refine Go_brT rfl rfl rfl (by subst hL; decide) ?_
  refine Go_Ps 1 (pc' := 2243) (lv' := [(3, .int ((Int32.ofInt 0) + Int32.ofInt 6)), (2, .ref 159), (1, .ref 0), (0, .retAddr 0)]) (st' := [.int (Int32.ofInt 1)]) rfl ?_
  exact Go_ret rfl rfl rfl
set_option maxHeartbeats 4000000 in
set_option maxRecDepth 100000 in
theorem law_42 {L : Nat} (hL : L = 6) {xs : Nat → Int32} (hv : (((xs (Int32.ofInt 0).toNatClampNeg) &&& ((Int8.ofInt 63).toInt32)) : Int32).toInt = 42) : ∃ hf, hf.length ≤ 1000 ∧ slo hf ≤ 100000 ∧ Go MT 2048 84000 (some (L, xs)) mr_327 33 [(3, .int (Int32.ofInt 0)), (2, .ref 159), (1, .ref 0), (0, .retAddr 0)] [.int ((xs (Int32.ofInt 0).toNatClampNeg) &&& ((Int8.ofInt 63).toInt32))] h0 (some (.int 1), hf) := by
  obtain ⟨v, h1, h2, hl, hs, hr, gx, gm⟩ := op_42 (xs ((Int32.ofInt 0) + (Int32.ofInt 1)).toNatClampNeg)
  refine ⟨h2, hl, hs, ?_⟩
  refine Go_swI (o := 1507) (t := 1540) rfl (by rw [hv]; decide) (by rw [hv]; rfl) (by decide) ?_
  refine Go_Ps 5 (pc' := 1545) (lv' := [(3, .int (Int32.ofInt 0)), (2, .ref 159), (1, .ref 0), (0, .retAddr 0)]) (st' := [.int ((Int32.ofInt 0) + (Int32.ofInt 1)), .retAddr 0, .ref 0]) rfl ?_
  refine Go_sld rfl (by subst hL; decide +kernel) ?_
  refine Go_call (v1 := (some (.int v))) (h1 := h1) (vs := [.ref 0, .int (xs ((Int32.ofInt 0) + (Int32.ofInt 1)).toNatClampNeg)]) (r := []) rfl rfl rfl rfl (by decide) rfl rfl rfl rfl (Go_room gx (by decide) (by decide +kernel)) ?_
  refine Go_Ps 5 (pc' := 1554) (lv' := [(3, .int (Int32.ofInt 0)), (2, .ref 159), (1, .ref 0), (0, .retAddr 0)]) (st' := [.int ((Int32.ofInt 0) + (Int32.ofInt 1)), .retAddr 0, .ref 159, .int v]) rfl ?_
  refine Go_sld rfl (by subst hL; decide +kernel) ?_
  refine Go_call (v1 := (some (.int v))) (h1 := h2) (vs := [.ref 159, .int (xs ((Int32.ofInt 0) + (Int32.ofInt 1)).toNatClampNeg)]) (r := [.int v]) rfl rfl rfl rfl (by decide) rfl rfl rfl (and_mk rfl hr) (Go_room gm (by decide) (by decide +kernel)) ?_
  refine Go_brT rfl rfl rfl rfl ?_
  refine Go_Ps 7 (pc' := 24) (lv' := [(3, .int ((Int32.ofInt 0) + Int32.ofInt 6)), (2, .ref 159), (1, .ref 0), (0, .retAddr 0)]) (st' := [.int ((Int32.ofNat L) - ((Int8.ofInt 6).toInt32)), .int ((Int32.ofInt 0) + Int32.ofInt 6)]) rfl ?_
  refine Go_brT rfl rfl rfl (by subst hL; decide) ?_
  refine Go_Ps 1 (pc' := 2243) (lv' := [(3, .int ((Int32.ofInt 0) + Int32.ofInt 6)), (2, .ref 159), (1, .ref 0), (0, .retAddr 0)]) (st' := [.int (Int32.ofInt 1)]) rfl ?_
  exact Go_ret rfl rfl rfl
set_option maxHeartbeats 4000000 in
set_option maxRecDepth 100000 in
theorem law_43 {L : Nat} (hL : L = 6) {xs : Nat → Int32} (hv : (((xs (Int32.ofInt 0).toNatClampNeg) &&& ((Int8.ofInt 63).toInt32)) : Int32).toInt = 43) : ∃ hf, hf.length ≤ 1000 ∧ slo hf ≤ 100000 ∧ Go MT 2048 84000 (some (L, xs)) mr_327 33 [(3, .int (Int32.ofInt 0)), (2, .ref 159), (1, .ref 0), (0, .retAddr 0)] [.int ((xs (Int32.ofInt 0).toNatClampNeg) &&& ((Int8.ofInt 63).toInt32))] h0 (some (.int 1), hf) := by
  obtain ⟨v, h1, h2, hl, hs, hr, gx, gm⟩ := op_43 (xs ((Int32.ofInt 0) + (Int32.ofInt 1)).toNatClampNeg) (xs ((Int32.ofInt 0) + (Int32.ofInt 2)).toNatClampNeg)
  refine ⟨h2, hl, hs, ?_⟩
  refine Go_swI (o := 1530) (t := 1563) rfl (by rw [hv]; decide) (by rw [hv]; rfl) (by decide) ?_
  refine Go_Ps 5 (pc' := 1568) (lv' := [(3, .int (Int32.ofInt 0)), (2, .ref 159), (1, .ref 0), (0, .retAddr 0)]) (st' := [.int ((Int32.ofInt 0) + (Int32.ofInt 1)), .retAddr 0, .ref 0]) rfl ?_
  refine Go_sld rfl (by subst hL; decide +kernel) ?_
  refine Go_Ps 4 (pc' := 1573) (lv' := [(3, .int (Int32.ofInt 0)), (2, .ref 159), (1, .ref 0), (0, .retAddr 0)]) (st' := [.int ((Int32.ofInt 0) + (Int32.ofInt 2)), .retAddr 0, .int (xs ((Int32.ofInt 0) + (Int32.ofInt 1)).toNatClampNeg), .ref 0]) rfl ?_
  refine Go_sld rfl (by subst hL; decide +kernel) ?_
  refine Go_call (v1 := (some (.int v))) (h1 := h1) (vs := [.ref 0, .int (xs ((Int32.ofInt 0) + (Int32.ofInt 1)).toNatClampNeg), .int (xs ((Int32.ofInt 0) + (Int32.ofInt 2)).toNatClampNeg)]) (r := []) rfl rfl rfl rfl (by decide) rfl rfl rfl rfl (Go_room gx (by decide) (by decide +kernel)) ?_
  refine Go_Ps 5 (pc' := 1582) (lv' := [(3, .int (Int32.ofInt 0)), (2, .ref 159), (1, .ref 0), (0, .retAddr 0)]) (st' := [.int ((Int32.ofInt 0) + (Int32.ofInt 1)), .retAddr 0, .ref 159, .int v]) rfl ?_
  refine Go_sld rfl (by subst hL; decide +kernel) ?_
  refine Go_Ps 4 (pc' := 1587) (lv' := [(3, .int (Int32.ofInt 0)), (2, .ref 159), (1, .ref 0), (0, .retAddr 0)]) (st' := [.int ((Int32.ofInt 0) + (Int32.ofInt 2)), .retAddr 0, .int (xs ((Int32.ofInt 0) + (Int32.ofInt 1)).toNatClampNeg), .ref 159, .int v]) rfl ?_
  refine Go_sld rfl (by subst hL; decide +kernel) ?_
  refine Go_call (v1 := (some (.int v))) (h1 := h2) (vs := [.ref 159, .int (xs ((Int32.ofInt 0) + (Int32.ofInt 1)).toNatClampNeg), .int (xs ((Int32.ofInt 0) + (Int32.ofInt 2)).toNatClampNeg)]) (r := [.int v]) rfl rfl rfl rfl (by decide) rfl rfl rfl (and_mk rfl hr) (Go_room gm (by decide) (by decide +kernel)) ?_
  refine Go_brT rfl rfl rfl rfl ?_
  refine Go_Ps 7 (pc' := 24) (lv' := [(3, .int ((Int32.ofInt 0) + Int32.ofInt 6)), (2, .ref 159), (1, .ref 0), (0, .retAddr 0)]) (st' := [.int ((Int32.ofNat L) - ((Int8.ofInt 6).toInt32)), .int ((Int32.ofInt 0) + Int32.ofInt 6)]) rfl ?_
  refine Go_brT rfl rfl rfl (by subst hL; decide) ?_
  refine Go_Ps 1 (pc' := 2243) (lv' := [(3, .int ((Int32.ofInt 0) + Int32.ofInt 6)), (2, .ref 159), (1, .ref 0), (0, .retAddr 0)]) (st' := [.int (Int32.ofInt 1)]) rfl ?_
  exact Go_ret rfl rfl rfl
set_option maxHeartbeats 4000000 in
set_option maxRecDepth 100000 in
theorem law_44 {L : Nat} (hL : L = 6) {xs : Nat → Int32} (hv : (((xs (Int32.ofInt 0).toNatClampNeg) &&& ((Int8.ofInt 63).toInt32)) : Int32).toInt = 44) : ∃ hf, hf.length ≤ 1000 ∧ slo hf ≤ 100000 ∧ Go MT 2048 84000 (some (L, xs)) mr_327 33 [(3, .int (Int32.ofInt 0)), (2, .ref 159), (1, .ref 0), (0, .retAddr 0)] [.int ((xs (Int32.ofInt 0).toNatClampNeg) &&& ((Int8.ofInt 63).toInt32))] h0 (some (.int 1), hf) := by
  obtain ⟨v, h1, h2, hl, hs, hr, gx, gm⟩ := op_44
  refine ⟨h2, hl, hs, ?_⟩
  refine Go_swI (o := 1563) (t := 1596) rfl (by rw [hv]; decide) (by rw [hv]; rfl) (by decide) ?_
  refine Go_Ps 1 (pc' := 1597) (lv' := [(3, .int (Int32.ofInt 0)), (2, .ref 159), (1, .ref 0), (0, .retAddr 0)]) (st' := [.ref 0]) rfl ?_
  refine Go_call (v1 := (some (.int v))) (h1 := h1) (vs := [.ref 0]) (r := []) rfl rfl rfl rfl (by decide) rfl rfl rfl rfl (Go_room gx (by decide) (by decide +kernel)) ?_
  refine Go_Ps 1 (pc' := 1601) (lv' := [(3, .int (Int32.ofInt 0)), (2, .ref 159), (1, .ref 0), (0, .retAddr 0)]) (st' := [.ref 159, .int v]) rfl ?_
  refine Go_call (v1 := (some (.int v))) (h1 := h2) (vs := [.ref 159]) (r := [.int v]) rfl rfl rfl rfl (by decide) rfl rfl rfl (and_mk rfl hr) (Go_room gm (by decide) (by decide +kernel)) ?_
  refine Go_brT rfl rfl rfl rfl ?_
  refine Go_Ps 7 (pc' := 24) (lv' := [(3, .int ((Int32.ofInt 0) + Int32.ofInt 6)), (2, .ref 159), (1, .ref 0), (0, .retAddr 0)]) (st' := [.int ((Int32.ofNat L) - ((Int8.ofInt 6).toInt32)), .int ((Int32.ofInt 0) + Int32.ofInt 6)]) rfl ?_
  refine Go_brT rfl rfl rfl (by subst hL; decide) ?_
  refine Go_Ps 1 (pc' := 2243) (lv' := [(3, .int ((Int32.ofInt 0) + Int32.ofInt 6)), (2, .ref 159), (1, .ref 0), (0, .retAddr 0)]) (st' := [.int (Int32.ofInt 1)]) rfl ?_
  exact Go_ret rfl rfl rfl
set_option maxHeartbeats 4000000 in
set_option maxRecDepth 100000 in
theorem law_45 {L : Nat} (hL : L = 6) {xs : Nat → Int32} (hv : (((xs (Int32.ofInt 0).toNatClampNeg) &&& ((Int8.ofInt 63).toInt32)) : Int32).toInt = 45) : ∃ hf, hf.length ≤ 1000 ∧ slo hf ≤ 100000 ∧ Go MT 2048 84000 (some (L, xs)) mr_327 33 [(3, .int (Int32.ofInt 0)), (2, .ref 159), (1, .ref 0), (0, .retAddr 0)] [.int ((xs (Int32.ofInt 0).toNatClampNeg) &&& ((Int8.ofInt 63).toInt32))] h0 (some (.int 1), hf) := by
  obtain ⟨v, h1, h2, hl, hs, hr, gx, gm⟩ := op_45 (xs ((Int32.ofInt 0) + (Int32.ofInt 1)).toNatClampNeg)
  refine ⟨h2, hl, hs, ?_⟩
  refine Go_swI (o := 1576) (t := 1609) rfl (by rw [hv]; decide) (by rw [hv]; rfl) (by decide) ?_
  refine Go_Ps 5 (pc' := 1614) (lv' := [(3, .int (Int32.ofInt 0)), (2, .ref 159), (1, .ref 0), (0, .retAddr 0)]) (st' := [.int ((Int32.ofInt 0) + (Int32.ofInt 1)), .retAddr 0, .ref 0]) rfl ?_
  refine Go_sld rfl (by subst hL; decide +kernel) ?_
  refine Go_call (v1 := (some (.int v))) (h1 := h1) (vs := [.ref 0, .int (xs ((Int32.ofInt 0) + (Int32.ofInt 1)).toNatClampNeg)]) (r := []) rfl rfl rfl rfl (by decide) rfl rfl rfl rfl (Go_room gx (by decide) (by decide +kernel)) ?_
  refine Go_Ps 5 (pc' := 1623) (lv' := [(3, .int (Int32.ofInt 0)), (2, .ref 159), (1, .ref 0), (0, .retAddr 0)]) (st' := [.int ((Int32.ofInt 0) + (Int32.ofInt 1)), .retAddr 0, .ref 159, .int v]) rfl ?_
  refine Go_sld rfl (by subst hL; decide +kernel) ?_
  refine Go_call (v1 := (some (.int v))) (h1 := h2) (vs := [.ref 159, .int (xs ((Int32.ofInt 0) + (Int32.ofInt 1)).toNatClampNeg)]) (r := [.int v]) rfl rfl rfl rfl (by decide) rfl rfl rfl (and_mk rfl hr) (Go_room gm (by decide) (by decide +kernel)) ?_
  refine Go_brT rfl rfl rfl rfl ?_
  refine Go_Ps 7 (pc' := 24) (lv' := [(3, .int ((Int32.ofInt 0) + Int32.ofInt 6)), (2, .ref 159), (1, .ref 0), (0, .retAddr 0)]) (st' := [.int ((Int32.ofNat L) - ((Int8.ofInt 6).toInt32)), .int ((Int32.ofInt 0) + Int32.ofInt 6)]) rfl ?_
  refine Go_brT rfl rfl rfl (by subst hL; decide) ?_
  refine Go_Ps 1 (pc' := 2243) (lv' := [(3, .int ((Int32.ofInt 0) + Int32.ofInt 6)), (2, .ref 159), (1, .ref 0), (0, .retAddr 0)]) (st' := [.int (Int32.ofInt 1)]) rfl ?_
  exact Go_ret rfl rfl rfl
set_option maxHeartbeats 4000000 in
set_option maxRecDepth 100000 in
theorem law_46 {L : Nat} (hL : L = 6) {xs : Nat → Int32} (hv : (((xs (Int32.ofInt 0).toNatClampNeg) &&& ((Int8.ofInt 63).toInt32)) : Int32).toInt = 46) : ∃ hf, hf.length ≤ 1000 ∧ slo hf ≤ 100000 ∧ Go MT 2048 84000 (some (L, xs)) mr_327 33 [(3, .int (Int32.ofInt 0)), (2, .ref 159), (1, .ref 0), (0, .retAddr 0)] [.int ((xs (Int32.ofInt 0).toNatClampNeg) &&& ((Int8.ofInt 63).toInt32))] h0 (some (.int 1), hf) := by
  obtain ⟨v, h1, h2, hl, hs, hr, gx, gm⟩ := op_46 (xs ((Int32.ofInt 0) + (Int32.ofInt 1)).toNatClampNeg) (xs ((Int32.ofInt 0) + (Int32.ofInt 2)).toNatClampNeg)
  refine ⟨h2, hl, hs, ?_⟩
  refine Go_swI (o := 1599) (t := 1632) rfl (by rw [hv]; decide) (by rw [hv]; rfl) (by decide) ?_
  refine Go_Ps 5 (pc' := 1637) (lv' := [(3, .int (Int32.ofInt 0)), (2, .ref 159), (1, .ref 0), (0, .retAddr 0)]) (st' := [.int ((Int32.ofInt 0) + (Int32.ofInt 1)), .retAddr 0, .ref 0]) rfl ?_
  refine Go_sld rfl (by subst hL; decide +kernel) ?_
  refine Go_Ps 4 (pc' := 1642) (lv' := [(3, .int (Int32.ofInt 0)), (2, .ref 159), (1, .ref 0), (0, .retAddr 0)]) (st' := [.int ((Int32.ofInt 0) + (Int32.ofInt 2)), .retAddr 0, .int (xs ((Int32.ofInt 0) + (Int32.ofInt 1)).toNatClampNeg), .ref 0]) rfl ?_
  refine Go_sld rfl (by subst hL; decide +kernel) ?_
  refine Go_call (v1 := (some (.int v))) (h1 := h1) (vs := [.ref 0, .int (xs ((Int32.ofInt 0) + (Int32.ofInt 1)).toNatClampNeg), .int (xs ((Int32.ofInt 0) + (Int32.ofInt 2)).toNatClampNeg)]) (r := []) rfl rfl rfl rfl (by decide) rfl rfl rfl rfl (Go_room gx (by decide) (by decide +kernel)) ?_
  refine Go_Ps 5 (pc' := 1651) (lv' := [(3, .int (Int32.ofInt 0)), (2, .ref 159), (1, .ref 0), (0, .retAddr 0)]) (st' := [.int ((Int32.ofInt 0) + (Int32.ofInt 1)), .retAddr 0, .ref 159, .int v]) rfl ?_
  refine Go_sld rfl (by subst hL; decide +kernel) ?_
  refine Go_Ps 4 (pc' := 1656) (lv' := [(3, .int (Int32.ofInt 0)), (2, .ref 159), (1, .ref 0), (0, .retAddr 0)]) (st' := [.int ((Int32.ofInt 0) + (Int32.ofInt 2)), .retAddr 0, .int (xs ((Int32.ofInt 0) + (Int32.ofInt 1)).toNatClampNeg), .ref 159, .int v]) rfl ?_
  refine Go_sld rfl (by subst hL; decide +kernel) ?_
  refine Go_call (v1 := (some (.int v))) (h1 := h2) (vs := [.ref 159, .int (xs ((Int32.ofInt 0) + (Int32.ofInt 1)).toNatClampNeg), .int (xs ((Int32.ofInt 0) + (Int32.ofInt 2)).toNatClampNeg)]) (r := [.int v]) rfl rfl rfl rfl (by decide) rfl rfl rfl (and_mk rfl hr) (Go_room gm (by decide) (by decide +kernel)) ?_
  refine Go_brT rfl rfl rfl rfl ?_
  refine Go_Ps 7 (pc' := 24) (lv' := [(3, .int ((Int32.ofInt 0) + Int32.ofInt 6)), (2, .ref 159), (1, .ref 0), (0, .retAddr 0)]) (st' := [.int ((Int32.ofNat L) - ((Int8.ofInt 6).toInt32)), .int ((Int32.ofInt 0) + Int32.ofInt 6)]) rfl ?_
  refine Go_brT rfl rfl rfl (by subst hL; decide) ?_
  refine Go_Ps 1 (pc' := 2243) (lv' := [(3, .int ((Int32.ofInt 0) + Int32.ofInt 6)), (2, .ref 159), (1, .ref 0), (0, .retAddr 0)]) (st' := [.int (Int32.ofInt 1)]) rfl ?_
  exact Go_ret rfl rfl rfl
set_option maxHeartbeats 4000000 in
set_option maxRecDepth 100000 in
theorem law_47 {L : Nat} (hL : L = 6) {xs : Nat → Int32} (hv : (((xs (Int32.ofInt 0).toNatClampNeg) &&& ((Int8.ofInt 63).toInt32)) : Int32).toInt = 47) : ∃ hf, hf.length ≤ 1000 ∧ slo hf ≤ 100000 ∧ Go MT 2048 84000 (some (L, xs)) mr_327 33 [(3, .int (Int32.ofInt 0)), (2, .ref 159), (1, .ref 0), (0, .retAddr 0)] [.int ((xs (Int32.ofInt 0).toNatClampNeg) &&& ((Int8.ofInt 63).toInt32))] h0 (some (.int 1), hf) := by
  obtain ⟨v, h1, h2, hl, hs, hr, gx, gm⟩ := op_47 (xs ((Int32.ofInt 0) + (Int32.ofInt 1)).toNatClampNeg)
  refine ⟨h2, hl, hs, ?_⟩
  refine Go_swI (o := 1632) (t := 1665) rfl (by rw [hv]; decide) (by rw [hv]; rfl) (by decide) ?_
  refine Go_Ps 5 (pc' := 1670) (lv' := [(3, .int (Int32.ofInt 0)), (2, .ref 159), (1, .ref 0), (0, .retAddr 0)]) (st' := [.int ((Int32.ofInt 0) + (Int32.ofInt 1)), .retAddr 0, .ref 0]) rfl ?_
  refine Go_sld rfl (by subst hL; decide +kernel) ?_
  refine Go_call (v1 := (some (.int v))) (h1 := h1) (vs := [.ref 0, .int (xs ((Int32.ofInt 0) + (Int32.ofInt 1)).toNatClampNeg)]) (r := []) rfl rfl rfl rfl (by decide) rfl rfl rfl rfl (Go_room gx (by decide) (by decide +kernel)) ?_
  refine Go_Ps 5 (pc' := 1679) (lv' := [(3, .int (Int32.ofInt 0)), (2, .ref 159), (1, .ref 0), (0, .retAddr 0)]) (st' := [.int ((Int32.ofInt 0) + (Int32.ofInt 1)), .retAddr 0, .ref 159, .int v]) rfl ?_
  refine Go_sld rfl (by subst hL; decide +kernel) ?_
  refine Go_call (v1 := (some (.int v))) (h1 := h2) (vs := [.ref 159, .int (xs ((Int32.ofInt 0) + (Int32.ofInt 1)).toNatClampNeg)]) (r := [.int v]) rfl rfl rfl rfl (by decide) rfl rfl rfl (and_mk rfl hr) (Go_room gm (by decide) (by decide +kernel)) ?_
  refine Go_brT rfl rfl rfl rfl ?_
  refine Go_Ps 7 (pc' := 24) (lv' := [(3, .int ((Int32.ofInt 0) + Int32.ofInt 6)), (2, .ref 159), (1, .ref 0), (0, .retAddr 0)]) (st' := [.int ((Int32.ofNat L) - ((Int8.ofInt 6).toInt32)), .int ((Int32.ofInt 0) + Int32.ofInt 6)]) rfl ?_
  refine Go_brT rfl rfl rfl (by subst hL; decide) ?_
  refine Go_Ps 1 (pc' := 2243) (lv' := [(3, .int ((Int32.ofInt 0) + Int32.ofInt 6)), (2, .ref 159), (1, .ref 0), (0, .retAddr 0)]) (st' := [.int (Int32.ofInt 1)]) rfl ?_
  exact Go_ret rfl rfl rfl
