set_option maxHeartbeats 4000000 in
set_option maxRecDepth 100000 in
theorem law_32 {L : Nat} (hL : L = 6) {xs : Nat → Int32} (hv : (((xs (Int32.ofInt 0).toNatClampNeg) &&& ((Int8.ofInt 63).toInt32)) : Int32).toInt = 32) : ∃ hf, hf.length ≤ 1000 ∧ slo hf ≤ 100000 ∧ Go MT 2048 84000 (some (L, xs)) mr_327 33 [(3, .int (Int32.ofInt 0)), (2, .ref 159), (1, .ref 0), (0, .retAddr 0)] [.int ((xs (Int32.ofInt 0).toNatClampNeg) &&& ((Int8.ofInt 63).toInt32))] h0 (some (.int 1), hf) := by
  obtain ⟨v, h1, h2, hl, hs, hr, gx, gm⟩ := op_32 (xs ((Int32.ofInt 0) + (Int32.ofInt 1)).toNatClampNeg)
  refine ⟨h2, hl, hs, ?_⟩
  refine Go_swI (o := 1217) (t := 1250) rfl (by rw [hv]; decide) (by rw [hv]; rfl) (by decide) ?_
  refine Go_Ps 5 (pc' := 1255) (lv' := [(3, .int (Int32.ofInt 0)), (2, .ref 159), (1, .ref 0), (0, .retAddr 0)]) (st' := [.int ((Int32.ofInt 0) + (Int32.ofInt 1)), .retAddr 0, .ref 0]) rfl ?_
  refine Go_sld rfl (by subst hL; decide +kernel) ?_
  refine Go_call (v1 := (some (.int v))) (h1 := h1) (vs := [.ref 0, .int (xs ((Int32.ofInt 0) + (Int32.ofInt 1)).toNatClampNeg)]) (r := []) rfl rfl rfl rfl (by decide) rfl rfl rfl rfl (Go_room gx (by decide) (by decide +kernel)) ?_
  refine Go_Ps 5 (pc' := 1264) (lv' := [(3, .int (Int32.ofInt 0)), (2, .ref 159), (1, .ref 0), (0, .retAddr 0)]) (st' := [.int ((Int32.ofInt 0) + (Int32.ofInt 1)), .retAddr 0, .ref 159, .int v]) rfl ?_
  refine Go_sld rfl (by subst hL; decide +kernel) ?_
  refine Go_call (v1 := (some (.int v))) (h1 := h2) (vs := [.ref 159, .int (xs ((Int32.ofInt 0) + (Int32.ofInt 1)).toNatClampNeg)]) (r := [.int v]) rfl rfl rfl rfl (by decide) rfl rfl rfl (and_mk rfl hr) (Go_room gm (by decide) (by decide +kernel)) ?_
  refine Go_brT rfl rfl rfl rfl ?_
  refine Go_Ps 7 (pc' := 24) (lv' := [(3, .int ((Int32.ofInt 0) + Int32.ofInt 6)), (2, .ref 159), (1, .ref 0), (0, .retAddr 0)]) (st' := [.int ((Int32.ofNat L) - ((Int8.ofInt 6).toInt32)), .int ((Int32.ofInt 0) + Int32.ofInt 6)]) rfl ?_
  refine Go_brT rfl rfl rfl (by subst hL; decide) ?_
  refine Go_Ps 1 (pc' := 2243) (lv' := [(3, .int ((Int32.ofInt 0) + Int32.ofInt 6)), (2, .ref 159), (1, .ref 0), (0, .retAddr 0)]) (st' := [.int (Int32.ofInt 1)]) rfl ?_
  exact Go_ret rfl rfl rfl
set_option maxHeartbeats 4000000 in
set_option maxRecDepth 100000 in
theorem law_33 {L : Nat} (hL : L = 6) {xs : Nat → Int32} (hv : (((xs (Int32.ofInt 0).toNatClampNeg) &&& ((Int8.ofInt 63).toInt32)) : Int32).toInt = 33) : ∃ hf, hf.length ≤ 1000 ∧ slo hf ≤ 100000 ∧ Go MT 2048 84000 (some (L, xs)) mr_327 33 [(3, .int (Int32.ofInt 0)), (2, .ref 159), (1, .ref 0), (0, .retAddr 0)] [.int ((xs (Int32.ofInt 0).toNatClampNeg) &&& ((Int8.ofInt 63).toInt32))] h0 (some (.int 1), hf) := by
  obtain ⟨v, h1, h2, hl, hs, hr, gx, gm⟩ := op_33 (xs ((Int32.ofInt 0) + (Int32.ofInt 1)).toNatClampNeg)
  refine ⟨h2, hl, hs, ?_⟩
  refine Go_swI (o := 1240) (t := 1273) rfl (by rw [hv]; decide) (by rw [hv]; rfl) (by decide) ?_
  refine Go_Ps 5 (pc' := 1278) (lv' := [(3, .int (Int32.ofInt 0)), (2, .ref 159), (1, .ref 0), (0, .retAddr 0)]) (st' := [.int ((Int32.ofInt 0) + (Int32.ofInt 1)), .retAddr 0, .ref 0]) rfl ?_
  refine Go_sld rfl (by subst hL; decide +kernel) ?_
  refine Go_call (v1 := (some (.int v))) (h1 := h1) (vs := [.ref 0, .int (xs ((Int32.ofInt 0) + (Int32.ofInt 1)).toNatClampNeg)]) (r := []) rfl rfl rfl rfl (by decide) rfl rfl rfl rfl (Go_room gx (by decide) (by decide +kernel)) ?_
  refine Go_Ps 5 (pc' := 1287) (lv' := [(3, .int (Int32.ofInt 0)), (2, .ref 159), (1, .ref 0), (0, .retAddr 0)]) (st' := [.int ((Int32.ofInt 0) + (Int32.ofInt 1)), .retAddr 0, .ref 159, .int v]) rfl ?_
  refine Go_sld rfl (by subst hL; decide +kernel) ?_
  refine Go_call (v1 := (some (.int v))) (h1 := h2) (vs := [.ref 159, .int (xs ((Int32.ofInt 0) + (Int32.ofInt 1)).toNatClampNeg)]) (r := [.int v]) rfl rfl rfl rfl (by decide) rfl rfl rfl (and_mk rfl hr) (Go_room gm (by decide) (by decide +kernel)) ?_
  refine Go_brT rfl rfl rfl rfl ?_
  refine Go_Ps 7 (pc' := 24) (lv' := [(3, .int ((Int32.ofInt 0) + Int32.ofInt 6)), (2, .ref 159), (1, .ref 0), (0, .retAddr 0)]) (st' := [.int ((Int32.ofNat L) - ((Int8.ofInt 6).toInt32)), .int ((Int32.ofInt 0) + Int32.ofInt 6)]) rfl ?_
  refine Go_brT rfl rfl rfl (by subst hL; decide) ?_
  refine Go_Ps 1 (pc' := 2243) (lv' := [(3, .int ((Int32.ofInt 0) + Int32.ofInt 6)), (2, .ref 159), (1, .ref 0), (0, .retAddr 0)]) (st' := [.int (Int32.ofInt 1)]) rfl ?_
  exact Go_ret rfl rfl rfl
set_option maxHeartbeats 4000000 in
set_option maxRecDepth 100000 in
theorem law_34 {L : Nat} (hL : L = 6) {xs : Nat → Int32} (hv : (((xs (Int32.ofInt 0).toNatClampNeg) &&& ((Int8.ofInt 63).toInt32)) : Int32).toInt = 34) : ∃ hf, hf.length ≤ 1000 ∧ slo hf ≤ 100000 ∧ Go MT 2048 84000 (some (L, xs)) mr_327 33 [(3, .int (Int32.ofInt 0)), (2, .ref 159), (1, .ref 0), (0, .retAddr 0)] [.int ((xs (Int32.ofInt 0).toNatClampNeg) &&& ((Int8.ofInt 63).toInt32))] h0 (some (.int 1), hf) := by
  obtain ⟨v, h1, h2, hl, hs, hr, gx, gm⟩ := op_34 (xs ((Int32.ofInt 0) + (Int32.ofInt 1)).toNatClampNeg) (xs ((Int32.ofInt 0) + (Int32.ofInt 2)).toNatClampNeg) (xs ((Int32.ofInt 0) + (Int32.ofInt 3)).toNatClampNeg)
  refine ⟨h2, hl, hs, ?_⟩
  refine Go_swI (o := 1263) (t := 1296) rfl (by rw [hv]; decide) (by rw [hv]; rfl) (by decide) ?_
  refine Go_Ps 5 (pc' := 1301) (lv' := [(3, .int (Int32.ofInt 0)), (2, .ref 159), (1, .ref 0), (0, .retAddr 0)]) (st' := [.int ((Int32.ofInt 0) + (Int32.ofInt 1)), .retAddr 0, .ref 0]) rfl ?_
  refine Go_sld rfl (by subst hL; decide +kernel) ?_
  refine Go_Ps 4 (pc' := 1306) (lv' := [(3, .int (Int32.ofInt 0)), (2, .ref 159), (1, .ref 0), (0, .retAddr 0)]) (st' := [.int ((Int32.ofInt 0) + (Int32.ofInt 2)), .retAddr 0, .int (xs ((Int32.ofInt 0) + (Int32.ofInt 1)).toNatClampNeg), .ref 0]) rfl ?_
  refine Go_sld rfl (by subst hL; decide +kernel) ?_
  refine Go_Ps 4 (pc' := 1311) (lv' := [(3, .int (Int32.ofInt 0)), (2, .ref 159), (1, .ref 0), (0, .retAddr 0)]) (st' := [.int ((Int32.ofInt 0) + (Int32.ofInt 3)), .retAddr 0, .int (xs ((Int32.ofInt 0) + (Int32.ofInt 2)).toNatClampNeg), .int (xs ((Int32.ofInt 0) + (Int32.ofInt 1)).toNatClampNeg), .ref 0]) rfl ?_
  refine Go_sld rfl (by subst hL; decide +kernel) ?_
  refine Go_call (v1 := (some (.int v))) (h1 := h1) (vs := [.ref 0, .int (xs ((Int32.ofInt 0) + (Int32.ofInt 1)).toNatClampNeg), .int (xs ((Int32.ofInt 0) + (Int32.ofInt 2)).toNatClampNeg), .int (xs ((Int32.ofInt 0) + (Int32.ofInt 3)).toNatClampNeg)]) (r := []) rfl rfl rfl rfl (by decide) rfl rfl rfl rfl (Go_room gx (by decide) (by decide +kernel)) ?_
  refine Go_Ps 5 (pc' := 1320) (lv' := [(3, .int (Int32.ofInt 0)), (2, .ref 159), (1, .ref 0), (0, .retAddr 0)]) (st' := [.int ((Int32.ofInt 0) + (Int32.ofInt 1)), .retAddr 0, .ref 159, .int v]) rfl ?_
  refine Go_sld rfl (by subst hL; decide +kernel) ?_
  refine Go_Ps 4 (pc' := 1325) (lv' := [(3, .int (Int32.ofInt 0)), (2, .ref 159), (1, .ref 0), (0, .retAddr 0)]) (st' := [.int ((Int32.ofInt 0) + (Int32.ofInt 2)), .retAddr 0, .int (xs ((Int32.ofInt 0) + (Int32.ofInt 1)).toNatClampNeg), .ref 159, .int v]) rfl ?_
  refine Go_sld rfl (by subst hL; decide +kernel) ?_
  refine Go_Ps 4 (pc' := 1330) (lv' := [(3, .int (Int32.ofInt 0)), (2, .ref 159), (1, .ref 0), (0, .retAddr 0)]) (st' := [.int ((Int32.ofInt 0) + (Int32.ofInt 3)), .retAddr 0, .int (xs ((Int32.ofInt 0) + (Int32.ofInt 2)).toNatClampNeg), .int (xs ((Int32.ofInt 0) + (Int32.ofInt 1)).toNatClampNeg), .ref 159, .int v]) rfl ?_
  refine Go_sld rfl (by subst hL; decide +kernel) ?_
  refine Go_call (v1 := (some (.int v))) (h1 := h2) (vs := [.ref 159, .int (xs ((Int32.ofInt 0) + (Int32.ofInt 1)).toNatClampNeg), .int (xs ((Int32.ofInt 0) + (Int32.ofInt 2)).toNatClampNeg), .int (xs ((Int32.ofInt 0) + (Int32.ofInt 3)).toNatClampNeg)]) (r := [.int v]) rfl rfl rfl rfl (by decide) rfl rfl rfl (and_mk rfl hr) (Go_room gm (by decide) (by decide +kernel)) ?_
  refine Go_brT rfl rfl rfl rfl ?_
  refine Go_Ps 7 (pc' := 24) (lv' := [(3, .int ((Int32.ofInt 0) + Int32.ofInt 6)), (2, .ref 159), (1, .ref 0), (0, .retAddr 0)]) (st' := [.int ((Int32.ofNat L) - ((Int8.ofInt 6).toInt32)), .int ((Int32.ofInt 0) + Int32.ofInt 6)]) rfl ?_
  refine Go_brT rfl rfl rfl (by subst hL; decide) ?_
  refine Go_Ps 1 (pc' := 2243) (lv' := [(3, .int ((Int32.ofInt 0) + Int32.ofInt 6)), (2, .ref 159), (1, .ref 0), (0, .retAddr 0)]) (st' := [.int (Int32.ofInt 1)]) rfl ?_
  exact Go_ret rfl rfl rfl
set_option maxHeartbeats 4000000 in
set_option maxRecDepth 100000 in
theorem law_35 {L : Nat} (hL : L = 6) {xs : Nat → Int32} (hv : (((xs (Int32.ofInt 0).toNatClampNeg) &&& ((Int8.ofInt 63).toInt32)) : Int32).toInt = 35) : ∃ hf, hf.length ≤ 1000 ∧ slo hf ≤ 100000 ∧ Go MT 2048 84000 (some (L, xs)) mr_327 33 [(3, .int (Int32.ofInt 0)), (2, .ref 159), (1, .ref 0), (0, .retAddr 0)] [.int ((xs (Int32.ofInt 0).toNatClampNeg) &&& ((Int8.ofInt 63).toInt32))] h0 (some (.int 1), hf) := by
  obtain ⟨v, h1, h2, hl, hs, hr, gx, gm⟩ := op_35 (xs ((Int32.ofInt 0) + (Int32.ofInt 1)).toNatClampNeg)
  refine ⟨h2, hl, hs, ?_⟩
  refine Go_swI (o := 1306) (t := 1339) rfl (by rw [hv]; decide) (by rw [hv]; rfl) (by decide) ?_
  refine Go_Ps 5 (pc' := 1344) (lv' := [(3, .int (Int32.ofInt 0)), (2, .ref 159), (1, .ref 0), (0, .retAddr 0)]) (st' := [.int ((Int32.ofInt 0) + (Int32.ofInt 1)), .retAddr 0, .ref 0]) rfl ?_
  refine Go_sld rfl (by subst hL; decide +kernel) ?_
  refine Go_call (v1 := (some (.int v))) (h1 := h1) (vs := [.ref 0, .int (xs ((Int32.ofInt 0) + (Int32.ofInt 1)).toNatClampNeg)]) (r := []) rfl rfl rfl rfl (by decide) rfl rfl rfl rfl (Go_room gx (by decide) (by decide +kernel)) ?_
  refine Go_Ps 5 (pc' := 1353) (lv' := [(3, .int (Int32.ofInt 0)), (2, .ref 159), (1, .ref 0), (0, .retAddr 0)]) (st' := [.int ((Int32.ofInt 0) + (Int32.ofInt 1)), .retAddr 0, .ref 159, .int v]) rfl ?_
  refine Go_sld rfl (by subst hL; decide +kernel) ?_
  refine Go_call (v1 := (some (.int v))) (h1 := h2) (vs := [.ref 159, .int (xs ((Int32.ofInt 0) + (Int32.ofInt 1)).toNatClampNeg)]) (r := [.int v]) rfl rfl rfl rfl (by decide) rfl rfl rfl (and_mk rfl hr) (Go_room gm (by decide) (by decide +kernel)) ?_
  refine Go_brT rfl rfl rfl rfl ?_
  refine Go_Ps 7 (pc' := 24) (lv' := [(3, .int ((Int32.ofInt 0) + Int32.ofInt 6)), (2, .ref 159), (1, .ref 0), (0, .retAddr 0)]) (st' := [.int ((Int32.ofNat L) - ((Int8.ofInt 6).toInt32)), .int ((Int32.ofInt 0) + Int32.ofInt 6)]) rfl ?_
  refine Go_brT rfl rfl rfl (by subst hL; decide) ?_
  refine Go_Ps 1 (pc' := 2243) (lv' := [(3, .int ((Int32.ofInt 0) + Int32.ofInt 6)), (2, .ref 159), (1, .ref 0), (0, .retAddr 0)]) (st' := [.int (Int32.ofInt 1)]) rfl ?_
  exact Go_ret rfl rfl rfl
set_option maxHeartbeats 4000000 in
set_option maxRecDepth 100000 in
theorem law_36 {L : Nat} (hL : L = 6) {xs : Nat → Int32} (hv : (((xs (Int32.ofInt 0).toNatClampNeg) &&& ((Int8.ofInt 63).toInt32)) : Int32).toInt = 36) : ∃ hf, hf.length ≤ 1000 ∧ slo hf ≤ 100000 ∧ Go MT 2048 84000 (some (L, xs)) mr_327 33 [(3, .int (Int32.ofInt 0)), (2, .ref 159), (1, .ref 0), (0, .retAddr 0)] [.int ((xs (Int32.ofInt 0).toNatClampNeg) &&& ((Int8.ofInt 63).toInt32))] h0 (some (.int 1), hf) := by
  obtain ⟨v, h1, h2, hl, hs, hr, gx, gm⟩ := op_36 (xs ((Int32.ofInt 0) + (Int32.ofInt 1)).toNatClampNeg)
  refine ⟨h2, hl, hs, ?_⟩
  refine Go_swI (o := 1329) (t := 1362) rfl (by rw [hv]; decide) (by rw [hv]; rfl) (by decide) ?_
  refine Go_Ps 5 (pc' := 1367) (lv' := [(3, .int (Int32.ofInt 0)), (2, .ref 159), (1, .ref 0), (0, .retAddr 0)]) (st' := [.int ((Int32.ofInt 0) + (Int32.ofInt 1)), .retAddr 0, .ref 0]) rfl ?_
  refine Go_sld rfl (by subst hL; decide +kernel) ?_
  refine Go_call (v1 := (some (.int v))) (h1 := h1) (vs := [.ref 0, .int (xs ((Int32.ofInt 0) + (Int32.ofInt 1)).toNatClampNeg)]) (r := []) rfl rfl rfl rfl (by decide) rfl rfl rfl rfl (Go_room gx (by decide) (by decide +kernel)) ?_
  refine Go_Ps 5 (pc' := 1376) (lv' := [(3, .int (Int32.ofInt 0)), (2, .ref 159), (1, .ref 0), (0, .retAddr 0)]) (st' := [.int ((Int32.ofInt 0) + (Int32.ofInt 1)), .retAddr 0, .ref 159, .int v]) rfl ?_
  refine Go_sld rfl (by subst hL; decide +kernel) ?_
  refine Go_call (v1 := (some (.int v))) (h1 := h2) (vs := [.ref 159, .int (xs ((Int32.ofInt 0) + (Int32.ofInt 1)).toNatClampNeg)]) (r := [.int v]) rfl rfl rfl rfl (by decide) rfl rfl rfl (and_mk rfl hr) (Go_room gm (by decide) (by decide +kernel)) ?_
  refine Go_brT rfl rfl rfl rfl ?_
  refine Go_Ps 7 (pc' := 24) (lv' := [(3, .int ((Int32.ofInt 0) + Int32.ofInt 6)), (2, .ref 159), (1, .ref 0), (0, .retAddr 0)]) (st' := [.int ((Int32.ofNat L) - ((Int8.ofInt 6).toInt32)), .int ((Int32.ofInt 0) + Int32.ofInt 6)]) rfl ?_
  refine Go_brT rfl rfl rfl (by subst hL; decide) ?_
  refine Go_Ps 1 (pc' := 2243) (lv' := [(3, .int ((Int32.ofInt 0) + Int32.ofInt 6)), (2, .ref 159), (1, .ref 0), (0, .retAddr 0)]) (st' := [.int (Int32.ofInt 1)]) rfl ?_
  exact Go_ret rfl rfl rfl
set_option maxHeartbeats 4000000 in
set_option maxRecDepth 100000 in
theorem law_37 {L : Nat} (hL : L = 6) {xs : Nat → Int32} (hv : (((xs (Int32.ofInt 0).toNatClampNeg) &&& ((Int8.ofInt 63).toInt32)) : Int32).toInt = 37) : ∃ hf, hf.length ≤ 1000 ∧ slo hf ≤ 100000 ∧ Go MT 2048 84000 (some (L, xs)) mr_327 33 [(3, .int (Int32.ofInt 0)), (2, .ref 159), (1, .ref 0), (0, .retAddr 0)] [.int ((xs (Int32.ofInt 0).toNatClampNeg) &&& ((Int8.ofInt 63).toInt32))] h0 (some (.int 1), hf) := by
  obtain ⟨v, h1, h2, hl, hs, hr, gx, gm⟩ := op_37 (xs ((Int32.ofInt 0) + (Int32.ofInt 1)).toNatClampNeg) (xs ((Int32.ofInt 0) + (Int32.ofInt 2)).toNatClampNeg)
  refine ⟨h2, hl, hs, ?_⟩
  refine Go_swI (o := 1352) (t := 1385) rfl (by rw [hv]; decide) (by rw [hv]; rfl) (by decide) ?_
  refine Go_Ps 5 (pc' := 1390) (lv' := [(3, .int (Int32.ofInt 0)), (2, .ref 159), (1, .ref 0), (0, .retAddr 0)]) (st' := [.int ((Int32.ofInt 0) + (Int32.ofInt 1)), .retAddr 0, .ref 0]) rfl ?_
  refine Go_sld rfl (by subst hL; decide +kernel) ?_
  refine Go_Ps 4 (pc' := 1395) (lv' := [(3, .int (Int32.ofInt 0)), (2, .ref 159), (1, .ref 0), (0, .retAddr 0)]) (st' := [.int ((Int32.ofInt 0) + (Int32.ofInt 2)), .retAddr 0, .int (xs ((Int32.ofInt 0) + (Int32.ofInt 1)).toNatClampNeg), .ref 0]) rfl ?_
  refine Go_sld rfl (by subst hL; decide +kernel) ?_
  refine Go_call (v1 := (some (.int v))) (h1 := h1) (vs := [.ref 0, .int (xs ((Int32.ofInt 0) + (Int32.ofInt 1)).toNatClampNeg), .int (xs ((Int32.ofInt 0) + (Int32.ofInt 2)).toNatClampNeg)]) (r := []) rfl rfl rfl rfl (by decide) rfl rfl rfl rfl (Go_room gx (by decide) (by decide +kernel)) ?_
  refine Go_Ps 5 (pc' := 1404) (lv' := [(3, .int (Int32.ofInt 0)), (2, .ref 159), (1, .ref 0), (0, .retAddr 0)]) (st' := [.int ((Int32.ofInt 0) + (Int32.ofInt 1)), .retAddr 0, .ref 159, .int v]) rfl ?_
  refine Go_sld rfl (by subst hL; decide +kernel) ?_
  refine Go_Ps 4 (pc' := 1409) (lv' := [(3, .int (Int32.ofInt 0)), (2, .ref 159), (1, .ref 0), (0, .retAddr 0)]) (st' := [.int ((Int32.ofInt 0) + (Int32.ofInt 2)), .retAddr 0, .int (xs ((Int32.ofInt 0) + (Int32.ofInt 1)).toNatClampNeg), .ref 159, .int v]) rfl ?_
  refine Go_sld rfl (by subst hL; decide +kernel) ?_
  refine Go_call (v1 := (some (.int v))) (h1 := h2) (vs := [.ref 159, .int (xs ((Int32.ofInt 0) + (Int32.ofInt 1)).toNatClampNeg), .int (xs ((Int32.ofInt 0) + (Int32.ofInt 2)).toNatClampNeg)]) (r := [.int v]) rfl rfl rfl rfl (by decide) rfl rfl rfl (and_mk rfl hr) (Go_room gm (by decide) (by decide +kernel)) ?_
  refine Go_brT rfl rfl rfl rfl ?_
  refine Go_Ps 7 (pc' := 24) (lv' := [(3, .int ((Int32.ofInt 0) + Int32.ofInt 6)), (2, .ref 159), (1, .ref 0), (0, .retAddr 0)]) (st' := [.int ((Int32.ofNat L) - ((Int8.ofInt 6).toInt32)), .int ((Int32.ofInt 0) + Int32.ofInt 6)]) rfl ?_
  refine Go_brT rfl rfl rfl (by subst hL; decide) ?_
  refine Go_Ps 1 (pc' := 2243) (lv' := [(3, .int ((Int32.ofInt 0) + Int32.ofInt 6)), (2, .ref 159), (1, .ref 0), (0, .retAddr 0)]) (st' := [.int (Int32.ofInt 1)]) rfl ?_
  exact Go_ret rfl rfl rfl
set_option maxHeartbeats 4000000 in
set_option maxRecDepth 100000 in
theorem law_38 {L : Nat} (hL : L = 6) {xs : Nat → Int32} (hv : (((xs (Int32.ofInt 0).toNatClampNeg) &&& ((Int8.ofInt 63).toInt32)) : Int32).toInt = 38) : ∃ hf, hf.length ≤ 1000 ∧ slo hf ≤ 100000 ∧ Go MT 2048 84000 (some (L, xs)) mr_327 33 [(3, .int (Int32.ofInt 0)), (2, .ref 159), (1, .ref 0), (0, .retAddr 0)] [.int ((xs (Int32.ofInt 0).toNatClampNeg) &&& ((Int8.ofInt 63).toInt32))] h0 (some (.int 1), hf) := by
  obtain ⟨v, h1, h2, hl, hs, hr, gx, gm⟩ := op_38 (xs ((Int32.ofInt 0) + (Int32.ofInt 1)).toNatClampNeg) (xs ((Int32.ofInt 0) + (Int32.ofInt 2)).toNatClampNeg)
  refine ⟨h2, hl, hs, ?_⟩
  refine Go_swI (o := 1385) (t := 1418) rfl (by rw [hv]; decide) (by rw [hv]; rfl) (by decide) ?_
  refine Go_Ps 5 (pc' := 1423) (lv' := [(3, .int (Int32.ofInt 0)), (2, .ref 159), (1, .ref 0), (0, .retAddr 0)]) (st' := [.int ((Int32.ofInt 0) + (Int32.ofInt 1)), .retAddr 0, .ref 0]) rfl ?_
  refine Go_sld rfl (by subst hL; decide +kernel) ?_
  refine Go_Ps 4 (pc' := 1428) (lv' := [(3, .int (Int32.ofInt 0)), (2, .ref 159), (1, .ref 0), (0, .retAddr 0)]) (st' := [.int ((Int32.ofInt 0) + (Int32.ofInt 2)), .retAddr 0, .int (xs ((Int32.ofInt 0) + (Int32.ofInt 1)).toNatClampNeg), .ref 0]) rfl ?_
  refine Go_sld rfl (by subst hL; decide +kernel) ?_
  refine Go_call (v1 := (some (.int v))) (h1 := h1) (vs := [.ref 0, .int (xs ((Int32.ofInt 0) + (Int32.ofInt 1)).toNatClampNeg), .int (xs ((Int32.ofInt 0) + (Int32.ofInt 2)).toNatClampNeg)]) (r := []) rfl rfl rfl rfl (by decide) rfl rfl rfl rfl (Go_room gx (by decide) (by decide +kernel)) ?_
  refine Go_Ps 5 (pc' := 1437) (lv' := [(3, .int (Int32.ofInt 0)), (2, .ref 159), (1, .ref 0), (0, .retAddr 0)]) (st' := [.int ((Int32.ofInt 0) + (Int32.ofInt 1)), .retAddr 0, .ref 159, .int v]) rfl ?_
  refine Go_sld rfl (by subst hL; decide +kernel) ?_
  refine Go_Ps 4 (pc' := 1442) (lv' := [(3, .int (Int32.ofInt 0)), (2, .ref 159), (1, .ref 0), (0, .retAddr 0)]) (st' := [.int ((Int32.ofInt 0) + (Int32.ofInt 2)), .retAddr 0, .int (xs ((Int32.ofInt 0) + (Int32.ofInt 1)).toNatClampNeg), .ref 159, .int v]) rfl ?_
  refine Go_sld rfl (by subst hL; decide +kernel) ?_
  refine Go_call (v1 := (some (.int v))) (h1 := h2) (vs := [.ref 159, .int (xs ((Int32.ofInt 0) + (Int32.ofInt 1)).toNatClampNeg), .int (xs ((Int32.ofInt 0) + (Int32.ofInt 2)).toNatClampNeg)]) (r := [.int v]) rfl rfl rfl rfl (by decide) rfl rfl rfl (and_mk rfl hr) (Go_room gm (by decide) (by decide +kernel)) ?_
  refine Go_brT rfl rfl rfl rfl ?_
  refine Go_Ps 7 (pc' := 24) (lv' := [(3, .int ((Int32.ofInt 0) + Int32.ofInt 6)), (2, .ref 159), (1, .ref 0), (0, .retAddr 0)]) (st' := [.int ((Int32.ofNat L) - ((Int8.ofInt 6).toInt32)), .int ((Int32.ofInt 0) + Int32.ofInt 6)]) rfl ?_
  refine Go_brT rfl rfl rfl (by subst hL; decide) ?_
  refine Go_Ps 1 (pc' := 2243) (lv' := [(3, .int ((Int32.ofInt 0) + Int32.ofInt 6)), (2, .ref 159), (1, .ref 0), (0, .retAddr 0)]) (st' := [.int (Int32.ofInt 1)]) rfl ?_
  exact Go_ret rfl rfl rfl
set_option maxHeartbeats 4000000 in
set_option maxRecDepth 100000 in
theorem law_39 {L : Nat} (hL : L = 6) {xs : Nat → Int32} (hv : (((xs (Int32.ofInt 0).toNatClampNeg) &&& ((Int8.ofInt 63).toInt32)) : Int32).toInt = 39) : ∃ hf, hf.length ≤ 1000 ∧ slo hf ≤ 100000 ∧ Go MT 2048 84000 (some (L, xs)) mr_327 33 [(3, .int (Int32.ofInt 0)), (2, .ref 159), (1, .ref 0), (0, .retAddr 0)] [.int ((xs (Int32.ofInt 0).toNatClampNeg) &&& ((Int8.ofInt 63).toInt32))] h0 (some (.int 1), hf) := by
  obtain ⟨v, h1, h2, hl, hs, hr, gx, gm⟩ := op_39 (xs ((Int32.ofInt 0) + (Int32.ofInt 1)).toNatClampNeg) (xs ((Int32.ofInt 0) + (Int32.ofInt 2)).toNatClampNeg)
  refine ⟨h2, hl, hs, ?_⟩
  refine Go_swI (o := 1418) (t := 1451) rfl (by rw [hv]; decide) (by rw [hv]; rfl) (by decide) ?_
  refine Go_Ps 5 (pc' := 1456) (lv' := [(3, .int (Int32.ofInt 0)), (2, .ref 159), (1, .ref 0), (0, .retAddr 0)]) (st' := [.int ((Int32.ofInt 0) + (Int32.ofInt 1)), .retAddr 0, .ref 0]) rfl ?_
  refine Go_sld rfl (by subst hL; decide +kernel) ?_
  refine Go_Ps 4 (pc' := 1461) (lv' := [(3, .int (Int32.ofInt 0)), (2, .ref 159), (1, .ref 0), (0, .retAddr 0)]) (st' := [.int ((Int32.ofInt 0) + (Int32.ofInt 2)), .retAddr 0, .int (xs ((Int32.ofInt 0) + (Int32.ofInt 1)).toNatClampNeg), .ref 0]) rfl ?_
  refine Go_sld rfl (by subst hL; decide +kernel) ?_
  refine Go_call (v1 := (some (.int v))) (h1 := h1) (vs := [.ref 0, .int (xs ((Int32.ofInt 0) + (Int32.ofInt 1)).toNatClampNeg), .int (xs ((Int32.ofInt 0) + (Int32.ofInt 2)).toNatClampNeg)]) (r := []) rfl rfl rfl rfl (by decide) rfl rfl rfl rfl (Go_room gx (by decide) (by decide +kernel)) ?_
  refine Go_Ps 5 (pc' := 1470) (lv' := [(3, .int (Int32.ofInt 0)), (2, .ref 159), (1, .ref 0), (0, .retAddr 0)]) (st' := [.int ((Int32.ofInt 0) + (Int32.ofInt 1)), .retAddr 0, .ref 159, .int v]) rfl ?_
  refine Go_sld rfl (by subst hL; decide +kernel) ?_
  refine Go_Ps 4 (pc' := 1475) (lv' := [(3, .int (Int32.ofInt 0)), (2, .ref 159), (1, .ref 0), (0, .retAddr 0)]) (st' := [.int ((Int32.ofInt 0) + (Int32.ofInt 2)), .retAddr 0, .int (xs ((Int32.ofInt 0) + (Int32.ofInt 1)).toNatClampNeg), .ref 159, .int v]) rfl ?_
  refine Go_sld rfl (by subst hL; decide +kernel) ?_
  refine Go_call (v1 := (some (.int v))) (h1 := h2) (vs := [.ref 159, .int (xs ((Int32.ofInt 0) + (Int32.ofInt 1)).toNatClampNeg), .int (xs ((Int32.ofInt 0) + (Int32.ofInt 2)).toNatClampNeg)]) (r := [.int v]) rfl rfl rfl rfl (by decide) rfl rfl rfl (and_mk rfl hr) (Go_room gm (by decide) (by decide +kernel)) ?_
  refine Go_brT rfl rfl rfl rfl ?_
  refine Go_Ps 7 (pc' := 24) (lv' := [(3, .int ((Int32.ofInt 0) + Int32.ofInt 6)), (2, .ref 159), (1, .ref 0), (0, .retAddr 0)]) (st' := [.int ((Int32.ofNat L) - ((Int8.ofInt 6).toInt32)), .int ((Int32.ofInt 0) + Int32.ofInt 6)]) rfl ?_
  refine Go_brT rfl rfl rfl (by subst hL; decide) ?_
  refine Go_Ps 1 (pc' := 2243) (lv' := [(3, .int ((Int32.ofInt 0) + Int32.ofInt 6)), (2, .ref 159), (1, .ref 0), (0, .retAddr 0)]) (st' := [.int (Int32.ofInt 1)]) rfl ?_
  exact Go_ret rfl rfl rfl
