set_option maxHeartbeats 4000000 in
set_option maxRecDepth 100000 in
theorem law_56 {xs : Nat → Int32} (hv : (((xs (Int32.ofInt 0).toNatClampNeg) &&& ((Int8.ofInt 63).toInt32)) : Int32).toInt = 56) : ∃ hf, hf.length ≤ 1000 ∧ slo hf ≤ 100000 ∧ Go MT 2048 84000 (some (6, xs)) mr_327 33 [(3, .int (Int32.ofInt 0)), (2, .ref 159), (1, .ref 0), (0, .retAddr 0)] [.int ((xs (Int32.ofInt 0).toNatClampNeg) &&& ((Int8.ofInt 63).toInt32))] h0 (some (.int 1), hf) := by
  obtain ⟨v, h1, h2, hl, hs, gx, gm⟩ := op_56 (xs ((Int32.ofInt 0) + (Int32.ofInt 1)).toNatClampNeg) (xs ((Int32.ofInt 0) + (Int32.ofInt 2)).toNatClampNeg) (xs ((Int32.ofInt 0) + (Int32.ofInt 3)).toNatClampNeg)
  refine ⟨h2, hl, hs, ?_⟩
  refine Go_swI (o := 1859) (t := 1892) rfl (by rw [hv]; decide) (by rw [hv]; rfl) (by decide) ?_
  refine Go_Ps 16 (pc' := 1908) (lv' := [(3, .int (Int32.ofInt 0)), (2, .ref 159), (1, .ref 0), (0, .retAddr 0)]) (st' := [.int (xs ((Int32.ofInt 0) + (Int32.ofInt 3)).toNatClampNeg), .int (xs ((Int32.ofInt 0) + (Int32.ofInt 2)).toNatClampNeg), .int (xs ((Int32.ofInt 0) + (Int32.ofInt 1)).toNatClampNeg), .ref 0]) rfl ?_
  refine Go_call (v1 := (some (.int v))) (h1 := h1) (vs := [.ref 0, .int (xs ((Int32.ofInt 0) + (Int32.ofInt 1)).toNatClampNeg), .int (xs ((Int32.ofInt 0) + (Int32.ofInt 2)).toNatClampNeg), .int (xs ((Int32.ofInt 0) + (Int32.ofInt 3)).toNatClampNeg)]) (r := []) rfl rfl rfl rfl (by decide) rfl rfl rfl rfl (Go_room gx (by decide) (by decide +kernel)) ?_
  refine Go_Ps 16 (pc' := 1927) (lv' := [(3, .int (Int32.ofInt 0)), (2, .ref 159), (1, .ref 0), (0, .retAddr 0)]) (st' := [.int (xs ((Int32.ofInt 0) + (Int32.ofInt 3)).toNatClampNeg), .int (xs ((Int32.ofInt 0) + (Int32.ofInt 2)).toNatClampNeg), .int (xs ((Int32.ofInt 0) + (Int32.ofInt 1)).toNatClampNeg), .ref 159, .int v]) rfl ?_
  refine Go_call (v1 := (some (.int v))) (h1 := h2) (vs := [.ref 159, .int (xs ((Int32.ofInt 0) + (Int32.ofInt 1)).toNatClampNeg), .int (xs ((Int32.ofInt 0) + (Int32.ofInt 2)).toNatClampNeg), .int (xs ((Int32.ofInt 0) + (Int32.ofInt 3)).toNatClampNeg)]) (r := [.int v]) rfl rfl rfl rfl (by decide) rfl rfl rfl rfl (Go_room gm (by decide) (by decide +kernel)) ?_
  refine Go_brT rfl rfl rfl rfl ?_
  refine Go_Ps 9 (pc' := 2243) (lv' := [(3, .int ((Int32.ofInt 0) + Int32.ofInt 6)), (2, .ref 159), (1, .ref 0), (0, .retAddr 0)]) (st' := [.int (Int32.ofInt 1)]) rfl ?_
  exact Go_ret rfl rfl rfl
set_option maxHeartbeats 4000000 in
set_option maxRecDepth 100000 in
theorem law_57 {xs : Nat → Int32} (hv : (((xs (Int32.ofInt 0).toNatClampNeg) &&& ((Int8.ofInt 63).toInt32)) : Int32).toInt = 57) : ∃ hf, hf.length ≤ 1000 ∧ slo hf ≤ 100000 ∧ Go MT 2048 84000 (some (6, xs)) mr_327 33 [(3, .int (Int32.ofInt 0)), (2, .ref 159), (1, .ref 0), (0, .retAddr 0)] [.int ((xs (Int32.ofInt 0).toNatClampNeg) &&& ((Int8.ofInt 63).toInt32))] h0 (some (.int 1), hf) := by
  obtain ⟨v, h1, h2, hl, hs, gx, gm⟩ := op_57 (xs ((Int32.ofInt 0) + (Int32.ofInt 1)).toNatClampNeg) (xs ((Int32.ofInt 0) + (Int32.ofInt 2)).toNatClampNeg) (xs ((Int32.ofInt 0) + (Int32.ofInt 3)).toNatClampNeg) (xs ((Int32.ofInt 0) + (Int32.ofInt 4)).toNatClampNeg)
  refine ⟨h2, hl, hs, ?_⟩
  refine Go_swI (o := 1902) (t := 1935) rfl (by rw [hv]; decide) (by rw [hv]; rfl) (by decide) ?_
  refine Go_Ps 21 (pc' := 1956) (lv' := [(3, .int (Int32.ofInt 0)), (2, .ref 159), (1, .ref 0), (0, .retAddr 0)]) (st' := [.int (xs ((Int32.ofInt 0) + (Int32.ofInt 4)).toNatClampNeg), .int (xs ((Int32.ofInt 0) + (Int32.ofInt 3)).toNatClampNeg), .int (xs ((Int32.ofInt 0) + (Int32.ofInt 2)).toNatClampNeg), .int (xs ((Int32.ofInt 0) + (Int32.ofInt 1)).toNatClampNeg), .ref 0]) rfl ?_
  refine Go_call (v1 := (some (.int v))) (h1 := h1) (vs := [.ref 0, .int (xs ((Int32.ofInt 0) + (Int32.ofInt 1)).toNatClampNeg), .int (xs ((Int32.ofInt 0) + (Int32.ofInt 2)).toNatClampNeg), .int (xs ((Int32.ofInt 0) + (Int32.ofInt 3)).toNatClampNeg), .int (xs ((Int32.ofInt 0) + (Int32.ofInt 4)).toNatClampNeg)]) (r := []) rfl rfl rfl rfl (by decide) rfl rfl rfl rfl (Go_room gx (by decide) (by decide +kernel)) ?_
  refine Go_Ps 21 (pc' := 1980) (lv' := [(3, .int (Int32.ofInt 0)), (2, .ref 159), (1, .ref 0), (0, .retAddr 0)]) (st' := [.int (xs ((Int32.ofInt 0) + (Int32.ofInt 4)).toNatClampNeg), .int (xs ((Int32.ofInt 0) + (Int32.ofInt 3)).toNatClampNeg), .int (xs ((Int32.ofInt 0) + (Int32.ofInt 2)).toNatClampNeg), .int (xs ((Int32.ofInt 0) + (Int32.ofInt 1)).toNatClampNeg), .ref 159, .int v]) rfl ?_
  refine Go_call (v1 := (some (.int v))) (h1 := h2) (vs := [.ref 159, .int (xs ((Int32.ofInt 0) + (Int32.ofInt 1)).toNatClampNeg), .int (xs ((Int32.ofInt 0) + (Int32.ofInt 2)).toNatClampNeg), .int (xs ((Int32.ofInt 0) + (Int32.ofInt 3)).toNatClampNeg), .int (xs ((Int32.ofInt 0) + (Int32.ofInt 4)).toNatClampNeg)]) (r := [.int v]) rfl rfl rfl rfl (by decide) rfl rfl rfl rfl (Go_room gm (by decide) (by decide +kernel)) ?_
  refine Go_brT rfl rfl rfl rfl ?_
  refine Go_Ps 9 (pc' := 2243) (lv' := [(3, .int ((Int32.ofInt 0) + Int32.ofInt 6)), (2, .ref 159), (1, .ref 0), (0, .retAddr 0)]) (st' := [.int (Int32.ofInt 1)]) rfl ?_
  exact Go_ret rfl rfl rfl
set_option maxHeartbeats 4000000 in
set_option maxRecDepth 100000 in
theorem law_58 {xs : Nat → Int32} (hv : (((xs (Int32.ofInt 0).toNatClampNeg) &&& ((Int8.ofInt 63).toInt32)) : Int32).toInt = 58) : ∃ hf, hf.length ≤ 1000 ∧ slo hf ≤ 100000 ∧ Go MT 2048 84000 (some (6, xs)) mr_327 33 [(3, .int (Int32.ofInt 0)), (2, .ref 159), (1, .ref 0), (0, .retAddr 0)] [.int ((xs (Int32.ofInt 0).toNatClampNeg) &&& ((Int8.ofInt 63).toInt32))] h0 (some (.int 1), hf) := by
  obtain ⟨v, h1, h2, hl, hs, gx, gm⟩ := op_58 (xs ((Int32.ofInt 0) + (Int32.ofInt 1)).toNatClampNeg)
  refine ⟨h2, hl, hs, ?_⟩
  refine Go_swI (o := 1955) (t := 1988) rfl (by rw [hv]; decide) (by rw [hv]; rfl) (by decide) ?_
  refine Go_Ps 6 (pc' := 1994) (lv' := [(3, .int (Int32.ofInt 0)), (2, .ref 159), (1, .ref 0), (0, .retAddr 0)]) (st' := [.int (xs ((Int32.ofInt 0) + (Int32.ofInt 1)).toNatClampNeg), .ref 0]) rfl ?_
  refine Go_call (v1 := (some (.int v))) (h1 := h1) (vs := [.ref 0, .int (xs ((Int32.ofInt 0) + (Int32.ofInt 1)).toNatClampNeg)]) (r := []) rfl rfl rfl rfl (by decide) rfl rfl rfl rfl (Go_room gx (by decide) (by decide +kernel)) ?_
  refine Go_Ps 6 (pc' := 2003) (lv' := [(3, .int (Int32.ofInt 0)), (2, .ref 159), (1, .ref 0), (0, .retAddr 0)]) (st' := [.int (xs ((Int32.ofInt 0) + (Int32.ofInt 1)).toNatClampNeg), .ref 159, .int v]) rfl ?_
  refine Go_call (v1 := (some (.int v))) (h1 := h2) (vs := [.ref 159, .int (xs ((Int32.ofInt 0) + (Int32.ofInt 1)).toNatClampNeg)]) (r := [.int v]) rfl rfl rfl rfl (by decide) rfl rfl rfl rfl (Go_room gm (by decide) (by decide +kernel)) ?_
  refine Go_brT rfl rfl rfl rfl ?_
  refine Go_Ps 9 (pc' := 2243) (lv' := [(3, .int ((Int32.ofInt 0) + Int32.ofInt 6)), (2, .ref 159), (1, .ref 0), (0, .retAddr 0)]) (st' := [.int (Int32.ofInt 1)]) rfl ?_
  exact Go_ret rfl rfl rfl
set_option maxHeartbeats 4000000 in
set_option maxRecDepth 100000 in
theorem law_59 {xs : Nat → Int32} (hv : (((xs (Int32.ofInt 0).toNatClampNeg) &&& ((Int8.ofInt 63).toInt32)) : Int32).toInt = 59) : ∃ hf, hf.length ≤ 1000 ∧ slo hf ≤ 100000 ∧ Go MT 2048 84000 (some (6, xs)) mr_327 33 [(3, .int (Int32.ofInt 0)), (2, .ref 159), (1, .ref 0), (0, .retAddr 0)] [.int ((xs (Int32.ofInt 0).toNatClampNeg) &&& ((Int8.ofInt 63).toInt32))] h0 (some (.int 1), hf) := by
  obtain ⟨v, h1, h2, hl, hs, gx, gm⟩ := op_59 (xs ((Int32.ofInt 0) + (Int32.ofInt 1)).toNatClampNeg)
  refine ⟨h2, hl, hs, ?_⟩
  refine Go_swI (o := 1978) (t := 2011) rfl (by rw [hv]; decide) (by rw [hv]; rfl) (by decide) ?_
  refine Go_Ps 6 (pc' := 2017) (lv' := [(3, .int (Int32.ofInt 0)), (2, .ref 159), (1, .ref 0), (0, .retAddr 0)]) (st' := [.int (xs ((Int32.ofInt 0) + (Int32.ofInt 1)).toNatClampNeg), .ref 0]) rfl ?_
  refine Go_call (v1 := (some (.int v))) (h1 := h1) (vs := [.ref 0, .int (xs ((Int32.ofInt 0) + (Int32.ofInt 1)).toNatClampNeg)]) (r := []) rfl rfl rfl rfl (by decide) rfl rfl rfl rfl (Go_room gx (by decide) (by decide +kernel)) ?_
  refine Go_Ps 6 (pc' := 2026) (lv' := [(3, .int (Int32.ofInt 0)), (2, .ref 159), (1, .ref 0), (0, .retAddr 0)]) (st' := [.int (xs ((Int32.ofInt 0) + (Int32.ofInt 1)).toNatClampNeg), .ref 159, .int v]) rfl ?_
  refine Go_call (v1 := (some (.int v))) (h1 := h2) (vs := [.ref 159, .int (xs ((Int32.ofInt 0) + (Int32.ofInt 1)).toNatClampNeg)]) (r := [.int v]) rfl rfl rfl rfl (by decide) rfl rfl rfl rfl (Go_room gm (by decide) (by decide +kernel)) ?_
  refine Go_brT rfl rfl rfl rfl ?_
  refine Go_Ps 9 (pc' := 2243) (lv' := [(3, .int ((Int32.ofInt 0) + Int32.ofInt 6)), (2, .ref 159), (1, .ref 0), (0, .retAddr 0)]) (st' := [.int (Int32.ofInt 1)]) rfl ?_
  exact Go_ret rfl rfl rfl
set_option maxHeartbeats 4000000 in
set_option maxRecDepth 100000 in
theorem law_60 {xs : Nat → Int32} (hv : (((xs (Int32.ofInt 0).toNatClampNeg) &&& ((Int8.ofInt 63).toInt32)) : Int32).toInt = 60) : ∃ hf, hf.length ≤ 1000 ∧ slo hf ≤ 100000 ∧ Go MT 2048 84000 (some (6, xs)) mr_327 33 [(3, .int (Int32.ofInt 0)), (2, .ref 159), (1, .ref 0), (0, .retAddr 0)] [.int ((xs (Int32.ofInt 0).toNatClampNeg) &&& ((Int8.ofInt 63).toInt32))] h0 (some (.int 1), hf) := by
  obtain ⟨v, h1, h2, hl, hs, gx, gm⟩ := op_60 (xs ((Int32.ofInt 0) + (Int32.ofInt 1)).toNatClampNeg)
  refine ⟨h2, hl, hs, ?_⟩
  refine Go_swI (o := 2001) (t := 2034) rfl (by rw [hv]; decide) (by rw [hv]; rfl) (by decide) ?_
  refine Go_Ps 6 (pc' := 2040) (lv' := [(3, .int (Int32.ofInt 0)), (2, .ref 159), (1, .ref 0), (0, .retAddr 0)]) (st' := [.int (xs ((Int32.ofInt 0) + (Int32.ofInt 1)).toNatClampNeg), .ref 0]) rfl ?_
  refine Go_call (v1 := (some (.int v))) (h1 := h1) (vs := [.ref 0, .int (xs ((Int32.ofInt 0) + (Int32.ofInt 1)).toNatClampNeg)]) (r := []) rfl rfl rfl rfl (by decide) rfl rfl rfl rfl (Go_room gx (by decide) (by decide +kernel)) ?_
  refine Go_Ps 6 (pc' := 2049) (lv' := [(3, .int (Int32.ofInt 0)), (2, .ref 159), (1, .ref 0), (0, .retAddr 0)]) (st' := [.int (xs ((Int32.ofInt 0) + (Int32.ofInt 1)).toNatClampNeg), .ref 159, .int v]) rfl ?_
  refine Go_call (v1 := (some (.int v))) (h1 := h2) (vs := [.ref 159, .int (xs ((Int32.ofInt 0) + (Int32.ofInt 1)).toNatClampNeg)]) (r := [.int v]) rfl rfl rfl rfl (by decide) rfl rfl rfl rfl (Go_room gm (by decide) (by decide +kernel)) ?_
  refine Go_brT rfl rfl rfl rfl ?_
  refine Go_Ps 9 (pc' := 2243) (lv' := [(3, .int ((Int32.ofInt 0) + Int32.ofInt 6)), (2, .ref 159), (1, .ref 0), (0, .retAddr 0)]) (st' := [.int (Int32.ofInt 1)]) rfl ?_
  exact Go_ret rfl rfl rfl
set_option maxHeartbeats 4000000 in
set_option maxRecDepth 100000 in
theorem law_61 {xs : Nat → Int32} (hv : (((xs (Int32.ofInt 0).toNatClampNeg) &&& ((Int8.ofInt 63).toInt32)) : Int32).toInt = 61) : ∃ hf, hf.length ≤ 1000 ∧ slo hf ≤ 100000 ∧ Go MT 2048 84000 (some (6, xs)) mr_327 33 [(3, .int (Int32.ofInt 0)), (2, .ref 159), (1, .ref 0), (0, .retAddr 0)] [.int ((xs (Int32.ofInt 0).toNatClampNeg) &&& ((Int8.ofInt 63).toInt32))] h0 (some (.int 1), hf) := by
  obtain ⟨v, h1, h2, hl, hs, gx, gm⟩ := op_61 (xs ((Int32.ofInt 0) + (Int32.ofInt 1)).toNatClampNeg) (xs ((Int32.ofInt 0) + (Int32.ofInt 2)).toNatClampNeg) (xs ((Int32.ofInt 0) + (Int32.ofInt 3)).toNatClampNeg)
  refine ⟨h2, hl, hs, ?_⟩
  refine Go_swI (o := 2024) (t := 2057) rfl (by rw [hv]; decide) (by rw [hv]; rfl) (by decide) ?_
  refine Go_Ps 16 (pc' := 2073) (lv' := [(3, .int (Int32.ofInt 0)), (2, .ref 159), (1, .ref 0), (0, .retAddr 0)]) (st' := [.int (xs ((Int32.ofInt 0) + (Int32.ofInt 3)).toNatClampNeg), .int (xs ((Int32.ofInt 0) + (Int32.ofInt 2)).toNatClampNeg), .int (xs ((Int32.ofInt 0) + (Int32.ofInt 1)).toNatClampNeg), .ref 0]) rfl ?_
  refine Go_call (v1 := (some (.int v))) (h1 := h1) (vs := [.ref 0, .int (xs ((Int32.ofInt 0) + (Int32.ofInt 1)).toNatClampNeg), .int (xs ((Int32.ofInt 0) + (Int32.ofInt 2)).toNatClampNeg), .int (xs ((Int32.ofInt 0) + (Int32.ofInt 3)).toNatClampNeg)]) (r := []) rfl rfl rfl rfl (by decide) rfl rfl rfl rfl (Go_room gx (by decide) (by decide +kernel)) ?_
  refine Go_Ps 16 (pc' := 2092) (lv' := [(3, .int (Int32.ofInt 0)), (2, .ref 159), (1, .ref 0), (0, .retAddr 0)]) (st' := [.int (xs ((Int32.ofInt 0) + (Int32.ofInt 3)).toNatClampNeg), .int (xs ((Int32.ofInt 0) + (Int32.ofInt 2)).toNatClampNeg), .int (xs ((Int32.ofInt 0) + (Int32.ofInt 1)).toNatClampNeg), .ref 159, .int v]) rfl ?_
  refine Go_call (v1 := (some (.int v))) (h1 := h2) (vs := [.ref 159, .int (xs ((Int32.ofInt 0) + (Int32.ofInt 1)).toNatClampNeg), .int (xs ((Int32.ofInt 0) + (Int32.ofInt 2)).toNatClampNeg), .int (xs ((Int32.ofInt 0) + (Int32.ofInt 3)).toNatClampNeg)]) (r := [.int v]) rfl rfl rfl rfl (by decide) rfl rfl rfl rfl (Go_room gm (by decide) (by decide +kernel)) ?_
  refine Go_brT rfl rfl rfl rfl ?_
  refine Go_Ps 9 (pc' := 2243) (lv' := [(3, .int ((Int32.ofInt 0) + Int32.ofInt 6)), (2, .ref 159), (1, .ref 0), (0, .retAddr 0)]) (st' := [.int (Int32.ofInt 1)]) rfl ?_
  exact Go_ret rfl rfl rfl
set_option maxHeartbeats 4000000 in
set_option maxRecDepth 100000 in
theorem law_62 {xs : Nat → Int32} (hv : (((xs (Int32.ofInt 0).toNatClampNeg) &&& ((Int8.ofInt 63).toInt32)) : Int32).toInt = 62) : ∃ hf, hf.length ≤ 1000 ∧ slo hf ≤ 100000 ∧ Go MT 2048 84000 (some (6, xs)) mr_327 33 [(3, .int (Int32.ofInt 0)), (2, .ref 159), (1, .ref 0), (0, .retAddr 0)] [.int ((xs (Int32.ofInt 0).toNatClampNeg) &&& ((Int8.ofInt 63).toInt32))] h0 (some (.int 1), hf) := by
  obtain ⟨v, h1, h2, hl, hs, gx, gm⟩ := op_62 (xs ((Int32.ofInt 0) + (Int32.ofInt 1)).toNatClampNeg) (xs ((Int32.ofInt 0) + (Int32.ofInt 2)).toNatClampNeg) ((((xs ((Int32.ofInt 0) + (Int32.ofInt 3)).toNatClampNeg).toInt64) <<< (((Int8.ofInt 32).toInt32).toInt64 &&& 63)) ||| (((xs ((Int32.ofInt 0) + (Int32.ofInt 4)).toNatClampNeg).toInt64) &&& (4294967295 : Int64)))
  refine ⟨h2, hl, hs, ?_⟩
  refine Go_swI (o := 2067) (t := 2100) rfl (by rw [hv]; decide) (by rw [hv]; rfl) (by decide) ?_
  refine Go_Ps 28 (pc' := 2131) (lv' := [(3, .int (Int32.ofInt 0)), (2, .ref 159), (1, .ref 0), (0, .retAddr 0)]) (st' := [.long ((((xs ((Int32.ofInt 0) + (Int32.ofInt 3)).toNatClampNeg).toInt64) <<< (((Int8.ofInt 32).toInt32).toInt64 &&& 63)) ||| (((xs ((Int32.ofInt 0) + (Int32.ofInt 4)).toNatClampNeg).toInt64) &&& (4294967295 : Int64))), .int (xs ((Int32.ofInt 0) + (Int32.ofInt 2)).toNatClampNeg), .int (xs ((Int32.ofInt 0) + (Int32.ofInt 1)).toNatClampNeg), .ref 0]) rfl ?_
  refine Go_call (v1 := (some (.int v))) (h1 := h1) (vs := [.ref 0, .int (xs ((Int32.ofInt 0) + (Int32.ofInt 1)).toNatClampNeg), .int (xs ((Int32.ofInt 0) + (Int32.ofInt 2)).toNatClampNeg), .long ((((xs ((Int32.ofInt 0) + (Int32.ofInt 3)).toNatClampNeg).toInt64) <<< (((Int8.ofInt 32).toInt32).toInt64 &&& 63)) ||| (((xs ((Int32.ofInt 0) + (Int32.ofInt 4)).toNatClampNeg).toInt64) &&& (4294967295 : Int64)))]) (r := []) rfl rfl rfl rfl (by decide) rfl rfl rfl rfl (Go_room gx (by decide) (by decide +kernel)) ?_
  refine Go_Ps 28 (pc' := 2165) (lv' := [(3, .int (Int32.ofInt 0)), (2, .ref 159), (1, .ref 0), (0, .retAddr 0)]) (st' := [.long ((((xs ((Int32.ofInt 0) + (Int32.ofInt 3)).toNatClampNeg).toInt64) <<< (((Int8.ofInt 32).toInt32).toInt64 &&& 63)) ||| (((xs ((Int32.ofInt 0) + (Int32.ofInt 4)).toNatClampNeg).toInt64) &&& (4294967295 : Int64))), .int (xs ((Int32.ofInt 0) + (Int32.ofInt 2)).toNatClampNeg), .int (xs ((Int32.ofInt 0) + (Int32.ofInt 1)).toNatClampNeg), .ref 159, .int v]) rfl ?_
  refine Go_call (v1 := (some (.int v))) (h1 := h2) (vs := [.ref 159, .int (xs ((Int32.ofInt 0) + (Int32.ofInt 1)).toNatClampNeg), .int (xs ((Int32.ofInt 0) + (Int32.ofInt 2)).toNatClampNeg), .long ((((xs ((Int32.ofInt 0) + (Int32.ofInt 3)).toNatClampNeg).toInt64) <<< (((Int8.ofInt 32).toInt32).toInt64 &&& 63)) ||| (((xs ((Int32.ofInt 0) + (Int32.ofInt 4)).toNatClampNeg).toInt64) &&& (4294967295 : Int64)))]) (r := [.int v]) rfl rfl rfl rfl (by decide) rfl rfl rfl rfl (Go_room gm (by decide) (by decide +kernel)) ?_
  refine Go_brT rfl rfl rfl rfl ?_
  refine Go_Ps 9 (pc' := 2243) (lv' := [(3, .int ((Int32.ofInt 0) + Int32.ofInt 6)), (2, .ref 159), (1, .ref 0), (0, .retAddr 0)]) (st' := [.int (Int32.ofInt 1)]) rfl ?_
  exact Go_ret rfl rfl rfl
set_option maxHeartbeats 4000000 in
set_option maxRecDepth 100000 in
theorem law_63 {xs : Nat → Int32} (hv : (((xs (Int32.ofInt 0).toNatClampNeg) &&& ((Int8.ofInt 63).toInt32)) : Int32).toInt = 63) : ∃ hf, hf.length ≤ 1000 ∧ slo hf ≤ 100000 ∧ Go MT 2048 84000 (some (6, xs)) mr_327 33 [(3, .int (Int32.ofInt 0)), (2, .ref 159), (1, .ref 0), (0, .retAddr 0)] [.int ((xs (Int32.ofInt 0).toNatClampNeg) &&& ((Int8.ofInt 63).toInt32))] h0 (some (.int 1), hf) := by
  obtain ⟨v, h1, h2, hl, hs, gx, gm⟩ := op_63 (xs ((Int32.ofInt 0) + (Int32.ofInt 1)).toNatClampNeg) (xs ((Int32.ofInt 0) + (Int32.ofInt 2)).toNatClampNeg) (xs ((Int32.ofInt 0) + (Int32.ofInt 3)).toNatClampNeg) (xs ((Int32.ofInt 0) + (Int32.ofInt 4)).toNatClampNeg) (xs ((Int32.ofInt 0) + (Int32.ofInt 5)).toNatClampNeg)
  refine ⟨h2, hl, hs, ?_⟩
  refine Go_swI (o := 2140) (t := 2173) rfl (by rw [hv]; decide) (by rw [hv]; rfl) (by decide) ?_
  refine Go_Ps 26 (pc' := 2199) (lv' := [(3, .int (Int32.ofInt 0)), (2, .ref 159), (1, .ref 0), (0, .retAddr 0)]) (st' := [.int (xs ((Int32.ofInt 0) + (Int32.ofInt 5)).toNatClampNeg), .int (xs ((Int32.ofInt 0) + (Int32.ofInt 4)).toNatClampNeg), .int (xs ((Int32.ofInt 0) + (Int32.ofInt 3)).toNatClampNeg), .int (xs ((Int32.ofInt 0) + (Int32.ofInt 2)).toNatClampNeg), .int (xs ((Int32.ofInt 0) + (Int32.ofInt 1)).toNatClampNeg), .ref 0]) rfl ?_
  refine Go_call (v1 := (some (.int v))) (h1 := h1) (vs := [.ref 0, .int (xs ((Int32.ofInt 0) + (Int32.ofInt 1)).toNatClampNeg), .int (xs ((Int32.ofInt 0) + (Int32.ofInt 2)).toNatClampNeg), .int (xs ((Int32.ofInt 0) + (Int32.ofInt 3)).toNatClampNeg), .int (xs ((Int32.ofInt 0) + (Int32.ofInt 4)).toNatClampNeg), .int (xs ((Int32.ofInt 0) + (Int32.ofInt 5)).toNatClampNeg)]) (r := []) rfl rfl rfl rfl (by decide) rfl rfl rfl rfl (Go_room gx (by decide) (by decide +kernel)) ?_
  refine Go_Ps 26 (pc' := 2228) (lv' := [(3, .int (Int32.ofInt 0)), (2, .ref 159), (1, .ref 0), (0, .retAddr 0)]) (st' := [.int (xs ((Int32.ofInt 0) + (Int32.ofInt 5)).toNatClampNeg), .int (xs ((Int32.ofInt 0) + (Int32.ofInt 4)).toNatClampNeg), .int (xs ((Int32.ofInt 0) + (Int32.ofInt 3)).toNatClampNeg), .int (xs ((Int32.ofInt 0) + (Int32.ofInt 2)).toNatClampNeg), .int (xs ((Int32.ofInt 0) + (Int32.ofInt 1)).toNatClampNeg), .ref 159, .int v]) rfl ?_
  refine Go_call (v1 := (some (.int v))) (h1 := h2) (vs := [.ref 159, .int (xs ((Int32.ofInt 0) + (Int32.ofInt 1)).toNatClampNeg), .int (xs ((Int32.ofInt 0) + (Int32.ofInt 2)).toNatClampNeg), .int (xs ((Int32.ofInt 0) + (Int32.ofInt 3)).toNatClampNeg), .int (xs ((Int32.ofInt 0) + (Int32.ofInt 4)).toNatClampNeg), .int (xs ((Int32.ofInt 0) + (Int32.ofInt 5)).toNatClampNeg)]) (r := [.int v]) rfl rfl rfl rfl (by decide) rfl rfl rfl rfl (Go_room gm (by decide) (by decide +kernel)) ?_
  refine Go_brT rfl rfl rfl rfl ?_
  refine Go_Ps 9 (pc' := 2243) (lv' := [(3, .int ((Int32.ofInt 0) + Int32.ofInt 6)), (2, .ref 159), (1, .ref 0), (0, .retAddr 0)]) (st' := [.int (Int32.ofInt 1)]) rfl ?_
  exact Go_ret rfl rfl rfl
