set_option maxHeartbeats 4000000 in
set_option maxRecDepth 100000 in
theorem law_16 {L : Nat} (hL : L = 6) {xs : Nat → Int32} (hv : (((xs (Int32.ofInt 0).toNatClampNeg) &&& ((Int8.ofInt 63).toInt32)) : Int32).toInt = 16) : ∃ hf, hf.length ≤ 1000 ∧ slo hf ≤ 100000 ∧ Go MT 2048 84000 (some (L, xs)) mr_327 33 [(3, .int (Int32.ofInt 0)), (2, .ref 159), (1, .ref 0), (0, .retAddr 0)] [.int ((xs (Int32.ofInt 0).toNatClampNeg) &&& ((Int8.ofInt 63).toInt32))] h0 (some (.int 1), hf) := by
  obtain ⟨v, h1, h2, hl, hs, hr, gx, gm⟩ := op_16 (xs ((Int32.ofInt 0) + (Int32.ofInt 1)).toNatClampNeg)
  refine ⟨h2, hl, hs, ?_⟩
  refine Go_swI (o := 769) (t := 802) rfl (by rw [hv]; decide) (by rw [hv]; rfl) (by decide) ?_
  refine Go_Ps 5 (pc' := 807) (lv' := [(3, .int (Int32.ofInt 0)), (2, .ref 159), (1, .ref 0), (0, .retAddr 0)]) (st' := [.int ((Int32.ofInt 0) + (Int32.ofInt 1)), .retAddr 0, .ref 0]) rfl ?_
  refine Go_sld rfl (by subst hL; decide +kernel) ?_
  refine Go_call (v1 := (some (.int v))) (h1 := h1) (vs := [.ref 0, .int (xs ((Int32.ofInt 0) + (Int32.ofInt 1)).toNatClampNeg)]) (r := []) rfl rfl rfl rfl (by decide) rfl rfl rfl rfl (Go_room gx (by decide) (by decide +kernel)) ?_
  refine Go_Ps 5 (pc' := 816) (lv' := [(3, .int (Int32.ofInt 0)), (2, .ref 159), (1, .ref 0), (0, .retAddr 0)]) (st' := [.int ((Int32.ofInt 0) + (Int32.ofInt 1)), .retAddr 0, .ref 159, .int v]) rfl ?_
  refine Go_sld rfl (by subst hL; decide +kernel) ?_
  refine Go_call (v1 := (some (.int v))) (h1 := h2) (vs := [.ref 159, .int (xs ((Int32.ofInt 0) + (Int32.ofInt 1)).toNatClampNeg)]) (r := [.int v]) rfl rfl rfl rfl (by decide) rfl rfl rfl (and_mk rfl hr) (Go_room gm (by decide) (by decide +kernel)) ?_
  refine Go_brT rfl rfl rfl rfl ?_
  refine Go_Ps 7 (pc' := 24) (lv' := [(3, .int ((Int32.ofInt 0) + Int32.ofInt 6)), (2, .ref 159), (1, .ref 0), (0, .retAddr 0)]) (st' := [.int ((Int32.ofNat L) - ((Int8.ofInt 6).toInt32)), .int ((Int32.ofInt 0) + Int32.ofInt 6)]) rfl ?_
  refine Go_brT rfl rfl rfl (by subst hL; decide) ?_
  refine Go_Ps 1 (pc' := 2243) (lv' := [(3, .int ((Int32.ofInt 0) + Int32.ofInt 6)), (2, .ref 159), (1, .ref 0), (0, .retAddr 0)]) (st' := [.int (Int32.ofInt 1)]) rfl ?_
  exact Go_ret rfl rfl rfl
set_option maxHeartbeats 4000000 in
set_option maxRecDepth 100000 in
theorem law_17 {L : Nat} (hL : L = 6) {xs : Nat → Int32} (hv : (((xs (Int32.ofInt 0).toNatClampNeg) &&& ((Int8.ofInt 63).toInt32)) : Int32).toInt = 17) : ∃ hf, hf.length ≤ 1000 ∧ slo hf ≤ 100000 ∧ Go MT 2048 84000 (some (L, xs)) mr_327 33 [(3, .int (Int32.ofInt 0)), (2, .ref 159), (1, .ref 0), (0, .retAddr 0)] [.int ((xs (Int32.ofInt 0).toNatClampNeg) &&& ((Int8.ofInt 63).toInt32))] h0 (some (.int 1), hf) := by
  obtain ⟨v, h1, h2, hl, hs, hr, gx, gm⟩ := op_17 (xs ((Int32.ofInt 0) + (Int32.ofInt 1)).toNatClampNeg)
  refine ⟨h2, hl, hs, ?_⟩
  refine Go_swI (o := 792) (t := 825) rfl (by rw [hv]; decide) (by rw [hv]; rfl) (by decide) ?_
  refine Go_Ps 5 (pc' := 830) (lv' := [(3, .int (Int32.ofInt 0)), (2, .ref 159), (1, .ref 0), (0, .retAddr 0)]) (st' := [.int ((Int32.ofInt 0) + (Int32.ofInt 1)), .retAddr 0, .ref 0]) rfl ?_
  refine Go_sld rfl (by subst hL; decide +kernel) ?_
  refine Go_call (v1 := (some (.int v))) (h1 := h1) (vs := [.ref 0, .int (xs ((Int32.ofInt 0) + (Int32.ofInt 1)).toNatClampNeg)]) (r := []) rfl rfl rfl rfl (by decide) rfl rfl rfl rfl (Go_room gx (by decide) (by decide +kernel)) ?_
  refine Go_Ps 5 (pc' := 839) (lv' := [(3, .int (Int32.ofInt 0)), (2, .ref 159), (1, .ref 0), (0, .retAddr 0)]) (st' := [.int ((Int32.ofInt 0) + (Int32.ofInt 1)), .retAddr 0, .ref 159, .int v]) rfl ?_
  refine Go_sld rfl (by subst hL; decide +kernel) ?_
  refine Go_call (v1 := (some (.int v))) (h1 := h2) (vs := [.ref 159, .int (xs ((Int32.ofInt 0) + (Int32.ofInt 1)).toNatClampNeg)]) (r := [.int v]) rfl rfl rfl rfl (by decide) rfl rfl rfl (and_mk rfl hr) (Go_room gm (by decide) (by decide +kernel)) ?_
  refine Go_brT rfl rfl rfl rfl ?_
  refine Go_Ps 7 (pc' := 24) (lv' := [(3, .int ((Int32.ofInt 0) + Int32.ofInt 6)), (2, .ref 159), (1, .ref 0), (0, .retAddr 0)]) (st' := [.int ((Int32.ofNat L) - ((Int8.ofInt 6).toInt32)), .int ((Int32.ofInt 0) + Int32.ofInt 6)]) rfl ?_
  refine Go_brT rfl rfl rfl (by subst hL; decide) ?_
  refine Go_Ps 1 (pc' := 2243) (lv' := [(3, .int ((Int32.ofInt 0) + Int32.ofInt 6)), (2, .ref 159), (1, .ref 0), (0, .retAddr 0)]) (st' := [.int (Int32.ofInt 1)]) rfl ?_
  exact Go_ret rfl rfl rfl
set_option maxHeartbeats 4000000 in
set_option maxRecDepth 100000 in
theorem law_18 {L : Nat} (hL : L = 6) {xs : Nat → Int32} (hv : (((xs (Int32.ofInt 0).toNatClampNeg) &&& ((Int8.ofInt 63).toInt32)) : Int32).toInt = 18) : ∃ hf, hf.length ≤ 1000 ∧ slo hf ≤ 100000 ∧ Go MT 2048 84000 (some (L, xs)) mr_327 33 [(3, .int (Int32.ofInt 0)), (2, .ref 159), (1, .ref 0), (0, .retAddr 0)] [.int ((xs (Int32.ofInt 0).toNatClampNeg) &&& ((Int8.ofInt 63).toInt32))] h0 (some (.int 1), hf) := by
  obtain ⟨v, h1, h2, hl, hs, hr, gx, gm⟩ := op_18
  refine ⟨h2, hl, hs, ?_⟩
  refine Go_swI (o := 815) (t := 848) rfl (by rw [hv]; decide) (by rw [hv]; rfl) (by decide) ?_
  refine Go_Ps 1 (pc' := 849) (lv' := [(3, .int (Int32.ofInt 0)), (2, .ref 159), (1, .ref 0), (0, .retAddr 0)]) (st' := [.ref 0]) rfl ?_
  refine Go_call (v1 := (some (.int v))) (h1 := h1) (vs := [.ref 0]) (r := []) rfl rfl rfl rfl (by decide) rfl rfl rfl rfl (Go_room gx (by decide) (by decide +kernel)) ?_
  refine Go_Ps 1 (pc' := 853) (lv' := [(3, .int (Int32.ofInt 0)), (2, .ref 159), (1, .ref 0), (0, .retAddr 0)]) (st' := [.ref 159, .int v]) rfl ?_
  refine Go_call (v1 := (some (.int v))) (h1 := h2) (vs := [.ref 159]) (r := [.int v]) rfl rfl rfl rfl (by decide) rfl rfl rfl (and_mk rfl hr) (Go_room gm (by decide) (by decide +kernel)) ?_
  refine Go_brT rfl rfl rfl rfl ?_
  refine Go_Ps 7 (pc' := 24) (lv' := [(3, .int ((Int32.ofInt 0) + Int32.ofInt 6)), (2, .ref 159), (1, .ref 0), (0, .retAddr 0)]) (st' := [.int ((Int32.ofNat L) - ((Int8.ofInt 6).toInt32)), .int ((Int32.ofInt 0) + Int32.ofInt 6)]) rfl ?_
  refine Go_brT rfl rfl rfl (by subst hL; decide) ?_
  refine Go_Ps 1 (pc' := 2243) (lv' := [(3, .int ((Int32.ofInt 0) + Int32.ofInt 6)), (2, .ref 159), (1, .ref 0), (0, .retAddr 0)]) (st' := [.int (Int32.ofInt 1)]) rfl ?_
  exact Go_ret rfl rfl rfl
set_option maxHeartbeats 4000000 in
set_option maxRecDepth 100000 in
theorem law_19 {L : Nat} (hL : L = 6) {xs : Nat → Int32} (hv : (((xs (Int32.ofInt 0).toNatClampNeg) &&& ((Int8.ofInt 63).toInt32)) : Int32).toInt = 19) : ∃ hf, hf.length ≤ 1000 ∧ slo hf ≤ 100000 ∧ Go MT 2048 84000 (some (L, xs)) mr_327 33 [(3, .int (Int32.ofInt 0)), (2, .ref 159), (1, .ref 0), (0, .retAddr 0)] [.int ((xs (Int32.ofInt 0).toNatClampNeg) &&& ((Int8.ofInt 63).toInt32))] h0 (some (.int 1), hf) := by
  obtain ⟨v, h1, h2, hl, hs, hr, gx, gm⟩ := op_19
  refine ⟨h2, hl, hs, ?_⟩
  refine Go_swI (o := 828) (t := 861) rfl (by rw [hv]; decide) (by rw [hv]; rfl) (by decide) ?_
  refine Go_Ps 1 (pc' := 862) (lv' := [(3, .int (Int32.ofInt 0)), (2, .ref 159), (1, .ref 0), (0, .retAddr 0)]) (st' := [.ref 0]) rfl ?_
  refine Go_call (v1 := (some (.int v))) (h1 := h1) (vs := [.ref 0]) (r := []) rfl rfl rfl rfl (by decide) rfl rfl rfl rfl (Go_room gx (by decide) (by decide +kernel)) ?_
  refine Go_Ps 1 (pc' := 866) (lv' := [(3, .int (Int32.ofInt 0)), (2, .ref 159), (1, .ref 0), (0, .retAddr 0)]) (st' := [.ref 159, .int v]) rfl ?_
  refine Go_call (v1 := (some (.int v))) (h1 := h2) (vs := [.ref 159]) (r := [.int v]) rfl rfl rfl rfl (by decide) rfl rfl rfl (and_mk rfl hr) (Go_room gm (by decide) (by decide +kernel)) ?_
  refine Go_brT rfl rfl rfl rfl ?_
  refine Go_Ps 7 (pc' := 24) (lv' := [(3, .int ((Int32.ofInt 0) + Int32.ofInt 6)), (2, .ref 159), (1, .ref 0), (0, .retAddr 0)]) (st' := [.int ((Int32.ofNat L) - ((Int8.ofInt 6).toInt32)), .int ((Int32.ofInt 0) + Int32.ofInt 6)]) rfl ?_
  refine Go_brT rfl rfl rfl (by subst hL; decide) ?_
  refine Go_Ps 1 (pc' := 2243) (lv' := [(3, .int ((Int32.ofInt 0) + Int32.ofInt 6)), (2, .ref 159), (1, .ref 0), (0, .retAddr 0)]) (st' := [.int (Int32.ofInt 1)]) rfl ?_
  exact Go_ret rfl rfl rfl
set_option maxHeartbeats 4000000 in
set_option maxRecDepth 100000 in
theorem law_20 {L : Nat} (hL : L = 6) {xs : Nat → Int32} (hv : (((xs (Int32.ofInt 0).toNatClampNeg) &&& ((Int8.ofInt 63).toInt32)) : Int32).toInt = 20) : ∃ hf, hf.length ≤ 1000 ∧ slo hf ≤ 100000 ∧ Go MT 2048 84000 (some (L, xs)) mr_327 33 [(3, .int (Int32.ofInt 0)), (2, .ref 159), (1, .ref 0), (0, .retAddr 0)] [.int ((xs (Int32.ofInt 0).toNatClampNeg) &&& ((Int8.ofInt 63).toInt32))] h0 (some (.int 1), hf) := by
  obtain ⟨v, h1, h2, hl, hs, hr, gx, gm⟩ := op_20 (xs ((Int32.ofInt 0) + (Int32.ofInt 1)).toNatClampNeg) (xs ((Int32.ofInt 0) + (Int32.ofInt 2)).toNatClampNeg) (xs ((Int32.ofInt 0) + (Int32.ofInt 3)).toNatClampNeg)
  refine ⟨h2, hl, hs, ?_⟩
  refine Go_swI (o := 841) (t := 874) rfl (by rw [hv]; decide) (by rw [hv]; rfl) (by decide) ?_
  refine Go_Ps 5 (pc' := 879) (lv' := [(3, .int (Int32.ofInt 0)), (2, .ref 159), (1, .ref 0), (0, .retAddr 0)]) (st' := [.int ((Int32.ofInt 0) + (Int32.ofInt 1)), .retAddr 0, .ref 0]) rfl ?_
  refine Go_sld rfl (by subst hL; decide +kernel) ?_
  refine Go_Ps 4 (pc' := 884) (lv' := [(3, .int (Int32.ofInt 0)), (2, .ref 159), (1, .ref 0), (0, .retAddr 0)]) (st' := [.int ((Int32.ofInt 0) + (Int32.ofInt 2)), .retAddr 0, .int (xs ((Int32.ofInt 0) + (Int32.ofInt 1)).toNatClampNeg), .ref 0]) rfl ?_
  refine Go_sld rfl (by subst hL; decide +kernel) ?_
  refine Go_Ps 4 (pc' := 889) (lv' := [(3, .int (Int32.ofInt 0)), (2, .ref 159), (1, .ref 0), (0, .retAddr 0)]) (st' := [.int ((Int32.ofInt 0) + (Int32.ofInt 3)), .retAddr 0, .int (xs ((Int32.ofInt 0) + (Int32.ofInt 2)).toNatClampNeg), .int (xs ((Int32.ofInt 0) + (Int32.ofInt 1)).toNatClampNeg), .ref 0]) rfl ?_
  refine Go_sld rfl (by subst hL; decide +kernel) ?_
  refine Go_call (v1 := (some (.int v))) (h1 := h1) (vs := [.ref 0, .int (xs ((Int32.ofInt 0) + (Int32.ofInt 1)).toNatClampNeg), .int (xs ((Int32.ofInt 0) + (Int32.ofInt 2)).toNatClampNeg), .int (xs ((Int32.ofInt 0) + (Int32.ofInt 3)).toNatClampNeg)]) (r := []) rfl rfl rfl rfl (by decide) rfl rfl rfl rfl (Go_room gx (by decide) (by decide +kernel)) ?_
  refine Go_Ps 5 (pc' := 898) (lv' := [(3, .int (Int32.ofInt 0)), (2, .ref 159), (1, .ref 0), (0, .retAddr 0)]) (st' := [.int ((Int32.ofInt 0) + (Int32.ofInt 1)), .retAddr 0, .ref 159, .int v]) rfl ?_
  refine Go_sld rfl (by subst hL; decide +kernel) ?_
  refine Go_Ps 4 (pc' := 903) (lv' := [(3, .int (Int32.ofInt 0)), (2, .ref 159), (1, .ref 0), (0, .retAddr 0)]) (st' := [.int ((Int32.ofInt 0) + (Int32.ofInt 2)), .retAddr 0, .int (xs ((Int32.ofInt 0) + (Int32.ofInt 1)).toNatClampNeg), .ref 159, .int v]) rfl ?_
  refine Go_sld rfl (by subst hL; decide +kernel) ?_
  refine Go_Ps 4 (pc' := 908) (lv' := [(3, .int (Int32.ofInt 0)), (2, .ref 159), (1, .ref 0), (0, .retAddr 0)]) (st' := [.int ((Int32.ofInt 0) + (Int32.ofInt 3)), .retAddr 0, .int (xs ((Int32.ofInt 0) + (Int32.ofInt 2)).toNatClampNeg), .int (xs ((Int32.ofInt 0) + (Int32.ofInt 1)).toNatClampNeg), .ref 159, .int v]) rfl ?_
  refine Go_sld rfl (by subst hL; decide +kernel) ?_
  refine Go_call (v1 := (some (.int v))) (h1 := h2) (vs := [.ref 159, .int (xs ((Int32.ofInt 0) + (Int32.ofInt 1)).toNatClampNeg), .int (xs ((Int32.ofInt 0) + (Int32.ofInt 2)).toNatClampNeg), .int (xs ((Int32.ofInt 0) + (Int32.ofInt 3)).toNatClampNeg)]) (r := [.int v]) rfl rfl rfl rfl (by decide) rfl rfl rfl (and_mk rfl hr) (Go_room gm (by decide) (by decide +kernel)) ?_
  refine Go_brT rfl rfl rfl rfl ?_
  refine Go_Ps 7 (pc' := 24) (lv' := [(3, .int ((Int32.ofInt 0) + Int32.ofInt 6)), (2, .ref 159), (1, .ref 0), (0, .retAddr 0)]) (st' := [.int ((Int32.ofNat L) - ((Int8.ofInt 6).toInt32)), .int ((Int32.ofInt 0) + Int32.ofInt 6)]) rfl ?_
  refine Go_brT rfl rfl rfl (by subst hL; decide) ?_
  refine Go_Ps 1 (pc' := 2243) (lv' := [(3, .int ((Int32.ofInt 0) + Int32.ofInt 6)), (2, .ref 159), (1, .ref 0), (0, .retAddr 0)]) (st' := [.int (Int32.ofInt 1)]) rfl ?_
  exact Go_ret rfl rfl rfl
set_option maxHeartbeats 4000000 in
set_option maxRecDepth 100000 in
theorem law_21 {L : Nat} (hL : L = 6) {xs : Nat → Int32} (hv : (((xs (Int32.ofInt 0).toNatClampNeg) &&& ((Int8.ofInt 63).toInt32)) : Int32).toInt = 21) : ∃ hf, hf.length ≤ 1000 ∧ slo hf ≤ 100000 ∧ Go MT 2048 84000 (some (L, xs)) mr_327 33 [(3, .int (Int32.ofInt 0)), (2, .ref 159), (1, .ref 0), (0, .retAddr 0)] [.int ((xs (Int32.ofInt 0).toNatClampNeg) &&& ((Int8.ofInt 63).toInt32))] h0 (some (.int 1), hf) := by
  obtain ⟨v, h1, h2, hl, hs, hr, gx, gm⟩ := op_21
  refine ⟨h2, hl, hs, ?_⟩
  refine Go_swI (o := 884) (t := 917) rfl (by rw [hv]; decide) (by rw [hv]; rfl) (by decide) ?_
  refine Go_Ps 1 (pc' := 918) (lv' := [(3, .int (Int32.ofInt 0)), (2, .ref 159), (1, .ref 0), (0, .retAddr 0)]) (st' := [.ref 0]) rfl ?_
  refine Go_call (v1 := (some (.int v))) (h1 := h1) (vs := [.ref 0]) (r := []) rfl rfl rfl rfl (by decide) rfl rfl rfl rfl (Go_room gx (by decide) (by decide +kernel)) ?_
  refine Go_Ps 1 (pc' := 922) (lv' := [(3, .int (Int32.ofInt 0)), (2, .ref 159), (1, .ref 0), (0, .retAddr 0)]) (st' := [.ref 159, .int v]) rfl ?_
  refine Go_call (v1 := (some (.int v))) (h1 := h2) (vs := [.ref 159]) (r := [.int v]) rfl rfl rfl rfl (by decide) rfl rfl rfl (and_mk rfl hr) (Go_room gm (by decide) (by decide +kernel)) ?_
  refine Go_brT rfl rfl rfl rfl ?_
  refine Go_Ps 7 (pc' := 24) (lv' := [(3, .int ((Int32.ofInt 0) + Int32.ofInt 6)), (2, .ref 159), (1, .ref 0), (0, .retAddr 0)]) (st' := [.int ((Int32.ofNat L) - ((Int8.ofInt 6).toInt32)), .int ((Int32.ofInt 0) + Int32.ofInt 6)]) rfl ?_
  refine Go_brT rfl rfl rfl (by subst hL; decide) ?_
  refine Go_Ps 1 (pc' := 2243) (lv' := [(3, .int ((Int32.ofInt 0) + Int32.ofInt 6)), (2, .ref 159), (1, .ref 0), (0, .retAddr 0)]) (st' := [.int (Int32.ofInt 1)]) rfl ?_
  exact Go_ret rfl rfl rfl
set_option maxHeartbeats 4000000 in
set_option maxRecDepth 100000 in
theorem law_22 {L : Nat} (hL : L = 6) {xs : Nat → Int32} (hv : (((xs (Int32.ofInt 0).toNatClampNeg) &&& ((Int8.ofInt 63).toInt32)) : Int32).toInt = 22) : ∃ hf, hf.length ≤ 1000 ∧ slo hf ≤ 100000 ∧ Go MT 2048 84000 (some (L, xs)) mr_327 33 [(3, .int (Int32.ofInt 0)), (2, .ref 159), (1, .ref 0), (0, .retAddr 0)] [.int ((xs (Int32.ofInt 0).toNatClampNeg) &&& ((Int8.ofInt 63).toInt32))] h0 (some (.int 1), hf) := by
  obtain ⟨v, h1, h2, hl, hs, hr, gx, gm⟩ := op_22 (xs ((Int32.ofInt 0) + (Int32.ofInt 1)).toNatClampNeg) (xs ((Int32.ofInt 0) + (Int32.ofInt 2)).toNatClampNeg) (xs ((Int32.ofInt 0) + (Int32.ofInt 3)).toNatClampNeg)
  refine ⟨h2, hl, hs, ?_⟩
  refine Go_swI (o := 897) (t := 930) rfl (by rw [hv]; decide) (by rw [hv]; rfl) (by decide) ?_
  refine Go_Ps 5 (pc' := 935) (lv' := [(3, .int (Int32.ofInt 0)), (2, .ref 159), (1, .ref 0), (0, .retAddr 0)]) (st' := [.int ((Int32.ofInt 0) + (Int32.ofInt 1)), .retAddr 0, .ref 0]) rfl ?_
  refine Go_sld rfl (by subst hL; decide +kernel) ?_
  refine Go_Ps 4 (pc' := 940) (lv' := [(3, .int (Int32.ofInt 0)), (2, .ref 159), (1, .ref 0), (0, .retAddr 0)]) (st' := [.int ((Int32.ofInt 0) + (Int32.ofInt 2)), .retAddr 0, .int (xs ((Int32.ofInt 0) + (Int32.ofInt 1)).toNatClampNeg), .ref 0]) rfl ?_
  refine Go_sld rfl (by subst hL; decide +kernel) ?_
  refine Go_Ps 4 (pc' := 945) (lv' := [(3, .int (Int32.ofInt 0)), (2, .ref 159), (1, .ref 0), (0, .retAddr 0)]) (st' := [.int ((Int32.ofInt 0) + (Int32.ofInt 3)), .retAddr 0, .int (xs ((Int32.ofInt 0) + (Int32.ofInt 2)).toNatClampNeg), .int (xs ((Int32.ofInt 0) + (Int32.ofInt 1)).toNatClampNeg), .ref 0]) rfl ?_
  refine Go_sld rfl (by subst hL; decide +kernel) ?_
  refine Go_call (v1 := (some (.int v))) (h1 := h1) (vs := [.ref 0, .int (xs ((Int32.ofInt 0) + (Int32.ofInt 1)).toNatClampNeg), .int (xs ((Int32.ofInt 0) + (Int32.ofInt 2)).toNatClampNeg), .int (xs ((Int32.ofInt 0) + (Int32.ofInt 3)).toNatClampNeg)]) (r := []) rfl rfl rfl rfl (by decide) rfl rfl rfl rfl (Go_room gx (by decide) (by decide +kernel)) ?_
  refine Go_Ps 5 (pc' := 954) (lv' := [(3, .int (Int32.ofInt 0)), (2, .ref 159), (1, .ref 0), (0, .retAddr 0)]) (st' := [.int ((Int32.ofInt 0) + (Int32.ofInt 1)), .retAddr 0, .ref 159, .int v]) rfl ?_
  refine Go_sld rfl (by subst hL; decide +kernel) ?_
  refine Go_Ps 4 (pc' := 959) (lv' := [(3, .int (Int32.ofInt 0)), (2, .ref 159), (1, .ref 0), (0, .retAddr 0)]) (st' := [.int ((Int32.ofInt 0) + (Int32.ofInt 2)), .retAddr 0, .int (xs ((Int32.ofInt 0) + (Int32.ofInt 1)).toNatClampNeg), .ref 159, .int v]) rfl ?_
  refine Go_sld rfl (by subst hL; decide +kernel) ?_
  refine Go_Ps 4 (pc' := 964) (lv' := [(3, .int (Int32.ofInt 0)), (2, .ref 159), (1, .ref 0), (0, .retAddr 0)]) (st' := [.int ((Int32.ofInt 0) + (Int32.ofInt 3)), .retAddr 0, .int (xs ((Int32.ofInt 0) + (Int32.ofInt 2)).toNatClampNeg), .int (xs ((Int32.ofInt 0) + (Int32.ofInt 1)).toNatClampNeg), .ref 159, .int v]) rfl ?_
  refine Go_sld rfl (by subst hL; decide +kernel) ?_
  refine Go_call (v1 := (some (.int v))) (h1 := h2) (vs := [.ref 159, .int (xs ((Int32.ofInt 0) + (Int32.ofInt 1)).toNatClampNeg), .int (xs ((Int32.ofInt 0) + (Int32.ofInt 2)).toNatClampNeg), .int (xs ((Int32.ofInt 0) + (Int32.ofInt 3)).toNatClampNeg)]) (r := [.int v]) rfl rfl rfl rfl (by decide) rfl rfl rfl (and_mk rfl hr) (Go_room gm (by decide) (by decide +kernel)) ?_
  refine Go_brT rfl rfl rfl rfl ?_
  refine Go_Ps 7 (pc' := 24) (lv' := [(3, .int ((Int32.ofInt 0) + Int32.ofInt 6)), (2, .ref 159), (1, .ref 0), (0, .retAddr 0)]) (st' := [.int ((Int32.ofNat L) - ((Int8.ofInt 6).toInt32)), .int ((Int32.ofInt 0) + Int32.ofInt 6)]) rfl ?_
  refine Go_brT rfl rfl rfl (by subst hL; decide) ?_
  refine Go_Ps 1 (pc' := 2243) (lv' := [(3, .int ((Int32.ofInt 0) + Int32.ofInt 6)), (2, .ref 159), (1, .ref 0), (0, .retAddr 0)]) (st' := [.int (Int32.ofInt 1)]) rfl ?_
  exact Go_ret rfl rfl rfl
set_option maxHeartbeats 4000000 in
set_option maxRecDepth 100000 in
theorem law_23 {L : Nat} (hL : L = 6) {xs : Nat → Int32} (hv : (((xs (Int32.ofInt 0).toNatClampNeg) &&& ((Int8.ofInt 63).toInt32)) : Int32).toInt = 23) : ∃ hf, hf.length ≤ 1000 ∧ slo hf ≤ 100000 ∧ Go MT 2048 84000 (some (L, xs)) mr_327 33 [(3, .int (Int32.ofInt 0)), (2, .ref 159), (1, .ref 0), (0, .retAddr 0)] [.int ((xs (Int32.ofInt 0).toNatClampNeg) &&& ((Int8.ofInt 63).toInt32))] h0 (some (.int 1), hf) := by
  obtain ⟨v, h1, h2, hl, hs, hr, gx, gm⟩ := op_23 (xs ((Int32.ofInt 0) + (Int32.ofInt 1)).toNatClampNeg)
  refine ⟨h2, hl, hs, ?_⟩
  refine Go_swI (o := 940) (t := 973) rfl (by rw [hv]; decide) (by rw [hv]; rfl) (by decide) ?_
  refine Go_Ps 5 (pc' := 978) (lv' := [(3, .int (Int32.ofInt 0)), (2, .ref 159), (1, .ref 0), (0, .retAddr 0)]) (st' := [.int ((Int32.ofInt 0) + (Int32.ofInt 1)), .retAddr 0, .ref 0]) rfl ?_
  refine Go_sld rfl (by subst hL; decide +kernel) ?_
  refine Go_call (v1 := (some (.int v))) (h1 := h1) (vs := [.ref 0, .int (xs ((Int32.ofInt 0) + (Int32.ofInt 1)).toNatClampNeg)]) (r := []) rfl rfl rfl rfl (by decide) rfl rfl rfl rfl (Go_room gx (by decide) (by decide +kernel)) ?_
  refine Go_Ps 5 (pc' := 987) (lv' := [(3, .int (Int32.ofInt 0)), (2, .ref 159), (1, .ref 0), (0, .retAddr 0)]) (st' := [.int ((Int32.ofInt 0) + (Int32.ofInt 1)), .retAddr 0, .ref 159, .int v]) rfl ?_
  refine Go_sld rfl (by subst hL; decide +kernel) ?_
  refine Go_call (v1 := (some (.int v))) (h1 := h2) (vs := [.ref 159, .int (xs ((Int32.ofInt 0) + (Int32.ofInt 1)).toNatClampNeg)]) (r := [.int v]) rfl rfl rfl rfl (by decide) rfl rfl rfl (and_mk rfl hr) (Go_room gm (by decide) (by decide +kernel)) ?_
  refine Go_brT rfl rfl rfl rfl ?_
  refine Go_Ps 7 (pc' := 24) (lv' := [(3, .int ((Int32.ofInt 0) + Int32.ofInt 6)), (2, .ref 159), (1, .ref 0), (0, .retAddr 0)]) (st' := [.int ((Int32.ofNat L) - ((Int8.ofInt 6).toInt32)), .int ((Int32.ofInt 0) + Int32.ofInt 6)]) rfl ?_
  refine Go_brT rfl rfl rfl (by subst hL; decide) ?_
  refine Go_Ps 1 (pc' := 2243) (lv' := [(3, .int ((Int32.ofInt 0) + Int32.ofInt 6)), (2, .ref 159), (1, .ref 0), (0, .retAddr 0)]) (st' := [.int (Int32.ofInt 1)]) rfl ?_
  exact Go_ret rfl rfl rfl
