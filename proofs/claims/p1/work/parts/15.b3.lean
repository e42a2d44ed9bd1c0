set_option maxHeartbeats 4000000 in
set_option maxRecDepth 100000 in
theorem law_24 {L : Nat} (hL : L = 6) {xs : Nat → Int32} (hv : (((xs (Int32.ofInt 0).toNatClampNeg) &&& ((Int8.ofInt 63).toInt32)) : Int32).toInt = 24) : ∃ hf, hf.length ≤ 1000 ∧ slo hf ≤ 100000 ∧ Go MT 2048 84000 (some (L, xs)) mr_327 33 [(3, .int (Int32.ofInt 0)), (2, .ref 159), (1, .ref 0), (0, .retAddr 0)] [.int ((xs (Int32.ofInt 0).toNatClampNeg) &&& ((Int8.ofInt 63).toInt32))] h0 (some (.int 1), hf) := by
  obtain ⟨v, h1, h2, hl, hs, hr, gx, gm⟩ := op_24 (xs ((Int32.ofInt 0) + (Int32.ofInt 1)).toNatClampNeg)
  refine ⟨h2, hl, hs, ?_⟩
  refine Go_swI (o := 963) (t := 996) rfl (by rw [hv]; decide) (by rw [hv]; rfl) (by decide) ?_
  refine Go_Ps 5 (pc' := 1001) (lv' := [(3, .int (Int32.ofInt 0)), (2, .ref 159), (1, .ref 0), (0, .retAddr 0)]) (st' := [.int ((Int32.ofInt 0) + (Int32.ofInt 1)), .retAddr 0, .ref 0]) rfl ?_
  refine Go_sld rfl (by subst hL; decide +kernel) ?_
  refine Go_call (v1 := (some (.int v))) (h1 := h1) (vs := [.ref 0, .int (xs ((Int32.ofInt 0) + (Int32.ofInt 1)).toNatClampNeg)]) (r := []) rfl rfl rfl rfl (by decide) rfl rfl rfl rfl (Go_room gx (by decide) (by decide +kernel)) ?_
  refine Go_Ps 5 (pc' := 1010) (lv' := [(3, .int (Int32.ofInt 0)), (2, .ref 159), (1, .ref 0), (0, .retAddr 0)]) (st' := [.int ((Int32.ofInt 0) + (Int32.ofInt 1)), .retAddr 0, .ref 159, .int v]) rfl ?_
  refine Go_sld rfl (by subst hL; decide +kernel) ?_
  refine Go_call (v1 := (some (.int v))) (h1 := h2) (vs := [.ref 159, .int (xs ((Int32.ofInt 0) + (Int32.ofInt 1)).toNatClampNeg)]) (r := [.int v]) rfl rfl rfl rfl (by decide) rfl rfl rfl (and_mk rfl hr) (Go_room gm (by decide) (by decide +kernel)) ?_
  refine Go_brT rfl rfl rfl rfl ?_
  refine Go_Ps 7 (pc' := 24) (lv' := [(3, .int ((Int32.ofInt 0) + Int32.ofInt 6)), (2, .ref 159), (1, .ref 0), (0, .retAddr 0)]) (st' := [.int ((Int32.ofNat L) - ((Int8.ofInt 6).toInt32)), .int ((Int32.ofInt 0) + Int32.ofInt 6)]) rfl ?_
  refine Go_brT rfl rfl rfl (by subst hL; decide) ?_
  refine Go_Ps 1 (pc' := 2243) (lv' := [(3, .int ((Int32.ofInt 0) + Int32.ofInt 6)), (2, .ref 159), (1, .ref 0), (0, .retAddr 0)]) (st' := [.int (Int32.ofInt 1)]) rfl ?_
  exact Go_ret rfl rfl rfl
set_option maxHeartbeats 4000000 in
set_option maxRecDepth 100000 in
theorem law_25 {L : Nat} (hL : L = 6) {xs : Nat → Int32} (hv : (((xs (Int32.ofInt 0).toNatClampNeg) &&& ((Int8.ofInt 63).toInt32)) : Int32).toInt = 25) : ∃ hf, hf.length ≤ 1000 ∧ slo hf ≤ 100000 ∧ Go MT 2048 84000 (some (L, xs)) mr_327 33 [(3, .int (Int32.ofInt 0)), (2, .ref 159), (1, .ref 0), (0, .retAddr 0)] [.int ((xs (Int32.ofInt 0).toNatClampNeg) &&& ((Int8.ofInt 63).toInt32))] h0 (some (.int 1), hf) := by
  obtain ⟨v, h1, h2, hl, hs, hr, gx, gm⟩ := op_25 (xs ((Int32.ofInt 0) + (Int32.ofInt 1)).toNatClampNeg) (xs ((Int32.ofInt 0) + (Int32.ofInt 2)).toNatClampNeg)
  refine ⟨h2, hl, hs, ?_⟩
  refine Go_swI (o := 986) (t := 1019) rfl (by rw [hv]; decide) (by rw [hv]; rfl) (by decide) ?_
  refine Go_Ps 5 (pc' := 1024) (lv' := [(3, .int (Int32.ofInt 0)), (2, .ref 159), (1, .ref 0), (0, .retAddr 0)]) (st' := [.int ((Int32.ofInt 0) + (Int32.ofInt 1)), .retAddr 0, .ref 0]) rfl ?_
  refine Go_sld rfl (by subst hL; decide +kernel) ?_
  refine Go_Ps 4 (pc' := 1029) (lv' := [(3, .int (Int32.ofInt 0)), (2, .ref 159), (1, .ref 0), (0, .retAddr 0)]) (st' := [.int ((Int32.ofInt 0) + (Int32.ofInt 2)), .retAddr 0, .int (xs ((Int32.ofInt 0) + (Int32.ofInt 1)).toNatClampNeg), .ref 0]) rfl ?_
  refine Go_sld rfl (by subst hL; decide +kernel) ?_
  refine Go_call (v1 := (some (.int v))) (h1 := h1) (vs := [.ref 0, .int (xs ((Int32.ofInt 0) + (Int32.ofInt 1)).toNatClampNeg), .int (xs ((Int32.ofInt 0) + (Int32.ofInt 2)).toNatClampNeg)]) (r := []) rfl rfl rfl rfl (by decide) rfl rfl rfl rfl (Go_room gx (by decide) (by decide +kernel)) ?_
  refine Go_Ps 5 (pc' := 1038) (lv' := [(3, .int (Int32.ofInt 0)), (2, .ref 159), (1, .ref 0), (0, .retAddr 0)]) (st' := [.int ((Int32.ofInt 0) + (Int32.ofInt 1)), .retAddr 0, .ref 159, .int v]) rfl ?_
  refine Go_sld rfl (by subst hL; decide +kernel) ?_
  refine Go_Ps 4 (pc' := 1043) (lv' := [(3, .int (Int32.ofInt 0)), (2, .ref 159), (1, .ref 0), (0, .retAddr 0)]) (st' := [.int ((Int32.ofInt 0) + (Int32.ofInt 2)), .retAddr 0, .int (xs ((Int32.ofInt 0) + (Int32.ofInt 1)).toNatClampNeg), .ref 159, .int v]) rfl ?_
  refine Go_sld rfl (by subst hL; decide +kernel) ?_
  refine Go_call (v1 := (some (.int v))) (h1 := h2) (vs := [.ref 159, .int (xs ((Int32.ofInt 0) + (Int32.ofInt 1)).toNatClampNeg), .int (xs ((Int32.ofInt 0) + (Int32.ofInt 2)).toNatClampNeg)]) (r := [.int v]) rfl rfl rfl rfl (by decide) rfl rfl rfl (and_mk rfl hr) (Go_room gm (by decide) (by decide +kernel)) ?_
  refine Go_brT rfl rfl rfl rfl ?_
  refine Go_Ps 7 (pc' := 24) (lv' := [(3, .int ((Int32.ofInt 0) + Int32.ofInt 6)), (2, .ref 159), (1, .ref 0), (0, .retAddr 0)]) (st' := [.int ((Int32.ofNat L) - ((Int8.ofInt 6).toInt32)), .int ((Int32.ofInt 0) + Int32.ofInt 6)]) rfl ?_
  refine Go_brT rfl rfl rfl (by subst hL; decide) ?_
  refine Go_Ps 1 (pc' := 2243) (lv' := [(3, .int ((Int32.ofInt 0) + Int32.ofInt 6)), (2, .ref 159), (1, .ref 0), (0, .retAddr 0)]) (st' := [.int (Int32.ofInt 1)]) rfl ?_
  exact Go_ret rfl rfl rfl
set_option maxHeartbeats 4000000 in
set_option maxRecDepth 100000 in
theorem law_26 {L : Nat} (hL : L = 6) {xs : Nat → Int32} (hv : (((xs (Int32.ofInt 0).toNatClampNeg) &&& ((Int8.ofInt 63).toInt32)) : Int32).toInt = 26) : ∃ hf, hf.length ≤ 1000 ∧ slo hf ≤ 100000 ∧ Go MT 2048 84000 (some (L, xs)) mr_327 33 [(3, .int (Int32.ofInt 0)), (2, .ref 159), (1, .ref 0), (0, .retAddr 0)] [.int ((xs (Int32.ofInt 0).toNatClampNeg) &&& ((Int8.ofInt 63).toInt32))] h0 (some (.int 1), hf) := by
  obtain ⟨v, h1, h2, hl, hs, hr, gx, gm⟩ := op_26 (xs ((Int32.ofInt 0) + (Int32.ofInt 1)).toNatClampNeg) (xs ((Int32.ofInt 0) + (Int32.ofInt 2)).toNatClampNeg)
  refine ⟨h2, hl, hs, ?_⟩
  refine Go_swI (o := 1019) (t := 1052) rfl (by rw [hv]; decide) (by rw [hv]; rfl) (by decide) ?_
  refine Go_Ps 5 (pc' := 1057) (lv' := [(3, .int (Int32.ofInt 0)), (2, .ref 159), (1, .ref 0), (0, .retAddr 0)]) (st' := [.int ((Int32.ofInt 0) + (Int32.ofInt 1)), .retAddr 0, .ref 0]) rfl ?_
  refine Go_sld rfl (by subst hL; decide +kernel) ?_
  refine Go_Ps 4 (pc' := 1062) (lv' := [(3, .int (Int32.ofInt 0)), (2, .ref 159), (1, .ref 0), (0, .retAddr 0)]) (st' := [.int ((Int32.ofInt 0) + (Int32.ofInt 2)), .retAddr 0, .int (xs ((Int32.ofInt 0) + (Int32.ofInt 1)).toNatClampNeg), .ref 0]) rfl ?_
  refine Go_sld rfl (by subst hL; decide +kernel) ?_
  refine Go_call (v1 := (some (.int v))) (h1 := h1) (vs := [.ref 0, .int (xs ((Int32.ofInt 0) + (Int32.ofInt 1)).toNatClampNeg), .int (xs ((Int32.ofInt 0) + (Int32.ofInt 2)).toNatClampNeg)]) (r := []) rfl rfl rfl rfl (by decide) rfl rfl rfl rfl (Go_room gx (by decide) (by decide +kernel)) ?_
  refine Go_Ps 5 (pc' := 1071) (lv' := [(3, .int (Int32.ofInt 0)), (2, .ref 159), (1, .ref 0), (0, .retAddr 0)]) (st' := [.int ((Int32.ofInt 0) + (Int32.ofInt 1)), .retAddr 0, .ref 159, .int v]) rfl ?_
  refine Go_sld rfl (by subst hL; decide +kernel) ?_
  refine Go_Ps 4 (pc' := 1076) (lv' := [(3, .int (Int32.ofInt 0)), (2, .ref 159), (1, .ref 0), (0, .retAddr 0)]) (st' := [.int ((Int32.ofInt 0) + (Int32.ofInt 2)), .retAddr 0, .int (xs ((Int32.ofInt 0) + (Int32.ofInt 1)).toNatClampNeg), .ref 159, .int v]) rfl ?_
  refine Go_sld rfl (by subst hL; decide +kernel) ?_
  refine Go_call (v1 := (some (.int v))) (h1 := h2) (vs := [.ref 159, .int (xs ((Int32.ofInt 0) + (Int32.ofInt 1)).toNatClampNeg), .int (xs ((Int32.ofInt 0) + (Int32.ofInt 2)).toNatClampNeg)]) (r := [.int v]) rfl rfl rfl rfl (by decide) rfl rfl rfl (and_mk rfl hr) (Go_room gm (by decide) (by decide +kernel)) ?_
  refine Go_brT rfl rfl rfl rfl ?_
  refine Go_Ps 7 (pc' := 24) (lv' := [(3, .int ((Int32.ofInt 0) + Int32.ofInt 6)), (2, .ref 159), (1, .ref 0), (0, .retAddr 0)]) (st' := [.int ((Int32.ofNat L) - ((Int8.ofInt 6).toInt32)), .int ((Int32.ofInt 0) + Int32.ofInt 6)]) rfl ?_
  refine Go_brT rfl rfl rfl (by subst hL; decide) ?_
  refine Go_Ps 1 (pc' := 2243) (lv' := [(3, .int ((Int32.ofInt 0) + Int32.ofInt 6)), (2, .ref 159), (1, .ref 0), (0, .retAddr 0)]) (st' := [.int (Int32.ofInt 1)]) rfl ?_
  exact Go_ret rfl rfl rfl
set_option maxHeartbeats 4000000 in
set_option maxRecDepth 100000 in
theorem law_27 {L : Nat} (hL : L = 6) {xs : Nat → Int32} (hv : (((xs (Int32.ofInt 0).toNatClampNeg) &&& ((Int8.ofInt 63).toInt32)) : Int32).toInt = 27) : ∃ hf, hf.length ≤ 1000 ∧ slo hf ≤ 100000 ∧ Go MT 2048 84000 (some (L, xs)) mr_327 33 [(3, .int (Int32.ofInt 0)), (2, .ref 159), (1, .ref 0), (0, .retAddr 0)] [.int ((xs (Int32.ofInt 0).toNatClampNeg) &&& ((Int8.ofInt 63).toInt32))] h0 (some (.int 1), hf) := by
  obtain ⟨v, h1, h2, hl, hs, hr, gx, gm⟩ := op_27 (xs ((Int32.ofInt 0) + (Int32.ofInt 1)).toNatClampNeg) (xs ((Int32.ofInt 0) + (Int32.ofInt 2)).toNatClampNeg) (xs ((Int32.ofInt 0) + (Int32.ofInt 3)).toNatClampNeg)
  refine ⟨h2, hl, hs, ?_⟩
  refine Go_swI (o := 1052) (t := 1085) rfl (by rw [hv]; decide) (by rw [hv]; rfl) (by decide) ?_
  refine Go_Ps 5 (pc' := 1090) (lv' := [(3, .int (Int32.ofInt 0)), (2, .ref 159), (1, .ref 0), (0, .retAddr 0)]) (st' := [.int ((Int32.ofInt 0) + (Int32.ofInt 1)), .retAddr 0, .ref 0]) rfl ?_
  refine Go_sld rfl (by subst hL; decide +kernel) ?_
  refine Go_Ps 4 (pc' := 1095) (lv' := [(3, .int (Int32.ofInt 0)), (2, .ref 159), (1, .ref 0), (0, .retAddr 0)]) (st' := [.int ((Int32.ofInt 0) + (Int32.ofInt 2)), .retAddr 0, .int (xs ((Int32.ofInt 0) + (Int32.ofInt 1)).toNatClampNeg), .ref 0]) rfl ?_
  refine Go_sld rfl (by subst hL; decide +kernel) ?_
  refine Go_Ps 4 (pc' := 1100) (lv' := [(3, .int (Int32.ofInt 0)), (2, .ref 159), (1, .ref 0), (0, .retAddr 0)]) (st' := [.int ((Int32.ofInt 0) + (Int32.ofInt 3)), .retAddr 0, .int (xs ((Int32.ofInt 0) + (Int32.ofInt 2)).toNatClampNeg), .int (xs ((Int32.ofInt 0) + (Int32.ofInt 1)).toNatClampNeg), .ref 0]) rfl ?_
  refine Go_sld rfl (by subst hL; decide +kernel) ?_
  refine Go_call (v1 := (some (.int v))) (h1 := h1) (vs := [.ref 0, .int (xs ((Int32.ofInt 0) + (Int32.ofInt 1)).toNatClampNeg), .int (xs ((Int32.ofInt 0) + (Int32.ofInt 2)).toNatClampNeg), .int (xs ((Int32.ofInt 0) + (Int32.ofInt 3)).toNatClampNeg)]) (r := []) rfl rfl rfl rfl (by decide) rfl rfl rfl rfl (Go_room gx (by decide) (by decide +kernel)) ?_
  refine Go_Ps 5 (pc' := 1109) (lv' := [(3, .int (Int32.ofInt 0)), (2, .ref 159), (1, .ref 0), (0, .retAddr 0)]) (st' := [.int ((Int32.ofInt 0) + (Int32.ofInt 1)), .retAddr 0, .ref 159, .int v]) rfl ?_
  refine Go_sld rfl (by subst hL; decide +kernel) ?_
  refine Go_Ps 4 (pc' := 1114) (lv' := [(3, .int (Int32.ofInt 0)), (2, .ref 159), (1, .ref 0), (0, .retAddr 0)]) (st' := [.int ((Int32.ofInt 0) + (Int32.ofInt 2)), .retAddr 0, .int (xs ((Int32.ofInt 0) + (Int32.ofInt 1)).toNatClampNeg), .ref 159, .int v]) rfl ?_
  refine Go_sld rfl (by subst hL; decide +kernel) ?_
  refine Go_Ps 4 (pc' := 1119) (lv' := [(3, .int (Int32.ofInt 0)), (2, .ref 159), (1, .ref 0), (0, .retAddr 0)]) (st' := [.int ((Int32.ofInt 0) + (Int32.ofInt 3)), .retAddr 0, .int (xs ((Int32.ofInt 0) + (Int32.ofInt 2)).toNatClampNeg), .int (xs ((Int32.ofInt 0) + (Int32.ofInt 1)).toNatClampNeg), .ref 159, .int v]) rfl ?_
  refine Go_sld rfl (by subst hL; decide +kernel) ?_
  refine Go_call (v1 := (some (.int v))) (h1 := h2) (vs := [.ref 159, .int (xs ((Int32.ofInt 0) + (Int32.ofInt 1)).toNatClampNeg), .int (xs ((Int32.ofInt 0) + (Int32.ofInt 2)).toNatClampNeg), .int (xs ((Int32.ofInt 0) + (Int32.ofInt 3)).toNatClampNeg)]) (r := [.int v]) rfl rfl rfl rfl (by decide) rfl rfl rfl (and_mk rfl hr) (Go_room gm (by decide) (by decide +kernel)) ?_
  refine Go_brT rfl rfl rfl rfl ?_
  refine Go_Ps 7 (pc' := 24) (lv' := [(3, .int ((Int32.ofInt 0) + Int32.ofInt 6)), (2, .ref 159), (1, .ref 0), (0, .retAddr 0)]) (st' := [.int ((Int32.ofNat L) - ((Int8.ofInt 6).toInt32)), .int ((Int32.ofInt 0) + Int32.ofInt 6)]) rfl ?_
  refine Go_brT rfl rfl rfl (by subst hL; decide) ?_
  refine Go_Ps 1 (pc' := 2243) (lv' := [(3, .int ((Int32.ofInt 0) + Int32.ofInt 6)), (2, .ref 159), (1, .ref 0), (0, .retAddr 0)]) (st' := [.int (Int32.ofInt 1)]) rfl ?_
  exact Go_ret rfl rfl rfl
set_option maxHeartbeats 4000000 in
set_option maxRecDepth 100000 in
theorem law_28 {L : Nat} (hL : L = 6) {xs : Nat → Int32} (hv : (((xs (Int32.ofInt 0).toNatClampNeg) &&& ((Int8.ofInt 63).toInt32)) : Int32).toInt = 28) : ∃ hf, hf.length ≤ 1000 ∧ slo hf ≤ 100000 ∧ Go MT 2048 84000 (some (L, xs)) mr_327 33 [(3, .int (Int32.ofInt 0)), (2, .ref 159), (1, .ref 0), (0, .retAddr 0)] [.int ((xs (Int32.ofInt 0).toNatClampNeg) &&& ((Int8.ofInt 63).toInt32))] h0 (some (.int 1), hf) := by
  obtain ⟨v, h1, h2, hl, hs, hr, gx, gm⟩ := op_28 (xs ((Int32.ofInt 0) + (Int32.ofInt 1)).toNatClampNeg)
  refine ⟨h2, hl, hs, ?_⟩
  refine Go_swI (o := 1095) (t := 1128) rfl (by rw [hv]; decide) (by rw [hv]; rfl) (by decide) ?_
  refine Go_Ps 5 (pc' := 1133) (lv' := [(3, .int (Int32.ofInt 0)), (2, .ref 159), (1, .ref 0), (0, .retAddr 0)]) (st' := [.int ((Int32.ofInt 0) + (Int32.ofInt 1)), .retAddr 0, .ref 0]) rfl ?_
  refine Go_sld rfl (by subst hL; decide +kernel) ?_
  refine Go_call (v1 := (some (.int v))) (h1 := h1) (vs := [.ref 0, .int (xs ((Int32.ofInt 0) + (Int32.ofInt 1)).toNatClampNeg)]) (r := []) rfl rfl rfl rfl (by decide) rfl rfl rfl rfl (Go_room gx (by decide) (by decide +kernel)) ?_
  refine Go_Ps 5 (pc' := 1142) (lv' := [(3, .int (Int32.ofInt 0)), (2, .ref 159), (1, .ref 0), (0, .retAddr 0)]) (st' := [.int ((Int32.ofInt 0) + (Int32.ofInt 1)), .retAddr 0, .ref 159, .int v]) rfl ?_
  refine Go_sld rfl (by subst hL; decide +kernel) ?_
  refine Go_call (v1 := (some (.int v))) (h1 := h2) (vs := [.ref 159, .int (xs ((Int32.ofInt 0) + (Int32.ofInt 1)).toNatClampNeg)]) (r := [.int v]) rfl rfl rfl rfl (by decide) rfl rfl rfl (and_mk rfl hr) (Go_room gm (by decide) (by decide +kernel)) ?_
  refine Go_brT rfl rfl rfl rfl ?_
  refine Go_Ps 7 (pc' := 24) (lv' := [(3, .int ((Int32.ofInt 0) + Int32.ofInt 6)), (2, .ref 159), (1, .ref 0), (0, .retAddr 0)]) (st' := [.int ((Int32.ofNat L) - ((Int8.ofInt 6).toInt32)), .int ((Int32.ofInt 0) + Int32.ofInt 6)]) rfl ?_
  refine Go_brT rfl rfl rfl (by subst hL; decide) ?_
  refine Go_Ps 1 (pc' := 2243) (lv' := [(3, .int ((Int32.ofInt 0) + Int32.ofInt 6)), (2, .ref 159), (1, .ref 0), (0, .retAddr 0)]) (st' := [.int (Int32.ofInt 1)]) rfl ?_
  exact Go_ret rfl rfl rfl
set_option maxHeartbeats 4000000 in
set_option maxRecDepth 100000 in
theorem law_29 {L : Nat} (hL : L = 6) {xs : Nat → Int32} (hv : (((xs (Int32.ofInt 0).toNatClampNeg) &&& ((Int8.ofInt 63).toInt32)) : Int32).toInt = 29) : ∃ hf, hf.length ≤ 1000 ∧ slo hf ≤ 100000 ∧ Go MT 2048 84000 (some (L, xs)) mr_327 33 [(3, .int (Int32.ofInt 0)), (2, .ref 159), (1, .ref 0), (0, .retAddr 0)] [.int ((xs (Int32.ofInt 0).toNatClampNeg) &&& ((Int8.ofInt 63).toInt32))] h0 (some (.int 1), hf) := by
  obtain ⟨v, h1, h2, hl, hs, hr, gx, gm⟩ := op_29 (xs ((Int32.ofInt 0) + (Int32.ofInt 1)).toNatClampNeg) (xs ((Int32.ofInt 0) + (Int32.ofInt 2)).toNatClampNeg)
  refine ⟨h2, hl, hs, ?_⟩
  refine Go_swI (o := 1118) (t := 1151) rfl (by rw [hv]; decide) (by rw [hv]; rfl) (by decide) ?_
  refine Go_Ps 5 (pc' := 1156) (lv' := [(3, .int (Int32.ofInt 0)), (2, .ref 159), (1, .ref 0), (0, .retAddr 0)]) (st' := [.int ((Int32.ofInt 0) + (Int32.ofInt 1)), .retAddr 0, .ref 0]) rfl ?_
  refine Go_sld rfl (by subst hL; decide +kernel) ?_
  refine Go_Ps 4 (pc' := 1161) (lv' := [(3, .int (Int32.ofInt 0)), (2, .ref 159), (1, .ref 0), (0, .retAddr 0)]) (st' := [.int ((Int32.ofInt 0) + (Int32.ofInt 2)), .retAddr 0, .int (xs ((Int32.ofInt 0) + (Int32.ofInt 1)).toNatClampNeg), .ref 0]) rfl ?_
  refine Go_sld rfl (by subst hL; decide +kernel) ?_
  refine Go_call (v1 := (some (.int v))) (h1 := h1) (vs := [.ref 0, .int (xs ((Int32.ofInt 0) + (Int32.ofInt 1)).toNatClampNeg), .int (xs ((Int32.ofInt 0) + (Int32.ofInt 2)).toNatClampNeg)]) (r := []) rfl rfl rfl rfl (by decide) rfl rfl rfl rfl (Go_room gx (by decide) (by decide +kernel)) ?_
  refine Go_Ps 5 (pc' := 1170) (lv' := [(3, .int (Int32.ofInt 0)), (2, .ref 159), (1, .ref 0), (0, .retAddr 0)]) (st' := [.int ((Int32.ofInt 0) + (Int32.ofInt 1)), .retAddr 0, .ref 159, .int v]) rfl ?_
  refine Go_sld rfl (by subst hL; decide +kernel) ?_
  refine Go_Ps 4 (pc' := 1175) (lv' := [(3, .int (Int32.ofInt 0)), (2, .ref 159), (1, .ref 0), (0, .retAddr 0)]) (st' := [.int ((Int32.ofInt 0) + (Int32.ofInt 2)), .retAddr 0, .int (xs ((Int32.ofInt 0) + (Int32.ofInt 1)).toNatClampNeg), .ref 159, .int v]) rfl ?_
  refine Go_sld rfl (by subst hL; decide +kernel) ?_
  refine Go_call (v1 := (some (.int v))) (h1 := h2) (vs := [.ref 159, .int (xs ((Int32.ofInt 0) + (Int32.ofInt 1)).toNatClampNeg), .int (xs ((Int32.ofInt 0) + (Int32.ofInt 2)).toNatClampNeg)]) (r := [.int v]) rfl rfl rfl rfl (by decide) rfl rfl rfl (and_mk rfl hr) (Go_room gm (by decide) (by decide +kernel)) ?_
  refine Go_brT rfl rfl rfl rfl ?_
  refine Go_Ps 7 (pc' := 24) (lv' := [(3, .int ((Int32.ofInt 0) + Int32.ofInt 6)), (2, .ref 159), (1, .ref 0), (0, .retAddr 0)]) (st' := [.int ((Int32.ofNat L) - ((Int8.ofInt 6).toInt32)), .int ((Int32.ofInt 0) + Int32.ofInt 6)]) rfl ?_
  refine Go_brT rfl rfl rfl (by subst hL; decide) ?_
  refine Go_Ps 1 (pc' := 2243) (lv' := [(3, .int ((Int32.ofInt 0) + Int32.ofInt 6)), (2, .ref 159), (1, .ref 0), (0, .retAddr 0)]) (st' := [.int (Int32.ofInt 1)]) rfl ?_
  exact Go_ret rfl rfl rfl
set_option maxHeartbeats 4000000 in
set_option maxRecDepth 100000 in
theorem law_30 {L : Nat} (hL : L = 6) {xs : Nat → Int32} (hv : (((xs (Int32.ofInt 0).toNatClampNeg) &&& ((Int8.ofInt 63).toInt32)) : Int32).toInt = 30) : ∃ hf, hf.length ≤ 1000 ∧ slo hf ≤ 100000 ∧ Go MT 2048 84000 (some (L, xs)) mr_327 33 [(3, .int (Int32.ofInt 0)), (2, .ref 159), (1, .ref 0), (0, .retAddr 0)] [.int ((xs (Int32.ofInt 0).toNatClampNeg) &&& ((Int8.ofInt 63).toInt32))] h0 (some (.int 1), hf) := by
  obtain ⟨v, h1, h2, hl, hs, hr, gx, gm⟩ := op_30 (xs ((Int32.ofInt 0) + (Int32.ofInt 1)).toNatClampNeg) (xs ((Int32.ofInt 0) + (Int32.ofInt 2)).toNatClampNeg)
  refine ⟨h2, hl, hs, ?_⟩
  refine Go_swI (o := 1151) (t := 1184) rfl (by rw [hv]; decide) (by rw [hv]; rfl) (by decide) ?_
  refine Go_Ps 5 (pc' := 1189) (lv' := [(3, .int (Int32.ofInt 0)), (2, .ref 159), (1, .ref 0), (0, .retAddr 0)]) (st' := [.int ((Int32.ofInt 0) + (Int32.ofInt 1)), .retAddr 0, .ref 0]) rfl ?_
  refine Go_sld rfl (by subst hL; decide +kernel) ?_
  refine Go_Ps 4 (pc' := 1194) (lv' := [(3, .int (Int32.ofInt 0)), (2, .ref 159), (1, .ref 0), (0, .retAddr 0)]) (st' := [.int ((Int32.ofInt 0) + (Int32.ofInt 2)), .retAddr 0, .int (xs ((Int32.ofInt 0) + (Int32.ofInt 1)).toNatClampNeg), .ref 0]) rfl ?_
  refine Go_sld rfl (by subst hL; decide +kernel) ?_
  refine Go_call (v1 := (some (.int v))) (h1 := h1) (vs := [.ref 0, .int (xs ((Int32.ofInt 0) + (Int32.ofInt 1)).toNatClampNeg), .int (xs ((Int32.ofInt 0) + (Int32.ofInt 2)).toNatClampNeg)]) (r := []) rfl rfl rfl rfl (by decide) rfl rfl rfl rfl (Go_room gx (by decide) (by decide +kernel)) ?_
  refine Go_Ps 5 (pc' := 1203) (lv' := [(3, .int (Int32.ofInt 0)), (2, .ref 159), (1, .ref 0), (0, .retAddr 0)]) (st' := [.int ((Int32.ofInt 0) + (Int32.ofInt 1)), .retAddr 0, .ref 159, .int v]) rfl ?_
  refine Go_sld rfl (by subst hL; decide +kernel) ?_
  refine Go_Ps 4 (pc' := 1208) (lv' := [(3, .int (Int32.ofInt 0)), (2, .ref 159), (1, .ref 0), (0, .retAddr 0)]) (st' := [.int ((Int32.ofInt 0) + (Int32.ofInt 2)), .retAddr 0, .int (xs ((Int32.ofInt 0) + (Int32.ofInt 1)).toNatClampNeg), .ref 159, .int v]) rfl ?_
  refine Go_sld rfl (by subst hL; decide +kernel) ?_
  refine Go_call (v1 := (some (.int v))) (h1 := h2) (vs := [.ref 159, .int (xs ((Int32.ofInt 0) + (Int32.ofInt 1)).toNatClampNeg), .int (xs ((Int32.ofInt 0) + (Int32.ofInt 2)).toNatClampNeg)]) (r := [.int v]) rfl rfl rfl rfl (by decide) rfl rfl rfl (and_mk rfl hr) (Go_room gm (by decide) (by decide +kernel)) ?_
  refine Go_brT rfl rfl rfl rfl ?_
  refine Go_Ps 7 (pc' := 24) (lv' := [(3, .int ((Int32.ofInt 0) + Int32.ofInt 6)), (2, .ref 159), (1, .ref 0), (0, .retAddr 0)]) (st' := [.int ((Int32.ofNat L) - ((Int8.ofInt 6).toInt32)), .int ((Int32.ofInt 0) + Int32.ofInt 6)]) rfl ?_
  refine Go_brT rfl rfl rfl (by subst hL; decide) ?_
  refine Go_Ps 1 (pc' := 2243) (lv' := [(3, .int ((Int32.ofInt 0) + Int32.ofInt 6)), (2, .ref 159), (1, .ref 0), (0, .retAddr 0)]) (st' := [.int (Int32.ofInt 1)]) rfl ?_
  exact Go_ret rfl rfl rfl
set_option maxHeartbeats 4000000 in
set_option maxRecDepth 100000 in
theorem law_31 {L : Nat} (hL : L = 6) {xs : Nat → Int32} (hv : (((xs (Int32.ofInt 0).toNatClampNeg) &&& ((Int8.ofInt 63).toInt32)) : Int32).toInt = 31) : ∃ hf, hf.length ≤ 1000 ∧ slo hf ≤ 100000 ∧ Go MT 2048 84000 (some (L, xs)) mr_327 33 [(3, .int (Int32.ofInt 0)), (2, .ref 159), (1, .ref 0), (0, .retAddr 0)] [.int ((xs (Int32.ofInt 0).toNatClampNeg) &&& ((Int8.ofInt 63).toInt32))] h0 (some (.int 1), hf) := by
  obtain ⟨v, h1, h2, hl, hs, hr, gx, gm⟩ := op_31 (xs ((Int32.ofInt 0) + (Int32.ofInt 1)).toNatClampNeg) (xs ((Int32.ofInt 0) + (Int32.ofInt 2)).toNatClampNeg)
  refine ⟨h2, hl, hs, ?_⟩
  refine Go_swI (o := 1184) (t := 1217) rfl (by rw [hv]; decide) (by rw [hv]; rfl) (by decide) ?_
  refine Go_Ps 5 (pc' := 1222) (lv' := [(3, .int (Int32.ofInt 0)), (2, .ref 159), (1, .ref 0), (0, .retAddr 0)]) (st' := [.int ((Int32.ofInt 0) + (Int32.ofInt 1)), .retAddr 0, .ref 0]) rfl ?_
  refine Go_sld rfl (by subst hL; decide +kernel) ?_
  refine Go_Ps 4 (pc' := 1227) (lv' := [(3, .int (Int32.ofInt 0)), (2, .ref 159), (1, .ref 0), (0, .retAddr 0)]) (st' := [.int ((Int32.ofInt 0) + (Int32.ofInt 2)), .retAddr 0, .int (xs ((Int32.ofInt 0) + (Int32.ofInt 1)).toNatClampNeg), .ref 0]) rfl ?_
  refine Go_sld rfl (by subst hL; decide +kernel) ?_
  refine Go_call (v1 := (some (.int v))) (h1 := h1) (vs := [.ref 0, .int (xs ((Int32.ofInt 0) + (Int32.ofInt 1)).toNatClampNeg), .int (xs ((Int32.ofInt 0) + (Int32.ofInt 2)).toNatClampNeg)]) (r := []) rfl rfl rfl rfl (by decide) rfl rfl rfl rfl (Go_room gx (by decide) (by decide +kernel)) ?_
  refine Go_Ps 5 (pc' := 1236) (lv' := [(3, .int (Int32.ofInt 0)), (2, .ref 159), (1, .ref 0), (0, .retAddr 0)]) (st' := [.int ((Int32.ofInt 0) + (Int32.ofInt 1)), .retAddr 0, .ref 159, .int v]) rfl ?_
  refine Go_sld rfl (by subst hL; decide +kernel) ?_
  refine Go_Ps 4 (pc' := 1241) (lv' := [(3, .int (Int32.ofInt 0)), (2, .ref 159), (1, .ref 0), (0, .retAddr 0)]) (st' := [.int ((Int32.ofInt 0) + (Int32.ofInt 2)), .retAddr 0, .int (xs ((Int32.ofInt 0) + (Int32.ofInt 1)).toNatClampNeg), .ref 159, .int v]) rfl ?_
  refine Go_sld rfl (by subst hL; decide +kernel) ?_
  refine Go_call (v1 := (some (.int v))) (h1 := h2) (vs := [.ref 159, .int (xs ((Int32.ofInt 0) + (Int32.ofInt 1)).toNatClampNeg), .int (xs ((Int32.ofInt 0) + (Int32.ofInt 2)).toNatClampNeg)]) (r := [.int v]) rfl rfl rfl rfl (by decide) rfl rfl rfl (and_mk rfl hr) (Go_room gm (by decide) (by decide +kernel)) ?_
  refine Go_brT rfl rfl rfl rfl ?_
  refine Go_Ps 7 (pc' := 24) (lv' := [(3, .int ((Int32.ofInt 0) + Int32.ofInt 6)), (2, .ref 159), (1, .ref 0), (0, .retAddr 0)]) (st' := [.int ((Int32.ofNat L) - ((Int8.ofInt 6).toInt32)), .int ((Int32.ofInt 0) + Int32.ofInt 6)]) rfl ?_
  refine Go_brT rfl rfl rfl (by subst hL; decide) ?_
  refine Go_Ps 1 (pc' := 2243) (lv' := [(3, .int ((Int32.ofInt 0) + Int32.ofInt 6)), (2, .ref 159), (1, .ref 0), (0, .retAddr 0)]) (st' := [.int (Int32.ofInt 1)]) rfl ?_
  exact Go_ret rfl rfl rfl
