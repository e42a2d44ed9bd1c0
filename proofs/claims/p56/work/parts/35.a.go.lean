set_option maxRecDepth 100000 in
theorem law_front {L : Nat} {xs : Nat → Int32} {x : Option Value × AH} (g : Go MT 2048 84000 (some (L, xs)) mr_336 18 [(3, .int (Int32.ofInt 0)), (2, .ref 159), (1, .ref 0), (0, .retAddr 0)] [] h0 x) : Go MT 2048 84000 (some (L, xs)) mr_336 0 [(0, .retAddr 0)] [] [] x := by
  refine Go_N (pc' := 3) (st' := [.ref 0]) (h' := [(0, 10, DFL 10)]) rfl rfl rfl ?_
  refine Go_Ps 1 (pc' := 4) (lv' := [(0, .retAddr 0)]) (st' := [.ref 0, .ref 0]) rfl ?_
  refine Go_call (v1 := none) (h1 := hX) (vs := [.ref 0]) (r := [.ref 0]) rfl rfl rfl rfl (by decide) rfl rfl rfl rfl (Go_room run_X (by decide) (by decide +kernel)) ?_
  refine Go_Ps 1 (pc' := 8) (lv' := [(1, .ref 0), (0, .retAddr 0)]) (st' := []) rfl ?_
  refine Go_N (pc' := 11) (st' := [.ref 159]) (h' := hX ++ [(0, 11, DFL 11)]) rfl rfl (by decide +kernel) ?_
  refine Go_Ps 1 (pc' := 12) (lv' := [(1, .ref 0), (0, .retAddr 0)]) (st' := [.ref 159, .ref 159]) rfl ?_
  refine Go_call (v1 := none) (h1 := h0) (vs := [.ref 159]) (r := [.ref 159]) rfl rfl rfl rfl (by decide) rfl rfl rfl (by decide +kernel) (Go_room run_M (by decide) (by decide +kernel)) ?_
  refine Go_Ps 3 (pc' := 18) (lv' := [(3, .int (Int32.ofInt 0)), (2, .ref 159), (1, .ref 0), (0, .retAddr 0)]) (st' := []) rfl ?_
  exact g
theorem law_go {L : Nat} {xs : Nat → Int32} (hL : L ≤ 3072) : ∃ hf, hf.length ≤ 1000 ∧ slo hf ≤ 100000 ∧ Go MT 2048 84000 (some (L, xs)) mr_336 0 [(0, .retAddr 0)] [] [] (some (.int 1), hf) := by
  have h := law_loop (xs := xs) hL (L + 1) (Int32.ofInt 0) sg0 (by decide) (by decide) (by rw [show (Int32.ofInt 0).toInt = 0 from by decide]; omega) WT0 INVc0 WI0 LEA0
  have h2 : En 2048 84000 (some (L, xs)) mr_336 LPO 18 [(3, .int (Int32.ofInt 0)), (2, .ref 159), (1, .ref 0), (0, .retAddr 0)] [] sg0 := En_lv (lv := [(0, .retAddr 0), (1, .ref 0), (2, .ref 159), (3, .int (Int32.ofInt 0))]) ⟨rfl, rfl, rfl, rfl, trivial⟩ h
  obtain ⟨v, σ', g, rfl, w⟩ := h2
  refine ⟨HP σ', len_HP, slo_HP w, law_front ?_⟩
  rw [h0_HP]
  exact g

