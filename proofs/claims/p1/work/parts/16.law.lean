set_option maxRecDepth 100000 in
theorem law_front {L : Nat} {xs : Nat → Int32} {x : Option Value × AH} (g : Go MT 2048 84000 (some (L, xs)) mr_327 18 [(3, .int (Int32.ofInt 0)), (2, .ref 159), (1, .ref 0), (0, .retAddr 0)] [] h0 x) : Go MT 2048 84000 (some (L, xs)) mr_327 0 [(0, .retAddr 0)] [] [] x := by
  refine Go_N (pc' := 3) (st' := [.ref 0]) (h' := [(0, 10, DFL 10)]) rfl rfl rfl ?_
  refine Go_Ps 1 (pc' := 4) (lv' := [(0, .retAddr 0)]) (st' := [.ref 0, .ref 0]) rfl ?_
  refine Go_call (v1 := none) (h1 := hX) (vs := [.ref 0]) (r := [.ref 0]) rfl rfl rfl rfl (by decide) rfl rfl rfl rfl (Go_room run_X (by decide) (by decide +kernel)) ?_
  refine Go_Ps 1 (pc' := 8) (lv' := [(1, .ref 0), (0, .retAddr 0)]) (st' := []) rfl ?_
  refine Go_N (pc' := 11) (st' := [.ref 159]) (h' := hX ++ [(0, 11, DFL 11)]) rfl rfl (by decide +kernel) ?_
  refine Go_Ps 1 (pc' := 12) (lv' := [(1, .ref 0), (0, .retAddr 0)]) (st' := [.ref 159, .ref 159]) rfl ?_
  refine Go_call (v1 := none) (h1 := h0) (vs := [.ref 159]) (r := [.ref 159]) rfl rfl rfl rfl (by decide) rfl rfl rfl (by decide +kernel) (Go_room run_M (by decide) (by decide +kernel)) ?_
  refine Go_Ps 3 (pc' := 18) (lv' := [(3, .int (Int32.ofInt 0)), (2, .ref 159), (1, .ref 0), (0, .retAddr 0)]) (st' := []) rfl ?_
  exact g
theorem lawL {L : Nat} (hL : L < 6) : (Int32.ofNat L - (Int8.ofInt 6).toInt32) < Int32.ofInt 0 := by
  match L, hL with
  | 0, _ => decide
  | 1, _ => decide
  | 2, _ => decide
  | 3, _ => decide
  | 4, _ => decide
  | 5, _ => decide
set_option maxRecDepth 100000 in
theorem law_short {L : Nat} {xs : Nat → Int32} (hL : L < 6) : Go MT 2048 84000 (some (L, xs)) mr_327 18 [(3, .int (Int32.ofInt 0)), (2, .ref 159), (1, .ref 0), (0, .retAddr 0)] [] h0 (some (.int 1), h0) := by
  refine Go_Ps 5 (pc' := 24) (lv' := [(3, .int (Int32.ofInt 0)), (2, .ref 159), (1, .ref 0), (0, .retAddr 0)]) (st' := [.int ((Int32.ofNat L) - ((Int8.ofInt 6).toInt32)), .int (Int32.ofInt 0)]) rfl ?_
  refine Go_brT rfl rfl rfl (lawL hL) ?_
  refine Go_Ps 1 (pc' := 2243) (lv' := [(3, .int (Int32.ofInt 0)), (2, .ref 159), (1, .ref 0), (0, .retAddr 0)]) (st' := [.int (Int32.ofInt 1)]) rfl ?_
  exact Go_ret rfl rfl rfl
theorem and63 (x : Int32) : ∃ n : Nat, n < 64 ∧ (x &&& (Int8.ofInt 63).toInt32).toInt = n := by
  obtain ⟨j, hj, e⟩ := pk_andE x (m := (Int8.ofInt 63).toInt32) 6 (by decide)
  exact ⟨j, hj, by rw [e, nI_toInt (by omega)]⟩
set_option maxRecDepth 100000 in
theorem law_all {L : Nat} (hL : L = 6) {xs : Nat → Int32} (n : Nat) (hn : n < 64) (hv : (((xs (Int32.ofInt 0).toNatClampNeg) &&& ((Int8.ofInt 63).toInt32)) : Int32).toInt = n) : ∃ hf, hf.length ≤ 1000 ∧ slo hf ≤ 100000 ∧ Go MT 2048 84000 (some (L, xs)) mr_327 33 [(3, .int (Int32.ofInt 0)), (2, .ref 159), (1, .ref 0), (0, .retAddr 0)] [.int ((xs (Int32.ofInt 0).toNatClampNeg) &&& ((Int8.ofInt 63).toInt32))] h0 (some (.int 1), hf) := by
  match n, hn, hv with
  | 0, _, hv => exact law_0 hL hv
  | 1, _, hv => exact law_1 hL hv
  | 2, _, hv => exact law_2 hL hv
  | 3, _, hv => exact law_3 hL hv
  | 4, _, hv => exact law_4 hL hv
  | 5, _, hv => exact law_5 hL hv
  | 6, _, hv => exact law_6 hL hv
  | 7, _, hv => exact law_7 hL hv
  | 8, _, hv => exact law_8 hL hv
  | 9, _, hv => exact law_9 hL hv
  | 10, _, hv => exact law_10 hL hv
  | 11, _, hv => exact law_11 hL hv
  | 12, _, hv => exact law_12 hL hv
  | 13, _, hv => exact law_13 hL hv
  | 14, _, hv => exact law_14 hL hv
  | 15, _, hv => exact law_15 hL hv
  | 16, _, hv => exact law_16 hL hv
  | 17, _, hv => exact law_17 hL hv
  | 18, _, hv => exact law_18 hL hv
  | 19, _, hv => exact law_19 hL hv
  | 20, _, hv => exact law_20 hL hv
  | 21, _, hv => exact law_21 hL hv
  | 22, _, hv => exact law_22 hL hv
  | 23, _, hv => exact law_23 hL hv
  | 24, _, hv => exact law_24 hL hv
  | 25, _, hv => exact law_25 hL hv
  | 26, _, hv => exact law_26 hL hv
  | 27, _, hv => exact law_27 hL hv
  | 28, _, hv => exact law_28 hL hv
  | 29, _, hv => exact law_29 hL hv
  | 30, _, hv => exact law_30 hL hv
  | 31, _, hv => exact law_31 hL hv
  | 32, _, hv => exact law_32 hL hv
  | 33, _, hv => exact law_33 hL hv
  | 34, _, hv => exact law_34 hL hv
  | 35, _, hv => exact law_35 hL hv
  | 36, _, hv => exact law_36 hL hv
  | 37, _, hv => exact law_37 hL hv
  | 38, _, hv => exact law_38 hL hv
  | 39, _, hv => exact law_39 hL hv
  | 40, _, hv => exact law_40 hL hv
  | 41, _, hv => exact law_41 hL hv
  | 42, _, hv => exact law_42 hL hv
  | 43, _, hv => exact law_43 hL hv
  | 44, _, hv => exact law_44 hL hv
  | 45, _, hv => exact law_45 hL hv
  | 46, _, hv => exact law_46 hL hv
  | 47, _, hv => exact law_47 hL hv
  | 48, _, hv => exact law_48 hL hv
  | 49, _, hv => exact law_49 hL hv
  | 50, _, hv => exact law_50 hL hv
  | 51, _, hv => exact law_51 hL hv
  | 52, _, hv => exact law_52 hL hv
  | 53, _, hv => exact law_53 hL hv
  | 54, _, hv => exact law_54 hL hv
  | 55, _, hv => exact law_55 hL hv
  | 56, _, hv => exact law_56 hL hv
  | 57, _, hv => exact law_57 hL hv
  | 58, _, hv => exact law_58 hL hv
  | 59, _, hv => exact law_59 hL hv
  | 60, _, hv => exact law_60 hL hv
  | 61, _, hv => exact law_61 hL hv
  | 62, _, hv => exact law_62 hL hv
  | 63, _, hv => exact law_63 hL hv
  | k + 64, h, _ => exact absurd h (by omega)
theorem law_go {L : Nat} {xs : Nat → Int32} (hL : L ≤ 6) : ∃ hf, hf.length ≤ 1000 ∧ slo hf ≤ 100000 ∧ Go MT 2048 84000 (some (L, xs)) mr_327 0 [(0, .retAddr 0)] [] [] (some (.int 1), hf) := by
  rcases Nat.lt_or_ge L 6 with h | h
  · exact ⟨h0, h0_len, h0_slo, law_front (law_short h)⟩
  · have h6 : L = 6 := by omega
    obtain ⟨n, hn, hv⟩ := and63 (xs (Int32.ofInt 0).toNatClampNeg)
    obtain ⟨hf, h1, h2, g⟩ := law_all h6 n hn hv
    exact ⟨hf, h1, h2, law_front (law_head h6 g)⟩
