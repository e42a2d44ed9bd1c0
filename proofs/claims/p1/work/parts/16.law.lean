theorem law_front {L : Nat} {xs : Nat → Int32} {x : Option Value × AH} (g : Go MT 2048 84000 (some (L, xs)) mr_327 18 [(3, .int (Int32.ofInt 0)), (2, .ref 159), (1, .ref 0), (0, .retAddr 0)] [] h0 x) : Go MT 2048 84000 (some (L, xs)) mr_327 0 [(0, .retAddr 0)] [] [] x := by
  refine Go_N (pc' := 3) (st' := [.ref 0]) (h' := [(0, 10, DFL 10)]) rfl rfl rfl ?_
  refine Go_Ps 1 (pc' := 4) (lv' := [(0, .retAddr 0)]) (st' := [.ref 0, .ref 0]) rfl ?_
  refine Go_call (v1 := none) (h1 := hX) (vs := [.ref 0]) (r := [.ref 0]) rfl rfl rfl rfl (by decide) rfl rfl rfl rfl (Go_room run_X (by decide) (by decide +kernel)) ?_
  refine Go_Ps 1 (pc' := 8) (lv' := [(1, .ref 0), (0, .retAddr 0)]) (st' := []) rfl ?_
  refine Go_N (pc' := 11) (st' := [.ref 159]) (h' := hX ++ [(0, 11, DFL 11)]) rfl rfl (by decide +kernel) ?_
  refine Go_Ps 1 (pc' := 12) (lv' := [(1, .ref 0), (0, .retAddr 0)]) (st' := [.ref 159, .ref 159]) rfl ?_
  refine Go_call (v1 := none) (h1 := h0) (vs := [.ref 159]) (r := [.ref 159]) rfl rfl rfl rfl (by decide) rfl rfl rfl (by decide +kernel) (Go_room run_M (by decide) (by decide +kernel)) ?_
  refine Go_Ps 3 (pc' := 18) (lv' := [(3, .int (Int32.ofInt 0)), (2, .ref 159), (1, .ref 0), (0, .retAddr 0)]) (st' := []) rfl ?_
  exact g
theorem lawL {L : Nat} (hL : L < 6) : (Int32.ofNat L - (Int8.ofInt 6).toInt32) < Int32.ofInt 0 := by
  match L, hL with
  | 0, _ => decide
  | 1, _ => decide
  | 2, _ => decide
  | 3, _ => decide
  | 4, _ => decide
  | 5, _ => decide
theorem law_short {L : Nat} {xs : Nat → Int32} (hL : L < 6) : Go MT 2048 84000 (some (L, xs)) mr_327 18 [(3, .int (Int32.ofInt 0)), (2, .ref 159), (1, .ref 0), (0, .retAddr 0)] [] h0 (some (.int 1), h0) := by
  refine Go_Ps 5 (pc' := 24) (lv' := [(3, .int (Int32.ofInt 0)), (2, .ref 159), (1, .ref 0), (0, .retAddr 0)]) (st' := [.int ((Int32.ofNat L) - ((Int8.ofInt 6).toInt32)), .int (Int32.ofInt 0)]) rfl ?_
  refine Go_brT rfl rfl rfl (lawL hL) ?_
  refine Go_Ps 1 (pc' := 2243) (lv' := [(3, .int (Int32.ofInt 0)), (2, .ref 159), (1, .ref 0), (0, .retAddr 0)]) (st' := [.int (Int32.ofInt 1)]) rfl ?_
  exact Go_ret rfl rfl rfl
theorem and63 (x : Int32) : ∃ n : Nat, n < 64 ∧ (x &&& (Int8.ofInt 63).toInt32).toInt = n := by
  obtain ⟨j, hj, e⟩ := pk_andE x (m := (Int8.ofInt 63).toInt32) 6 (by decide)
  exact ⟨j, hj, by rw [e, nI_toInt (by omega)]⟩
theorem law_all {xs : Nat → Int32} (n : Nat) (hn : n < 64) (hv : (((xs (Int32.ofInt 0).toNatClampNeg) &&& ((Int8.ofInt 63).toInt32)) : Int32).toInt = n) : ∃ hf, hf.length ≤ 1000 ∧ slo hf ≤ 100000 ∧ Go MT 2048 84000 (some (6, xs)) mr_327 33 [(3, .int (Int32.ofInt 0)), (2, .ref 159), (1, .ref 0), (0, .retAddr 0)] [.int ((xs (Int32.ofInt 0).toNatClampNeg) &&& ((Int8.ofInt 63).toInt32))] h0 (some (.int 1), hf) := by
  match n, hn, hv with
  | 0, _, hv => exact law_0 hv
  | 1, _, hv => exact law_1 hv
  | 2, _, hv => exact law_2 hv
  | 3, _, hv => exact law_3 hv
  | 4, _, hv => exact law_4 hv
  | 5, _, hv => exact law_5 hv
  | 6, _, hv => exact law_6 hv
  | 7, _, hv => exact law_7 hv
  | 8, _, hv => exact law_8 hv
  | 9, _, hv => exact law_9 hv
  | 10, _, hv => exact law_10 hv
  | 11, _, hv => exact law_11 hv
  | 12, _, hv => exact law_12 hv
  | 13, _, hv => exact law_13 hv
  | 14, _, hv => exact law_14 hv
  | 15, _, hv => exact law_15 hv
  | 16, _, hv => exact law_16 hv
  | 17, _, hv => exact law_17 hv
  | 18, _, hv => exact law_18 hv
  | 19, _, hv => exact law_19 hv
  | 20, _, hv => exact law_20 hv
  | 21, _, hv => exact law_21 hv
  | 22, _, hv => exact law_22 hv
  | 23, _, hv => exact law_23 hv
  | 24, _, hv => exact law_24 hv
  | 25, _, hv => exact law_25 hv
  | 26, _, hv => exact law_26 hv
  | 27, _, hv => exact law_27 hv
  | 28, _, hv => exact law_28 hv
  | 29, _, hv => exact law_29 hv
  | 30, _, hv => exact law_30 hv
  | 31, _, hv => exact law_31 hv
  | 32, _, hv => exact law_32 hv
  | 33, _, hv => exact law_33 hv
  | 34, _, hv => exact law_34 hv
  | 35, _, hv => exact law_35 hv
  | 36, _, hv => exact law_36 hv
  | 37, _, hv => exact law_37 hv
  | 38, _, hv => exact law_38 hv
  | 39, _, hv => exact law_39 hv
  | 40, _, hv => exact law_40 hv
  | 41, _, hv => exact law_41 hv
  | 42, _, hv => exact law_42 hv
  | 43, _, hv => exact law_43 hv
  | 44, _, hv => exact law_44 hv
  | 45, _, hv => exact law_45 hv
  | 46, _, hv => exact law_46 hv
  | 47, _, hv => exact law_47 hv
  | 48, _, hv => exact law_48 hv
  | 49, _, hv => exact law_49 hv
  | 50, _, hv => exact law_50 hv
  | 51, _, hv => exact law_51 hv
  | 52, _, hv => exact law_52 hv
  | 53, _, hv => exact law_53 hv
  | 54, _, hv => exact law_54 hv
  | 55, _, hv => exact law_55 hv
  | 56, _, hv => exact law_56 hv
  | 57, _, hv => exact law_57 hv
  | 58, _, hv => exact law_58 hv
  | 59, _, hv => exact law_59 hv
  | 60, _, hv => exact law_60 hv
  | 61, _, hv => exact law_61 hv
  | 62, _, hv => exact law_62 hv
  | 63, _, hv => exact law_63 hv
  | k + 64, h, _ => exact absurd h (by omega)
theorem law_go {L : Nat} {xs : Nat → Int32} (hL : L ≤ 6) : ∃ hf, hf.length ≤ 1000 ∧ slo hf ≤ 100000 ∧ Go MT 2048 84000 (some (L, xs)) mr_327 0 [(0, .retAddr 0)] [] [] (some (.int 1), hf) := by
  rcases Nat.lt_or_ge L 6 with h | h
  · exact ⟨h0, h0_len, h0_slo, law_front (law_short h)⟩
  · obtain rfl : L = 6 := by omega
    obtain ⟨n, hn, hv⟩ := and63 (xs (Int32.ofInt 0).toNatClampNeg)
    obtain ⟨hf, h1, h2, g⟩ := law_all n hn hv
    exact ⟨hf, h1, h2, law_front (law_head g)⟩
