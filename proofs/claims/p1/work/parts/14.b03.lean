set_option maxHeartbeats 4000000 in
set_option maxRecDepth 100000 in
/-- hard -/
theorem op_19  : Both mr_125 mr_231 [] h0 := by
  exact clo_19
set_option maxHeartbeats 4000000 in
set_option maxRecDepth 100000 in
/-- teach -/
theorem op_20 (a : Int32) (b : Int32) (c : Int32) : Both mr_165 mr_311 [.int a, .int b, .int c] h0 := by
  rcases (show a.toInt < 0 ∨ 0 ≤ a.toInt by omega) with hd | hd
  · refine ⟨(-2), h0, h0, h0_len, h0_slo, h0_rcv, ?_, ?_⟩
    · refine Go_Ps 4 (pc' := 4) (lv' := [(0, .ref 0), (1, .int a), (2, .int b), (3, .int c)]) (st' := [.int c, .int b, .int a, .ref 0]) rfl ?_
      refine Go_call (v1 := (some (.int (Int32.ofInt 0)))) (h1 := h0) (vs := [.ref 0, .int a, .int b, .int c]) (r := []) rfl rfl rfl rfl (by decide) rfl rfl rfl rfl ?_ ?_
      · refine Go_Ps 3 (pc' := 5) (lv' := [(0, .ref 0), (1, .int a), (2, .int b), (3, .int c)]) (st' := [.int a, .ref 18]) rfl ?_
        refine Go_call (v1 := (some (.int (Int32.ofInt 0)))) (h1 := h0) (vs := [.ref 18, .int a]) (r := []) rfl rfl rfl rfl (by decide) rfl rfl rfl rfl ?_ ?_
        · refine Go_Ps 1 (pc' := 1) (lv' := [(0, .ref 18), (1, .int a)]) (st' := [.int a]) rfl ?_
          refine Go_brT rfl rfl rfl (iT_lt (by first | omega | (simp only [cs_0]; omega))) ?_
          refine Go_Ps 1 (pc' := 17) (lv' := [(0, .ref 18), (1, .int a)]) (st' := [.int (Int32.ofInt 0)]) rfl ?_
          exact Go_ret rfl rfl rfl
        refine Go_Ps 2 (pc' := 34) (lv' := [(0, .ref 0), (1, .int a), (2, .int b), (3, .int c)]) (st' := [.int (Int32.ofInt 0)]) rfl ?_
        exact Go_ret rfl rfl rfl
      refine Go_Ps 2 (pc' := 12) (lv' := [(0, .ref 0), (1, .int a), (2, .int b), (3, .int c)]) (st' := [.int ((Int8.ofInt (-2)).toInt32)]) rfl ?_
      exact Go_ret rfl rfl rfl
    · refine Go_Ps 2 (pc' := 2) (lv' := [(0, .ref 159), (1, .int a), (2, .int b), (3, .int c)]) (st' := [.int a, .ref 159]) rfl ?_
      refine Go_call (v1 := (some (.int (Int32.ofInt 0)))) (h1 := h0) (vs := [.ref 159, .int a]) (r := []) rfl rfl rfl rfl (by decide) rfl rfl rfl rfl ?_ ?_
      · refine Go_Ps 10 (pc' := 12) (lv' := [(0, .ref 159), (1, .int a)]) (st' := [.long ((0 : Int32) - (Int32.ofInt 1)).toInt64, .long (Int64.ofNat 0), .long a.toInt64]) rfl ?_
        refine Go_call (v1 := (some (.int (Int32.ofInt 0)))) (h1 := h0) (vs := [.long a.toInt64, .long (Int64.ofNat 0), .long ((0 : Int32) - (Int32.ofInt 1)).toInt64]) (r := []) rfl rfl rfl rfl (by decide) rfl rfl rfl rfl ?_ ?_
        · refine Go_Ps 3 (pc' := 3) (lv' := [(0, .long a.toInt64), (2, .long (Int64.ofNat 0)), (4, .long ((0 : Int32) - (Int32.ofInt 1)).toInt64)]) (st' := [.int (lg_cmp a.toInt64 (Int64.ofNat 0))]) rfl ?_
          refine Go_brT rfl rfl rfl (lgT_lt (by first | omega | (simp only [cs_1, Int32.toInt_toInt64]; omega))) ?_
          refine Go_Ps 1 (pc' := 18) (lv' := [(0, .long a.toInt64), (2, .long (Int64.ofNat 0)), (4, .long ((0 : Int32) - (Int32.ofInt 1)).toInt64)]) (st' := [.int (Int32.ofInt 0)]) rfl ?_
          exact Go_ret rfl rfl rfl
        exact Go_ret rfl rfl rfl
      refine Go_Ps 2 (pc' := 29) (lv' := [(0, .ref 159), (1, .int a), (2, .int b), (3, .int c)]) (st' := [.int ((Int8.ofInt (-2)).toInt32)]) rfl ?_
      exact Go_ret rfl rfl rfl
  · refine ⟨(-2), h0, h0, h0_len, h0_slo, h0_rcv, ?_, ?_⟩
    · refine Go_Ps 4 (pc' := 4) (lv' := [(0, .ref 0), (1, .int a), (2, .int b), (3, .int c)]) (st' := [.int c, .int b, .int a, .ref 0]) rfl ?_
      refine Go_call (v1 := (some (.int (Int32.ofInt 0)))) (h1 := h0) (vs := [.ref 0, .int a, .int b, .int c]) (r := []) rfl rfl rfl rfl (by decide) rfl rfl rfl rfl ?_ ?_
      · refine Go_Ps 3 (pc' := 5) (lv' := [(0, .ref 0), (1, .int a), (2, .int b), (3, .int c)]) (st' := [.int a, .ref 18]) rfl ?_
        refine Go_call (v1 := (some (.int (Int32.ofInt 0)))) (h1 := h0) (vs := [.ref 18, .int a]) (r := []) rfl rfl rfl rfl (by decide) rfl rfl rfl rfl ?_ ?_
        · refine Go_Ps 1 (pc' := 1) (lv' := [(0, .ref 18), (1, .int a)]) (st' := [.int a]) rfl ?_
          refine Go_brF rfl rfl rfl (iF_lt (by first | omega | (simp only [cs_0]; omega))) ?_
          refine Go_Ps 3 (pc' := 9) (lv' := [(0, .ref 18), (1, .int a)]) (st' := [.int (0 : Int32), .int a]) rfl ?_
          refine Go_brT rfl rfl rfl (iT_le (by first | omega | (simp only [cs_2]; omega))) ?_
          refine Go_Ps 1 (pc' := 17) (lv' := [(0, .ref 18), (1, .int a)]) (st' := [.int (Int32.ofInt 0)]) rfl ?_
          exact Go_ret rfl rfl rfl
        refine Go_Ps 2 (pc' := 34) (lv' := [(0, .ref 0), (1, .int a), (2, .int b), (3, .int c)]) (st' := [.int (Int32.ofInt 0)]) rfl ?_
        exact Go_ret rfl rfl rfl
      refine Go_Ps 2 (pc' := 12) (lv' := [(0, .ref 0), (1, .int a), (2, .int b), (3, .int c)]) (st' := [.int ((Int8.ofInt (-2)).toInt32)]) rfl ?_
      exact Go_ret rfl rfl rfl
    · refine Go_Ps 2 (pc' := 2) (lv' := [(0, .ref 159), (1, .int a), (2, .int b), (3, .int c)]) (st' := [.int a, .ref 159]) rfl ?_
      refine Go_call (v1 := (some (.int (Int32.ofInt 0)))) (h1 := h0) (vs := [.ref 159, .int a]) (r := []) rfl rfl rfl rfl (by decide) rfl rfl rfl rfl ?_ ?_
      · refine Go_Ps 10 (pc' := 12) (lv' := [(0, .ref 159), (1, .int a)]) (st' := [.long ((0 : Int32) - (Int32.ofInt 1)).toInt64, .long (Int64.ofNat 0), .long a.toInt64]) rfl ?_
        refine Go_call (v1 := (some (.int (Int32.ofInt 0)))) (h1 := h0) (vs := [.long a.toInt64, .long (Int64.ofNat 0), .long ((0 : Int32) - (Int32.ofInt 1)).toInt64]) (r := []) rfl rfl rfl rfl (by decide) rfl rfl rfl rfl ?_ ?_
        · refine Go_Ps 3 (pc' := 3) (lv' := [(0, .long a.toInt64), (2, .long (Int64.ofNat 0)), (4, .long ((0 : Int32) - (Int32.ofInt 1)).toInt64)]) (st' := [.int (lg_cmp a.toInt64 (Int64.ofNat 0))]) rfl ?_
          refine Go_brF rfl rfl rfl (lgF_lt (by first | omega | (simp only [cs_1, Int32.toInt_toInt64]; omega))) ?_
          refine Go_Ps 3 (pc' := 10) (lv' := [(0, .long a.toInt64), (2, .long (Int64.ofNat 0)), (4, .long ((0 : Int32) - (Int32.ofInt 1)).toInt64)]) (st' := [.int (lg_cmp a.toInt64 (((0 : Int32) - (Int32.ofInt 1)).toInt64))]) rfl ?_
          refine Go_brT rfl rfl rfl (lgT_gt (by first | omega | (simp only [cs_4, Int32.toInt_toInt64]; omega))) ?_
          refine Go_Ps 1 (pc' := 18) (lv' := [(0, .long a.toInt64), (2, .long (Int64.ofNat 0)), (4, .long ((0 : Int32) - (Int32.ofInt 1)).toInt64)]) (st' := [.int (Int32.ofInt 0)]) rfl ?_
          exact Go_ret rfl rfl rfl
        exact Go_ret rfl rfl rfl
      refine Go_Ps 2 (pc' := 29) (lv' := [(0, .ref 159), (1, .int a), (2, .int b), (3, .int c)]) (st' := [.int ((Int8.ofInt (-2)).toInt32)]) rfl ?_
      exact Go_ret rfl rfl rfl
set_option maxHeartbeats 4000000 in
set_option maxRecDepth 100000 in
/-- unteach -/
theorem op_21  : Both mr_172 mr_320 [] h0 := by
  exact clo_21
set_option maxHeartbeats 4000000 in
set_option maxRecDepth 100000 in
/-- gains -/
theorem op_22 (a : Int32) (b : Int32) (c : Int32) : Both mr_121 mr_226 [.int a, .int b, .int c] h0 := by
  rcases (show a.toInt < 0 ∨ 0 ≤ a.toInt by omega) with hd | hd
  · refine ⟨(-1000), h0, h0, h0_len, h0_slo, h0_rcv, ?_, ?_⟩
    · refine Go_Ps 4 (pc' := 4) (lv' := [(0, .ref 0), (1, .int a), (2, .int b), (3, .int c)]) (st' := [.int c, .int b, .int a, .ref 0]) rfl ?_
      refine Go_call (v1 := (some (.int (Int32.ofInt 0)))) (h1 := h0) (vs := [.ref 0, .int a, .int b, .int c]) (r := []) rfl rfl rfl rfl (by decide) rfl rfl rfl rfl ?_ ?_
      · refine Go_Ps 3 (pc' := 5) (lv' := [(0, .ref 0), (1, .int a), (2, .int b), (3, .int c)]) (st' := [.int a, .ref 18]) rfl ?_
        refine Go_call (v1 := (some (.int (Int32.ofInt 0)))) (h1 := h0) (vs := [.ref 18, .int a]) (r := []) rfl rfl rfl rfl (by decide) rfl rfl rfl rfl ?_ ?_
        · refine Go_Ps 1 (pc' := 1) (lv' := [(0, .ref 18), (1, .int a)]) (st' := [.int a]) rfl ?_
          refine Go_brT rfl rfl rfl (iT_lt (by first | omega | (simp only [cs_0]; omega))) ?_
          refine Go_Ps 1 (pc' := 17) (lv' := [(0, .ref 18), (1, .int a)]) (st' := [.int (Int32.ofInt 0)]) rfl ?_
          exact Go_ret rfl rfl rfl
        refine Go_Ps 2 (pc' := 34) (lv' := [(0, .ref 0), (1, .int a), (2, .int b), (3, .int c)]) (st' := [.int (Int32.ofInt 0)]) rfl ?_
        exact Go_ret rfl rfl rfl
      refine Go_Ps 2 (pc' := 23) (lv' := [(0, .ref 0), (1, .int a), (2, .int b), (3, .int c)]) (st' := [.int ((Int16.ofInt (-1000)).toInt32)]) rfl ?_
      exact Go_ret rfl rfl rfl
    · refine Go_Ps 2 (pc' := 2) (lv' := [(0, .ref 159), (1, .int a), (2, .int b), (3, .int c)]) (st' := [.int a, .ref 159]) rfl ?_
      refine Go_call (v1 := (some (.int (Int32.ofInt 0)))) (h1 := h0) (vs := [.ref 159, .int a]) (r := []) rfl rfl rfl rfl (by decide) rfl rfl rfl rfl ?_ ?_
      · refine Go_Ps 10 (pc' := 12) (lv' := [(0, .ref 159), (1, .int a)]) (st' := [.long ((0 : Int32) - (Int32.ofInt 1)).toInt64, .long (Int64.ofNat 0), .long a.toInt64]) rfl ?_
        refine Go_call (v1 := (some (.int (Int32.ofInt 0)))) (h1 := h0) (vs := [.long a.toInt64, .long (Int64.ofNat 0), .long ((0 : Int32) - (Int32.ofInt 1)).toInt64]) (r := []) rfl rfl rfl rfl (by decide) rfl rfl rfl rfl ?_ ?_
        · refine Go_Ps 3 (pc' := 3) (lv' := [(0, .long a.toInt64), (2, .long (Int64.ofNat 0)), (4, .long ((0 : Int32) - (Int32.ofInt 1)).toInt64)]) (st' := [.int (lg_cmp a.toInt64 (Int64.ofNat 0))]) rfl ?_
          refine Go_brT rfl rfl rfl (lgT_lt (by first | omega | (simp only [cs_1, Int32.toInt_toInt64]; omega))) ?_
          refine Go_Ps 1 (pc' := 18) (lv' := [(0, .long a.toInt64), (2, .long (Int64.ofNat 0)), (4, .long ((0 : Int32) - (Int32.ofInt 1)).toInt64)]) (st' := [.int (Int32.ofInt 0)]) rfl ?_
          exact Go_ret rfl rfl rfl
        exact Go_ret rfl rfl rfl
      refine Go_Ps 2 (pc' := 30) (lv' := [(0, .ref 159), (1, .int a), (2, .int b), (3, .int c)]) (st' := [.int ((Int16.ofInt (-1000)).toInt32)]) rfl ?_
      exact Go_ret rfl rfl rfl
  · refine ⟨(-1000), h0, h0, h0_len, h0_slo, h0_rcv, ?_, ?_⟩
    · refine Go_Ps 4 (pc' := 4) (lv' := [(0, .ref 0), (1, .int a), (2, .int b), (3, .int c)]) (st' := [.int c, .int b, .int a, .ref 0]) rfl ?_
      refine Go_call (v1 := (some (.int (Int32.ofInt 0)))) (h1 := h0) (vs := [.ref 0, .int a, .int b, .int c]) (r := []) rfl rfl rfl rfl (by decide) rfl rfl rfl rfl ?_ ?_
      · refine Go_Ps 3 (pc' := 5) (lv' := [(0, .ref 0), (1, .int a), (2, .int b), (3, .int c)]) (st' := [.int a, .ref 18]) rfl ?_
        refine Go_call (v1 := (some (.int (Int32.ofInt 0)))) (h1 := h0) (vs := [.ref 18, .int a]) (r := []) rfl rfl rfl rfl (by decide) rfl rfl rfl rfl ?_ ?_
        · refine Go_Ps 1 (pc' := 1) (lv' := [(0, .ref 18), (1, .int a)]) (st' := [.int a]) rfl ?_
          refine Go_brF rfl rfl rfl (iF_lt (by first | omega | (simp only [cs_0]; omega))) ?_
          refine Go_Ps 3 (pc' := 9) (lv' := [(0, .ref 18), (1, .int a)]) (st' := [.int (0 : Int32), .int a]) rfl ?_
          refine Go_brT rfl rfl rfl (iT_le (by first | omega | (simp only [cs_2]; omega))) ?_
          refine Go_Ps 1 (pc' := 17) (lv' := [(0, .ref 18), (1, .int a)]) (st' := [.int (Int32.ofInt 0)]) rfl ?_
          exact Go_ret rfl rfl rfl
        refine Go_Ps 2 (pc' := 34) (lv' := [(0, .ref 0), (1, .int a), (2, .int b), (3, .int c)]) (st' := [.int (Int32.ofInt 0)]) rfl ?_
        exact Go_ret rfl rfl rfl
      refine Go_Ps 2 (pc' := 23) (lv' := [(0, .ref 0), (1, .int a), (2, .int b), (3, .int c)]) (st' := [.int ((Int16.ofInt (-1000)).toInt32)]) rfl ?_
      exact Go_ret rfl rfl rfl
    · refine Go_Ps 2 (pc' := 2) (lv' := [(0, .ref 159), (1, .int a), (2, .int b), (3, .int c)]) (st' := [.int a, .ref 159]) rfl ?_
      refine Go_call (v1 := (some (.int (Int32.ofInt 0)))) (h1 := h0) (vs := [.ref 159, .int a]) (r := []) rfl rfl rfl rfl (by decide) rfl rfl rfl rfl ?_ ?_
      · refine Go_Ps 10 (pc' := 12) (lv' := [(0, .ref 159), (1, .int a)]) (st' := [.long ((0 : Int32) - (Int32.ofInt 1)).toInt64, .long (Int64.ofNat 0), .long a.toInt64]) rfl ?_
        refine Go_call (v1 := (some (.int (Int32.ofInt 0)))) (h1 := h0) (vs := [.long a.toInt64, .long (Int64.ofNat 0), .long ((0 : Int32) - (Int32.ofInt 1)).toInt64]) (r := []) rfl rfl rfl rfl (by decide) rfl rfl rfl rfl ?_ ?_
        · refine Go_Ps 3 (pc' := 3) (lv' := [(0, .long a.toInt64), (2, .long (Int64.ofNat 0)), (4, .long ((0 : Int32) - (Int32.ofInt 1)).toInt64)]) (st' := [.int (lg_cmp a.toInt64 (Int64.ofNat 0))]) rfl ?_
          refine Go_brF rfl rfl rfl (lgF_lt (by first | omega | (simp only [cs_1, Int32.toInt_toInt64]; omega))) ?_
          refine Go_Ps 3 (pc' := 10) (lv' := [(0, .long a.toInt64), (2, .long (Int64.ofNat 0)), (4, .long ((0 : Int32) - (Int32.ofInt 1)).toInt64)]) (st' := [.int (lg_cmp a.toInt64 (((0 : Int32) - (Int32.ofInt 1)).toInt64))]) rfl ?_
          refine Go_brT rfl rfl rfl (lgT_gt (by first | omega | (simp only [cs_4, Int32.toInt_toInt64]; omega))) ?_
          refine Go_Ps 1 (pc' := 18) (lv' := [(0, .long a.toInt64), (2, .long (Int64.ofNat 0)), (4, .long ((0 : Int32) - (Int32.ofInt 1)).toInt64)]) (st' := [.int (Int32.ofInt 0)]) rfl ?_
          exact Go_ret rfl rfl rfl
        exact Go_ret rfl rfl rfl
      refine Go_Ps 2 (pc' := 30) (lv' := [(0, .ref 159), (1, .int a), (2, .int b), (3, .int c)]) (st' := [.int ((Int16.ofInt (-1000)).toInt32)]) rfl ?_
      exact Go_ret rfl rfl rfl
set_option maxHeartbeats 4000000 in
set_option maxRecDepth 100000 in
/-- help -/
theorem op_23 (a : Int32) : Both mr_127 mr_234 [.int a] h0 := by
  rcases (show a.toInt < 0 ∨ 0 ≤ a.toInt by omega) with hd | hd
  · refine ⟨(-2), h0, h0, h0_len, h0_slo, h0_rcv, ?_, ?_⟩
    · refine Go_Ps 3 (pc' := 5) (lv' := [(0, .ref 0), (1, .int a)]) (st' := [.int a, .ref 18]) rfl ?_
      refine Go_call (v1 := (some (.int (Int32.ofInt 0)))) (h1 := h0) (vs := [.ref 18, .int a]) (r := []) rfl rfl rfl rfl (by decide) rfl rfl rfl rfl ?_ ?_
      · refine Go_Ps 1 (pc' := 1) (lv' := [(0, .ref 18), (1, .int a)]) (st' := [.int a]) rfl ?_
        refine Go_brT rfl rfl rfl (iT_lt (by first | omega | (simp only [cs_0]; omega))) ?_
        refine Go_Ps 1 (pc' := 17) (lv' := [(0, .ref 18), (1, .int a)]) (st' := [.int (Int32.ofInt 0)]) rfl ?_
        exact Go_ret rfl rfl rfl
      refine Go_Ps 2 (pc' := 13) (lv' := [(0, .ref 0), (1, .int a)]) (st' := [.int ((Int8.ofInt (-2)).toInt32)]) rfl ?_
      exact Go_ret rfl rfl rfl
    · refine Go_Ps 2 (pc' := 2) (lv' := [(0, .ref 159), (1, .int a)]) (st' := [.int a, .ref 159]) rfl ?_
      refine Go_call (v1 := (some (.int (Int32.ofInt 0)))) (h1 := h0) (vs := [.ref 159, .int a]) (r := []) rfl rfl rfl rfl (by decide) rfl rfl rfl rfl ?_ ?_
      · refine Go_Ps 10 (pc' := 12) (lv' := [(0, .ref 159), (1, .int a)]) (st' := [.long ((0 : Int32) - (Int32.ofInt 1)).toInt64, .long (Int64.ofNat 0), .long a.toInt64]) rfl ?_
        refine Go_call (v1 := (some (.int (Int32.ofInt 0)))) (h1 := h0) (vs := [.long a.toInt64, .long (Int64.ofNat 0), .long ((0 : Int32) - (Int32.ofInt 1)).toInt64]) (r := []) rfl rfl rfl rfl (by decide) rfl rfl rfl rfl ?_ ?_
        · refine Go_Ps 3 (pc' := 3) (lv' := [(0, .long a.toInt64), (2, .long (Int64.ofNat 0)), (4, .long ((0 : Int32) - (Int32.ofInt 1)).toInt64)]) (st' := [.int (lg_cmp a.toInt64 (Int64.ofNat 0))]) rfl ?_
          refine Go_brT rfl rfl rfl (lgT_lt (by first | omega | (simp only [cs_1, Int32.toInt_toInt64]; omega))) ?_
          refine Go_Ps 1 (pc' := 18) (lv' := [(0, .long a.toInt64), (2, .long (Int64.ofNat 0)), (4, .long ((0 : Int32) - (Int32.ofInt 1)).toInt64)]) (st' := [.int (Int32.ofInt 0)]) rfl ?_
          exact Go_ret rfl rfl rfl
        exact Go_ret rfl rfl rfl
      refine Go_Ps 2 (pc' := 10) (lv' := [(0, .ref 159), (1, .int a)]) (st' := [.int ((Int8.ofInt (-2)).toInt32)]) rfl ?_
      exact Go_ret rfl rfl rfl
  · refine ⟨(-2), h0, h0, h0_len, h0_slo, h0_rcv, ?_, ?_⟩
    · refine Go_Ps 3 (pc' := 5) (lv' := [(0, .ref 0), (1, .int a)]) (st' := [.int a, .ref 18]) rfl ?_
      refine Go_call (v1 := (some (.int (Int32.ofInt 0)))) (h1 := h0) (vs := [.ref 18, .int a]) (r := []) rfl rfl rfl rfl (by decide) rfl rfl rfl rfl ?_ ?_
      · refine Go_Ps 1 (pc' := 1) (lv' := [(0, .ref 18), (1, .int a)]) (st' := [.int a]) rfl ?_
        refine Go_brF rfl rfl rfl (iF_lt (by first | omega | (simp only [cs_0]; omega))) ?_
        refine Go_Ps 3 (pc' := 9) (lv' := [(0, .ref 18), (1, .int a)]) (st' := [.int (0 : Int32), .int a]) rfl ?_
        refine Go_brT rfl rfl rfl (iT_le (by first | omega | (simp only [cs_2]; omega))) ?_
        refine Go_Ps 1 (pc' := 17) (lv' := [(0, .ref 18), (1, .int a)]) (st' := [.int (Int32.ofInt 0)]) rfl ?_
        exact Go_ret rfl rfl rfl
      refine Go_Ps 2 (pc' := 13) (lv' := [(0, .ref 0), (1, .int a)]) (st' := [.int ((Int8.ofInt (-2)).toInt32)]) rfl ?_
      exact Go_ret rfl rfl rfl
    · refine Go_Ps 2 (pc' := 2) (lv' := [(0, .ref 159), (1, .int a)]) (st' := [.int a, .ref 159]) rfl ?_
      refine Go_call (v1 := (some (.int (Int32.ofInt 0)))) (h1 := h0) (vs := [.ref 159, .int a]) (r := []) rfl rfl rfl rfl (by decide) rfl rfl rfl rfl ?_ ?_
      · refine Go_Ps 10 (pc' := 12) (lv' := [(0, .ref 159), (1, .int a)]) (st' := [.long ((0 : Int32) - (Int32.ofInt 1)).toInt64, .long (Int64.ofNat 0), .long a.toInt64]) rfl ?_
        refine Go_call (v1 := (some (.int (Int32.ofInt 0)))) (h1 := h0) (vs := [.long a.toInt64, .long (Int64.ofNat 0), .long ((0 : Int32) - (Int32.ofInt 1)).toInt64]) (r := []) rfl rfl rfl rfl (by decide) rfl rfl rfl rfl ?_ ?_
        · refine Go_Ps 3 (pc' := 3) (lv' := [(0, .long a.toInt64), (2, .long (Int64.ofNat 0)), (4, .long ((0 : Int32) - (Int32.ofInt 1)).toInt64)]) (st' := [.int (lg_cmp a.toInt64 (Int64.ofNat 0))]) rfl ?_
          refine Go_brF rfl rfl rfl (lgF_lt (by first | omega | (simp only [cs_1, Int32.toInt_toInt64]; omega))) ?_
          refine Go_Ps 3 (pc' := 10) (lv' := [(0, .long a.toInt64), (2, .long (Int64.ofNat 0)), (4, .long ((0 : Int32) - (Int32.ofInt 1)).toInt64)]) (st' := [.int (lg_cmp a.toInt64 (((0 : Int32) - (Int32.ofInt 1)).toInt64))]) rfl ?_
          refine Go_brT rfl rfl rfl (lgT_gt (by first | omega | (simp only [cs_4, Int32.toInt_toInt64]; omega))) ?_
          refine Go_Ps 1 (pc' := 18) (lv' := [(0, .long a.toInt64), (2, .long (Int64.ofNat 0)), (4, .long ((0 : Int32) - (Int32.ofInt 1)).toInt64)]) (st' := [.int (Int32.ofInt 0)]) rfl ?_
          exact Go_ret rfl rfl rfl
        exact Go_ret rfl rfl rfl
      refine Go_Ps 2 (pc' := 10) (lv' := [(0, .ref 159), (1, .int a)]) (st' := [.int ((Int8.ofInt (-2)).toInt32)]) rfl ?_
      exact Go_ret rfl rfl rfl
set_option maxHeartbeats 4000000 in
set_option maxRecDepth 100000 in
/-- idle -/
theorem op_24 (a : Int32) : Both mr_132 mr_238 [.int a] h0 := by
  rcases (show a.toInt < 0 ∨ 0 ≤ a.toInt by omega) with hd | hd
  · refine ⟨(-2), h0, h0, h0_len, h0_slo, h0_rcv, ?_, ?_⟩
    · refine Go_Ps 3 (pc' := 5) (lv' := [(0, .ref 0), (1, .int a)]) (st' := [.int a, .ref 18]) rfl ?_
      refine Go_call (v1 := (some (.int (Int32.ofInt 0)))) (h1 := h0) (vs := [.ref 18, .int a]) (r := []) rfl rfl rfl rfl (by decide) rfl rfl rfl rfl ?_ ?_
      · refine Go_Ps 1 (pc' := 1) (lv' := [(0, .ref 18), (1, .int a)]) (st' := [.int a]) rfl ?_
        refine Go_brT rfl rfl rfl (iT_lt (by first | omega | (simp only [cs_0]; omega))) ?_
        refine Go_Ps 1 (pc' := 17) (lv' := [(0, .ref 18), (1, .int a)]) (st' := [.int (Int32.ofInt 0)]) rfl ?_
        exact Go_ret rfl rfl rfl
      refine Go_Ps 2 (pc' := 13) (lv' := [(0, .ref 0), (1, .int a)]) (st' := [.int ((Int8.ofInt (-2)).toInt32)]) rfl ?_
      exact Go_ret rfl rfl rfl
    · refine Go_Ps 2 (pc' := 2) (lv' := [(0, .ref 159), (1, .int a)]) (st' := [.int a, .ref 159]) rfl ?_
      refine Go_call (v1 := (some (.int (Int32.ofInt 0)))) (h1 := h0) (vs := [.ref 159, .int a]) (r := []) rfl rfl rfl rfl (by decide) rfl rfl rfl rfl ?_ ?_
      · refine Go_Ps 10 (pc' := 12) (lv' := [(0, .ref 159), (1, .int a)]) (st' := [.long ((0 : Int32) - (Int32.ofInt 1)).toInt64, .long (Int64.ofNat 0), .long a.toInt64]) rfl ?_
        refine Go_call (v1 := (some (.int (Int32.ofInt 0)))) (h1 := h0) (vs := [.long a.toInt64, .long (Int64.ofNat 0), .long ((0 : Int32) - (Int32.ofInt 1)).toInt64]) (r := []) rfl rfl rfl rfl (by decide) rfl rfl rfl rfl ?_ ?_
        · refine Go_Ps 3 (pc' := 3) (lv' := [(0, .long a.toInt64), (2, .long (Int64.ofNat 0)), (4, .long ((0 : Int32) - (Int32.ofInt 1)).toInt64)]) (st' := [.int (lg_cmp a.toInt64 (Int64.ofNat 0))]) rfl ?_
          refine Go_brT rfl rfl rfl (lgT_lt (by first | omega | (simp only [cs_1, Int32.toInt_toInt64]; omega))) ?_
          refine Go_Ps 1 (pc' := 18) (lv' := [(0, .long a.toInt64), (2, .long (Int64.ofNat 0)), (4, .long ((0 : Int32) - (Int32.ofInt 1)).toInt64)]) (st' := [.int (Int32.ofInt 0)]) rfl ?_
          exact Go_ret rfl rfl rfl
        exact Go_ret rfl rfl rfl
      refine Go_Ps 2 (pc' := 10) (lv' := [(0, .ref 159), (1, .int a)]) (st' := [.int ((Int8.ofInt (-2)).toInt32)]) rfl ?_
      exact Go_ret rfl rfl rfl
  · refine ⟨(-2), h0, h0, h0_len, h0_slo, h0_rcv, ?_, ?_⟩
    · refine Go_Ps 3 (pc' := 5) (lv' := [(0, .ref 0), (1, .int a)]) (st' := [.int a, .ref 18]) rfl ?_
      refine Go_call (v1 := (some (.int (Int32.ofInt 0)))) (h1 := h0) (vs := [.ref 18, .int a]) (r := []) rfl rfl rfl rfl (by decide) rfl rfl rfl rfl ?_ ?_
      · refine Go_Ps 1 (pc' := 1) (lv' := [(0, .ref 18), (1, .int a)]) (st' := [.int a]) rfl ?_
        refine Go_brF rfl rfl rfl (iF_lt (by first | omega | (simp only [cs_0]; omega))) ?_
        refine Go_Ps 3 (pc' := 9) (lv' := [(0, .ref 18), (1, .int a)]) (st' := [.int (0 : Int32), .int a]) rfl ?_
        refine Go_brT rfl rfl rfl (iT_le (by first | omega | (simp only [cs_2]; omega))) ?_
        refine Go_Ps 1 (pc' := 17) (lv' := [(0, .ref 18), (1, .int a)]) (st' := [.int (Int32.ofInt 0)]) rfl ?_
        exact Go_ret rfl rfl rfl
      refine Go_Ps 2 (pc' := 13) (lv' := [(0, .ref 0), (1, .int a)]) (st' := [.int ((Int8.ofInt (-2)).toInt32)]) rfl ?_
      exact Go_ret rfl rfl rfl
    · refine Go_Ps 2 (pc' := 2) (lv' := [(0, .ref 159), (1, .int a)]) (st' := [.int a, .ref 159]) rfl ?_
      refine Go_call (v1 := (some (.int (Int32.ofInt 0)))) (h1 := h0) (vs := [.ref 159, .int a]) (r := []) rfl rfl rfl rfl (by decide) rfl rfl rfl rfl ?_ ?_
      · refine Go_Ps 10 (pc' := 12) (lv' := [(0, .ref 159), (1, .int a)]) (st' := [.long ((0 : Int32) - (Int32.ofInt 1)).toInt64, .long (Int64.ofNat 0), .long a.toInt64]) rfl ?_
        refine Go_call (v1 := (some (.int (Int32.ofInt 0)))) (h1 := h0) (vs := [.long a.toInt64, .long (Int64.ofNat 0), .long ((0 : Int32) - (Int32.ofInt 1)).toInt64]) (r := []) rfl rfl rfl rfl (by decide) rfl rfl rfl rfl ?_ ?_
        · refine Go_Ps 3 (pc' := 3) (lv' := [(0, .long a.toInt64), (2, .long (Int64.ofNat 0)), (4, .long ((0 : Int32) - (Int32.ofInt 1)).toInt64)]) (st' := [.int (lg_cmp a.toInt64 (Int64.ofNat 0))]) rfl ?_
          refine Go_brF rfl rfl rfl (lgF_lt (by first | omega | (simp only [cs_1, Int32.toInt_toInt64]; omega))) ?_
          refine Go_Ps 3 (pc' := 10) (lv' := [(0, .long a.toInt64), (2, .long (Int64.ofNat 0)), (4, .long ((0 : Int32) - (Int32.ofInt 1)).toInt64)]) (st' := [.int (lg_cmp a.toInt64 (((0 : Int32) - (Int32.ofInt 1)).toInt64))]) rfl ?_
          refine Go_brT rfl rfl rfl (lgT_gt (by first | omega | (simp only [cs_4, Int32.toInt_toInt64]; omega))) ?_
          refine Go_Ps 1 (pc' := 18) (lv' := [(0, .long a.toInt64), (2, .long (Int64.ofNat 0)), (4, .long ((0 : Int32) - (Int32.ofInt 1)).toInt64)]) (st' := [.int (Int32.ofInt 0)]) rfl ?_
          exact Go_ret rfl rfl rfl
        exact Go_ret rfl rfl rfl
      refine Go_Ps 2 (pc' := 10) (lv' := [(0, .ref 159), (1, .int a)]) (st' := [.int ((Int8.ofInt (-2)).toInt32)]) rfl ?_
      exact Go_ret rfl rfl rfl
