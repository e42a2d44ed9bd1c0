set_option maxHeartbeats 4000000 in
set_option maxRecDepth 100000 in
/-- copy -/
theorem op_43 (a : Int32) (b : Int32) : Both mr_100 mr_196 [.int a, .int b] h0 := by
  rcases (show a.toInt < 0 ∨ 0 ≤ a.toInt by omega) with hd | hd
  · refine ⟨(-2), h0, h0, h0_len, h0_slo, h0_rcv, ?_, ?_⟩
    · refine Go_Ps 3 (pc' := 5) (lv' := [(0, .ref 0), (1, .int a), (2, .int b)]) (st' := [.int a, .ref 18]) rfl ?_
      refine Go_call (v1 := (some (.int (Int32.ofInt 0)))) (h1 := h0) (vs := [.ref 18, .int a]) (r := []) rfl rfl rfl rfl (by decide) rfl rfl rfl rfl ?_ ?_
      · refine Go_Ps 1 (pc' := 1) (lv' := [(0, .ref 18), (1, .int a)]) (st' := [.int a]) rfl ?_
        refine Go_brT rfl rfl rfl (iT_lt (by first | omega | (simp only [cs_0]; omega))) ?_
        refine Go_Ps 1 (pc' := 17) (lv' := [(0, .ref 18), (1, .int a)]) (st' := [.int (Int32.ofInt 0)]) rfl ?_
        exact Go_ret rfl rfl rfl
      refine Go_Ps 2 (pc' := 34) (lv' := [(0, .ref 0), (1, .int a), (2, .int b)]) (st' := [.int ((Int8.ofInt (-2)).toInt32)]) rfl ?_
      exact Go_ret rfl rfl rfl
    · refine Go_Ps 2 (pc' := 2) (lv' := [(0, .ref 159), (1, .int a), (2, .int b)]) (st' := [.int a, .ref 159]) rfl ?_
      refine Go_call (v1 := (some (.int (Int32.ofInt 0)))) (h1 := h0) (vs := [.ref 159, .int a]) (r := []) rfl rfl rfl rfl (by decide) rfl rfl rfl rfl ?_ ?_
      · refine Go_Ps 10 (pc' := 12) (lv' := [(0, .ref 159), (1, .int a)]) (st' := [.long ((0 : Int32) - (Int32.ofInt 1)).toInt64, .long (Int64.ofNat 0), .long a.toInt64]) rfl ?_
        refine Go_call (v1 := (some (.int (Int32.ofInt 0)))) (h1 := h0) (vs := [.long a.toInt64, .long (Int64.ofNat 0), .long ((0 : Int32) - (Int32.ofInt 1)).toInt64]) (r := []) rfl rfl rfl rfl (by decide) rfl rfl rfl rfl ?_ ?_
        · refine Go_Ps 3 (pc' := 3) (lv' := [(0, .long a.toInt64), (2, .long (Int64.ofNat 0)), (4, .long ((0 : Int32) - (Int32.ofInt 1)).toInt64)]) (st' := [.int (lg_cmp a.toInt64 (Int64.ofNat 0))]) rfl ?_
          refine Go_brT rfl rfl rfl (lgT_lt (by first | omega | (simp only [cs_1, Int32.toInt_toInt64]; omega))) ?_
          refine Go_Ps 1 (pc' := 18) (lv' := [(0, .long a.toInt64), (2, .long (Int64.ofNat 0)), (4, .long ((0 : Int32) - (Int32.ofInt 1)).toInt64)]) (st' := [.int (Int32.ofInt 0)]) rfl ?_
          exact Go_ret rfl rfl rfl
        exact Go_ret rfl rfl rfl
      refine Go_Ps 2 (pc' := 28) (lv' := [(0, .ref 159), (1, .int a), (2, .int b)]) (st' := [.int ((Int8.ofInt (-2)).toInt32)]) rfl ?_
      exact Go_ret rfl rfl rfl
  · refine ⟨(-2), h0, h0, h0_len, h0_slo, h0_rcv, ?_, ?_⟩
    · refine Go_Ps 3 (pc' := 5) (lv' := [(0, .ref 0), (1, .int a), (2, .int b)]) (st' := [.int a, .ref 18]) rfl ?_
      refine Go_call (v1 := (some (.int (Int32.ofInt 0)))) (h1 := h0) (vs := [.ref 18, .int a]) (r := []) rfl rfl rfl rfl (by decide) rfl rfl rfl rfl ?_ ?_
      · refine Go_Ps 1 (pc' := 1) (lv' := [(0, .ref 18), (1, .int a)]) (st' := [.int a]) rfl ?_
        refine Go_brF rfl rfl rfl (iF_lt (by first | omega | (simp only [cs_0]; omega))) ?_
        refine Go_Ps 3 (pc' := 9) (lv' := [(0, .ref 18), (1, .int a)]) (st' := [.int (0 : Int32), .int a]) rfl ?_
        refine Go_brT rfl rfl rfl (iT_le (by first | omega | (simp only [cs_2]; omega))) ?_
        refine Go_Ps 1 (pc' := 17) (lv' := [(0, .ref 18), (1, .int a)]) (st' := [.int (Int32.ofInt 0)]) rfl ?_
        exact Go_ret rfl rfl rfl
      refine Go_Ps 2 (pc' := 34) (lv' := [(0, .ref 0), (1, .int a), (2, .int b)]) (st' := [.int ((Int8.ofInt (-2)).toInt32)]) rfl ?_
      exact Go_ret rfl rfl rfl
    · refine Go_Ps 2 (pc' := 2) (lv' := [(0, .ref 159), (1, .int a), (2, .int b)]) (st' := [.int a, .ref 159]) rfl ?_
      refine Go_call (v1 := (some (.int (Int32.ofInt 0)))) (h1 := h0) (vs := [.ref 159, .int a]) (r := []) rfl rfl rfl rfl (by decide) rfl rfl rfl rfl ?_ ?_
      · refine Go_Ps 10 (pc' := 12) (lv' := [(0, .ref 159), (1, .int a)]) (st' := [.long ((0 : Int32) - (Int32.ofInt 1)).toInt64, .long (Int64.ofNat 0), .long a.toInt64]) rfl ?_
        refine Go_call (v1 := (some (.int (Int32.ofInt 0)))) (h1 := h0) (vs := [.long a.toInt64, .long (Int64.ofNat 0), .long ((0 : Int32) - (Int32.ofInt 1)).toInt64]) (r := []) rfl rfl rfl rfl (by decide) rfl rfl rfl rfl ?_ ?_
        · refine Go_Ps 3 (pc' := 3) (lv' := [(0, .long a.toInt64), (2, .long (Int64.ofNat 0)), (4, .long ((0 : Int32) - (Int32.ofInt 1)).toInt64)]) (st' := [.int (lg_cmp a.toInt64 (Int64.ofNat 0))]) rfl ?_
          refine Go_brF rfl rfl rfl (lgF_lt (by first | omega | (simp only [cs_1, Int32.toInt_toInt64]; omega))) ?_
          refine Go_Ps 3 (pc' := 10) (lv' := [(0, .long a.toInt64), (2, .long (Int64.ofNat 0)), (4, .long ((0 : Int32) - (Int32.ofInt 1)).toInt64)]) (st' := [.int (lg_cmp a.toInt64 (((0 : Int32) - (Int32.ofInt 1)).toInt64))]) rfl ?_
          refine Go_brT rfl rfl rfl (lgT_gt (by first | omega | (simp only [cs_4, Int32.toInt_toInt64]; omega))) ?_
          refine Go_Ps 1 (pc' := 18) (lv' := [(0, .long a.toInt64), (2, .long (Int64.ofNat 0)), (4, .long ((0 : Int32) - (Int32.ofInt 1)).toInt64)]) (st' := [.int (Int32.ofInt 0)]) rfl ?_
          exact Go_ret rfl rfl rfl
        exact Go_ret rfl rfl rfl
      refine Go_Ps 2 (pc' := 28) (lv' := [(0, .ref 159), (1, .int a), (2, .int b)]) (st' := [.int ((Int8.ofInt (-2)).toInt32)]) rfl ?_
      exact Go_ret rfl rfl rfl
set_option maxHeartbeats 4000000 in
set_option maxRecDepth 100000 in
/-- hanging -/
theorem op_44  : Both mr_124 mr_230 [] h0 := by
  exact clo_44
set_option maxHeartbeats 4000000 in
set_option maxRecDepth 100000 in
/-- hung -/
theorem op_45 (a : Int32) : Both mr_131 mr_237 [.int a] h0 := by
  rcases (show a.toInt < 0 ∨ 0 ≤ a.toInt by omega) with hd | hd
  · refine ⟨(-2), h0, h0, h0_len, h0_slo, h0_rcv, ?_, ?_⟩
    · refine Go_Ps 3 (pc' := 5) (lv' := [(0, .ref 0), (1, .int a)]) (st' := [.int a, .ref 18]) rfl ?_
      refine Go_call (v1 := (some (.int (Int32.ofInt 0)))) (h1 := h0) (vs := [.ref 18, .int a]) (r := []) rfl rfl rfl rfl (by decide) rfl rfl rfl rfl ?_ ?_
      · refine Go_Ps 1 (pc' := 1) (lv' := [(0, .ref 18), (1, .int a)]) (st' := [.int a]) rfl ?_
        refine Go_brT rfl rfl rfl (iT_lt (by first | omega | (simp only [cs_0]; omega))) ?_
        refine Go_Ps 1 (pc' := 17) (lv' := [(0, .ref 18), (1, .int a)]) (st' := [.int (Int32.ofInt 0)]) rfl ?_
        exact Go_ret rfl rfl rfl
      refine Go_Ps 2 (pc' := 13) (lv' := [(0, .ref 0), (1, .int a)]) (st' := [.int ((Int8.ofInt (-2)).toInt32)]) rfl ?_
      exact Go_ret rfl rfl rfl
    · refine Go_Ps 2 (pc' := 2) (lv' := [(0, .ref 159), (1, .int a)]) (st' := [.int a, .ref 159]) rfl ?_
      refine Go_call (v1 := (some (.int (Int32.ofInt 0)))) (h1 := h0) (vs := [.ref 159, .int a]) (r := []) rfl rfl rfl rfl (by decide) rfl rfl rfl rfl ?_ ?_
      · refine Go_Ps 10 (pc' := 12) (lv' := [(0, .ref 159), (1, .int a)]) (st' := [.long ((0 : Int32) - (Int32.ofInt 1)).toInt64, .long (Int64.ofNat 0), .long a.toInt64]) rfl ?_
        refine Go_call (v1 := (some (.int (Int32.ofInt 0)))) (h1 := h0) (vs := [.long a.toInt64, .long (Int64.ofNat 0), .long ((0 : Int32) - (Int32.ofInt 1)).toInt64]) (r := []) rfl rfl rfl rfl (by decide) rfl rfl rfl rfl ?_ ?_
        · refine Go_Ps 3 (pc' := 3) (lv' := [(0, .long a.toInt64), (2, .long (Int64.ofNat 0)), (4, .long ((0 : Int32) - (Int32.ofInt 1)).toInt64)]) (st' := [.int (lg_cmp a.toInt64 (Int64.ofNat 0))]) rfl ?_
          refine Go_brT rfl rfl rfl (lgT_lt (by first | omega | (simp only [cs_1, Int32.toInt_toInt64]; omega))) ?_
          refine Go_Ps 1 (pc' := 18) (lv' := [(0, .long a.toInt64), (2, .long (Int64.ofNat 0)), (4, .long ((0 : Int32) - (Int32.ofInt 1)).toInt64)]) (st' := [.int (Int32.ofInt 0)]) rfl ?_
          exact Go_ret rfl rfl rfl
        exact Go_ret rfl rfl rfl
      refine Go_Ps 2 (pc' := 10) (lv' := [(0, .ref 159), (1, .int a)]) (st' := [.int ((Int8.ofInt (-2)).toInt32)]) rfl ?_
      exact Go_ret rfl rfl rfl
  · refine ⟨(-2), h0, h0, h0_len, h0_slo, h0_rcv, ?_, ?_⟩
    · refine Go_Ps 3 (pc' := 5) (lv' := [(0, .ref 0), (1, .int a)]) (st' := [.int a, .ref 18]) rfl ?_
      refine Go_call (v1 := (some (.int (Int32.ofInt 0)))) (h1 := h0) (vs := [.ref 18, .int a]) (r := []) rfl rfl rfl rfl (by decide) rfl rfl rfl rfl ?_ ?_
      · refine Go_Ps 1 (pc' := 1) (lv' := [(0, .ref 18), (1, .int a)]) (st' := [.int a]) rfl ?_
        refine Go_brF rfl rfl rfl (iF_lt (by first | omega | (simp only [cs_0]; omega))) ?_
        refine Go_Ps 3 (pc' := 9) (lv' := [(0, .ref 18), (1, .int a)]) (st' := [.int (0 : Int32), .int a]) rfl ?_
        refine Go_brT rfl rfl rfl (iT_le (by first | omega | (simp only [cs_2]; omega))) ?_
        refine Go_Ps 1 (pc' := 17) (lv' := [(0, .ref 18), (1, .int a)]) (st' := [.int (Int32.ofInt 0)]) rfl ?_
        exact Go_ret rfl rfl rfl
      refine Go_Ps 2 (pc' := 13) (lv' := [(0, .ref 0), (1, .int a)]) (st' := [.int ((Int8.ofInt (-2)).toInt32)]) rfl ?_
      exact Go_ret rfl rfl rfl
    · refine Go_Ps 2 (pc' := 2) (lv' := [(0, .ref 159), (1, .int a)]) (st' := [.int a, .ref 159]) rfl ?_
      refine Go_call (v1 := (some (.int (Int32.ofInt 0)))) (h1 := h0) (vs := [.ref 159, .int a]) (r := []) rfl rfl rfl rfl (by decide) rfl rfl rfl rfl ?_ ?_
      · refine Go_Ps 10 (pc' := 12) (lv' := [(0, .ref 159), (1, .int a)]) (st' := [.long ((0 : Int32) - (Int32.ofInt 1)).toInt64, .long (Int64.ofNat 0), .long a.toInt64]) rfl ?_
        refine Go_call (v1 := (some (.int (Int32.ofInt 0)))) (h1 := h0) (vs := [.long a.toInt64, .long (Int64.ofNat 0), .long ((0 : Int32) - (Int32.ofInt 1)).toInt64]) (r := []) rfl rfl rfl rfl (by decide) rfl rfl rfl rfl ?_ ?_
        · refine Go_Ps 3 (pc' := 3) (lv' := [(0, .long a.toInt64), (2, .long (Int64.ofNat 0)), (4, .long ((0 : Int32) - (Int32.ofInt 1)).toInt64)]) (st' := [.int (lg_cmp a.toInt64 (Int64.ofNat 0))]) rfl ?_
          refine Go_brF rfl rfl rfl (lgF_lt (by first | omega | (simp only [cs_1, Int32.toInt_toInt64]; omega))) ?_
          refine Go_Ps 3 (pc' := 10) (lv' := [(0, .long a.toInt64), (2, .long (Int64.ofNat 0)), (4, .long ((0 : Int32) - (Int32.ofInt 1)).toInt64)]) (st' := [.int (lg_cmp a.toInt64 (((0 : Int32) - (Int32.ofInt 1)).toInt64))]) rfl ?_
          refine Go_brT rfl rfl rfl (lgT_gt (by first | omega | (simp only [cs_4, Int32.toInt_toInt64]; omega))) ?_
          refine Go_Ps 1 (pc' := 18) (lv' := [(0, .long a.toInt64), (2, .long (Int64.ofNat 0)), (4, .long ((0 : Int32) - (Int32.ofInt 1)).toInt64)]) (st' := [.int (Int32.ofInt 0)]) rfl ?_
          exact Go_ret rfl rfl rfl
        exact Go_ret rfl rfl rfl
      refine Go_Ps 2 (pc' := 10) (lv' := [(0, .ref 159), (1, .int a)]) (st' := [.int ((Int8.ofInt (-2)).toInt32)]) rfl ?_
      exact Go_ret rfl rfl rfl
set_option maxHeartbeats 4000000 in
set_option maxRecDepth 100000 in
/-- amiss -/
theorem op_46 (a : Int32) (b : Int32) : Both mr_93 mr_184 [.int a, .int b] h0 := by
  rcases (show a.toInt < 0 ∨ 0 ≤ a.toInt by omega) with hd | hd
  · refine ⟨(-2), h0, h0, h0_len, h0_slo, h0_rcv, ?_, ?_⟩
    · refine Go_Ps 3 (pc' := 5) (lv' := [(0, .ref 0), (1, .int a), (2, .int b)]) (st' := [.int a, .ref 18]) rfl ?_
      refine Go_call (v1 := (some (.int (Int32.ofInt 0)))) (h1 := h0) (vs := [.ref 18, .int a]) (r := []) rfl rfl rfl rfl (by decide) rfl rfl rfl rfl ?_ ?_
      · refine Go_Ps 1 (pc' := 1) (lv' := [(0, .ref 18), (1, .int a)]) (st' := [.int a]) rfl ?_
        refine Go_brT rfl rfl rfl (iT_lt (by first | omega | (simp only [cs_0]; omega))) ?_
        refine Go_Ps 1 (pc' := 17) (lv' := [(0, .ref 18), (1, .int a)]) (st' := [.int (Int32.ofInt 0)]) rfl ?_
        exact Go_ret rfl rfl rfl
      refine Go_Ps 2 (pc' := 24) (lv' := [(0, .ref 0), (1, .int a), (2, .int b)]) (st' := [.int ((Int8.ofInt (-2)).toInt32)]) rfl ?_
      exact Go_ret rfl rfl rfl
    · refine Go_Ps 2 (pc' := 2) (lv' := [(0, .ref 159), (1, .int a), (2, .int b)]) (st' := [.int a, .ref 159]) rfl ?_
      refine Go_call (v1 := (some (.int (Int32.ofInt 0)))) (h1 := h0) (vs := [.ref 159, .int a]) (r := []) rfl rfl rfl rfl (by decide) rfl rfl rfl rfl ?_ ?_
      · refine Go_Ps 10 (pc' := 12) (lv' := [(0, .ref 159), (1, .int a)]) (st' := [.long ((0 : Int32) - (Int32.ofInt 1)).toInt64, .long (Int64.ofNat 0), .long a.toInt64]) rfl ?_
        refine Go_call (v1 := (some (.int (Int32.ofInt 0)))) (h1 := h0) (vs := [.long a.toInt64, .long (Int64.ofNat 0), .long ((0 : Int32) - (Int32.ofInt 1)).toInt64]) (r := []) rfl rfl rfl rfl (by decide) rfl rfl rfl rfl ?_ ?_
        · refine Go_Ps 3 (pc' := 3) (lv' := [(0, .long a.toInt64), (2, .long (Int64.ofNat 0)), (4, .long ((0 : Int32) - (Int32.ofInt 1)).toInt64)]) (st' := [.int (lg_cmp a.toInt64 (Int64.ofNat 0))]) rfl ?_
          refine Go_brT rfl rfl rfl (lgT_lt (by first | omega | (simp only [cs_1, Int32.toInt_toInt64]; omega))) ?_
          refine Go_Ps 1 (pc' := 18) (lv' := [(0, .long a.toInt64), (2, .long (Int64.ofNat 0)), (4, .long ((0 : Int32) - (Int32.ofInt 1)).toInt64)]) (st' := [.int (Int32.ofInt 0)]) rfl ?_
          exact Go_ret rfl rfl rfl
        exact Go_ret rfl rfl rfl
      refine Go_Ps 2 (pc' := 27) (lv' := [(0, .ref 159), (1, .int a), (2, .int b)]) (st' := [.int ((Int8.ofInt (-2)).toInt32)]) rfl ?_
      exact Go_ret rfl rfl rfl
  · refine ⟨(-2), h0, h0, h0_len, h0_slo, h0_rcv, ?_, ?_⟩
    · refine Go_Ps 3 (pc' := 5) (lv' := [(0, .ref 0), (1, .int a), (2, .int b)]) (st' := [.int a, .ref 18]) rfl ?_
      refine Go_call (v1 := (some (.int (Int32.ofInt 0)))) (h1 := h0) (vs := [.ref 18, .int a]) (r := []) rfl rfl rfl rfl (by decide) rfl rfl rfl rfl ?_ ?_
      · refine Go_Ps 1 (pc' := 1) (lv' := [(0, .ref 18), (1, .int a)]) (st' := [.int a]) rfl ?_
        refine Go_brF rfl rfl rfl (iF_lt (by first | omega | (simp only [cs_0]; omega))) ?_
        refine Go_Ps 3 (pc' := 9) (lv' := [(0, .ref 18), (1, .int a)]) (st' := [.int (0 : Int32), .int a]) rfl ?_
        refine Go_brT rfl rfl rfl (iT_le (by first | omega | (simp only [cs_2]; omega))) ?_
        refine Go_Ps 1 (pc' := 17) (lv' := [(0, .ref 18), (1, .int a)]) (st' := [.int (Int32.ofInt 0)]) rfl ?_
        exact Go_ret rfl rfl rfl
      refine Go_Ps 2 (pc' := 24) (lv' := [(0, .ref 0), (1, .int a), (2, .int b)]) (st' := [.int ((Int8.ofInt (-2)).toInt32)]) rfl ?_
      exact Go_ret rfl rfl rfl
    · refine Go_Ps 2 (pc' := 2) (lv' := [(0, .ref 159), (1, .int a), (2, .int b)]) (st' := [.int a, .ref 159]) rfl ?_
      refine Go_call (v1 := (some (.int (Int32.ofInt 0)))) (h1 := h0) (vs := [.ref 159, .int a]) (r := []) rfl rfl rfl rfl (by decide) rfl rfl rfl rfl ?_ ?_
      · refine Go_Ps 10 (pc' := 12) (lv' := [(0, .ref 159), (1, .int a)]) (st' := [.long ((0 : Int32) - (Int32.ofInt 1)).toInt64, .long (Int64.ofNat 0), .long a.toInt64]) rfl ?_
        refine Go_call (v1 := (some (.int (Int32.ofInt 0)))) (h1 := h0) (vs := [.long a.toInt64, .long (Int64.ofNat 0), .long ((0 : Int32) - (Int32.ofInt 1)).toInt64]) (r := []) rfl rfl rfl rfl (by decide) rfl rfl rfl rfl ?_ ?_
        · refine Go_Ps 3 (pc' := 3) (lv' := [(0, .long a.toInt64), (2, .long (Int64.ofNat 0)), (4, .long ((0 : Int32) - (Int32.ofInt 1)).toInt64)]) (st' := [.int (lg_cmp a.toInt64 (Int64.ofNat 0))]) rfl ?_
          refine Go_brF rfl rfl rfl (lgF_lt (by first | omega | (simp only [cs_1, Int32.toInt_toInt64]; omega))) ?_
          refine Go_Ps 3 (pc' := 10) (lv' := [(0, .long a.toInt64), (2, .long (Int64.ofNat 0)), (4, .long ((0 : Int32) - (Int32.ofInt 1)).toInt64)]) (st' := [.int (lg_cmp a.toInt64 (((0 : Int32) - (Int32.ofInt 1)).toInt64))]) rfl ?_
          refine Go_brT rfl rfl rfl (lgT_gt (by first | omega | (simp only [cs_4, Int32.toInt_toInt64]; omega))) ?_
          refine Go_Ps 1 (pc' := 18) (lv' := [(0, .long a.toInt64), (2, .long (Int64.ofNat 0)), (4, .long ((0 : Int32) - (Int32.ofInt 1)).toInt64)]) (st' := [.int (Int32.ofInt 0)]) rfl ?_
          exact Go_ret rfl rfl rfl
        exact Go_ret rfl rfl rfl
      refine Go_Ps 2 (pc' := 27) (lv' := [(0, .ref 159), (1, .int a), (2, .int b)]) (st' := [.int ((Int8.ofInt (-2)).toInt32)]) rfl ?_
      exact Go_ret rfl rfl rfl
set_option maxHeartbeats 4000000 in
set_option maxRecDepth 100000 in
/-- fits -/
theorem op_47 (a : Int32) : Both mr_115 mr_221 [.int a] h0 := by
  rcases (show a.toInt < 0 ∨ (0 ≤ a.toInt ∧ a.toInt ≤ 3) ∨ 3 < a.toInt by omega) with hd | hd | hd
  · refine ⟨(-2), h0, h0, h0_len, h0_slo, h0_rcv, ?_, ?_⟩
    · refine Go_Ps 2 (pc' := 2) (lv' := [(0, .ref 0), (1, .int a)]) (st' := [.int a, .ref 0]) rfl ?_
      refine Go_call (v1 := (some (.int ((Int8.ofInt (-2)).toInt32)))) (h1 := h0) (vs := [.ref 0, .int a]) (r := []) rfl rfl rfl rfl (by decide) rfl rfl rfl rfl ?_ ?_
      · refine Go_Ps 1 (pc' := 1) (lv' := [(0, .ref 0), (1, .int a)]) (st' := [.int a]) rfl ?_
        refine Go_call (v1 := (some (.int (Int32.ofInt 0)))) (h1 := h0) (vs := [.int a]) (r := []) rfl rfl rfl rfl (by decide) rfl rfl rfl rfl ?_ ?_
        · refine Go_Ps 1 (pc' := 1) (lv' := [(0, .int a)]) (st' := [.int a]) rfl ?_
          refine Go_brT rfl rfl rfl (iT_lt (by first | omega | (simp only [cs_0]; omega))) ?_
          refine Go_Ps 1 (pc' := 14) (lv' := [(0, .int a)]) (st' := [.int (Int32.ofInt 0)]) rfl ?_
          exact Go_ret rfl rfl rfl
        refine Go_Ps 2 (pc' := 19) (lv' := [(0, .ref 0), (1, .int a)]) (st' := [.int ((Int8.ofInt (-2)).toInt32)]) rfl ?_
        exact Go_ret rfl rfl rfl
      refine Go_Ps 5 (pc' := 41) (lv' := [(2, .int ((Int8.ofInt (-2)).toInt32)), (0, .ref 0), (1, .int a)]) (st' := [.int ((Int8.ofInt (-2)).toInt32)]) rfl ?_
      exact Go_ret rfl rfl rfl
    · refine Go_Ps 3 (pc' := 3) (lv' := [(0, .ref 159), (1, .int a)]) (st' := [.int (Int32.ofInt 1), .int a, .ref 159]) rfl ?_
      refine Go_call (v1 := (some (.int ((Int8.ofInt (-2)).toInt32)))) (h1 := h0) (vs := [.ref 159, .int a, .int (Int32.ofInt 1)]) (r := []) rfl rfl rfl rfl (by decide) rfl rfl rfl rfl ?_ ?_
      · refine Go_Ps 1 (pc' := 1) (lv' := [(0, .ref 159), (1, .int a), (2, .int (Int32.ofInt 1))]) (st' := [.int a]) rfl ?_
        refine Go_call (v1 := (some (.int (Int32.ofInt 0)))) (h1 := h0) (vs := [.int a]) (r := []) rfl rfl rfl rfl (by decide) rfl rfl rfl rfl ?_ ?_
        · refine Go_Ps 4 (pc' := 6) (lv' := [(0, .int a)]) (st' := [.long (3 : Int64), .long (Int64.ofNat 0), .long a.toInt64]) rfl ?_
          refine Go_call (v1 := (some (.int (Int32.ofInt 0)))) (h1 := h0) (vs := [.long a.toInt64, .long (Int64.ofNat 0), .long (3 : Int64)]) (r := []) rfl rfl rfl rfl (by decide) rfl rfl rfl rfl ?_ ?_
          · refine Go_Ps 3 (pc' := 3) (lv' := [(0, .long a.toInt64), (2, .long (Int64.ofNat 0)), (4, .long (3 : Int64))]) (st' := [.int (lg_cmp a.toInt64 (Int64.ofNat 0))]) rfl ?_
            refine Go_brT rfl rfl rfl (lgT_lt (by first | omega | (simp only [cs_1, Int32.toInt_toInt64]; omega))) ?_
            refine Go_Ps 1 (pc' := 18) (lv' := [(0, .long a.toInt64), (2, .long (Int64.ofNat 0)), (4, .long (3 : Int64))]) (st' := [.int (Int32.ofInt 0)]) rfl ?_
            exact Go_ret rfl rfl rfl
          exact Go_ret rfl rfl rfl
        refine Go_Ps 2 (pc' := 20) (lv' := [(0, .ref 159), (1, .int a), (2, .int (Int32.ofInt 1))]) (st' := [.int ((Int8.ofInt (-2)).toInt32)]) rfl ?_
        exact Go_ret rfl rfl rfl
      refine Go_Ps 5 (pc' := 20) (lv' := [(2, .int ((Int8.ofInt (-2)).toInt32)), (0, .ref 159), (1, .int a)]) (st' := [.int ((Int8.ofInt (-2)).toInt32)]) rfl ?_
      exact Go_ret rfl rfl rfl
  · refine ⟨(-2), h0, h0, h0_len, h0_slo, h0_rcv, ?_, ?_⟩
    · refine Go_Ps 2 (pc' := 2) (lv' := [(0, .ref 0), (1, .int a)]) (st' := [.int a, .ref 0]) rfl ?_
      refine Go_call (v1 := (some (.int ((Int8.ofInt (-2)).toInt32)))) (h1 := h0) (vs := [.ref 0, .int a]) (r := []) rfl rfl rfl rfl (by decide) rfl rfl rfl rfl ?_ ?_
      · refine Go_Ps 1 (pc' := 1) (lv' := [(0, .ref 0), (1, .int a)]) (st' := [.int a]) rfl ?_
        refine Go_call (v1 := (some (.int (Int32.ofInt 1)))) (h1 := h0) (vs := [.int a]) (r := []) rfl rfl rfl rfl (by decide) rfl rfl rfl rfl ?_ ?_
        · refine Go_Ps 1 (pc' := 1) (lv' := [(0, .int a)]) (st' := [.int a]) rfl ?_
          refine Go_brF rfl rfl rfl (iF_lt (by first | omega | (simp only [cs_0]; omega))) ?_
          refine Go_Ps 2 (pc' := 6) (lv' := [(0, .int a)]) (st' := [.int (Int32.ofInt 4), .int a]) rfl ?_
          refine Go_brF rfl rfl rfl (iF_le (by first | omega | (simp only [cs_8]; omega))) ?_
          refine Go_Ps 2 (pc' := 14) (lv' := [(0, .int a)]) (st' := [.int (Int32.ofInt 1)]) rfl ?_
          exact Go_ret rfl rfl rfl
        refine Go_Ps 3 (pc' := 11) (lv' := [(0, .ref 0), (1, .int a)]) (st' := [.ref 18]) rfl ?_
        refine Go_call (v1 := (some (.int (Int32.ofInt 0)))) (h1 := h0) (vs := [.ref 18]) (r := []) rfl rfl rfl rfl (by decide) rfl rfl rfl rfl ?_ ?_
        · refine Go_Ps 4 (pc' := 12) (lv' := [(0, .ref 18)]) (st' := [.int (Int32.ofInt 0)]) rfl ?_
          exact Go_ret rfl rfl rfl
        refine Go_Ps 2 (pc' := 19) (lv' := [(0, .ref 0), (1, .int a)]) (st' := [.int ((Int8.ofInt (-2)).toInt32)]) rfl ?_
        exact Go_ret rfl rfl rfl
      refine Go_Ps 5 (pc' := 41) (lv' := [(2, .int ((Int8.ofInt (-2)).toInt32)), (0, .ref 0), (1, .int a)]) (st' := [.int ((Int8.ofInt (-2)).toInt32)]) rfl ?_
      exact Go_ret rfl rfl rfl
    · refine Go_Ps 3 (pc' := 3) (lv' := [(0, .ref 159), (1, .int a)]) (st' := [.int (Int32.ofInt 1), .int a, .ref 159]) rfl ?_
      refine Go_call (v1 := (some (.int ((Int8.ofInt (-2)).toInt32)))) (h1 := h0) (vs := [.ref 159, .int a, .int (Int32.ofInt 1)]) (r := []) rfl rfl rfl rfl (by decide) rfl rfl rfl rfl ?_ ?_
      · refine Go_Ps 1 (pc' := 1) (lv' := [(0, .ref 159), (1, .int a), (2, .int (Int32.ofInt 1))]) (st' := [.int a]) rfl ?_
        refine Go_call (v1 := (some (.int (Int32.ofInt 1)))) (h1 := h0) (vs := [.int a]) (r := []) rfl rfl rfl rfl (by decide) rfl rfl rfl rfl ?_ ?_
        · refine Go_Ps 4 (pc' := 6) (lv' := [(0, .int a)]) (st' := [.long (3 : Int64), .long (Int64.ofNat 0), .long a.toInt64]) rfl ?_
          refine Go_call (v1 := (some (.int (Int32.ofInt 1)))) (h1 := h0) (vs := [.long a.toInt64, .long (Int64.ofNat 0), .long (3 : Int64)]) (r := []) rfl rfl rfl rfl (by decide) rfl rfl rfl rfl ?_ ?_
          · refine Go_Ps 3 (pc' := 3) (lv' := [(0, .long a.toInt64), (2, .long (Int64.ofNat 0)), (4, .long (3 : Int64))]) (st' := [.int (lg_cmp a.toInt64 (Int64.ofNat 0))]) rfl ?_
            refine Go_brF rfl rfl rfl (lgF_lt (by first | omega | (simp only [cs_1, Int32.toInt_toInt64]; omega))) ?_
            refine Go_Ps 3 (pc' := 10) (lv' := [(0, .long a.toInt64), (2, .long (Int64.ofNat 0)), (4, .long (3 : Int64))]) (st' := [.int (lg_cmp a.toInt64 (3 : Int64))]) rfl ?_
            refine Go_brF rfl rfl rfl (lgF_gt (by first | omega | (simp only [cs_9, Int32.toInt_toInt64]; omega))) ?_
            refine Go_Ps 2 (pc' := 18) (lv' := [(0, .long a.toInt64), (2, .long (Int64.ofNat 0)), (4, .long (3 : Int64))]) (st' := [.int (Int32.ofInt 1)]) rfl ?_
            exact Go_ret rfl rfl rfl
          exact Go_ret rfl rfl rfl
        refine Go_Ps 2 (pc' := 8) (lv' := [(0, .ref 159), (1, .int a), (2, .int (Int32.ofInt 1))]) (st' := [.ref 159]) rfl ?_
        refine Go_call (v1 := (some (.int (Int32.ofInt 0)))) (h1 := h0) (vs := [.ref 159]) (r := []) rfl rfl rfl rfl (by decide) rfl rfl rfl rfl ?_ ?_
        · refine Go_Ps 6 (pc' := 15) (lv' := [(0, .ref 159)]) (st' := [.int (Int32.ofInt 0)]) rfl ?_
          exact Go_ret rfl rfl rfl
        refine Go_Ps 2 (pc' := 20) (lv' := [(0, .ref 159), (1, .int a), (2, .int (Int32.ofInt 1))]) (st' := [.int ((Int8.ofInt (-2)).toInt32)]) rfl ?_
        exact Go_ret rfl rfl rfl
      refine Go_Ps 5 (pc' := 20) (lv' := [(2, .int ((Int8.ofInt (-2)).toInt32)), (0, .ref 159), (1, .int a)]) (st' := [.int ((Int8.ofInt (-2)).toInt32)]) rfl ?_
      exact Go_ret rfl rfl rfl
  · refine ⟨(-2), h0, h0, h0_len, h0_slo, h0_rcv, ?_, ?_⟩
    · refine Go_Ps 2 (pc' := 2) (lv' := [(0, .ref 0), (1, .int a)]) (st' := [.int a, .ref 0]) rfl ?_
      refine Go_call (v1 := (some (.int ((Int8.ofInt (-2)).toInt32)))) (h1 := h0) (vs := [.ref 0, .int a]) (r := []) rfl rfl rfl rfl (by decide) rfl rfl rfl rfl ?_ ?_
      · refine Go_Ps 1 (pc' := 1) (lv' := [(0, .ref 0), (1, .int a)]) (st' := [.int a]) rfl ?_
        refine Go_call (v1 := (some (.int (Int32.ofInt 0)))) (h1 := h0) (vs := [.int a]) (r := []) rfl rfl rfl rfl (by decide) rfl rfl rfl rfl ?_ ?_
        · refine Go_Ps 1 (pc' := 1) (lv' := [(0, .int a)]) (st' := [.int a]) rfl ?_
          refine Go_brF rfl rfl rfl (iF_lt (by first | omega | (simp only [cs_0]; omega))) ?_
          refine Go_Ps 2 (pc' := 6) (lv' := [(0, .int a)]) (st' := [.int (Int32.ofInt 4), .int a]) rfl ?_
          refine Go_brT rfl rfl rfl (iT_le (by first | omega | (simp only [cs_8]; omega))) ?_
          refine Go_Ps 1 (pc' := 14) (lv' := [(0, .int a)]) (st' := [.int (Int32.ofInt 0)]) rfl ?_
          exact Go_ret rfl rfl rfl
        refine Go_Ps 2 (pc' := 19) (lv' := [(0, .ref 0), (1, .int a)]) (st' := [.int ((Int8.ofInt (-2)).toInt32)]) rfl ?_
        exact Go_ret rfl rfl rfl
      refine Go_Ps 5 (pc' := 41) (lv' := [(2, .int ((Int8.ofInt (-2)).toInt32)), (0, .ref 0), (1, .int a)]) (st' := [.int ((Int8.ofInt (-2)).toInt32)]) rfl ?_
      exact Go_ret rfl rfl rfl
    · refine Go_Ps 3 (pc' := 3) (lv' := [(0, .ref 159), (1, .int a)]) (st' := [.int (Int32.ofInt 1), .int a, .ref 159]) rfl ?_
      refine Go_call (v1 := (some (.int ((Int8.ofInt (-2)).toInt32)))) (h1 := h0) (vs := [.ref 159, .int a, .int (Int32.ofInt 1)]) (r := []) rfl rfl rfl rfl (by decide) rfl rfl rfl rfl ?_ ?_
      · refine Go_Ps 1 (pc' := 1) (lv' := [(0, .ref 159), (1, .int a), (2, .int (Int32.ofInt 1))]) (st' := [.int a]) rfl ?_
        refine Go_call (v1 := (some (.int (Int32.ofInt 0)))) (h1 := h0) (vs := [.int a]) (r := []) rfl rfl rfl rfl (by decide) rfl rfl rfl rfl ?_ ?_
        · refine Go_Ps 4 (pc' := 6) (lv' := [(0, .int a)]) (st' := [.long (3 : Int64), .long (Int64.ofNat 0), .long a.toInt64]) rfl ?_
          refine Go_call (v1 := (some (.int (Int32.ofInt 0)))) (h1 := h0) (vs := [.long a.toInt64, .long (Int64.ofNat 0), .long (3 : Int64)]) (r := []) rfl rfl rfl rfl (by decide) rfl rfl rfl rfl ?_ ?_
          · refine Go_Ps 3 (pc' := 3) (lv' := [(0, .long a.toInt64), (2, .long (Int64.ofNat 0)), (4, .long (3 : Int64))]) (st' := [.int (lg_cmp a.toInt64 (Int64.ofNat 0))]) rfl ?_
            refine Go_brF rfl rfl rfl (lgF_lt (by first | omega | (simp only [cs_1, Int32.toInt_toInt64]; omega))) ?_
            refine Go_Ps 3 (pc' := 10) (lv' := [(0, .long a.toInt64), (2, .long (Int64.ofNat 0)), (4, .long (3 : Int64))]) (st' := [.int (lg_cmp a.toInt64 (3 : Int64))]) rfl ?_
            refine Go_brT rfl rfl rfl (lgT_gt (by first | omega | (simp only [cs_9, Int32.toInt_toInt64]; omega))) ?_
            refine Go_Ps 1 (pc' := 18) (lv' := [(0, .long a.toInt64), (2, .long (Int64.ofNat 0)), (4, .long (3 : Int64))]) (st' := [.int (Int32.ofInt 0)]) rfl ?_
            exact Go_ret rfl rfl rfl
          exact Go_ret rfl rfl rfl
        refine Go_Ps 2 (pc' := 20) (lv' := [(0, .ref 159), (1, .int a), (2, .int (Int32.ofInt 1))]) (st' := [.int ((Int8.ofInt (-2)).toInt32)]) rfl ?_
        exact Go_ret rfl rfl rfl
      refine Go_Ps 5 (pc' := 20) (lv' := [(2, .int ((Int8.ofInt (-2)).toInt32)), (0, .ref 159), (1, .int a)]) (st' := [.int ((Int8.ofInt (-2)).toInt32)]) rfl ?_
      exact Go_ret rfl rfl rfl
set_option maxHeartbeats 4000000 in
set_option maxRecDepth 100000 in
/-- sure -/
theorem op_48 (a : Int32) (b : Int32) : Both mr_164 mr_308 [.int a, .int b] h0 := by
  rcases (show (a.toInt < 0 ∧ b.toInt < 0) ∨ (a.toInt < 0 ∧ b.toInt = 0) ∨ (a.toInt < 0 ∧ b.toInt = 1) ∨ (a.toInt < 0 ∧ 1 < b.toInt) ∨ (0 ≤ a.toInt ∧ a.toInt ≤ 3 ∧ b.toInt < 0) ∨ (0 ≤ a.toInt ∧ a.toInt ≤ 3 ∧ b.toInt = 0) ∨ (0 ≤ a.toInt ∧ a.toInt ≤ 3 ∧ b.toInt = 1) ∨ (0 ≤ a.toInt ∧ a.toInt ≤ 3 ∧ 1 < b.toInt) ∨ (3 < a.toInt ∧ b.toInt < 0) ∨ (3 < a.toInt ∧ b.toInt = 0) ∨ (3 < a.toInt ∧ b.toInt = 1) ∨ (3 < a.toInt ∧ 1 < b.toInt) by omega) with hd | hd | hd | hd | hd | hd | hd | hd | hd | hd | hd | hd
  · refine ⟨(-2), h0, h0, h0_len, h0_slo, h0_rcv, ?_, ?_⟩
    · refine Go_Ps 1 (pc' := 1) (lv' := [(0, .ref 0), (1, .int a), (2, .int b)]) (st' := [.int b]) rfl ?_
      refine Go_call (v1 := (some (.int (Int32.ofInt 0)))) (h1 := h0) (vs := [.int b]) (r := []) rfl rfl rfl rfl (by decide) rfl rfl rfl rfl ?_ ?_
      · refine Go_Ps 1 (pc' := 1) (lv' := [(0, .int b)]) (st' := [.int b]) rfl ?_
        refine Go_brF rfl rfl rfl (iF_eq (by first | omega | (simp only [cs_0]; omega))) ?_
        refine Go_Ps 2 (pc' := 6) (lv' := [(0, .int b)]) (st' := [.int (Int32.ofInt 1), .int b]) rfl ?_
        refine Go_brT rfl rfl rfl (iT_ne (by first | omega | (simp only [cs_3]; omega))) ?_
        refine Go_Ps 1 (pc' := 14) (lv' := [(0, .int b)]) (st' := [.int (Int32.ofInt 0)]) rfl ?_
        exact Go_ret rfl rfl rfl
      refine Go_Ps 6 (pc' := 23) (lv' := [(3, .int ((Int8.ofInt (-2)).toInt32)), (0, .ref 0), (1, .int a), (2, .int b)]) (st' := [.int ((Int8.ofInt (-2)).toInt32)]) rfl ?_
      exact Go_ret rfl rfl rfl
    · refine Go_Ps 6 (pc' := 6) (lv' := [(0, .ref 159), (1, .int a), (2, .int b)]) (st' := [.long (Int64.ofNat 1), .long (Int64.ofNat 0), .long b.toInt64, .int a, .ref 159]) rfl ?_
      refine Go_call (v1 := (some (.int (Int32.ofInt 0)))) (h1 := h0) (vs := [.long b.toInt64, .long (Int64.ofNat 0), .long (Int64.ofNat 1)]) (r := [.int a, .ref 159]) rfl rfl rfl rfl (by decide) rfl rfl rfl rfl ?_ ?_
      · refine Go_Ps 3 (pc' := 3) (lv' := [(0, .long b.toInt64), (2, .long (Int64.ofNat 0)), (4, .long (Int64.ofNat 1))]) (st' := [.int (lg_cmp b.toInt64 (Int64.ofNat 0))]) rfl ?_
        refine Go_brT rfl rfl rfl (lgT_lt (by first | omega | (simp only [cs_1, Int32.toInt_toInt64]; omega))) ?_
        refine Go_Ps 1 (pc' := 18) (lv' := [(0, .long b.toInt64), (2, .long (Int64.ofNat 0)), (4, .long (Int64.ofNat 1))]) (st' := [.int (Int32.ofInt 0)]) rfl ?_
        exact Go_ret rfl rfl rfl
      refine Go_call (v1 := (some (.int ((Int8.ofInt (-2)).toInt32)))) (h1 := h0) (vs := [.ref 159, .int a, .int (Int32.ofInt 0)]) (r := []) rfl rfl rfl rfl (by decide) rfl rfl rfl rfl ?_ ?_
      · refine Go_Ps 1 (pc' := 1) (lv' := [(0, .ref 159), (1, .int a), (2, .int (Int32.ofInt 0))]) (st' := [.int a]) rfl ?_
        refine Go_call (v1 := (some (.int (Int32.ofInt 0)))) (h1 := h0) (vs := [.int a]) (r := []) rfl rfl rfl rfl (by decide) rfl rfl rfl rfl ?_ ?_
        · refine Go_Ps 4 (pc' := 6) (lv' := [(0, .int a)]) (st' := [.long (3 : Int64), .long (Int64.ofNat 0), .long a.toInt64]) rfl ?_
          refine Go_call (v1 := (some (.int (Int32.ofInt 0)))) (h1 := h0) (vs := [.long a.toInt64, .long (Int64.ofNat 0), .long (3 : Int64)]) (r := []) rfl rfl rfl rfl (by decide) rfl rfl rfl rfl ?_ ?_
          · refine Go_Ps 3 (pc' := 3) (lv' := [(0, .long a.toInt64), (2, .long (Int64.ofNat 0)), (4, .long (3 : Int64))]) (st' := [.int (lg_cmp a.toInt64 (Int64.ofNat 0))]) rfl ?_
            refine Go_brT rfl rfl rfl (lgT_lt (by first | omega | (simp only [cs_1, Int32.toInt_toInt64]; omega))) ?_
            refine Go_Ps 1 (pc' := 18) (lv' := [(0, .long a.toInt64), (2, .long (Int64.ofNat 0)), (4, .long (3 : Int64))]) (st' := [.int (Int32.ofInt 0)]) rfl ?_
            exact Go_ret rfl rfl rfl
          exact Go_ret rfl rfl rfl
        refine Go_Ps 2 (pc' := 20) (lv' := [(0, .ref 159), (1, .int a), (2, .int (Int32.ofInt 0))]) (st' := [.int ((Int8.ofInt (-2)).toInt32)]) rfl ?_
        exact Go_ret rfl rfl rfl
      refine Go_Ps 4 (pc' := 18) (lv' := [(3, .int ((Int8.ofInt (-2)).toInt32)), (0, .ref 159), (1, .int a), (2, .int b)]) (st' := [.int ((Int8.ofInt (-2)).toInt32)]) rfl ?_
      exact Go_ret rfl rfl rfl
  · refine ⟨(-2), h0, h0, h0_len, h0_slo, h0_rcv, ?_, ?_⟩
    · refine Go_Ps 1 (pc' := 1) (lv' := [(0, .ref 0), (1, .int a), (2, .int b)]) (st' := [.int b]) rfl ?_
      refine Go_call (v1 := (some (.int (Int32.ofInt 1)))) (h1 := h0) (vs := [.int b]) (r := []) rfl rfl rfl rfl (by decide) rfl rfl rfl rfl ?_ ?_
      · refine Go_Ps 1 (pc' := 1) (lv' := [(0, .int b)]) (st' := [.int b]) rfl ?_
        refine Go_brT rfl rfl rfl (iT_eq (by first | omega | (simp only [cs_0]; omega))) ?_
        refine Go_Ps 2 (pc' := 14) (lv' := [(0, .int b)]) (st' := [.int (Int32.ofInt 1)]) rfl ?_
        exact Go_ret rfl rfl rfl
      refine Go_Ps 3 (pc' := 9) (lv' := [(0, .ref 0), (1, .int a), (2, .int b)]) (st' := [.int a, .ref 0]) rfl ?_
      refine Go_call (v1 := (some (.int ((Int8.ofInt (-2)).toInt32)))) (h1 := h0) (vs := [.ref 0, .int a]) (r := []) rfl rfl rfl rfl (by decide) rfl rfl rfl rfl ?_ ?_
      · refine Go_Ps 1 (pc' := 1) (lv' := [(0, .ref 0), (1, .int a)]) (st' := [.int a]) rfl ?_
        refine Go_call (v1 := (some (.int (Int32.ofInt 0)))) (h1 := h0) (vs := [.int a]) (r := []) rfl rfl rfl rfl (by decide) rfl rfl rfl rfl ?_ ?_
        · refine Go_Ps 1 (pc' := 1) (lv' := [(0, .int a)]) (st' := [.int a]) rfl ?_
          refine Go_brT rfl rfl rfl (iT_lt (by first | omega | (simp only [cs_0]; omega))) ?_
          refine Go_Ps 1 (pc' := 14) (lv' := [(0, .int a)]) (st' := [.int (Int32.ofInt 0)]) rfl ?_
          exact Go_ret rfl rfl rfl
        refine Go_Ps 2 (pc' := 19) (lv' := [(0, .ref 0), (1, .int a)]) (st' := [.int ((Int8.ofInt (-2)).toInt32)]) rfl ?_
        exact Go_ret rfl rfl rfl
      refine Go_Ps 5 (pc' := 23) (lv' := [(3, .int ((Int8.ofInt (-2)).toInt32)), (0, .ref 0), (1, .int a), (2, .int b)]) (st' := [.int ((Int8.ofInt (-2)).toInt32)]) rfl ?_
      exact Go_ret rfl rfl rfl
    · refine Go_Ps 6 (pc' := 6) (lv' := [(0, .ref 159), (1, .int a), (2, .int b)]) (st' := [.long (Int64.ofNat 1), .long (Int64.ofNat 0), .long b.toInt64, .int a, .ref 159]) rfl ?_
      refine Go_call (v1 := (some (.int (Int32.ofInt 1)))) (h1 := h0) (vs := [.long b.toInt64, .long (Int64.ofNat 0), .long (Int64.ofNat 1)]) (r := [.int a, .ref 159]) rfl rfl rfl rfl (by decide) rfl rfl rfl rfl ?_ ?_
      · refine Go_Ps 3 (pc' := 3) (lv' := [(0, .long b.toInt64), (2, .long (Int64.ofNat 0)), (4, .long (Int64.ofNat 1))]) (st' := [.int (lg_cmp b.toInt64 (Int64.ofNat 0))]) rfl ?_
        refine Go_brF rfl rfl rfl (lgF_lt (by first | omega | (simp only [cs_1, Int32.toInt_toInt64]; omega))) ?_
        refine Go_Ps 3 (pc' := 10) (lv' := [(0, .long b.toInt64), (2, .long (Int64.ofNat 0)), (4, .long (Int64.ofNat 1))]) (st' := [.int (lg_cmp b.toInt64 (Int64.ofNat 1))]) rfl ?_
        refine Go_brF rfl rfl rfl (lgF_gt (by first | omega | (simp only [cs_10, Int32.toInt_toInt64]; omega))) ?_
        refine Go_Ps 2 (pc' := 18) (lv' := [(0, .long b.toInt64), (2, .long (Int64.ofNat 0)), (4, .long (Int64.ofNat 1))]) (st' := [.int (Int32.ofInt 1)]) rfl ?_
        exact Go_ret rfl rfl rfl
      refine Go_call (v1 := (some (.int ((Int8.ofInt (-2)).toInt32)))) (h1 := h0) (vs := [.ref 159, .int a, .int (Int32.ofInt 1)]) (r := []) rfl rfl rfl rfl (by decide) rfl rfl rfl rfl ?_ ?_
      · refine Go_Ps 1 (pc' := 1) (lv' := [(0, .ref 159), (1, .int a), (2, .int (Int32.ofInt 1))]) (st' := [.int a]) rfl ?_
        refine Go_call (v1 := (some (.int (Int32.ofInt 0)))) (h1 := h0) (vs := [.int a]) (r := []) rfl rfl rfl rfl (by decide) rfl rfl rfl rfl ?_ ?_
        · refine Go_Ps 4 (pc' := 6) (lv' := [(0, .int a)]) (st' := [.long (3 : Int64), .long (Int64.ofNat 0), .long a.toInt64]) rfl ?_
          refine Go_call (v1 := (some (.int (Int32.ofInt 0)))) (h1 := h0) (vs := [.long a.toInt64, .long (Int64.ofNat 0), .long (3 : Int64)]) (r := []) rfl rfl rfl rfl (by decide) rfl rfl rfl rfl ?_ ?_
          · refine Go_Ps 3 (pc' := 3) (lv' := [(0, .long a.toInt64), (2, .long (Int64.ofNat 0)), (4, .long (3 : Int64))]) (st' := [.int (lg_cmp a.toInt64 (Int64.ofNat 0))]) rfl ?_
            refine Go_brT rfl rfl rfl (lgT_lt (by first | omega | (simp only [cs_1, Int32.toInt_toInt64]; omega))) ?_
            refine Go_Ps 1 (pc' := 18) (lv' := [(0, .long a.toInt64), (2, .long (Int64.ofNat 0)), (4, .long (3 : Int64))]) (st' := [.int (Int32.ofInt 0)]) rfl ?_
            exact Go_ret rfl rfl rfl
          exact Go_ret rfl rfl rfl
        refine Go_Ps 2 (pc' := 20) (lv' := [(0, .ref 159), (1, .int a), (2, .int (Int32.ofInt 1))]) (st' := [.int ((Int8.ofInt (-2)).toInt32)]) rfl ?_
        exact Go_ret rfl rfl rfl
      refine Go_Ps 4 (pc' := 18) (lv' := [(3, .int ((Int8.ofInt (-2)).toInt32)), (0, .ref 159), (1, .int a), (2, .int b)]) (st' := [.int ((Int8.ofInt (-2)).toInt32)]) rfl ?_
      exact Go_ret rfl rfl rfl
  · refine ⟨(-2), h0, h0, h0_len, h0_slo, h0_rcv, ?_, ?_⟩
    · refine Go_Ps 1 (pc' := 1) (lv' := [(0, .ref 0), (1, .int a), (2, .int b)]) (st' := [.int b]) rfl ?_
      refine Go_call (v1 := (some (.int (Int32.ofInt 1)))) (h1 := h0) (vs := [.int b]) (r := []) rfl rfl rfl rfl (by decide) rfl rfl rfl rfl ?_ ?_
      · refine Go_Ps 1 (pc' := 1) (lv' := [(0, .int b)]) (st' := [.int b]) rfl ?_
        refine Go_brF rfl rfl rfl (iF_eq (by first | omega | (simp only [cs_0]; omega))) ?_
        refine Go_Ps 2 (pc' := 6) (lv' := [(0, .int b)]) (st' := [.int (Int32.ofInt 1), .int b]) rfl ?_
        refine Go_brF rfl rfl rfl (iF_ne (by first | omega | (simp only [cs_3]; omega))) ?_
        refine Go_Ps 2 (pc' := 14) (lv' := [(0, .int b)]) (st' := [.int (Int32.ofInt 1)]) rfl ?_
        exact Go_ret rfl rfl rfl
      refine Go_Ps 3 (pc' := 9) (lv' := [(0, .ref 0), (1, .int a), (2, .int b)]) (st' := [.int a, .ref 0]) rfl ?_
      refine Go_call (v1 := (some (.int ((Int8.ofInt (-2)).toInt32)))) (h1 := h0) (vs := [.ref 0, .int a]) (r := []) rfl rfl rfl rfl (by decide) rfl rfl rfl rfl ?_ ?_
      · refine Go_Ps 1 (pc' := 1) (lv' := [(0, .ref 0), (1, .int a)]) (st' := [.int a]) rfl ?_
        refine Go_call (v1 := (some (.int (Int32.ofInt 0)))) (h1 := h0) (vs := [.int a]) (r := []) rfl rfl rfl rfl (by decide) rfl rfl rfl rfl ?_ ?_
        · refine Go_Ps 1 (pc' := 1) (lv' := [(0, .int a)]) (st' := [.int a]) rfl ?_
          refine Go_brT rfl rfl rfl (iT_lt (by first | omega | (simp only [cs_0]; omega))) ?_
          refine Go_Ps 1 (pc' := 14) (lv' := [(0, .int a)]) (st' := [.int (Int32.ofInt 0)]) rfl ?_
          exact Go_ret rfl rfl rfl
        refine Go_Ps 2 (pc' := 19) (lv' := [(0, .ref 0), (1, .int a)]) (st' := [.int ((Int8.ofInt (-2)).toInt32)]) rfl ?_
        exact Go_ret rfl rfl rfl
      refine Go_Ps 5 (pc' := 23) (lv' := [(3, .int ((Int8.ofInt (-2)).toInt32)), (0, .ref 0), (1, .int a), (2, .int b)]) (st' := [.int ((Int8.ofInt (-2)).toInt32)]) rfl ?_
      exact Go_ret rfl rfl rfl
    · refine Go_Ps 6 (pc' := 6) (lv' := [(0, .ref 159), (1, .int a), (2, .int b)]) (st' := [.long (Int64.ofNat 1), .long (Int64.ofNat 0), .long b.toInt64, .int a, .ref 159]) rfl ?_
      refine Go_call (v1 := (some (.int (Int32.ofInt 1)))) (h1 := h0) (vs := [.long b.toInt64, .long (Int64.ofNat 0), .long (Int64.ofNat 1)]) (r := [.int a, .ref 159]) rfl rfl rfl rfl (by decide) rfl rfl rfl rfl ?_ ?_
      · refine Go_Ps 3 (pc' := 3) (lv' := [(0, .long b.toInt64), (2, .long (Int64.ofNat 0)), (4, .long (Int64.ofNat 1))]) (st' := [.int (lg_cmp b.toInt64 (Int64.ofNat 0))]) rfl ?_
        refine Go_brF rfl rfl rfl (lgF_lt (by first | omega | (simp only [cs_1, Int32.toInt_toInt64]; omega))) ?_
        refine Go_Ps 3 (pc' := 10) (lv' := [(0, .long b.toInt64), (2, .long (Int64.ofNat 0)), (4, .long (Int64.ofNat 1))]) (st' := [.int (lg_cmp b.toInt64 (Int64.ofNat 1))]) rfl ?_
        refine Go_brF rfl rfl rfl (lgF_gt (by first | omega | (simp only [cs_10, Int32.toInt_toInt64]; omega))) ?_
        refine Go_Ps 2 (pc' := 18) (lv' := [(0, .long b.toInt64), (2, .long (Int64.ofNat 0)), (4, .long (Int64.ofNat 1))]) (st' := [.int (Int32.ofInt 1)]) rfl ?_
        exact Go_ret rfl rfl rfl
      refine Go_call (v1 := (some (.int ((Int8.ofInt (-2)).toInt32)))) (h1 := h0) (vs := [.ref 159, .int a, .int (Int32.ofInt 1)]) (r := []) rfl rfl rfl rfl (by decide) rfl rfl rfl rfl ?_ ?_
      · refine Go_Ps 1 (pc' := 1) (lv' := [(0, .ref 159), (1, .int a), (2, .int (Int32.ofInt 1))]) (st' := [.int a]) rfl ?_
        refine Go_call (v1 := (some (.int (Int32.ofInt 0)))) (h1 := h0) (vs := [.int a]) (r := []) rfl rfl rfl rfl (by decide) rfl rfl rfl rfl ?_ ?_
        · refine Go_Ps 4 (pc' := 6) (lv' := [(0, .int a)]) (st' := [.long (3 : Int64), .long (Int64.ofNat 0), .long a.toInt64]) rfl ?_
          refine Go_call (v1 := (some (.int (Int32.ofInt 0)))) (h1 := h0) (vs := [.long a.toInt64, .long (Int64.ofNat 0), .long (3 : Int64)]) (r := []) rfl rfl rfl rfl (by decide) rfl rfl rfl rfl ?_ ?_
          · refine Go_Ps 3 (pc' := 3) (lv' := [(0, .long a.toInt64), (2, .long (Int64.ofNat 0)), (4, .long (3 : Int64))]) (st' := [.int (lg_cmp a.toInt64 (Int64.ofNat 0))]) rfl ?_
            refine Go_brT rfl rfl rfl (lgT_lt (by first | omega | (simp only [cs_1, Int32.toInt_toInt64]; omega))) ?_
            refine Go_Ps 1 (pc' := 18) (lv' := [(0, .long a.toInt64), (2, .long (Int64.ofNat 0)), (4, .long (3 : Int64))]) (st' := [.int (Int32.ofInt 0)]) rfl ?_
            exact Go_ret rfl rfl rfl
          exact Go_ret rfl rfl rfl
        refine Go_Ps 2 (pc' := 20) (lv' := [(0, .ref 159), (1, .int a), (2, .int (Int32.ofInt 1))]) (st' := [.int ((Int8.ofInt (-2)).toInt32)]) rfl ?_
        exact Go_ret rfl rfl rfl
      refine Go_Ps 4 (pc' := 18) (lv' := [(3, .int ((Int8.ofInt (-2)).toInt32)), (0, .ref 159), (1, .int a), (2, .int b)]) (st' := [.int ((Int8.ofInt (-2)).toInt32)]) rfl ?_
      exact Go_ret rfl rfl rfl
  · refine ⟨(-2), h0, h0, h0_len, h0_slo, h0_rcv, ?_, ?_⟩
    · refine Go_Ps 1 (pc' := 1) (lv' := [(0, .ref 0), (1, .int a), (2, .int b)]) (st' := [.int b]) rfl ?_
      refine Go_call (v1 := (some (.int (Int32.ofInt 0)))) (h1 := h0) (vs := [.int b]) (r := []) rfl rfl rfl rfl (by decide) rfl rfl rfl rfl ?_ ?_
      · refine Go_Ps 1 (pc' := 1) (lv' := [(0, .int b)]) (st' := [.int b]) rfl ?_
        refine Go_brF rfl rfl rfl (iF_eq (by first | omega | (simp only [cs_0]; omega))) ?_
        refine Go_Ps 2 (pc' := 6) (lv' := [(0, .int b)]) (st' := [.int (Int32.ofInt 1), .int b]) rfl ?_
        refine Go_brT rfl rfl rfl (iT_ne (by first | omega | (simp only [cs_3]; omega))) ?_
        refine Go_Ps 1 (pc' := 14) (lv' := [(0, .int b)]) (st' := [.int (Int32.ofInt 0)]) rfl ?_
        exact Go_ret rfl rfl rfl
      refine Go_Ps 6 (pc' := 23) (lv' := [(3, .int ((Int8.ofInt (-2)).toInt32)), (0, .ref 0), (1, .int a), (2, .int b)]) (st' := [.int ((Int8.ofInt (-2)).toInt32)]) rfl ?_
      exact Go_ret rfl rfl rfl
    · refine Go_Ps 6 (pc' := 6) (lv' := [(0, .ref 159), (1, .int a), (2, .int b)]) (st' := [.long (Int64.ofNat 1), .long (Int64.ofNat 0), .long b.toInt64, .int a, .ref 159]) rfl ?_
      refine Go_call (v1 := (some (.int (Int32.ofInt 0)))) (h1 := h0) (vs := [.long b.toInt64, .long (Int64.ofNat 0), .long (Int64.ofNat 1)]) (r := [.int a, .ref 159]) rfl rfl rfl rfl (by decide) rfl rfl rfl rfl ?_ ?_
      · refine Go_Ps 3 (pc' := 3) (lv' := [(0, .long b.toInt64), (2, .long (Int64.ofNat 0)), (4, .long (Int64.ofNat 1))]) (st' := [.int (lg_cmp b.toInt64 (Int64.ofNat 0))]) rfl ?_
        refine Go_brF rfl rfl rfl (lgF_lt (by first | omega | (simp only [cs_1, Int32.toInt_toInt64]; omega))) ?_
        refine Go_Ps 3 (pc' := 10) (lv' := [(0, .long b.toInt64), (2, .long (Int64.ofNat 0)), (4, .long (Int64.ofNat 1))]) (st' := [.int (lg_cmp b.toInt64 (Int64.ofNat 1))]) rfl ?_
        refine Go_brT rfl rfl rfl (lgT_gt (by first | omega | (simp only [cs_10, Int32.toInt_toInt64]; omega))) ?_
        refine Go_Ps 1 (pc' := 18) (lv' := [(0, .long b.toInt64), (2, .long (Int64.ofNat 0)), (4, .long (Int64.ofNat 1))]) (st' := [.int (Int32.ofInt 0)]) rfl ?_
        exact Go_ret rfl rfl rfl
      refine Go_call (v1 := (some (.int ((Int8.ofInt (-2)).toInt32)))) (h1 := h0) (vs := [.ref 159, .int a, .int (Int32.ofInt 0)]) (r := []) rfl rfl rfl rfl (by decide) rfl rfl rfl rfl ?_ ?_
      · refine Go_Ps 1 (pc' := 1) (lv' := [(0, .ref 159), (1, .int a), (2, .int (Int32.ofInt 0))]) (st' := [.int a]) rfl ?_
        refine Go_call (v1 := (some (.int (Int32.ofInt 0)))) (h1 := h0) (vs := [.int a]) (r := []) rfl rfl rfl rfl (by decide) rfl rfl rfl rfl ?_ ?_
        · refine Go_Ps 4 (pc' := 6) (lv' := [(0, .int a)]) (st' := [.long (3 : Int64), .long (Int64.ofNat 0), .long a.toInt64]) rfl ?_
          refine Go_call (v1 := (some (.int (Int32.ofInt 0)))) (h1 := h0) (vs := [.long a.toInt64, .long (Int64.ofNat 0), .long (3 : Int64)]) (r := []) rfl rfl rfl rfl (by decide) rfl rfl rfl rfl ?_ ?_
          · refine Go_Ps 3 (pc' := 3) (lv' := [(0, .long a.toInt64), (2, .long (Int64.ofNat 0)), (4, .long (3 : Int64))]) (st' := [.int (lg_cmp a.toInt64 (Int64.ofNat 0))]) rfl ?_
            refine Go_brT rfl rfl rfl (lgT_lt (by first | omega | (simp only [cs_1, Int32.toInt_toInt64]; omega))) ?_
            refine Go_Ps 1 (pc' := 18) (lv' := [(0, .long a.toInt64), (2, .long (Int64.ofNat 0)), (4, .long (3 : Int64))]) (st' := [.int (Int32.ofInt 0)]) rfl ?_
            exact Go_ret rfl rfl rfl
          exact Go_ret rfl rfl rfl
        refine Go_Ps 2 (pc' := 20) (lv' := [(0, .ref 159), (1, .int a), (2, .int (Int32.ofInt 0))]) (st' := [.int ((Int8.ofInt (-2)).toInt32)]) rfl ?_
        exact Go_ret rfl rfl rfl
      refine Go_Ps 4 (pc' := 18) (lv' := [(3, .int ((Int8.ofInt (-2)).toInt32)), (0, .ref 159), (1, .int a), (2, .int b)]) (st' := [.int ((Int8.ofInt (-2)).toInt32)]) rfl ?_
      exact Go_ret rfl rfl rfl
  · refine ⟨(-2), h0, h0, h0_len, h0_slo, h0_rcv, ?_, ?_⟩
    · refine Go_Ps 1 (pc' := 1) (lv' := [(0, .ref 0), (1, .int a), (2, .int b)]) (st' := [.int b]) rfl ?_
      refine Go_call (v1 := (some (.int (Int32.ofInt 0)))) (h1 := h0) (vs := [.int b]) (r := []) rfl rfl rfl rfl (by decide) rfl rfl rfl rfl ?_ ?_
      · refine Go_Ps 1 (pc' := 1) (lv' := [(0, .int b)]) (st' := [.int b]) rfl ?_
        refine Go_brF rfl rfl rfl (iF_eq (by first | omega | (simp only [cs_0]; omega))) ?_
        refine Go_Ps 2 (pc' := 6) (lv' := [(0, .int b)]) (st' := [.int (Int32.ofInt 1), .int b]) rfl ?_
        refine Go_brT rfl rfl rfl (iT_ne (by first | omega | (simp only [cs_3]; omega))) ?_
        refine Go_Ps 1 (pc' := 14) (lv' := [(0, .int b)]) (st' := [.int (Int32.ofInt 0)]) rfl ?_
        exact Go_ret rfl rfl rfl
      refine Go_Ps 6 (pc' := 23) (lv' := [(3, .int ((Int8.ofInt (-2)).toInt32)), (0, .ref 0), (1, .int a), (2, .int b)]) (st' := [.int ((Int8.ofInt (-2)).toInt32)]) rfl ?_
      exact Go_ret rfl rfl rfl
    · refine Go_Ps 6 (pc' := 6) (lv' := [(0, .ref 159), (1, .int a), (2, .int b)]) (st' := [.long (Int64.ofNat 1), .long (Int64.ofNat 0), .long b.toInt64, .int a, .ref 159]) rfl ?_
      refine Go_call (v1 := (some (.int (Int32.ofInt 0)))) (h1 := h0) (vs := [.long b.toInt64, .long (Int64.ofNat 0), .long (Int64.ofNat 1)]) (r := [.int a, .ref 159]) rfl rfl rfl rfl (by decide) rfl rfl rfl rfl ?_ ?_
      · refine Go_Ps 3 (pc' := 3) (lv' := [(0, .long b.toInt64), (2, .long (Int64.ofNat 0)), (4, .long (Int64.ofNat 1))]) (st' := [.int (lg_cmp b.toInt64 (Int64.ofNat 0))]) rfl ?_
        refine Go_brT rfl rfl rfl (lgT_lt (by first | omega | (simp only [cs_1, Int32.toInt_toInt64]; omega))) ?_
        refine Go_Ps 1 (pc' := 18) (lv' := [(0, .long b.toInt64), (2, .long (Int64.ofNat 0)), (4, .long (Int64.ofNat 1))]) (st' := [.int (Int32.ofInt 0)]) rfl ?_
        exact Go_ret rfl rfl rfl
      refine Go_call (v1 := (some (.int ((Int8.ofInt (-2)).toInt32)))) (h1 := h0) (vs := [.ref 159, .int a, .int (Int32.ofInt 0)]) (r := []) rfl rfl rfl rfl (by decide) rfl rfl rfl rfl ?_ ?_
      · refine Go_Ps 1 (pc' := 1) (lv' := [(0, .ref 159), (1, .int a), (2, .int (Int32.ofInt 0))]) (st' := [.int a]) rfl ?_
        refine Go_call (v1 := (some (.int (Int32.ofInt 1)))) (h1 := h0) (vs := [.int a]) (r := []) rfl rfl rfl rfl (by decide) rfl rfl rfl rfl ?_ ?_
        · refine Go_Ps 4 (pc' := 6) (lv' := [(0, .int a)]) (st' := [.long (3 : Int64), .long (Int64.ofNat 0), .long a.toInt64]) rfl ?_
          refine Go_call (v1 := (some (.int (Int32.ofInt 1)))) (h1 := h0) (vs := [.long a.toInt64, .long (Int64.ofNat 0), .long (3 : Int64)]) (r := []) rfl rfl rfl rfl (by decide) rfl rfl rfl rfl ?_ ?_
          · refine Go_Ps 3 (pc' := 3) (lv' := [(0, .long a.toInt64), (2, .long (Int64.ofNat 0)), (4, .long (3 : Int64))]) (st' := [.int (lg_cmp a.toInt64 (Int64.ofNat 0))]) rfl ?_
            refine Go_brF rfl rfl rfl (lgF_lt (by first | omega | (simp only [cs_1, Int32.toInt_toInt64]; omega))) ?_
            refine Go_Ps 3 (pc' := 10) (lv' := [(0, .long a.toInt64), (2, .long (Int64.ofNat 0)), (4, .long (3 : Int64))]) (st' := [.int (lg_cmp a.toInt64 (3 : Int64))]) rfl ?_
            refine Go_brF rfl rfl rfl (lgF_gt (by first | omega | (simp only [cs_9, Int32.toInt_toInt64]; omega))) ?_
            refine Go_Ps 2 (pc' := 18) (lv' := [(0, .long a.toInt64), (2, .long (Int64.ofNat 0)), (4, .long (3 : Int64))]) (st' := [.int (Int32.ofInt 1)]) rfl ?_
            exact Go_ret rfl rfl rfl
          exact Go_ret rfl rfl rfl
        refine Go_Ps 2 (pc' := 8) (lv' := [(0, .ref 159), (1, .int a), (2, .int (Int32.ofInt 0))]) (st' := [.ref 159]) rfl ?_
        refine Go_call (v1 := (some (.int (Int32.ofInt 0)))) (h1 := h0) (vs := [.ref 159]) (r := []) rfl rfl rfl rfl (by decide) rfl rfl rfl rfl ?_ ?_
        · refine Go_Ps 6 (pc' := 15) (lv' := [(0, .ref 159)]) (st' := [.int (Int32.ofInt 0)]) rfl ?_
          exact Go_ret rfl rfl rfl
        refine Go_Ps 2 (pc' := 20) (lv' := [(0, .ref 159), (1, .int a), (2, .int (Int32.ofInt 0))]) (st' := [.int ((Int8.ofInt (-2)).toInt32)]) rfl ?_
        exact Go_ret rfl rfl rfl
      refine Go_Ps 4 (pc' := 18) (lv' := [(3, .int ((Int8.ofInt (-2)).toInt32)), (0, .ref 159), (1, .int a), (2, .int b)]) (st' := [.int ((Int8.ofInt (-2)).toInt32)]) rfl ?_
      exact Go_ret rfl rfl rfl
  · refine ⟨(-2), h0, h0, h0_len, h0_slo, h0_rcv, ?_, ?_⟩
    · refine Go_Ps 1 (pc' := 1) (lv' := [(0, .ref 0), (1, .int a), (2, .int b)]) (st' := [.int b]) rfl ?_
      refine Go_call (v1 := (some (.int (Int32.ofInt 1)))) (h1 := h0) (vs := [.int b]) (r := []) rfl rfl rfl rfl (by decide) rfl rfl rfl rfl ?_ ?_
      · refine Go_Ps 1 (pc' := 1) (lv' := [(0, .int b)]) (st' := [.int b]) rfl ?_
        refine Go_brT rfl rfl rfl (iT_eq (by first | omega | (simp only [cs_0]; omega))) ?_
        refine Go_Ps 2 (pc' := 14) (lv' := [(0, .int b)]) (st' := [.int (Int32.ofInt 1)]) rfl ?_
        exact Go_ret rfl rfl rfl
      refine Go_Ps 3 (pc' := 9) (lv' := [(0, .ref 0), (1, .int a), (2, .int b)]) (st' := [.int a, .ref 0]) rfl ?_
      refine Go_call (v1 := (some (.int ((Int8.ofInt (-2)).toInt32)))) (h1 := h0) (vs := [.ref 0, .int a]) (r := []) rfl rfl rfl rfl (by decide) rfl rfl rfl rfl ?_ ?_
      · refine Go_Ps 1 (pc' := 1) (lv' := [(0, .ref 0), (1, .int a)]) (st' := [.int a]) rfl ?_
        refine Go_call (v1 := (some (.int (Int32.ofInt 1)))) (h1 := h0) (vs := [.int a]) (r := []) rfl rfl rfl rfl (by decide) rfl rfl rfl rfl ?_ ?_
        · refine Go_Ps 1 (pc' := 1) (lv' := [(0, .int a)]) (st' := [.int a]) rfl ?_
          refine Go_brF rfl rfl rfl (iF_lt (by first | omega | (simp only [cs_0]; omega))) ?_
          refine Go_Ps 2 (pc' := 6) (lv' := [(0, .int a)]) (st' := [.int (Int32.ofInt 4), .int a]) rfl ?_
          refine Go_brF rfl rfl rfl (iF_le (by first | omega | (simp only [cs_8]; omega))) ?_
          refine Go_Ps 2 (pc' := 14) (lv' := [(0, .int a)]) (st' := [.int (Int32.ofInt 1)]) rfl ?_
          exact Go_ret rfl rfl rfl
        refine Go_Ps 3 (pc' := 11) (lv' := [(0, .ref 0), (1, .int a)]) (st' := [.ref 18]) rfl ?_
        refine Go_call (v1 := (some (.int (Int32.ofInt 0)))) (h1 := h0) (vs := [.ref 18]) (r := []) rfl rfl rfl rfl (by decide) rfl rfl rfl rfl ?_ ?_
        · refine Go_Ps 4 (pc' := 12) (lv' := [(0, .ref 18)]) (st' := [.int (Int32.ofInt 0)]) rfl ?_
          exact Go_ret rfl rfl rfl
        refine Go_Ps 2 (pc' := 19) (lv' := [(0, .ref 0), (1, .int a)]) (st' := [.int ((Int8.ofInt (-2)).toInt32)]) rfl ?_
        exact Go_ret rfl rfl rfl
      refine Go_Ps 5 (pc' := 23) (lv' := [(3, .int ((Int8.ofInt (-2)).toInt32)), (0, .ref 0), (1, .int a), (2, .int b)]) (st' := [.int ((Int8.ofInt (-2)).toInt32)]) rfl ?_
      exact Go_ret rfl rfl rfl
    · refine Go_Ps 6 (pc' := 6) (lv' := [(0, .ref 159), (1, .int a), (2, .int b)]) (st' := [.long (Int64.ofNat 1), .long (Int64.ofNat 0), .long b.toInt64, .int a, .ref 159]) rfl ?_
      refine Go_call (v1 := (some (.int (Int32.ofInt 1)))) (h1 := h0) (vs := [.long b.toInt64, .long (Int64.ofNat 0), .long (Int64.ofNat 1)]) (r := [.int a, .ref 159]) rfl rfl rfl rfl (by decide) rfl rfl rfl rfl ?_ ?_
      · refine Go_Ps 3 (pc' := 3) (lv' := [(0, .long b.toInt64), (2, .long (Int64.ofNat 0)), (4, .long (Int64.ofNat 1))]) (st' := [.int (lg_cmp b.toInt64 (Int64.ofNat 0))]) rfl ?_
        refine Go_brF rfl rfl rfl (lgF_lt (by first | omega | (simp only [cs_1, Int32.toInt_toInt64]; omega))) ?_
        refine Go_Ps 3 (pc' := 10) (lv' := [(0, .long b.toInt64), (2, .long (Int64.ofNat 0)), (4, .long (Int64.ofNat 1))]) (st' := [.int (lg_cmp b.toInt64 (Int64.ofNat 1))]) rfl ?_
        refine Go_brF rfl rfl rfl (lgF_gt (by first | omega | (simp only [cs_10, Int32.toInt_toInt64]; omega))) ?_
        refine Go_Ps 2 (pc' := 18) (lv' := [(0, .long b.toInt64), (2, .long (Int64.ofNat 0)), (4, .long (Int64.ofNat 1))]) (st' := [.int (Int32.ofInt 1)]) rfl ?_
        exact Go_ret rfl rfl rfl
      refine Go_call (v1 := (some (.int ((Int8.ofInt (-2)).toInt32)))) (h1 := h0) (vs := [.ref 159, .int a, .int (Int32.ofInt 1)]) (r := []) rfl rfl rfl rfl (by decide) rfl rfl rfl rfl ?_ ?_
      · refine Go_Ps 1 (pc' := 1) (lv' := [(0, .ref 159), (1, .int a), (2, .int (Int32.ofInt 1))]) (st' := [.int a]) rfl ?_
        refine Go_call (v1 := (some (.int (Int32.ofInt 1)))) (h1 := h0) (vs := [.int a]) (r := []) rfl rfl rfl rfl (by decide) rfl rfl rfl rfl ?_ ?_
        · refine Go_Ps 4 (pc' := 6) (lv' := [(0, .int a)]) (st' := [.long (3 : Int64), .long (Int64.ofNat 0), .long a.toInt64]) rfl ?_
          refine Go_call (v1 := (some (.int (Int32.ofInt 1)))) (h1 := h0) (vs := [.long a.toInt64, .long (Int64.ofNat 0), .long (3 : Int64)]) (r := []) rfl rfl rfl rfl (by decide) rfl rfl rfl rfl ?_ ?_
          · refine Go_Ps 3 (pc' := 3) (lv' := [(0, .long a.toInt64), (2, .long (Int64.ofNat 0)), (4, .long (3 : Int64))]) (st' := [.int (lg_cmp a.toInt64 (Int64.ofNat 0))]) rfl ?_
            refine Go_brF rfl rfl rfl (lgF_lt (by first | omega | (simp only [cs_1, Int32.toInt_toInt64]; omega))) ?_
            refine Go_Ps 3 (pc' := 10) (lv' := [(0, .long a.toInt64), (2, .long (Int64.ofNat 0)), (4, .long (3 : Int64))]) (st' := [.int (lg_cmp a.toInt64 (3 : Int64))]) rfl ?_
            refine Go_brF rfl rfl rfl (lgF_gt (by first | omega | (simp only [cs_9, Int32.toInt_toInt64]; omega))) ?_
            refine Go_Ps 2 (pc' := 18) (lv' := [(0, .long a.toInt64), (2, .long (Int64.ofNat 0)), (4, .long (3 : Int64))]) (st' := [.int (Int32.ofInt 1)]) rfl ?_
            exact Go_ret rfl rfl rfl
          exact Go_ret rfl rfl rfl
        refine Go_Ps 2 (pc' := 8) (lv' := [(0, .ref 159), (1, .int a), (2, .int (Int32.ofInt 1))]) (st' := [.ref 159]) rfl ?_
        refine Go_call (v1 := (some (.int (Int32.ofInt 0)))) (h1 := h0) (vs := [.ref 159]) (r := []) rfl rfl rfl rfl (by decide) rfl rfl rfl rfl ?_ ?_
        · refine Go_Ps 6 (pc' := 15) (lv' := [(0, .ref 159)]) (st' := [.int (Int32.ofInt 0)]) rfl ?_
          exact Go_ret rfl rfl rfl
        refine Go_Ps 2 (pc' := 20) (lv' := [(0, .ref 159), (1, .int a), (2, .int (Int32.ofInt 1))]) (st' := [.int ((Int8.ofInt (-2)).toInt32)]) rfl ?_
        exact Go_ret rfl rfl rfl
      refine Go_Ps 4 (pc' := 18) (lv' := [(3, .int ((Int8.ofInt (-2)).toInt32)), (0, .ref 159), (1, .int a), (2, .int b)]) (st' := [.int ((Int8.ofInt (-2)).toInt32)]) rfl ?_
      exact Go_ret rfl rfl rfl
  · refine ⟨(-2), h0, h0, h0_len, h0_slo, h0_rcv, ?_, ?_⟩
    · refine Go_Ps 1 (pc' := 1) (lv' := [(0, .ref 0), (1, .int a), (2, .int b)]) (st' := [.int b]) rfl ?_
      refine Go_call (v1 := (some (.int (Int32.ofInt 1)))) (h1 := h0) (vs := [.int b]) (r := []) rfl rfl rfl rfl (by decide) rfl rfl rfl rfl ?_ ?_
      · refine Go_Ps 1 (pc' := 1) (lv' := [(0, .int b)]) (st' := [.int b]) rfl ?_
        refine Go_brF rfl rfl rfl (iF_eq (by first | omega | (simp only [cs_0]; omega))) ?_
        refine Go_Ps 2 (pc' := 6) (lv' := [(0, .int b)]) (st' := [.int (Int32.ofInt 1), .int b]) rfl ?_
        refine Go_brF rfl rfl rfl (iF_ne (by first | omega | (simp only [cs_3]; omega))) ?_
        refine Go_Ps 2 (pc' := 14) (lv' := [(0, .int b)]) (st' := [.int (Int32.ofInt 1)]) rfl ?_
        exact Go_ret rfl rfl rfl
      refine Go_Ps 3 (pc' := 9) (lv' := [(0, .ref 0), (1, .int a), (2, .int b)]) (st' := [.int a, .ref 0]) rfl ?_
      refine Go_call (v1 := (some (.int ((Int8.ofInt (-2)).toInt32)))) (h1 := h0) (vs := [.ref 0, .int a]) (r := []) rfl rfl rfl rfl (by decide) rfl rfl rfl rfl ?_ ?_
      · refine Go_Ps 1 (pc' := 1) (lv' := [(0, .ref 0), (1, .int a)]) (st' := [.int a]) rfl ?_
        refine Go_call (v1 := (some (.int (Int32.ofInt 1)))) (h1 := h0) (vs := [.int a]) (r := []) rfl rfl rfl rfl (by decide) rfl rfl rfl rfl ?_ ?_
        · refine Go_Ps 1 (pc' := 1) (lv' := [(0, .int a)]) (st' := [.int a]) rfl ?_
          refine Go_brF rfl rfl rfl (iF_lt (by first | omega | (simp only [cs_0]; omega))) ?_
          refine Go_Ps 2 (pc' := 6) (lv' := [(0, .int a)]) (st' := [.int (Int32.ofInt 4), .int a]) rfl ?_
          refine Go_brF rfl rfl rfl (iF_le (by first | omega | (simp only [cs_8]; omega))) ?_
          refine Go_Ps 2 (pc' := 14) (lv' := [(0, .int a)]) (st' := [.int (Int32.ofInt 1)]) rfl ?_
          exact Go_ret rfl rfl rfl
        refine Go_Ps 3 (pc' := 11) (lv' := [(0, .ref 0), (1, .int a)]) (st' := [.ref 18]) rfl ?_
        refine Go_call (v1 := (some (.int (Int32.ofInt 0)))) (h1 := h0) (vs := [.ref 18]) (r := []) rfl rfl rfl rfl (by decide) rfl rfl rfl rfl ?_ ?_
        · refine Go_Ps 4 (pc' := 12) (lv' := [(0, .ref 18)]) (st' := [.int (Int32.ofInt 0)]) rfl ?_
          exact Go_ret rfl rfl rfl
        refine Go_Ps 2 (pc' := 19) (lv' := [(0, .ref 0), (1, .int a)]) (st' := [.int ((Int8.ofInt (-2)).toInt32)]) rfl ?_
        exact Go_ret rfl rfl rfl
      refine Go_Ps 5 (pc' := 23) (lv' := [(3, .int ((Int8.ofInt (-2)).toInt32)), (0, .ref 0), (1, .int a), (2, .int b)]) (st' := [.int ((Int8.ofInt (-2)).toInt32)]) rfl ?_
      exact Go_ret rfl rfl rfl
    · refine Go_Ps 6 (pc' := 6) (lv' := [(0, .ref 159), (1, .int a), (2, .int b)]) (st' := [.long (Int64.ofNat 1), .long (Int64.ofNat 0), .long b.toInt64, .int a, .ref 159]) rfl ?_
      refine Go_call (v1 := (some (.int (Int32.ofInt 1)))) (h1 := h0) (vs := [.long b.toInt64, .long (Int64.ofNat 0), .long (Int64.ofNat 1)]) (r := [.int a, .ref 159]) rfl rfl rfl rfl (by decide) rfl rfl rfl rfl ?_ ?_
      · refine Go_Ps 3 (pc' := 3) (lv' := [(0, .long b.toInt64), (2, .long (Int64.ofNat 0)), (4, .long (Int64.ofNat 1))]) (st' := [.int (lg_cmp b.toInt64 (Int64.ofNat 0))]) rfl ?_
        refine Go_brF rfl rfl rfl (lgF_lt (by first | omega | (simp only [cs_1, Int32.toInt_toInt64]; omega))) ?_
        refine Go_Ps 3 (pc' := 10) (lv' := [(0, .long b.toInt64), (2, .long (Int64.ofNat 0)), (4, .long (Int64.ofNat 1))]) (st' := [.int (lg_cmp b.toInt64 (Int64.ofNat 1))]) rfl ?_
        refine Go_brF rfl rfl rfl (lgF_gt (by first | omega | (simp only [cs_10, Int32.toInt_toInt64]; omega))) ?_
        refine Go_Ps 2 (pc' := 18) (lv' := [(0, .long b.toInt64), (2, .long (Int64.ofNat 0)), (4, .long (Int64.ofNat 1))]) (st' := [.int (Int32.ofInt 1)]) rfl ?_
        exact Go_ret rfl rfl rfl
      refine Go_call (v1 := (some (.int ((Int8.ofInt (-2)).toInt32)))) (h1 := h0) (vs := [.ref 159, .int a, .int (Int32.ofInt 1)]) (r := []) rfl rfl rfl rfl (by decide) rfl rfl rfl rfl ?_ ?_
      · refine Go_Ps 1 (pc' := 1) (lv' := [(0, .ref 159), (1, .int a), (2, .int (Int32.ofInt 1))]) (st' := [.int a]) rfl ?_
        refine Go_call (v1 := (some (.int (Int32.ofInt 1)))) (h1 := h0) (vs := [.int a]) (r := []) rfl rfl rfl rfl (by decide) rfl rfl rfl rfl ?_ ?_
        · refine Go_Ps 4 (pc' := 6) (lv' := [(0, .int a)]) (st' := [.long (3 : Int64), .long (Int64.ofNat 0), .long a.toInt64]) rfl ?_
          refine Go_call (v1 := (some (.int (Int32.ofInt 1)))) (h1 := h0) (vs := [.long a.toInt64, .long (Int64.ofNat 0), .long (3 : Int64)]) (r := []) rfl rfl rfl rfl (by decide) rfl rfl rfl rfl ?_ ?_
          · refine Go_Ps 3 (pc' := 3) (lv' := [(0, .long a.toInt64), (2, .long (Int64.ofNat 0)), (4, .long (3 : Int64))]) (st' := [.int (lg_cmp a.toInt64 (Int64.ofNat 0))]) rfl ?_
            refine Go_brF rfl rfl rfl (lgF_lt (by first | omega | (simp only [cs_1, Int32.toInt_toInt64]; omega))) ?_
            refine Go_Ps 3 (pc' := 10) (lv' := [(0, .long a.toInt64), (2, .long (Int64.ofNat 0)), (4, .long (3 : Int64))]) (st' := [.int (lg_cmp a.toInt64 (3 : Int64))]) rfl ?_
            refine Go_brF rfl rfl rfl (lgF_gt (by first | omega | (simp only [cs_9, Int32.toInt_toInt64]; omega))) ?_
            refine Go_Ps 2 (pc' := 18) (lv' := [(0, .long a.toInt64), (2, .long (Int64.ofNat 0)), (4, .long (3 : Int64))]) (st' := [.int (Int32.ofInt 1)]) rfl ?_
            exact Go_ret rfl rfl rfl
          exact Go_ret rfl rfl rfl
        refine Go_Ps 2 (pc' := 8) (lv' := [(0, .ref 159), (1, .int a), (2, .int (Int32.ofInt 1))]) (st' := [.ref 159]) rfl ?_
        refine Go_call (v1 := (some (.int (Int32.ofInt 0)))) (h1 := h0) (vs := [.ref 159]) (r := []) rfl rfl rfl rfl (by decide) rfl rfl rfl rfl ?_ ?_
        · refine Go_Ps 6 (pc' := 15) (lv' := [(0, .ref 159)]) (st' := [.int (Int32.ofInt 0)]) rfl ?_
          exact Go_ret rfl rfl rfl
        refine Go_Ps 2 (pc' := 20) (lv' := [(0, .ref 159), (1, .int a), (2, .int (Int32.ofInt 1))]) (st' := [.int ((Int8.ofInt (-2)).toInt32)]) rfl ?_
        exact Go_ret rfl rfl rfl
      refine Go_Ps 4 (pc' := 18) (lv' := [(3, .int ((Int8.ofInt (-2)).toInt32)), (0, .ref 159), (1, .int a), (2, .int b)]) (st' := [.int ((Int8.ofInt (-2)).toInt32)]) rfl ?_
      exact Go_ret rfl rfl rfl
  · refine ⟨(-2), h0, h0, h0_len, h0_slo, h0_rcv, ?_, ?_⟩
    · refine Go_Ps 1 (pc' := 1) (lv' := [(0, .ref 0), (1, .int a), (2, .int b)]) (st' := [.int b]) rfl ?_
      refine Go_call (v1 := (some (.int (Int32.ofInt 0)))) (h1 := h0) (vs := [.int b]) (r := []) rfl rfl rfl rfl (by decide) rfl rfl rfl rfl ?_ ?_
      · refine Go_Ps 1 (pc' := 1) (lv' := [(0, .int b)]) (st' := [.int b]) rfl ?_
        refine Go_brF rfl rfl rfl (iF_eq (by first | omega | (simp only [cs_0]; omega))) ?_
        refine Go_Ps 2 (pc' := 6) (lv' := [(0, .int b)]) (st' := [.int (Int32.ofInt 1), .int b]) rfl ?_
        refine Go_brT rfl rfl rfl (iT_ne (by first | omega | (simp only [cs_3]; omega))) ?_
        refine Go_Ps 1 (pc' := 14) (lv' := [(0, .int b)]) (st' := [.int (Int32.ofInt 0)]) rfl ?_
        exact Go_ret rfl rfl rfl
      refine Go_Ps 6 (pc' := 23) (lv' := [(3, .int ((Int8.ofInt (-2)).toInt32)), (0, .ref 0), (1, .int a), (2, .int b)]) (st' := [.int ((Int8.ofInt (-2)).toInt32)]) rfl ?_
      exact Go_ret rfl rfl rfl
    · refine Go_Ps 6 (pc' := 6) (lv' := [(0, .ref 159), (1, .int a), (2, .int b)]) (st' := [.long (Int64.ofNat 1), .long (Int64.ofNat 0), .long b.toInt64, .int a, .ref 159]) rfl ?_
      refine Go_call (v1 := (some (.int (Int32.ofInt 0)))) (h1 := h0) (vs := [.long b.toInt64, .long (Int64.ofNat 0), .long (Int64.ofNat 1)]) (r := [.int a, .ref 159]) rfl rfl rfl rfl (by decide) rfl rfl rfl rfl ?_ ?_
      · refine Go_Ps 3 (pc' := 3) (lv' := [(0, .long b.toInt64), (2, .long (Int64.ofNat 0)), (4, .long (Int64.ofNat 1))]) (st' := [.int (lg_cmp b.toInt64 (Int64.ofNat 0))]) rfl ?_
        refine Go_brF rfl rfl rfl (lgF_lt (by first | omega | (simp only [cs_1, Int32.toInt_toInt64]; omega))) ?_
        refine Go_Ps 3 (pc' := 10) (lv' := [(0, .long b.toInt64), (2, .long (Int64.ofNat 0)), (4, .long (Int64.ofNat 1))]) (st' := [.int (lg_cmp b.toInt64 (Int64.ofNat 1))]) rfl ?_
        refine Go_brT rfl rfl rfl (lgT_gt (by first | omega | (simp only [cs_10, Int32.toInt_toInt64]; omega))) ?_
        refine Go_Ps 1 (pc' := 18) (lv' := [(0, .long b.toInt64), (2, .long (Int64.ofNat 0)), (4, .long (Int64.ofNat 1))]) (st' := [.int (Int32.ofInt 0)]) rfl ?_
        exact Go_ret rfl rfl rfl
      refine Go_call (v1 := (some (.int ((Int8.ofInt (-2)).toInt32)))) (h1 := h0) (vs := [.ref 159, .int a, .int (Int32.ofInt 0)]) (r := []) rfl rfl rfl rfl (by decide) rfl rfl rfl rfl ?_ ?_
      · refine Go_Ps 1 (pc' := 1) (lv' := [(0, .ref 159), (1, .int a), (2, .int (Int32.ofInt 0))]) (st' := [.int a]) rfl ?_
        refine Go_call (v1 := (some (.int (Int32.ofInt 1)))) (h1 := h0) (vs := [.int a]) (r := []) rfl rfl rfl rfl (by decide) rfl rfl rfl rfl ?_ ?_
        · refine Go_Ps 4 (pc' := 6) (lv' := [(0, .int a)]) (st' := [.long (3 : Int64), .long (Int64.ofNat 0), .long a.toInt64]) rfl ?_
          refine Go_call (v1 := (some (.int (Int32.ofInt 1)))) (h1 := h0) (vs := [.long a.toInt64, .long (Int64.ofNat 0), .long (3 : Int64)]) (r := []) rfl rfl rfl rfl (by decide) rfl rfl rfl rfl ?_ ?_
          · refine Go_Ps 3 (pc' := 3) (lv' := [(0, .long a.toInt64), (2, .long (Int64.ofNat 0)), (4, .long (3 : Int64))]) (st' := [.int (lg_cmp a.toInt64 (Int64.ofNat 0))]) rfl ?_
            refine Go_brF rfl rfl rfl (lgF_lt (by first | omega | (simp only [cs_1, Int32.toInt_toInt64]; omega))) ?_
            refine Go_Ps 3 (pc' := 10) (lv' := [(0, .long a.toInt64), (2, .long (Int64.ofNat 0)), (4, .long (3 : Int64))]) (st' := [.int (lg_cmp a.toInt64 (3 : Int64))]) rfl ?_
            refine Go_brF rfl rfl rfl (lgF_gt (by first | omega | (simp only [cs_9, Int32.toInt_toInt64]; omega))) ?_
            refine Go_Ps 2 (pc' := 18) (lv' := [(0, .long a.toInt64), (2, .long (Int64.ofNat 0)), (4, .long (3 : Int64))]) (st' := [.int (Int32.ofInt 1)]) rfl ?_
            exact Go_ret rfl rfl rfl
          exact Go_ret rfl rfl rfl
        refine Go_Ps 2 (pc' := 8) (lv' := [(0, .ref 159), (1, .int a), (2, .int (Int32.ofInt 0))]) (st' := [.ref 159]) rfl ?_
        refine Go_call (v1 := (some (.int (Int32.ofInt 0)))) (h1 := h0) (vs := [.ref 159]) (r := []) rfl rfl rfl rfl (by decide) rfl rfl rfl rfl ?_ ?_
        · refine Go_Ps 6 (pc' := 15) (lv' := [(0, .ref 159)]) (st' := [.int (Int32.ofInt 0)]) rfl ?_
          exact Go_ret rfl rfl rfl
        refine Go_Ps 2 (pc' := 20) (lv' := [(0, .ref 159), (1, .int a), (2, .int (Int32.ofInt 0))]) (st' := [.int ((Int8.ofInt (-2)).toInt32)]) rfl ?_
        exact Go_ret rfl rfl rfl
      refine Go_Ps 4 (pc' := 18) (lv' := [(3, .int ((Int8.ofInt (-2)).toInt32)), (0, .ref 159), (1, .int a), (2, .int b)]) (st' := [.int ((Int8.ofInt (-2)).toInt32)]) rfl ?_
      exact Go_ret rfl rfl rfl
  · refine ⟨(-2), h0, h0, h0_len, h0_slo, h0_rcv, ?_, ?_⟩
    · refine Go_Ps 1 (pc' := 1) (lv' := [(0, .ref 0), (1, .int a), (2, .int b)]) (st' := [.int b]) rfl ?_
      refine Go_call (v1 := (some (.int (Int32.ofInt 0)))) (h1 := h0) (vs := [.int b]) (r := []) rfl rfl rfl rfl (by decide) rfl rfl rfl rfl ?_ ?_
      · refine Go_Ps 1 (pc' := 1) (lv' := [(0, .int b)]) (st' := [.int b]) rfl ?_
        refine Go_brF rfl rfl rfl (iF_eq (by first | omega | (simp only [cs_0]; omega))) ?_
        refine Go_Ps 2 (pc' := 6) (lv' := [(0, .int b)]) (st' := [.int (Int32.ofInt 1), .int b]) rfl ?_
        refine Go_brT rfl rfl rfl (iT_ne (by first | omega | (simp only [cs_3]; omega))) ?_
        refine Go_Ps 1 (pc' := 14) (lv' := [(0, .int b)]) (st' := [.int (Int32.ofInt 0)]) rfl ?_
        exact Go_ret rfl rfl rfl
      refine Go_Ps 6 (pc' := 23) (lv' := [(3, .int ((Int8.ofInt (-2)).toInt32)), (0, .ref 0), (1, .int a), (2, .int b)]) (st' := [.int ((Int8.ofInt (-2)).toInt32)]) rfl ?_
      exact Go_ret rfl rfl rfl
    · refine Go_Ps 6 (pc' := 6) (lv' := [(0, .ref 159), (1, .int a), (2, .int b)]) (st' := [.long (Int64.ofNat 1), .long (Int64.ofNat 0), .long b.toInt64, .int a, .ref 159]) rfl ?_
      refine Go_call (v1 := (some (.int (Int32.ofInt 0)))) (h1 := h0) (vs := [.long b.toInt64, .long (Int64.ofNat 0), .long (Int64.ofNat 1)]) (r := [.int a, .ref 159]) rfl rfl rfl rfl (by decide) rfl rfl rfl rfl ?_ ?_
      · refine Go_Ps 3 (pc' := 3) (lv' := [(0, .long b.toInt64), (2, .long (Int64.ofNat 0)), (4, .long (Int64.ofNat 1))]) (st' := [.int (lg_cmp b.toInt64 (Int64.ofNat 0))]) rfl ?_
        refine Go_brT rfl rfl rfl (lgT_lt (by first | omega | (simp only [cs_1, Int32.toInt_toInt64]; omega))) ?_
        refine Go_Ps 1 (pc' := 18) (lv' := [(0, .long b.toInt64), (2, .long (Int64.ofNat 0)), (4, .long (Int64.ofNat 1))]) (st' := [.int (Int32.ofInt 0)]) rfl ?_
        exact Go_ret rfl rfl rfl
      refine Go_call (v1 := (some (.int ((Int8.ofInt (-2)).toInt32)))) (h1 := h0) (vs := [.ref 159, .int a, .int (Int32.ofInt 0)]) (r := []) rfl rfl rfl rfl (by decide) rfl rfl rfl rfl ?_ ?_
      · refine Go_Ps 1 (pc' := 1) (lv' := [(0, .ref 159), (1, .int a), (2, .int (Int32.ofInt 0))]) (st' := [.int a]) rfl ?_
        refine Go_call (v1 := (some (.int (Int32.ofInt 0)))) (h1 := h0) (vs := [.int a]) (r := []) rfl rfl rfl rfl (by decide) rfl rfl rfl rfl ?_ ?_
        · refine Go_Ps 4 (pc' := 6) (lv' := [(0, .int a)]) (st' := [.long (3 : Int64), .long (Int64.ofNat 0), .long a.toInt64]) rfl ?_
          refine Go_call (v1 := (some (.int (Int32.ofInt 0)))) (h1 := h0) (vs := [.long a.toInt64, .long (Int64.ofNat 0), .long (3 : Int64)]) (r := []) rfl rfl rfl rfl (by decide) rfl rfl rfl rfl ?_ ?_
          · refine Go_Ps 3 (pc' := 3) (lv' := [(0, .long a.toInt64), (2, .long (Int64.ofNat 0)), (4, .long (3 : Int64))]) (st' := [.int (lg_cmp a.toInt64 (Int64.ofNat 0))]) rfl ?_
            refine Go_brF rfl rfl rfl (lgF_lt (by first | omega | (simp only [cs_1, Int32.toInt_toInt64]; omega))) ?_
            refine Go_Ps 3 (pc' := 10) (lv' := [(0, .long a.toInt64), (2, .long (Int64.ofNat 0)), (4, .long (3 : Int64))]) (st' := [.int (lg_cmp a.toInt64 (3 : Int64))]) rfl ?_
            refine Go_brT rfl rfl rfl (lgT_gt (by first | omega | (simp only [cs_9, Int32.toInt_toInt64]; omega))) ?_
            refine Go_Ps 1 (pc' := 18) (lv' := [(0, .long a.toInt64), (2, .long (Int64.ofNat 0)), (4, .long (3 : Int64))]) (st' := [.int (Int32.ofInt 0)]) rfl ?_
            exact Go_ret rfl rfl rfl
          exact Go_ret rfl rfl rfl
        refine Go_Ps 2 (pc' := 20) (lv' := [(0, .ref 159), (1, .int a), (2, .int (Int32.ofInt 0))]) (st' := [.int ((Int8.ofInt (-2)).toInt32)]) rfl ?_
        exact Go_ret rfl rfl rfl
      refine Go_Ps 4 (pc' := 18) (lv' := [(3, .int ((Int8.ofInt (-2)).toInt32)), (0, .ref 159), (1, .int a), (2, .int b)]) (st' := [.int ((Int8.ofInt (-2)).toInt32)]) rfl ?_
      exact Go_ret rfl rfl rfl
  · refine ⟨(-2), h0, h0, h0_len, h0_slo, h0_rcv, ?_, ?_⟩
    · refine Go_Ps 1 (pc' := 1) (lv' := [(0, .ref 0), (1, .int a), (2, .int b)]) (st' := [.int b]) rfl ?_
      refine Go_call (v1 := (some (.int (Int32.ofInt 1)))) (h1 := h0) (vs := [.int b]) (r := []) rfl rfl rfl rfl (by decide) rfl rfl rfl rfl ?_ ?_
      · refine Go_Ps 1 (pc' := 1) (lv' := [(0, .int b)]) (st' := [.int b]) rfl ?_
        refine Go_brT rfl rfl rfl (iT_eq (by first | omega | (simp only [cs_0]; omega))) ?_
        refine Go_Ps 2 (pc' := 14) (lv' := [(0, .int b)]) (st' := [.int (Int32.ofInt 1)]) rfl ?_
        exact Go_ret rfl rfl rfl
      refine Go_Ps 3 (pc' := 9) (lv' := [(0, .ref 0), (1, .int a), (2, .int b)]) (st' := [.int a, .ref 0]) rfl ?_
      refine Go_call (v1 := (some (.int ((Int8.ofInt (-2)).toInt32)))) (h1 := h0) (vs := [.ref 0, .int a]) (r := []) rfl rfl rfl rfl (by decide) rfl rfl rfl rfl ?_ ?_
      · refine Go_Ps 1 (pc' := 1) (lv' := [(0, .ref 0), (1, .int a)]) (st' := [.int a]) rfl ?_
        refine Go_call (v1 := (some (.int (Int32.ofInt 0)))) (h1 := h0) (vs := [.int a]) (r := []) rfl rfl rfl rfl (by decide) rfl rfl rfl rfl ?_ ?_
        · refine Go_Ps 1 (pc' := 1) (lv' := [(0, .int a)]) (st' := [.int a]) rfl ?_
          refine Go_brF rfl rfl rfl (iF_lt (by first | omega | (simp only [cs_0]; omega))) ?_
          refine Go_Ps 2 (pc' := 6) (lv' := [(0, .int a)]) (st' := [.int (Int32.ofInt 4), .int a]) rfl ?_
          refine Go_brT rfl rfl rfl (iT_le (by first | omega | (simp only [cs_8]; omega))) ?_
          refine Go_Ps 1 (pc' := 14) (lv' := [(0, .int a)]) (st' := [.int (Int32.ofInt 0)]) rfl ?_
          exact Go_ret rfl rfl rfl
        refine Go_Ps 2 (pc' := 19) (lv' := [(0, .ref 0), (1, .int a)]) (st' := [.int ((Int8.ofInt (-2)).toInt32)]) rfl ?_
        exact Go_ret rfl rfl rfl
      refine Go_Ps 5 (pc' := 23) (lv' := [(3, .int ((Int8.ofInt (-2)).toInt32)), (0, .ref 0), (1, .int a), (2, .int b)]) (st' := [.int ((Int8.ofInt (-2)).toInt32)]) rfl ?_
      exact Go_ret rfl rfl rfl
    · refine Go_Ps 6 (pc' := 6) (lv' := [(0, .ref 159), (1, .int a), (2, .int b)]) (st' := [.long (Int64.ofNat 1), .long (Int64.ofNat 0), .long b.toInt64, .int a, .ref 159]) rfl ?_
      refine Go_call (v1 := (some (.int (Int32.ofInt 1)))) (h1 := h0) (vs := [.long b.toInt64, .long (Int64.ofNat 0), .long (Int64.ofNat 1)]) (r := [.int a, .ref 159]) rfl rfl rfl rfl (by decide) rfl rfl rfl rfl ?_ ?_
      · refine Go_Ps 3 (pc' := 3) (lv' := [(0, .long b.toInt64), (2, .long (Int64.ofNat 0)), (4, .long (Int64.ofNat 1))]) (st' := [.int (lg_cmp b.toInt64 (Int64.ofNat 0))]) rfl ?_
        refine Go_brF rfl rfl rfl (lgF_lt (by first | omega | (simp only [cs_1, Int32.toInt_toInt64]; omega))) ?_
        refine Go_Ps 3 (pc' := 10) (lv' := [(0, .long b.toInt64), (2, .long (Int64.ofNat 0)), (4, .long (Int64.ofNat 1))]) (st' := [.int (lg_cmp b.toInt64 (Int64.ofNat 1))]) rfl ?_
        refine Go_brF rfl rfl rfl (lgF_gt (by first | omega | (simp only [cs_10, Int32.toInt_toInt64]; omega))) ?_
        refine Go_Ps 2 (pc' := 18) (lv' := [(0, .long b.toInt64), (2, .long (Int64.ofNat 0)), (4, .long (Int64.ofNat 1))]) (st' := [.int (Int32.ofInt 1)]) rfl ?_
        exact Go_ret rfl rfl rfl
      refine Go_call (v1 := (some (.int ((Int8.ofInt (-2)).toInt32)))) (h1 := h0) (vs := [.ref 159, .int a, .int (Int32.ofInt 1)]) (r := []) rfl rfl rfl rfl (by decide) rfl rfl rfl rfl ?_ ?_
      · refine Go_Ps 1 (pc' := 1) (lv' := [(0, .ref 159), (1, .int a), (2, .int (Int32.ofInt 1))]) (st' := [.int a]) rfl ?_
        refine Go_call (v1 := (some (.int (Int32.ofInt 0)))) (h1 := h0) (vs := [.int a]) (r := []) rfl rfl rfl rfl (by decide) rfl rfl rfl rfl ?_ ?_
        · refine Go_Ps 4 (pc' := 6) (lv' := [(0, .int a)]) (st' := [.long (3 : Int64), .long (Int64.ofNat 0), .long a.toInt64]) rfl ?_
          refine Go_call (v1 := (some (.int (Int32.ofInt 0)))) (h1 := h0) (vs := [.long a.toInt64, .long (Int64.ofNat 0), .long (3 : Int64)]) (r := []) rfl rfl rfl rfl (by decide) rfl rfl rfl rfl ?_ ?_
          · refine Go_Ps 3 (pc' := 3) (lv' := [(0, .long a.toInt64), (2, .long (Int64.ofNat 0)), (4, .long (3 : Int64))]) (st' := [.int (lg_cmp a.toInt64 (Int64.ofNat 0))]) rfl ?_
            refine Go_brF rfl rfl rfl (lgF_lt (by first | omega | (simp only [cs_1, Int32.toInt_toInt64]; omega))) ?_
            refine Go_Ps 3 (pc' := 10) (lv' := [(0, .long a.toInt64), (2, .long (Int64.ofNat 0)), (4, .long (3 : Int64))]) (st' := [.int (lg_cmp a.toInt64 (3 : Int64))]) rfl ?_
            refine Go_brT rfl rfl rfl (lgT_gt (by first | omega | (simp only [cs_9, Int32.toInt_toInt64]; omega))) ?_
            refine Go_Ps 1 (pc' := 18) (lv' := [(0, .long a.toInt64), (2, .long (Int64.ofNat 0)), (4, .long (3 : Int64))]) (st' := [.int (Int32.ofInt 0)]) rfl ?_
            exact Go_ret rfl rfl rfl
          exact Go_ret rfl rfl rfl
        refine Go_Ps 2 (pc' := 20) (lv' := [(0, .ref 159), (1, .int a), (2, .int (Int32.ofInt 1))]) (st' := [.int ((Int8.ofInt (-2)).toInt32)]) rfl ?_
        exact Go_ret rfl rfl rfl
      refine Go_Ps 4 (pc' := 18) (lv' := [(3, .int ((Int8.ofInt (-2)).toInt32)), (0, .ref 159), (1, .int a), (2, .int b)]) (st' := [.int ((Int8.ofInt (-2)).toInt32)]) rfl ?_
      exact Go_ret rfl rfl rfl
  · refine ⟨(-2), h0, h0, h0_len, h0_slo, h0_rcv, ?_, ?_⟩
    · refine Go_Ps 1 (pc' := 1) (lv' := [(0, .ref 0), (1, .int a), (2, .int b)]) (st' := [.int b]) rfl ?_
      refine Go_call (v1 := (some (.int (Int32.ofInt 1)))) (h1 := h0) (vs := [.int b]) (r := []) rfl rfl rfl rfl (by decide) rfl rfl rfl rfl ?_ ?_
      · refine Go_Ps 1 (pc' := 1) (lv' := [(0, .int b)]) (st' := [.int b]) rfl ?_
        refine Go_brF rfl rfl rfl (iF_eq (by first | omega | (simp only [cs_0]; omega))) ?_
        refine Go_Ps 2 (pc' := 6) (lv' := [(0, .int b)]) (st' := [.int (Int32.ofInt 1), .int b]) rfl ?_
        refine Go_brF rfl rfl rfl (iF_ne (by first | omega | (simp only [cs_3]; omega))) ?_
        refine Go_Ps 2 (pc' := 14) (lv' := [(0, .int b)]) (st' := [.int (Int32.ofInt 1)]) rfl ?_
        exact Go_ret rfl rfl rfl
      refine Go_Ps 3 (pc' := 9) (lv' := [(0, .ref 0), (1, .int a), (2, .int b)]) (st' := [.int a, .ref 0]) rfl ?_
      refine Go_call (v1 := (some (.int ((Int8.ofInt (-2)).toInt32)))) (h1 := h0) (vs := [.ref 0, .int a]) (r := []) rfl rfl rfl rfl (by decide) rfl rfl rfl rfl ?_ ?_
      · refine Go_Ps 1 (pc' := 1) (lv' := [(0, .ref 0), (1, .int a)]) (st' := [.int a]) rfl ?_
        refine Go_call (v1 := (some (.int (Int32.ofInt 0)))) (h1 := h0) (vs := [.int a]) (r := []) rfl rfl rfl rfl (by decide) rfl rfl rfl rfl ?_ ?_
        · refine Go_Ps 1 (pc' := 1) (lv' := [(0, .int a)]) (st' := [.int a]) rfl ?_
          refine Go_brF rfl rfl rfl (iF_lt (by first | omega | (simp only [cs_0]; omega))) ?_
          refine Go_Ps 2 (pc' := 6) (lv' := [(0, .int a)]) (st' := [.int (Int32.ofInt 4), .int a]) rfl ?_
          refine Go_brT rfl rfl rfl (iT_le (by first | omega | (simp only [cs_8]; omega))) ?_
          refine Go_Ps 1 (pc' := 14) (lv' := [(0, .int a)]) (st' := [.int (Int32.ofInt 0)]) rfl ?_
          exact Go_ret rfl rfl rfl
        refine Go_Ps 2 (pc' := 19) (lv' := [(0, .ref 0), (1, .int a)]) (st' := [.int ((Int8.ofInt (-2)).toInt32)]) rfl ?_
        exact Go_ret rfl rfl rfl
      refine Go_Ps 5 (pc' := 23) (lv' := [(3, .int ((Int8.ofInt (-2)).toInt32)), (0, .ref 0), (1, .int a), (2, .int b)]) (st' := [.int ((Int8.ofInt (-2)).toInt32)]) rfl ?_
      exact Go_ret rfl rfl rfl
    · refine Go_Ps 6 (pc' := 6) (lv' := [(0, .ref 159), (1, .int a), (2, .int b)]) (st' := [.long (Int64.ofNat 1), .long (Int64.ofNat 0), .long b.toInt64, .int a, .ref 159]) rfl ?_
      refine Go_call (v1 := (some (.int (Int32.ofInt 1)))) (h1 := h0) (vs := [.long b.toInt64, .long (Int64.ofNat 0), .long (Int64.ofNat 1)]) (r := [.int a, .ref 159]) rfl rfl rfl rfl (by decide) rfl rfl rfl rfl ?_ ?_
      · refine Go_Ps 3 (pc' := 3) (lv' := [(0, .long b.toInt64), (2, .long (Int64.ofNat 0)), (4, .long (Int64.ofNat 1))]) (st' := [.int (lg_cmp b.toInt64 (Int64.ofNat 0))]) rfl ?_
        refine Go_brF rfl rfl rfl (lgF_lt (by first | omega | (simp only [cs_1, Int32.toInt_toInt64]; omega))) ?_
        refine Go_Ps 3 (pc' := 10) (lv' := [(0, .long b.toInt64), (2, .long (Int64.ofNat 0)), (4, .long (Int64.ofNat 1))]) (st' := [.int (lg_cmp b.toInt64 (Int64.ofNat 1))]) rfl ?_
        refine Go_brF rfl rfl rfl (lgF_gt (by first | omega | (simp only [cs_10, Int32.toInt_toInt64]; omega))) ?_
        refine Go_Ps 2 (pc' := 18) (lv' := [(0, .long b.toInt64), (2, .long (Int64.ofNat 0)), (4, .long (Int64.ofNat 1))]) (st' := [.int (Int32.ofInt 1)]) rfl ?_
        exact Go_ret rfl rfl rfl
      refine Go_call (v1 := (some (.int ((Int8.ofInt (-2)).toInt32)))) (h1 := h0) (vs := [.ref 159, .int a, .int (Int32.ofInt 1)]) (r := []) rfl rfl rfl rfl (by decide) rfl rfl rfl rfl ?_ ?_
      · refine Go_Ps 1 (pc' := 1) (lv' := [(0, .ref 159), (1, .int a), (2, .int (Int32.ofInt 1))]) (st' := [.int a]) rfl ?_
        refine Go_call (v1 := (some (.int (Int32.ofInt 0)))) (h1 := h0) (vs := [.int a]) (r := []) rfl rfl rfl rfl (by decide) rfl rfl rfl rfl ?_ ?_
        · refine Go_Ps 4 (pc' := 6) (lv' := [(0, .int a)]) (st' := [.long (3 : Int64), .long (Int64.ofNat 0), .long a.toInt64]) rfl ?_
          refine Go_call (v1 := (some (.int (Int32.ofInt 0)))) (h1 := h0) (vs := [.long a.toInt64, .long (Int64.ofNat 0), .long (3 : Int64)]) (r := []) rfl rfl rfl rfl (by decide) rfl rfl rfl rfl ?_ ?_
          · refine Go_Ps 3 (pc' := 3) (lv' := [(0, .long a.toInt64), (2, .long (Int64.ofNat 0)), (4, .long (3 : Int64))]) (st' := [.int (lg_cmp a.toInt64 (Int64.ofNat 0))]) rfl ?_
            refine Go_brF rfl rfl rfl (lgF_lt (by first | omega | (simp only [cs_1, Int32.toInt_toInt64]; omega))) ?_
            refine Go_Ps 3 (pc' := 10) (lv' := [(0, .long a.toInt64), (2, .long (Int64.ofNat 0)), (4, .long (3 : Int64))]) (st' := [.int (lg_cmp a.toInt64 (3 : Int64))]) rfl ?_
            refine Go_brT rfl rfl rfl (lgT_gt (by first | omega | (simp only [cs_9, Int32.toInt_toInt64]; omega))) ?_
            refine Go_Ps 1 (pc' := 18) (lv' := [(0, .long a.toInt64), (2, .long (Int64.ofNat 0)), (4, .long (3 : Int64))]) (st' := [.int (Int32.ofInt 0)]) rfl ?_
            exact Go_ret rfl rfl rfl
          exact Go_ret rfl rfl rfl
        refine Go_Ps 2 (pc' := 20) (lv' := [(0, .ref 159), (1, .int a), (2, .int (Int32.ofInt 1))]) (st' := [.int ((Int8.ofInt (-2)).toInt32)]) rfl ?_
        exact Go_ret rfl rfl rfl
      refine Go_Ps 4 (pc' := 18) (lv' := [(3, .int ((Int8.ofInt (-2)).toInt32)), (0, .ref 159), (1, .int a), (2, .int b)]) (st' := [.int ((Int8.ofInt (-2)).toInt32)]) rfl ?_
      exact Go_ret rfl rfl rfl
  · refine ⟨(-2), h0, h0, h0_len, h0_slo, h0_rcv, ?_, ?_⟩
    · refine Go_Ps 1 (pc' := 1) (lv' := [(0, .ref 0), (1, .int a), (2, .int b)]) (st' := [.int b]) rfl ?_
      refine Go_call (v1 := (some (.int (Int32.ofInt 0)))) (h1 := h0) (vs := [.int b]) (r := []) rfl rfl rfl rfl (by decide) rfl rfl rfl rfl ?_ ?_
      · refine Go_Ps 1 (pc' := 1) (lv' := [(0, .int b)]) (st' := [.int b]) rfl ?_
        refine Go_brF rfl rfl rfl (iF_eq (by first | omega | (simp only [cs_0]; omega))) ?_
        refine Go_Ps 2 (pc' := 6) (lv' := [(0, .int b)]) (st' := [.int (Int32.ofInt 1), .int b]) rfl ?_
        refine Go_brT rfl rfl rfl (iT_ne (by first | omega | (simp only [cs_3]; omega))) ?_
        refine Go_Ps 1 (pc' := 14) (lv' := [(0, .int b)]) (st' := [.int (Int32.ofInt 0)]) rfl ?_
        exact Go_ret rfl rfl rfl
      refine Go_Ps 6 (pc' := 23) (lv' := [(3, .int ((Int8.ofInt (-2)).toInt32)), (0, .ref 0), (1, .int a), (2, .int b)]) (st' := [.int ((Int8.ofInt (-2)).toInt32)]) rfl ?_
      exact Go_ret rfl rfl rfl
    · refine Go_Ps 6 (pc' := 6) (lv' := [(0, .ref 159), (1, .int a), (2, .int b)]) (st' := [.long (Int64.ofNat 1), .long (Int64.ofNat 0), .long b.toInt64, .int a, .ref 159]) rfl ?_
      refine Go_call (v1 := (some (.int (Int32.ofInt 0)))) (h1 := h0) (vs := [.long b.toInt64, .long (Int64.ofNat 0), .long (Int64.ofNat 1)]) (r := [.int a, .ref 159]) rfl rfl rfl rfl (by decide) rfl rfl rfl rfl ?_ ?_
      · refine Go_Ps 3 (pc' := 3) (lv' := [(0, .long b.toInt64), (2, .long (Int64.ofNat 0)), (4, .long (Int64.ofNat 1))]) (st' := [.int (lg_cmp b.toInt64 (Int64.ofNat 0))]) rfl ?_
        refine Go_brF rfl rfl rfl (lgF_lt (by first | omega | (simp only [cs_1, Int32.toInt_toInt64]; omega))) ?_
        refine Go_Ps 3 (pc' := 10) (lv' := [(0, .long b.toInt64), (2, .long (Int64.ofNat 0)), (4, .long (Int64.ofNat 1))]) (st' := [.int (lg_cmp b.toInt64 (Int64.ofNat 1))]) rfl ?_
        refine Go_brT rfl rfl rfl (lgT_gt (by first | omega | (simp only [cs_10, Int32.toInt_toInt64]; omega))) ?_
        refine Go_Ps 1 (pc' := 18) (lv' := [(0, .long b.toInt64), (2, .long (Int64.ofNat 0)), (4, .long (Int64.ofNat 1))]) (st' := [.int (Int32.ofInt 0)]) rfl ?_
        exact Go_ret rfl rfl rfl
      refine Go_call (v1 := (some (.int ((Int8.ofInt (-2)).toInt32)))) (h1 := h0) (vs := [.ref 159, .int a, .int (Int32.ofInt 0)]) (r := []) rfl rfl rfl rfl (by decide) rfl rfl rfl rfl ?_ ?_
      · refine Go_Ps 1 (pc' := 1) (lv' := [(0, .ref 159), (1, .int a), (2, .int (Int32.ofInt 0))]) (st' := [.int a]) rfl ?_
        refine Go_call (v1 := (some (.int (Int32.ofInt 0)))) (h1 := h0) (vs := [.int a]) (r := []) rfl rfl rfl rfl (by decide) rfl rfl rfl rfl ?_ ?_
        · refine Go_Ps 4 (pc' := 6) (lv' := [(0, .int a)]) (st' := [.long (3 : Int64), .long (Int64.ofNat 0), .long a.toInt64]) rfl ?_
          refine Go_call (v1 := (some (.int (Int32.ofInt 0)))) (h1 := h0) (vs := [.long a.toInt64, .long (Int64.ofNat 0), .long (3 : Int64)]) (r := []) rfl rfl rfl rfl (by decide) rfl rfl rfl rfl ?_ ?_
          · refine Go_Ps 3 (pc' := 3) (lv' := [(0, .long a.toInt64), (2, .long (Int64.ofNat 0)), (4, .long (3 : Int64))]) (st' := [.int (lg_cmp a.toInt64 (Int64.ofNat 0))]) rfl ?_
            refine Go_brF rfl rfl rfl (lgF_lt (by first | omega | (simp only [cs_1, Int32.toInt_toInt64]; omega))) ?_
            refine Go_Ps 3 (pc' := 10) (lv' := [(0, .long a.toInt64), (2, .long (Int64.ofNat 0)), (4, .long (3 : Int64))]) (st' := [.int (lg_cmp a.toInt64 (3 : Int64))]) rfl ?_
            refine Go_brT rfl rfl rfl (lgT_gt (by first | omega | (simp only [cs_9, Int32.toInt_toInt64]; omega))) ?_
            refine Go_Ps 1 (pc' := 18) (lv' := [(0, .long a.toInt64), (2, .long (Int64.ofNat 0)), (4, .long (3 : Int64))]) (st' := [.int (Int32.ofInt 0)]) rfl ?_
            exact Go_ret rfl rfl rfl
          exact Go_ret rfl rfl rfl
        refine Go_Ps 2 (pc' := 20) (lv' := [(0, .ref 159), (1, .int a), (2, .int (Int32.ofInt 0))]) (st' := [.int ((Int8.ofInt (-2)).toInt32)]) rfl ?_
        exact Go_ret rfl rfl rfl
      refine Go_Ps 4 (pc' := 18) (lv' := [(3, .int ((Int8.ofInt (-2)).toInt32)), (0, .ref 159), (1, .int a), (2, .int b)]) (st' := [.int ((Int8.ofInt (-2)).toInt32)]) rfl ?_
      exact Go_ret rfl rfl rfl
