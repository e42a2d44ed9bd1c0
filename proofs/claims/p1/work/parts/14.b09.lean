set_option maxHeartbeats 4000000 in
set_option maxRecDepth 100000 in
/-- owns -/
theorem op_55 (a : Int32) (b : Int32) : Both mr_152 mr_287 [.int a, .int b] h0 := by
  rcases (show a.toInt < 0 ∨ 0 ≤ a.toInt by omega) with hd | hd
  · refine ⟨(-2), h0, h0, h0_len, h0_slo, h0_rcv, ?_, ?_⟩
    · refine Go_Ps 4 (pc' := 6) (lv' := [(0, .ref 0), (1, .int a), (2, .int b)]) (st' := [.int b, .int a, .ref 18]) rfl ?_
      refine Go_call (v1 := (some (.int (Int32.ofInt 0)))) (h1 := h0) (vs := [.ref 18, .int a, .int b]) (r := []) rfl rfl rfl rfl (by decide) rfl rfl rfl rfl ?_ ?_
      · refine Go_Ps 2 (pc' := 2) (lv' := [(0, .ref 18), (1, .int a), (2, .int b)]) (st' := [.int a, .ref 18]) rfl ?_
        refine Go_call (v1 := (some (.int (Int32.ofInt 0)))) (h1 := h0) (vs := [.ref 18, .int a]) (r := []) rfl rfl rfl rfl (by decide) rfl rfl rfl rfl ?_ ?_
        · refine Go_Ps 1 (pc' := 1) (lv' := [(0, .ref 18), (1, .int a)]) (st' := [.ref 18]) rfl ?_
          refine Go_call (v1 := (some (.int (Int32.ofInt 0)))) (h1 := h0) (vs := [.ref 18]) (r := []) rfl rfl rfl rfl (by decide) rfl rfl rfl rfl ?_ ?_
          · refine Go_Ps 4 (pc' := 12) (lv' := [(0, .ref 18)]) (st' := [.int (Int32.ofInt 0)]) rfl ?_
            exact Go_ret rfl rfl rfl
          refine Go_Ps 2 (pc' := 24) (lv' := [(0, .ref 18), (1, .int a)]) (st' := [.int (Int32.ofInt 0)]) rfl ?_
          exact Go_ret rfl rfl rfl
        refine Go_Ps 2 (pc' := 21) (lv' := [(0, .ref 18), (1, .int a), (2, .int b)]) (st' := [.int (Int32.ofInt 0)]) rfl ?_
        exact Go_ret rfl rfl rfl
      refine Go_Ps 2 (pc' := 14) (lv' := [(0, .ref 0), (1, .int a), (2, .int b)]) (st' := [.int ((Int8.ofInt (-2)).toInt32)]) rfl ?_
      exact Go_ret rfl rfl rfl
    · refine Go_Ps 3 (pc' := 3) (lv' := [(0, .ref 159), (1, .int a), (2, .int b)]) (st' := [.int b, .int a, .ref 159]) rfl ?_
      refine Go_call (v1 := (some (.int (Int32.ofInt 0)))) (h1 := h0) (vs := [.ref 159, .int a, .int b]) (r := []) rfl rfl rfl rfl (by decide) rfl rfl rfl rfl ?_ ?_
      · refine Go_Ps 3 (pc' := 3) (lv' := [(0, .ref 159), (1, .int a), (2, .int b)]) (st' := [.long a.toInt64, .ref 159]) rfl ?_
        refine Go_call (v1 := (some (.int (Int32.ofInt 0)))) (h1 := h0) (vs := [.ref 159, .long a.toInt64]) (r := []) rfl rfl rfl rfl (by decide) rfl rfl rfl rfl ?_ ?_
        · refine Go_Ps 3 (pc' := 3) (lv' := [(0, .ref 159), (1, .long a.toInt64)]) (st' := [.ref 159, .long (Int64.ofNat 0), .long a.toInt64]) rfl ?_
          refine Go_call (v1 := (some (.int (Int32.ofInt 0)))) (h1 := h0) (vs := [.ref 159]) (r := [.long (Int64.ofNat 0), .long a.toInt64]) rfl rfl rfl rfl (by decide) rfl rfl rfl rfl ?_ ?_
          · refine Go_Ps 1 (pc' := 1) (lv' := [(0, .ref 159)]) (st' := [.ref 159]) rfl ?_
            refine Go_call (v1 := (some (.int (Int32.ofInt 0)))) (h1 := h0) (vs := [.ref 159]) (r := []) rfl rfl rfl rfl (by decide) rfl rfl rfl rfl ?_ ?_
            · refine Go_Ps 6 (pc' := 15) (lv' := [(0, .ref 159)]) (st' := [.int (Int32.ofInt 0)]) rfl ?_
              exact Go_ret rfl rfl rfl
            refine Go_Ps 2 (pc' := 19) (lv' := [(0, .ref 159)]) (st' := [.int (Int32.ofInt 0)]) rfl ?_
            exact Go_ret rfl rfl rfl
          refine Go_Ps 3 (pc' := 9) (lv' := [(0, .ref 159), (1, .long a.toInt64)]) (st' := [.long ((Int32.ofInt 0) - (Int32.ofInt 1)).toInt64, .long (Int64.ofNat 0), .long a.toInt64]) rfl ?_
          refine Go_call (v1 := (some (.int (Int32.ofInt 0)))) (h1 := h0) (vs := [.long a.toInt64, .long (Int64.ofNat 0), .long ((Int32.ofInt 0) - (Int32.ofInt 1)).toInt64]) (r := []) rfl rfl rfl rfl (by decide) rfl rfl rfl rfl ?_ ?_
          · refine Go_Ps 3 (pc' := 3) (lv' := [(0, .long a.toInt64), (2, .long (Int64.ofNat 0)), (4, .long ((Int32.ofInt 0) - (Int32.ofInt 1)).toInt64)]) (st' := [.int (lg_cmp a.toInt64 (Int64.ofNat 0))]) rfl ?_
            refine Go_brT rfl rfl rfl (lgT_lt (by first | omega | (simp only [cs_1, Int32.toInt_toInt64]; omega))) ?_
            refine Go_Ps 1 (pc' := 18) (lv' := [(0, .long a.toInt64), (2, .long (Int64.ofNat 0)), (4, .long ((Int32.ofInt 0) - (Int32.ofInt 1)).toInt64)]) (st' := [.int (Int32.ofInt 0)]) rfl ?_
            exact Go_ret rfl rfl rfl
          exact Go_ret rfl rfl rfl
        refine Go_Ps 2 (pc' := 31) (lv' := [(0, .ref 159), (1, .int a), (2, .int b)]) (st' := [.int (Int32.ofInt 0)]) rfl ?_
        exact Go_ret rfl rfl rfl
      refine Go_Ps 2 (pc' := 11) (lv' := [(0, .ref 159), (1, .int a), (2, .int b)]) (st' := [.int ((Int8.ofInt (-2)).toInt32)]) rfl ?_
      exact Go_ret rfl rfl rfl
  · refine ⟨(-2), h0, h0, h0_len, h0_slo, h0_rcv, ?_, ?_⟩
    · refine Go_Ps 4 (pc' := 6) (lv' := [(0, .ref 0), (1, .int a), (2, .int b)]) (st' := [.int b, .int a, .ref 18]) rfl ?_
      refine Go_call (v1 := (some (.int (Int32.ofInt 0)))) (h1 := h0) (vs := [.ref 18, .int a, .int b]) (r := []) rfl rfl rfl rfl (by decide) rfl rfl rfl rfl ?_ ?_
      · refine Go_Ps 2 (pc' := 2) (lv' := [(0, .ref 18), (1, .int a), (2, .int b)]) (st' := [.int a, .ref 18]) rfl ?_
        refine Go_call (v1 := (some (.int (Int32.ofInt 0)))) (h1 := h0) (vs := [.ref 18, .int a]) (r := []) rfl rfl rfl rfl (by decide) rfl rfl rfl rfl ?_ ?_
        · refine Go_Ps 1 (pc' := 1) (lv' := [(0, .ref 18), (1, .int a)]) (st' := [.ref 18]) rfl ?_
          refine Go_call (v1 := (some (.int (Int32.ofInt 0)))) (h1 := h0) (vs := [.ref 18]) (r := []) rfl rfl rfl rfl (by decide) rfl rfl rfl rfl ?_ ?_
          · refine Go_Ps 4 (pc' := 12) (lv' := [(0, .ref 18)]) (st' := [.int (Int32.ofInt 0)]) rfl ?_
            exact Go_ret rfl rfl rfl
          refine Go_Ps 2 (pc' := 24) (lv' := [(0, .ref 18), (1, .int a)]) (st' := [.int (Int32.ofInt 0)]) rfl ?_
          exact Go_ret rfl rfl rfl
        refine Go_Ps 2 (pc' := 21) (lv' := [(0, .ref 18), (1, .int a), (2, .int b)]) (st' := [.int (Int32.ofInt 0)]) rfl ?_
        exact Go_ret rfl rfl rfl
      refine Go_Ps 2 (pc' := 14) (lv' := [(0, .ref 0), (1, .int a), (2, .int b)]) (st' := [.int ((Int8.ofInt (-2)).toInt32)]) rfl ?_
      exact Go_ret rfl rfl rfl
    · refine Go_Ps 3 (pc' := 3) (lv' := [(0, .ref 159), (1, .int a), (2, .int b)]) (st' := [.int b, .int a, .ref 159]) rfl ?_
      refine Go_call (v1 := (some (.int (Int32.ofInt 0)))) (h1 := h0) (vs := [.ref 159, .int a, .int b]) (r := []) rfl rfl rfl rfl (by decide) rfl rfl rfl rfl ?_ ?_
      · refine Go_Ps 3 (pc' := 3) (lv' := [(0, .ref 159), (1, .int a), (2, .int b)]) (st' := [.long a.toInt64, .ref 159]) rfl ?_
        refine Go_call (v1 := (some (.int (Int32.ofInt 0)))) (h1 := h0) (vs := [.ref 159, .long a.toInt64]) (r := []) rfl rfl rfl rfl (by decide) rfl rfl rfl rfl ?_ ?_
        · refine Go_Ps 3 (pc' := 3) (lv' := [(0, .ref 159), (1, .long a.toInt64)]) (st' := [.ref 159, .long (Int64.ofNat 0), .long a.toInt64]) rfl ?_
          refine Go_call (v1 := (some (.int (Int32.ofInt 0)))) (h1 := h0) (vs := [.ref 159]) (r := [.long (Int64.ofNat 0), .long a.toInt64]) rfl rfl rfl rfl (by decide) rfl rfl rfl rfl ?_ ?_
          · refine Go_Ps 1 (pc' := 1) (lv' := [(0, .ref 159)]) (st' := [.ref 159]) rfl ?_
            refine Go_call (v1 := (some (.int (Int32.ofInt 0)))) (h1 := h0) (vs := [.ref 159]) (r := []) rfl rfl rfl rfl (by decide) rfl rfl rfl rfl ?_ ?_
            · refine Go_Ps 6 (pc' := 15) (lv' := [(0, .ref 159)]) (st' := [.int (Int32.ofInt 0)]) rfl ?_
              exact Go_ret rfl rfl rfl
            refine Go_Ps 2 (pc' := 19) (lv' := [(0, .ref 159)]) (st' := [.int (Int32.ofInt 0)]) rfl ?_
            exact Go_ret rfl rfl rfl
          refine Go_Ps 3 (pc' := 9) (lv' := [(0, .ref 159), (1, .long a.toInt64)]) (st' := [.long ((Int32.ofInt 0) - (Int32.ofInt 1)).toInt64, .long (Int64.ofNat 0), .long a.toInt64]) rfl ?_
          refine Go_call (v1 := (some (.int (Int32.ofInt 0)))) (h1 := h0) (vs := [.long a.toInt64, .long (Int64.ofNat 0), .long ((Int32.ofInt 0) - (Int32.ofInt 1)).toInt64]) (r := []) rfl rfl rfl rfl (by decide) rfl rfl rfl rfl ?_ ?_
          · refine Go_Ps 3 (pc' := 3) (lv' := [(0, .long a.toInt64), (2, .long (Int64.ofNat 0)), (4, .long ((Int32.ofInt 0) - (Int32.ofInt 1)).toInt64)]) (st' := [.int (lg_cmp a.toInt64 (Int64.ofNat 0))]) rfl ?_
            refine Go_brF rfl rfl rfl (lgF_lt (by first | omega | (simp only [cs_1, Int32.toInt_toInt64]; omega))) ?_
            refine Go_Ps 3 (pc' := 10) (lv' := [(0, .long a.toInt64), (2, .long (Int64.ofNat 0)), (4, .long ((Int32.ofInt 0) - (Int32.ofInt 1)).toInt64)]) (st' := [.int (lg_cmp a.toInt64 (((Int32.ofInt 0) - (Int32.ofInt 1)).toInt64))]) rfl ?_
            refine Go_brT rfl rfl rfl (lgT_gt (by first | omega | (simp only [cs_5, Int32.toInt_toInt64]; omega))) ?_
            refine Go_Ps 1 (pc' := 18) (lv' := [(0, .long a.toInt64), (2, .long (Int64.ofNat 0)), (4, .long ((Int32.ofInt 0) - (Int32.ofInt 1)).toInt64)]) (st' := [.int (Int32.ofInt 0)]) rfl ?_
            exact Go_ret rfl rfl rfl
          exact Go_ret rfl rfl rfl
        refine Go_Ps 2 (pc' := 31) (lv' := [(0, .ref 159), (1, .int a), (2, .int b)]) (st' := [.int (Int32.ofInt 0)]) rfl ?_
        exact Go_ret rfl rfl rfl
      refine Go_Ps 2 (pc' := 11) (lv' := [(0, .ref 159), (1, .int a), (2, .int b)]) (st' := [.int ((Int8.ofInt (-2)).toInt32)]) rfl ?_
      exact Go_ret rfl rfl rfl
set_option maxHeartbeats 4000000 in
set_option maxRecDepth 100000 in
/-- storm -/
theorem op_56 (a : Int32) (b : Int32) (c : Int32) : Both mr_163 mr_306 [.int a, .int b, .int c] h0 := by
  rcases (show a.toInt < 0 ∨ 2000000000 < a.toInt ∨ (0 ≤ a.toInt ∧ a.toInt ≤ 2000000000 ∧ b.toInt < 0) ∨ (0 ≤ a.toInt ∧ a.toInt ≤ 2000000000 ∧ 0 ≤ b.toInt) by omega) with hd | hd | hd | hd
  · refine ⟨(-2), h0, h0, h0_len, h0_slo, h0_rcv, ?_, ?_⟩
    · refine Go_Ps 1 (pc' := 1) (lv' := [(0, .ref 0), (1, .int a), (2, .int b), (3, .int c)]) (st' := [.int a]) rfl ?_
      refine Go_call (v1 := (some (.int (Int32.ofInt 0)))) (h1 := h0) (vs := [.int a]) (r := []) rfl rfl rfl rfl (by decide) rfl rfl rfl rfl ?_ ?_
      · refine Go_Ps 1 (pc' := 1) (lv' := [(0, .int a)]) (st' := [.int a]) rfl ?_
        refine Go_brT rfl rfl rfl (iT_lt (by first | omega | (simp only [cs_0]; omega))) ?_
        refine Go_Ps 1 (pc' := 16) (lv' := [(0, .int a)]) (st' := [.int (Int32.ofInt 0)]) rfl ?_
        exact Go_ret rfl rfl rfl
      refine Go_Ps 2 (pc' := 20) (lv' := [(0, .ref 0), (1, .int a), (2, .int b), (3, .int c)]) (st' := [.int ((Int8.ofInt (-2)).toInt32)]) rfl ?_
      exact Go_ret rfl rfl rfl
    · refine Go_Ps 1 (pc' := 1) (lv' := [(0, .ref 159), (1, .int a), (2, .int b), (3, .int c)]) (st' := [.int a]) rfl ?_
      refine Go_call (v1 := (some (.int (Int32.ofInt 0)))) (h1 := h0) (vs := [.int a]) (r := []) rfl rfl rfl rfl (by decide) rfl rfl rfl rfl ?_ ?_
      · refine Go_Ps 4 (pc' := 6) (lv' := [(0, .int a)]) (st' := [.long (2000000000 : Int64), .long (Int64.ofNat 0), .long a.toInt64]) rfl ?_
        refine Go_call (v1 := (some (.int (Int32.ofInt 0)))) (h1 := h0) (vs := [.long a.toInt64, .long (Int64.ofNat 0), .long (2000000000 : Int64)]) (r := []) rfl rfl rfl rfl (by decide) rfl rfl rfl rfl ?_ ?_
        · refine Go_Ps 3 (pc' := 3) (lv' := [(0, .long a.toInt64), (2, .long (Int64.ofNat 0)), (4, .long (2000000000 : Int64))]) (st' := [.int (lg_cmp a.toInt64 (Int64.ofNat 0))]) rfl ?_
          refine Go_brT rfl rfl rfl (lgT_lt (by first | omega | (simp only [cs_1, Int32.toInt_toInt64]; omega))) ?_
          refine Go_Ps 1 (pc' := 18) (lv' := [(0, .long a.toInt64), (2, .long (Int64.ofNat 0)), (4, .long (2000000000 : Int64))]) (st' := [.int (Int32.ofInt 0)]) rfl ?_
          exact Go_ret rfl rfl rfl
        exact Go_ret rfl rfl rfl
      refine Go_Ps 2 (pc' := 29) (lv' := [(0, .ref 159), (1, .int a), (2, .int b), (3, .int c)]) (st' := [.int ((Int8.ofInt (-2)).toInt32)]) rfl ?_
      exact Go_ret rfl rfl rfl
  · refine ⟨(-2), h0, h0, h0_len, h0_slo, h0_rcv, ?_, ?_⟩
    · refine Go_Ps 1 (pc' := 1) (lv' := [(0, .ref 0), (1, .int a), (2, .int b), (3, .int c)]) (st' := [.int a]) rfl ?_
      refine Go_call (v1 := (some (.int (Int32.ofInt 0)))) (h1 := h0) (vs := [.int a]) (r := []) rfl rfl rfl rfl (by decide) rfl rfl rfl rfl ?_ ?_
      · refine Go_Ps 1 (pc' := 1) (lv' := [(0, .int a)]) (st' := [.int a]) rfl ?_
        refine Go_brF rfl rfl rfl (iF_lt (by first | omega | (simp only [cs_0]; omega))) ?_
        refine Go_Ps 2 (pc' := 8) (lv' := [(0, .int a)]) (st' := [.int (2000000000 : Int32), .int a]) rfl ?_
        refine Go_brT rfl rfl rfl (iT_lt (by first | omega | (simp only [cs_11]; omega))) ?_
        refine Go_Ps 1 (pc' := 16) (lv' := [(0, .int a)]) (st' := [.int (Int32.ofInt 0)]) rfl ?_
        exact Go_ret rfl rfl rfl
      refine Go_Ps 2 (pc' := 20) (lv' := [(0, .ref 0), (1, .int a), (2, .int b), (3, .int c)]) (st' := [.int ((Int8.ofInt (-2)).toInt32)]) rfl ?_
      exact Go_ret rfl rfl rfl
    · refine Go_Ps 1 (pc' := 1) (lv' := [(0, .ref 159), (1, .int a), (2, .int b), (3, .int c)]) (st' := [.int a]) rfl ?_
      refine Go_call (v1 := (some (.int (Int32.ofInt 0)))) (h1 := h0) (vs := [.int a]) (r := []) rfl rfl rfl rfl (by decide) rfl rfl rfl rfl ?_ ?_
      · refine Go_Ps 4 (pc' := 6) (lv' := [(0, .int a)]) (st' := [.long (2000000000 : Int64), .long (Int64.ofNat 0), .long a.toInt64]) rfl ?_
        refine Go_call (v1 := (some (.int (Int32.ofInt 0)))) (h1 := h0) (vs := [.long a.toInt64, .long (Int64.ofNat 0), .long (2000000000 : Int64)]) (r := []) rfl rfl rfl rfl (by decide) rfl rfl rfl rfl ?_ ?_
        · refine Go_Ps 3 (pc' := 3) (lv' := [(0, .long a.toInt64), (2, .long (Int64.ofNat 0)), (4, .long (2000000000 : Int64))]) (st' := [.int (lg_cmp a.toInt64 (Int64.ofNat 0))]) rfl ?_
          refine Go_brF rfl rfl rfl (lgF_lt (by first | omega | (simp only [cs_1, Int32.toInt_toInt64]; omega))) ?_
          refine Go_Ps 3 (pc' := 10) (lv' := [(0, .long a.toInt64), (2, .long (Int64.ofNat 0)), (4, .long (2000000000 : Int64))]) (st' := [.int (lg_cmp a.toInt64 (2000000000 : Int64))]) rfl ?_
          refine Go_brT rfl rfl rfl (lgT_gt (by first | omega | (simp only [cs_12, Int32.toInt_toInt64]; omega))) ?_
          refine Go_Ps 1 (pc' := 18) (lv' := [(0, .long a.toInt64), (2, .long (Int64.ofNat 0)), (4, .long (2000000000 : Int64))]) (st' := [.int (Int32.ofInt 0)]) rfl ?_
          exact Go_ret rfl rfl rfl
        exact Go_ret rfl rfl rfl
      refine Go_Ps 2 (pc' := 29) (lv' := [(0, .ref 159), (1, .int a), (2, .int b), (3, .int c)]) (st' := [.int ((Int8.ofInt (-2)).toInt32)]) rfl ?_
      exact Go_ret rfl rfl rfl
  · refine ⟨(-2), h0, h0, h0_len, h0_slo, h0_rcv, ?_, ?_⟩
    · refine Go_Ps 1 (pc' := 1) (lv' := [(0, .ref 0), (1, .int a), (2, .int b), (3, .int c)]) (st' := [.int a]) rfl ?_
      refine Go_call (v1 := (some (.int (Int32.ofInt 1)))) (h1 := h0) (vs := [.int a]) (r := []) rfl rfl rfl rfl (by decide) rfl rfl rfl rfl ?_ ?_
      · refine Go_Ps 1 (pc' := 1) (lv' := [(0, .int a)]) (st' := [.int a]) rfl ?_
        refine Go_brF rfl rfl rfl (iF_lt (by first | omega | (simp only [cs_0]; omega))) ?_
        refine Go_Ps 2 (pc' := 8) (lv' := [(0, .int a)]) (st' := [.int (2000000000 : Int32), .int a]) rfl ?_
        refine Go_brF rfl rfl rfl (iF_lt (by first | omega | (simp only [cs_11]; omega))) ?_
        refine Go_Ps 2 (pc' := 16) (lv' := [(0, .int a)]) (st' := [.int (Int32.ofInt 1)]) rfl ?_
        exact Go_ret rfl rfl rfl
      refine Go_Ps 4 (pc' := 12) (lv' := [(0, .ref 0), (1, .int a), (2, .int b), (3, .int c)]) (st' := [.int b, .ref 18]) rfl ?_
      refine Go_call (v1 := (some (.int (Int32.ofInt 0)))) (h1 := h0) (vs := [.ref 18, .int b]) (r := []) rfl rfl rfl rfl (by decide) rfl rfl rfl rfl ?_ ?_
      · refine Go_Ps 1 (pc' := 1) (lv' := [(0, .ref 18), (1, .int b)]) (st' := [.int b]) rfl ?_
        refine Go_brT rfl rfl rfl (iT_lt (by first | omega | (simp only [cs_0]; omega))) ?_
        refine Go_Ps 1 (pc' := 17) (lv' := [(0, .ref 18), (1, .int b)]) (st' := [.int (Int32.ofInt 0)]) rfl ?_
        exact Go_ret rfl rfl rfl
      refine Go_Ps 2 (pc' := 20) (lv' := [(0, .ref 0), (1, .int a), (2, .int b), (3, .int c)]) (st' := [.int ((Int8.ofInt (-2)).toInt32)]) rfl ?_
      exact Go_ret rfl rfl rfl
    · refine Go_Ps 1 (pc' := 1) (lv' := [(0, .ref 159), (1, .int a), (2, .int b), (3, .int c)]) (st' := [.int a]) rfl ?_
      refine Go_call (v1 := (some (.int (Int32.ofInt 1)))) (h1 := h0) (vs := [.int a]) (r := []) rfl rfl rfl rfl (by decide) rfl rfl rfl rfl ?_ ?_
      · refine Go_Ps 4 (pc' := 6) (lv' := [(0, .int a)]) (st' := [.long (2000000000 : Int64), .long (Int64.ofNat 0), .long a.toInt64]) rfl ?_
        refine Go_call (v1 := (some (.int (Int32.ofInt 1)))) (h1 := h0) (vs := [.long a.toInt64, .long (Int64.ofNat 0), .long (2000000000 : Int64)]) (r := []) rfl rfl rfl rfl (by decide) rfl rfl rfl rfl ?_ ?_
        · refine Go_Ps 3 (pc' := 3) (lv' := [(0, .long a.toInt64), (2, .long (Int64.ofNat 0)), (4, .long (2000000000 : Int64))]) (st' := [.int (lg_cmp a.toInt64 (Int64.ofNat 0))]) rfl ?_
          refine Go_brF rfl rfl rfl (lgF_lt (by first | omega | (simp only [cs_1, Int32.toInt_toInt64]; omega))) ?_
          refine Go_Ps 3 (pc' := 10) (lv' := [(0, .long a.toInt64), (2, .long (Int64.ofNat 0)), (4, .long (2000000000 : Int64))]) (st' := [.int (lg_cmp a.toInt64 (2000000000 : Int64))]) rfl ?_
          refine Go_brF rfl rfl rfl (lgF_gt (by first | omega | (simp only [cs_12, Int32.toInt_toInt64]; omega))) ?_
          refine Go_Ps 2 (pc' := 18) (lv' := [(0, .long a.toInt64), (2, .long (Int64.ofNat 0)), (4, .long (2000000000 : Int64))]) (st' := [.int (Int32.ofInt 1)]) rfl ?_
          exact Go_ret rfl rfl rfl
        exact Go_ret rfl rfl rfl
      refine Go_Ps 3 (pc' := 9) (lv' := [(0, .ref 159), (1, .int a), (2, .int b), (3, .int c)]) (st' := [.int b, .ref 159]) rfl ?_
      refine Go_call (v1 := (some (.int (Int32.ofInt 0)))) (h1 := h0) (vs := [.ref 159, .int b]) (r := []) rfl rfl rfl rfl (by decide) rfl rfl rfl rfl ?_ ?_
      · refine Go_Ps 10 (pc' := 12) (lv' := [(0, .ref 159), (1, .int b)]) (st' := [.long ((0 : Int32) - (Int32.ofInt 1)).toInt64, .long (Int64.ofNat 0), .long b.toInt64]) rfl ?_
        refine Go_call (v1 := (some (.int (Int32.ofInt 0)))) (h1 := h0) (vs := [.long b.toInt64, .long (Int64.ofNat 0), .long ((0 : Int32) - (Int32.ofInt 1)).toInt64]) (r := []) rfl rfl rfl rfl (by decide) rfl rfl rfl rfl ?_ ?_
        · refine Go_Ps 3 (pc' := 3) (lv' := [(0, .long b.toInt64), (2, .long (Int64.ofNat 0)), (4, .long ((0 : Int32) - (Int32.ofInt 1)).toInt64)]) (st' := [.int (lg_cmp b.toInt64 (Int64.ofNat 0))]) rfl ?_
          refine Go_brT rfl rfl rfl (lgT_lt (by first | omega | (simp only [cs_1, Int32.toInt_toInt64]; omega))) ?_
          refine Go_Ps 1 (pc' := 18) (lv' := [(0, .long b.toInt64), (2, .long (Int64.ofNat 0)), (4, .long ((0 : Int32) - (Int32.ofInt 1)).toInt64)]) (st' := [.int (Int32.ofInt 0)]) rfl ?_
          exact Go_ret rfl rfl rfl
        exact Go_ret rfl rfl rfl
      refine Go_Ps 2 (pc' := 29) (lv' := [(0, .ref 159), (1, .int a), (2, .int b), (3, .int c)]) (st' := [.int ((Int8.ofInt (-2)).toInt32)]) rfl ?_
      exact Go_ret rfl rfl rfl
  · refine ⟨(-2), h0, h0, h0_len, h0_slo, h0_rcv, ?_, ?_⟩
    · refine Go_Ps 1 (pc' := 1) (lv' := [(0, .ref 0), (1, .int a), (2, .int b), (3, .int c)]) (st' := [.int a]) rfl ?_
      refine Go_call (v1 := (some (.int (Int32.ofInt 1)))) (h1 := h0) (vs := [.int a]) (r := []) rfl rfl rfl rfl (by decide) rfl rfl rfl rfl ?_ ?_
      · refine Go_Ps 1 (pc' := 1) (lv' := [(0, .int a)]) (st' := [.int a]) rfl ?_
        refine Go_brF rfl rfl rfl (iF_lt (by first | omega | (simp only [cs_0]; omega))) ?_
        refine Go_Ps 2 (pc' := 8) (lv' := [(0, .int a)]) (st' := [.int (2000000000 : Int32), .int a]) rfl ?_
        refine Go_brF rfl rfl rfl (iF_lt (by first | omega | (simp only [cs_11]; omega))) ?_
        refine Go_Ps 2 (pc' := 16) (lv' := [(0, .int a)]) (st' := [.int (Int32.ofInt 1)]) rfl ?_
        exact Go_ret rfl rfl rfl
      refine Go_Ps 4 (pc' := 12) (lv' := [(0, .ref 0), (1, .int a), (2, .int b), (3, .int c)]) (st' := [.int b, .ref 18]) rfl ?_
      refine Go_call (v1 := (some (.int (Int32.ofInt 0)))) (h1 := h0) (vs := [.ref 18, .int b]) (r := []) rfl rfl rfl rfl (by decide) rfl rfl rfl rfl ?_ ?_
      · refine Go_Ps 1 (pc' := 1) (lv' := [(0, .ref 18), (1, .int b)]) (st' := [.int b]) rfl ?_
        refine Go_brF rfl rfl rfl (iF_lt (by first | omega | (simp only [cs_0]; omega))) ?_
        refine Go_Ps 3 (pc' := 9) (lv' := [(0, .ref 18), (1, .int b)]) (st' := [.int (0 : Int32), .int b]) rfl ?_
        refine Go_brT rfl rfl rfl (iT_le (by first | omega | (simp only [cs_2]; omega))) ?_
        refine Go_Ps 1 (pc' := 17) (lv' := [(0, .ref 18), (1, .int b)]) (st' := [.int (Int32.ofInt 0)]) rfl ?_
        exact Go_ret rfl rfl rfl
      refine Go_Ps 2 (pc' := 20) (lv' := [(0, .ref 0), (1, .int a), (2, .int b), (3, .int c)]) (st' := [.int ((Int8.ofInt (-2)).toInt32)]) rfl ?_
      exact Go_ret rfl rfl rfl
    · refine Go_Ps 1 (pc' := 1) (lv' := [(0, .ref 159), (1, .int a), (2, .int b), (3, .int c)]) (st' := [.int a]) rfl ?_
      refine Go_call (v1 := (some (.int (Int32.ofInt 1)))) (h1 := h0) (vs := [.int a]) (r := []) rfl rfl rfl rfl (by decide) rfl rfl rfl rfl ?_ ?_
      · refine Go_Ps 4 (pc' := 6) (lv' := [(0, .int a)]) (st' := [.long (2000000000 : Int64), .long (Int64.ofNat 0), .long a.toInt64]) rfl ?_
        refine Go_call (v1 := (some (.int (Int32.ofInt 1)))) (h1 := h0) (vs := [.long a.toInt64, .long (Int64.ofNat 0), .long (2000000000 : Int64)]) (r := []) rfl rfl rfl rfl (by decide) rfl rfl rfl rfl ?_ ?_
        · refine Go_Ps 3 (pc' := 3) (lv' := [(0, .long a.toInt64), (2, .long (Int64.ofNat 0)), (4, .long (2000000000 : Int64))]) (st' := [.int (lg_cmp a.toInt64 (Int64.ofNat 0))]) rfl ?_
          refine Go_brF rfl rfl rfl (lgF_lt (by first | omega | (simp only [cs_1, Int32.toInt_toInt64]; omega))) ?_
          refine Go_Ps 3 (pc' := 10) (lv' := [(0, .long a.toInt64), (2, .long (Int64.ofNat 0)), (4, .long (2000000000 : Int64))]) (st' := [.int (lg_cmp a.toInt64 (2000000000 : Int64))]) rfl ?_
          refine Go_brF rfl rfl rfl (lgF_gt (by first | omega | (simp only [cs_12, Int32.toInt_toInt64]; omega))) ?_
          refine Go_Ps 2 (pc' := 18) (lv' := [(0, .long a.toInt64), (2, .long (Int64.ofNat 0)), (4, .long (2000000000 : Int64))]) (st' := [.int (Int32.ofInt 1)]) rfl ?_
          exact Go_ret rfl rfl rfl
        exact Go_ret rfl rfl rfl
      refine Go_Ps 3 (pc' := 9) (lv' := [(0, .ref 159), (1, .int a), (2, .int b), (3, .int c)]) (st' := [.int b, .ref 159]) rfl ?_
      refine Go_call (v1 := (some (.int (Int32.ofInt 0)))) (h1 := h0) (vs := [.ref 159, .int b]) (r := []) rfl rfl rfl rfl (by decide) rfl rfl rfl rfl ?_ ?_
      · refine Go_Ps 10 (pc' := 12) (lv' := [(0, .ref 159), (1, .int b)]) (st' := [.long ((0 : Int32) - (Int32.ofInt 1)).toInt64, .long (Int64.ofNat 0), .long b.toInt64]) rfl ?_
        refine Go_call (v1 := (some (.int (Int32.ofInt 0)))) (h1 := h0) (vs := [.long b.toInt64, .long (Int64.ofNat 0), .long ((0 : Int32) - (Int32.ofInt 1)).toInt64]) (r := []) rfl rfl rfl rfl (by decide) rfl rfl rfl rfl ?_ ?_
        · refine Go_Ps 3 (pc' := 3) (lv' := [(0, .long b.toInt64), (2, .long (Int64.ofNat 0)), (4, .long ((0 : Int32) - (Int32.ofInt 1)).toInt64)]) (st' := [.int (lg_cmp b.toInt64 (Int64.ofNat 0))]) rfl ?_
          refine Go_brF rfl rfl rfl (lgF_lt (by first | omega | (simp only [cs_1, Int32.toInt_toInt64]; omega))) ?_
          refine Go_Ps 3 (pc' := 10) (lv' := [(0, .long b.toInt64), (2, .long (Int64.ofNat 0)), (4, .long ((0 : Int32) - (Int32.ofInt 1)).toInt64)]) (st' := [.int (lg_cmp b.toInt64 (((0 : Int32) - (Int32.ofInt 1)).toInt64))]) rfl ?_
          refine Go_brT rfl rfl rfl (lgT_gt (by first | omega | (simp only [cs_4, Int32.toInt_toInt64]; omega))) ?_
          refine Go_Ps 1 (pc' := 18) (lv' := [(0, .long b.toInt64), (2, .long (Int64.ofNat 0)), (4, .long ((0 : Int32) - (Int32.ofInt 1)).toInt64)]) (st' := [.int (Int32.ofInt 0)]) rfl ?_
          exact Go_ret rfl rfl rfl
        exact Go_ret rfl rfl rfl
      refine Go_Ps 2 (pc' := 29) (lv' := [(0, .ref 159), (1, .int a), (2, .int b), (3, .int c)]) (st' := [.int ((Int8.ofInt (-2)).toInt32)]) rfl ?_
      exact Go_ret rfl rfl rfl
set_option maxHeartbeats 4000000 in
set_option maxRecDepth 100000 in
/-- years -/
theorem op_57 (a : Int32) (b : Int32) (c : Int32) (d : Int32) : Both mr_178 mr_326 [.int a, .int b, .int c, .int d] h0 := by
  rcases (show a.toInt < 0 ∨ 2000000000 < a.toInt ∨ (0 ≤ a.toInt ∧ a.toInt ≤ 2000000000 ∧ b.toInt < 1) ∨ (0 ≤ a.toInt ∧ a.toInt ≤ 2000000000 ∧ 20 < b.toInt) ∨ (0 ≤ a.toInt ∧ a.toInt ≤ 2000000000 ∧ 1 ≤ b.toInt ∧ b.toInt ≤ 20 ∧ c.toInt < 0) ∨ (0 ≤ a.toInt ∧ a.toInt ≤ 2000000000 ∧ 1 ≤ b.toInt ∧ b.toInt ≤ 20 ∧ 0 ≤ c.toInt) by omega) with hd | hd | hd | hd | hd | hd
  · refine ⟨(-2), h0, h0, h0_len, h0_slo, h0_rcv, ?_, ?_⟩
    · refine Go_Ps 1 (pc' := 1) (lv' := [(0, .ref 0), (1, .int a), (2, .int b), (3, .int c), (4, .int d)]) (st' := [.int a]) rfl ?_
      refine Go_call (v1 := (some (.int (Int32.ofInt 0)))) (h1 := h0) (vs := [.int a]) (r := []) rfl rfl rfl rfl (by decide) rfl rfl rfl rfl ?_ ?_
      · refine Go_Ps 1 (pc' := 1) (lv' := [(0, .int a)]) (st' := [.int a]) rfl ?_
        refine Go_brT rfl rfl rfl (iT_lt (by first | omega | (simp only [cs_0]; omega))) ?_
        refine Go_Ps 1 (pc' := 16) (lv' := [(0, .int a)]) (st' := [.int (Int32.ofInt 0)]) rfl ?_
        exact Go_ret rfl rfl rfl
      refine Go_Ps 2 (pc' := 31) (lv' := [(0, .ref 0), (1, .int a), (2, .int b), (3, .int c), (4, .int d)]) (st' := [.int ((Int8.ofInt (-2)).toInt32)]) rfl ?_
      exact Go_ret rfl rfl rfl
    · refine Go_Ps 1 (pc' := 1) (lv' := [(0, .ref 159), (1, .int a), (2, .int b), (3, .int c), (4, .int d)]) (st' := [.int a]) rfl ?_
      refine Go_call (v1 := (some (.int (Int32.ofInt 0)))) (h1 := h0) (vs := [.int a]) (r := []) rfl rfl rfl rfl (by decide) rfl rfl rfl rfl ?_ ?_
      · refine Go_Ps 4 (pc' := 6) (lv' := [(0, .int a)]) (st' := [.long (2000000000 : Int64), .long (Int64.ofNat 0), .long a.toInt64]) rfl ?_
        refine Go_call (v1 := (some (.int (Int32.ofInt 0)))) (h1 := h0) (vs := [.long a.toInt64, .long (Int64.ofNat 0), .long (2000000000 : Int64)]) (r := []) rfl rfl rfl rfl (by decide) rfl rfl rfl rfl ?_ ?_
        · refine Go_Ps 3 (pc' := 3) (lv' := [(0, .long a.toInt64), (2, .long (Int64.ofNat 0)), (4, .long (2000000000 : Int64))]) (st' := [.int (lg_cmp a.toInt64 (Int64.ofNat 0))]) rfl ?_
          refine Go_brT rfl rfl rfl (lgT_lt (by first | omega | (simp only [cs_1, Int32.toInt_toInt64]; omega))) ?_
          refine Go_Ps 1 (pc' := 18) (lv' := [(0, .long a.toInt64), (2, .long (Int64.ofNat 0)), (4, .long (2000000000 : Int64))]) (st' := [.int (Int32.ofInt 0)]) rfl ?_
          exact Go_ret rfl rfl rfl
        exact Go_ret rfl rfl rfl
      refine Go_Ps 2 (pc' := 29) (lv' := [(0, .ref 159), (1, .int a), (2, .int b), (3, .int c), (4, .int d)]) (st' := [.int ((Int8.ofInt (-2)).toInt32)]) rfl ?_
      exact Go_ret rfl rfl rfl
  · refine ⟨(-2), h0, h0, h0_len, h0_slo, h0_rcv, ?_, ?_⟩
    · refine Go_Ps 1 (pc' := 1) (lv' := [(0, .ref 0), (1, .int a), (2, .int b), (3, .int c), (4, .int d)]) (st' := [.int a]) rfl ?_
      refine Go_call (v1 := (some (.int (Int32.ofInt 0)))) (h1 := h0) (vs := [.int a]) (r := []) rfl rfl rfl rfl (by decide) rfl rfl rfl rfl ?_ ?_
      · refine Go_Ps 1 (pc' := 1) (lv' := [(0, .int a)]) (st' := [.int a]) rfl ?_
        refine Go_brF rfl rfl rfl (iF_lt (by first | omega | (simp only [cs_0]; omega))) ?_
        refine Go_Ps 2 (pc' := 8) (lv' := [(0, .int a)]) (st' := [.int (2000000000 : Int32), .int a]) rfl ?_
        refine Go_brT rfl rfl rfl (iT_lt (by first | omega | (simp only [cs_11]; omega))) ?_
        refine Go_Ps 1 (pc' := 16) (lv' := [(0, .int a)]) (st' := [.int (Int32.ofInt 0)]) rfl ?_
        exact Go_ret rfl rfl rfl
      refine Go_Ps 2 (pc' := 31) (lv' := [(0, .ref 0), (1, .int a), (2, .int b), (3, .int c), (4, .int d)]) (st' := [.int ((Int8.ofInt (-2)).toInt32)]) rfl ?_
      exact Go_ret rfl rfl rfl
    · refine Go_Ps 1 (pc' := 1) (lv' := [(0, .ref 159), (1, .int a), (2, .int b), (3, .int c), (4, .int d)]) (st' := [.int a]) rfl ?_
      refine Go_call (v1 := (some (.int (Int32.ofInt 0)))) (h1 := h0) (vs := [.int a]) (r := []) rfl rfl rfl rfl (by decide) rfl rfl rfl rfl ?_ ?_
      · refine Go_Ps 4 (pc' := 6) (lv' := [(0, .int a)]) (st' := [.long (2000000000 : Int64), .long (Int64.ofNat 0), .long a.toInt64]) rfl ?_
        refine Go_call (v1 := (some (.int (Int32.ofInt 0)))) (h1 := h0) (vs := [.long a.toInt64, .long (Int64.ofNat 0), .long (2000000000 : Int64)]) (r := []) rfl rfl rfl rfl (by decide) rfl rfl rfl rfl ?_ ?_
        · refine Go_Ps 3 (pc' := 3) (lv' := [(0, .long a.toInt64), (2, .long (Int64.ofNat 0)), (4, .long (2000000000 : Int64))]) (st' := [.int (lg_cmp a.toInt64 (Int64.ofNat 0))]) rfl ?_
          refine Go_brF rfl rfl rfl (lgF_lt (by first | omega | (simp only [cs_1, Int32.toInt_toInt64]; omega))) ?_
          refine Go_Ps 3 (pc' := 10) (lv' := [(0, .long a.toInt64), (2, .long (Int64.ofNat 0)), (4, .long (2000000000 : Int64))]) (st' := [.int (lg_cmp a.toInt64 (2000000000 : Int64))]) rfl ?_
          refine Go_brT rfl rfl rfl (lgT_gt (by first | omega | (simp only [cs_12, Int32.toInt_toInt64]; omega))) ?_
          refine Go_Ps 1 (pc' := 18) (lv' := [(0, .long a.toInt64), (2, .long (Int64.ofNat 0)), (4, .long (2000000000 : Int64))]) (st' := [.int (Int32.ofInt 0)]) rfl ?_
          exact Go_ret rfl rfl rfl
        exact Go_ret rfl rfl rfl
      refine Go_Ps 2 (pc' := 29) (lv' := [(0, .ref 159), (1, .int a), (2, .int b), (3, .int c), (4, .int d)]) (st' := [.int ((Int8.ofInt (-2)).toInt32)]) rfl ?_
      exact Go_ret rfl rfl rfl
  · refine ⟨(-2), h0, h0, h0_len, h0_slo, h0_rcv, ?_, ?_⟩
    · refine Go_Ps 1 (pc' := 1) (lv' := [(0, .ref 0), (1, .int a), (2, .int b), (3, .int c), (4, .int d)]) (st' := [.int a]) rfl ?_
      refine Go_call (v1 := (some (.int (Int32.ofInt 1)))) (h1 := h0) (vs := [.int a]) (r := []) rfl rfl rfl rfl (by decide) rfl rfl rfl rfl ?_ ?_
      · refine Go_Ps 1 (pc' := 1) (lv' := [(0, .int a)]) (st' := [.int a]) rfl ?_
        refine Go_brF rfl rfl rfl (iF_lt (by first | omega | (simp only [cs_0]; omega))) ?_
        refine Go_Ps 2 (pc' := 8) (lv' := [(0, .int a)]) (st' := [.int (2000000000 : Int32), .int a]) rfl ?_
        refine Go_brF rfl rfl rfl (iF_lt (by first | omega | (simp only [cs_11]; omega))) ?_
        refine Go_Ps 2 (pc' := 16) (lv' := [(0, .int a)]) (st' := [.int (Int32.ofInt 1)]) rfl ?_
        exact Go_ret rfl rfl rfl
      refine Go_Ps 3 (pc' := 9) (lv' := [(0, .ref 0), (1, .int a), (2, .int b), (3, .int c), (4, .int d)]) (st' := [.int (Int32.ofInt 1), .int b]) rfl ?_
      refine Go_brT rfl rfl rfl (iT_lt (by first | omega | (simp only [cs_3]; omega))) ?_
      refine Go_Ps 1 (pc' := 31) (lv' := [(0, .ref 0), (1, .int a), (2, .int b), (3, .int c), (4, .int d)]) (st' := [.int ((Int8.ofInt (-2)).toInt32)]) rfl ?_
      exact Go_ret rfl rfl rfl
    · refine Go_Ps 1 (pc' := 1) (lv' := [(0, .ref 159), (1, .int a), (2, .int b), (3, .int c), (4, .int d)]) (st' := [.int a]) rfl ?_
      refine Go_call (v1 := (some (.int (Int32.ofInt 1)))) (h1 := h0) (vs := [.int a]) (r := []) rfl rfl rfl rfl (by decide) rfl rfl rfl rfl ?_ ?_
      · refine Go_Ps 4 (pc' := 6) (lv' := [(0, .int a)]) (st' := [.long (2000000000 : Int64), .long (Int64.ofNat 0), .long a.toInt64]) rfl ?_
        refine Go_call (v1 := (some (.int (Int32.ofInt 1)))) (h1 := h0) (vs := [.long a.toInt64, .long (Int64.ofNat 0), .long (2000000000 : Int64)]) (r := []) rfl rfl rfl rfl (by decide) rfl rfl rfl rfl ?_ ?_
        · refine Go_Ps 3 (pc' := 3) (lv' := [(0, .long a.toInt64), (2, .long (Int64.ofNat 0)), (4, .long (2000000000 : Int64))]) (st' := [.int (lg_cmp a.toInt64 (Int64.ofNat 0))]) rfl ?_
          refine Go_brF rfl rfl rfl (lgF_lt (by first | omega | (simp only [cs_1, Int32.toInt_toInt64]; omega))) ?_
          refine Go_Ps 3 (pc' := 10) (lv' := [(0, .long a.toInt64), (2, .long (Int64.ofNat 0)), (4, .long (2000000000 : Int64))]) (st' := [.int (lg_cmp a.toInt64 (2000000000 : Int64))]) rfl ?_
          refine Go_brF rfl rfl rfl (lgF_gt (by first | omega | (simp only [cs_12, Int32.toInt_toInt64]; omega))) ?_
          refine Go_Ps 2 (pc' := 18) (lv' := [(0, .long a.toInt64), (2, .long (Int64.ofNat 0)), (4, .long (2000000000 : Int64))]) (st' := [.int (Int32.ofInt 1)]) rfl ?_
          exact Go_ret rfl rfl rfl
        exact Go_ret rfl rfl rfl
      refine Go_Ps 5 (pc' := 13) (lv' := [(0, .ref 159), (1, .int a), (2, .int b), (3, .int c), (4, .int d)]) (st' := [.long (20 : Int64), .long (Int64.ofNat 1), .long b.toInt64]) rfl ?_
      refine Go_call (v1 := (some (.int (Int32.ofInt 0)))) (h1 := h0) (vs := [.long b.toInt64, .long (Int64.ofNat 1), .long (20 : Int64)]) (r := []) rfl rfl rfl rfl (by decide) rfl rfl rfl rfl ?_ ?_
      · refine Go_Ps 3 (pc' := 3) (lv' := [(0, .long b.toInt64), (2, .long (Int64.ofNat 1)), (4, .long (20 : Int64))]) (st' := [.int (lg_cmp b.toInt64 (Int64.ofNat 1))]) rfl ?_
        refine Go_brT rfl rfl rfl (lgT_lt (by first | omega | (simp only [cs_10, Int32.toInt_toInt64]; omega))) ?_
        refine Go_Ps 1 (pc' := 18) (lv' := [(0, .long b.toInt64), (2, .long (Int64.ofNat 1)), (4, .long (20 : Int64))]) (st' := [.int (Int32.ofInt 0)]) rfl ?_
        exact Go_ret rfl rfl rfl
      refine Go_Ps 2 (pc' := 29) (lv' := [(0, .ref 159), (1, .int a), (2, .int b), (3, .int c), (4, .int d)]) (st' := [.int ((Int8.ofInt (-2)).toInt32)]) rfl ?_
      exact Go_ret rfl rfl rfl
  · refine ⟨(-2), h0, h0, h0_len, h0_slo, h0_rcv, ?_, ?_⟩
    · refine Go_Ps 1 (pc' := 1) (lv' := [(0, .ref 0), (1, .int a), (2, .int b), (3, .int c), (4, .int d)]) (st' := [.int a]) rfl ?_
      refine Go_call (v1 := (some (.int (Int32.ofInt 1)))) (h1 := h0) (vs := [.int a]) (r := []) rfl rfl rfl rfl (by decide) rfl rfl rfl rfl ?_ ?_
      · refine Go_Ps 1 (pc' := 1) (lv' := [(0, .int a)]) (st' := [.int a]) rfl ?_
        refine Go_brF rfl rfl rfl (iF_lt (by first | omega | (simp only [cs_0]; omega))) ?_
        refine Go_Ps 2 (pc' := 8) (lv' := [(0, .int a)]) (st' := [.int (2000000000 : Int32), .int a]) rfl ?_
        refine Go_brF rfl rfl rfl (iF_lt (by first | omega | (simp only [cs_11]; omega))) ?_
        refine Go_Ps 2 (pc' := 16) (lv' := [(0, .int a)]) (st' := [.int (Int32.ofInt 1)]) rfl ?_
        exact Go_ret rfl rfl rfl
      refine Go_Ps 3 (pc' := 9) (lv' := [(0, .ref 0), (1, .int a), (2, .int b), (3, .int c), (4, .int d)]) (st' := [.int (Int32.ofInt 1), .int b]) rfl ?_
      refine Go_brF rfl rfl rfl (iF_lt (by first | omega | (simp only [cs_3]; omega))) ?_
      refine Go_Ps 2 (pc' := 15) (lv' := [(0, .ref 0), (1, .int a), (2, .int b), (3, .int c), (4, .int d)]) (st' := [.int ((Int8.ofInt 20).toInt32), .int b]) rfl ?_
      refine Go_brT rfl rfl rfl (iT_lt (by first | omega | (simp only [cs_13]; omega))) ?_
      refine Go_Ps 1 (pc' := 31) (lv' := [(0, .ref 0), (1, .int a), (2, .int b), (3, .int c), (4, .int d)]) (st' := [.int ((Int8.ofInt (-2)).toInt32)]) rfl ?_
      exact Go_ret rfl rfl rfl
    · refine Go_Ps 1 (pc' := 1) (lv' := [(0, .ref 159), (1, .int a), (2, .int b), (3, .int c), (4, .int d)]) (st' := [.int a]) rfl ?_
      refine Go_call (v1 := (some (.int (Int32.ofInt 1)))) (h1 := h0) (vs := [.int a]) (r := []) rfl rfl rfl rfl (by decide) rfl rfl rfl rfl ?_ ?_
      · refine Go_Ps 4 (pc' := 6) (lv' := [(0, .int a)]) (st' := [.long (2000000000 : Int64), .long (Int64.ofNat 0), .long a.toInt64]) rfl ?_
        refine Go_call (v1 := (some (.int (Int32.ofInt 1)))) (h1 := h0) (vs := [.long a.toInt64, .long (Int64.ofNat 0), .long (2000000000 : Int64)]) (r := []) rfl rfl rfl rfl (by decide) rfl rfl rfl rfl ?_ ?_
        · refine Go_Ps 3 (pc' := 3) (lv' := [(0, .long a.toInt64), (2, .long (Int64.ofNat 0)), (4, .long (2000000000 : Int64))]) (st' := [.int (lg_cmp a.toInt64 (Int64.ofNat 0))]) rfl ?_
          refine Go_brF rfl rfl rfl (lgF_lt (by first | omega | (simp only [cs_1, Int32.toInt_toInt64]; omega))) ?_
          refine Go_Ps 3 (pc' := 10) (lv' := [(0, .long a.toInt64), (2, .long (Int64.ofNat 0)), (4, .long (2000000000 : Int64))]) (st' := [.int (lg_cmp a.toInt64 (2000000000 : Int64))]) rfl ?_
          refine Go_brF rfl rfl rfl (lgF_gt (by first | omega | (simp only [cs_12, Int32.toInt_toInt64]; omega))) ?_
          refine Go_Ps 2 (pc' := 18) (lv' := [(0, .long a.toInt64), (2, .long (Int64.ofNat 0)), (4, .long (2000000000 : Int64))]) (st' := [.int (Int32.ofInt 1)]) rfl ?_
          exact Go_ret rfl rfl rfl
        exact Go_ret rfl rfl rfl
      refine Go_Ps 5 (pc' := 13) (lv' := [(0, .ref 159), (1, .int a), (2, .int b), (3, .int c), (4, .int d)]) (st' := [.long (20 : Int64), .long (Int64.ofNat 1), .long b.toInt64]) rfl ?_
      refine Go_call (v1 := (some (.int (Int32.ofInt 0)))) (h1 := h0) (vs := [.long b.toInt64, .long (Int64.ofNat 1), .long (20 : Int64)]) (r := []) rfl rfl rfl rfl (by decide) rfl rfl rfl rfl ?_ ?_
      · refine Go_Ps 3 (pc' := 3) (lv' := [(0, .long b.toInt64), (2, .long (Int64.ofNat 1)), (4, .long (20 : Int64))]) (st' := [.int (lg_cmp b.toInt64 (Int64.ofNat 1))]) rfl ?_
        refine Go_brF rfl rfl rfl (lgF_lt (by first | omega | (simp only [cs_10, Int32.toInt_toInt64]; omega))) ?_
        refine Go_Ps 3 (pc' := 10) (lv' := [(0, .long b.toInt64), (2, .long (Int64.ofNat 1)), (4, .long (20 : Int64))]) (st' := [.int (lg_cmp b.toInt64 (20 : Int64))]) rfl ?_
        refine Go_brT rfl rfl rfl (lgT_gt (by first | omega | (simp only [cs_14, Int32.toInt_toInt64]; omega))) ?_
        refine Go_Ps 1 (pc' := 18) (lv' := [(0, .long b.toInt64), (2, .long (Int64.ofNat 1)), (4, .long (20 : Int64))]) (st' := [.int (Int32.ofInt 0)]) rfl ?_
        exact Go_ret rfl rfl rfl
      refine Go_Ps 2 (pc' := 29) (lv' := [(0, .ref 159), (1, .int a), (2, .int b), (3, .int c), (4, .int d)]) (st' := [.int ((Int8.ofInt (-2)).toInt32)]) rfl ?_
      exact Go_ret rfl rfl rfl
  · refine ⟨(-2), h0, h0, h0_len, h0_slo, h0_rcv, ?_, ?_⟩
    · refine Go_Ps 1 (pc' := 1) (lv' := [(0, .ref 0), (1, .int a), (2, .int b), (3, .int c), (4, .int d)]) (st' := [.int a]) rfl ?_
      refine Go_call (v1 := (some (.int (Int32.ofInt 1)))) (h1 := h0) (vs := [.int a]) (r := []) rfl rfl rfl rfl (by decide) rfl rfl rfl rfl ?_ ?_
      · refine Go_Ps 1 (pc' := 1) (lv' := [(0, .int a)]) (st' := [.int a]) rfl ?_
        refine Go_brF rfl rfl rfl (iF_lt (by first | omega | (simp only [cs_0]; omega))) ?_
        refine Go_Ps 2 (pc' := 8) (lv' := [(0, .int a)]) (st' := [.int (2000000000 : Int32), .int a]) rfl ?_
        refine Go_brF rfl rfl rfl (iF_lt (by first | omega | (simp only [cs_11]; omega))) ?_
        refine Go_Ps 2 (pc' := 16) (lv' := [(0, .int a)]) (st' := [.int (Int32.ofInt 1)]) rfl ?_
        exact Go_ret rfl rfl rfl
      refine Go_Ps 3 (pc' := 9) (lv' := [(0, .ref 0), (1, .int a), (2, .int b), (3, .int c), (4, .int d)]) (st' := [.int (Int32.ofInt 1), .int b]) rfl ?_
      refine Go_brF rfl rfl rfl (iF_lt (by first | omega | (simp only [cs_3]; omega))) ?_
      refine Go_Ps 2 (pc' := 15) (lv' := [(0, .ref 0), (1, .int a), (2, .int b), (3, .int c), (4, .int d)]) (st' := [.int ((Int8.ofInt 20).toInt32), .int b]) rfl ?_
      refine Go_brF rfl rfl rfl (iF_lt (by first | omega | (simp only [cs_13]; omega))) ?_
      refine Go_Ps 3 (pc' := 23) (lv' := [(0, .ref 0), (1, .int a), (2, .int b), (3, .int c), (4, .int d)]) (st' := [.int c, .ref 18]) rfl ?_
      refine Go_call (v1 := (some (.int (Int32.ofInt 0)))) (h1 := h0) (vs := [.ref 18, .int c]) (r := []) rfl rfl rfl rfl (by decide) rfl rfl rfl rfl ?_ ?_
      · refine Go_Ps 1 (pc' := 1) (lv' := [(0, .ref 18), (1, .int c)]) (st' := [.int c]) rfl ?_
        refine Go_brT rfl rfl rfl (iT_lt (by first | omega | (simp only [cs_0]; omega))) ?_
        refine Go_Ps 1 (pc' := 17) (lv' := [(0, .ref 18), (1, .int c)]) (st' := [.int (Int32.ofInt 0)]) rfl ?_
        exact Go_ret rfl rfl rfl
      refine Go_Ps 2 (pc' := 31) (lv' := [(0, .ref 0), (1, .int a), (2, .int b), (3, .int c), (4, .int d)]) (st' := [.int ((Int8.ofInt (-2)).toInt32)]) rfl ?_
      exact Go_ret rfl rfl rfl
    · refine Go_Ps 1 (pc' := 1) (lv' := [(0, .ref 159), (1, .int a), (2, .int b), (3, .int c), (4, .int d)]) (st' := [.int a]) rfl ?_
      refine Go_call (v1 := (some (.int (Int32.ofInt 1)))) (h1 := h0) (vs := [.int a]) (r := []) rfl rfl rfl rfl (by decide) rfl rfl rfl rfl ?_ ?_
      · refine Go_Ps 4 (pc' := 6) (lv' := [(0, .int a)]) (st' := [.long (2000000000 : Int64), .long (Int64.ofNat 0), .long a.toInt64]) rfl ?_
        refine Go_call (v1 := (some (.int (Int32.ofInt 1)))) (h1 := h0) (vs := [.long a.toInt64, .long (Int64.ofNat 0), .long (2000000000 : Int64)]) (r := []) rfl rfl rfl rfl (by decide) rfl rfl rfl rfl ?_ ?_
        · refine Go_Ps 3 (pc' := 3) (lv' := [(0, .long a.toInt64), (2, .long (Int64.ofNat 0)), (4, .long (2000000000 : Int64))]) (st' := [.int (lg_cmp a.toInt64 (Int64.ofNat 0))]) rfl ?_
          refine Go_brF rfl rfl rfl (lgF_lt (by first | omega | (simp only [cs_1, Int32.toInt_toInt64]; omega))) ?_
          refine Go_Ps 3 (pc' := 10) (lv' := [(0, .long a.toInt64), (2, .long (Int64.ofNat 0)), (4, .long (2000000000 : Int64))]) (st' := [.int (lg_cmp a.toInt64 (2000000000 : Int64))]) rfl ?_
          refine Go_brF rfl rfl rfl (lgF_gt (by first | omega | (simp only [cs_12, Int32.toInt_toInt64]; omega))) ?_
          refine Go_Ps 2 (pc' := 18) (lv' := [(0, .long a.toInt64), (2, .long (Int64.ofNat 0)), (4, .long (2000000000 : Int64))]) (st' := [.int (Int32.ofInt 1)]) rfl ?_
          exact Go_ret rfl rfl rfl
        exact Go_ret rfl rfl rfl
      refine Go_Ps 5 (pc' := 13) (lv' := [(0, .ref 159), (1, .int a), (2, .int b), (3, .int c), (4, .int d)]) (st' := [.long (20 : Int64), .long (Int64.ofNat 1), .long b.toInt64]) rfl ?_
      refine Go_call (v1 := (some (.int (Int32.ofInt 1)))) (h1 := h0) (vs := [.long b.toInt64, .long (Int64.ofNat 1), .long (20 : Int64)]) (r := []) rfl rfl rfl rfl (by decide) rfl rfl rfl rfl ?_ ?_
      · refine Go_Ps 3 (pc' := 3) (lv' := [(0, .long b.toInt64), (2, .long (Int64.ofNat 1)), (4, .long (20 : Int64))]) (st' := [.int (lg_cmp b.toInt64 (Int64.ofNat 1))]) rfl ?_
        refine Go_brF rfl rfl rfl (lgF_lt (by first | omega | (simp only [cs_10, Int32.toInt_toInt64]; omega))) ?_
        refine Go_Ps 3 (pc' := 10) (lv' := [(0, .long b.toInt64), (2, .long (Int64.ofNat 1)), (4, .long (20 : Int64))]) (st' := [.int (lg_cmp b.toInt64 (20 : Int64))]) rfl ?_
        refine Go_brF rfl rfl rfl (lgF_gt (by first | omega | (simp only [cs_14, Int32.toInt_toInt64]; omega))) ?_
        refine Go_Ps 2 (pc' := 18) (lv' := [(0, .long b.toInt64), (2, .long (Int64.ofNat 1)), (4, .long (20 : Int64))]) (st' := [.int (Int32.ofInt 1)]) rfl ?_
        exact Go_ret rfl rfl rfl
      refine Go_Ps 3 (pc' := 21) (lv' := [(0, .ref 159), (1, .int a), (2, .int b), (3, .int c), (4, .int d)]) (st' := [.int c, .ref 159]) rfl ?_
      refine Go_call (v1 := (some (.int (Int32.ofInt 0)))) (h1 := h0) (vs := [.ref 159, .int c]) (r := []) rfl rfl rfl rfl (by decide) rfl rfl rfl rfl ?_ ?_
      · refine Go_Ps 10 (pc' := 12) (lv' := [(0, .ref 159), (1, .int c)]) (st' := [.long ((0 : Int32) - (Int32.ofInt 1)).toInt64, .long (Int64.ofNat 0), .long c.toInt64]) rfl ?_
        refine Go_call (v1 := (some (.int (Int32.ofInt 0)))) (h1 := h0) (vs := [.long c.toInt64, .long (Int64.ofNat 0), .long ((0 : Int32) - (Int32.ofInt 1)).toInt64]) (r := []) rfl rfl rfl rfl (by decide) rfl rfl rfl rfl ?_ ?_
        · refine Go_Ps 3 (pc' := 3) (lv' := [(0, .long c.toInt64), (2, .long (Int64.ofNat 0)), (4, .long ((0 : Int32) - (Int32.ofInt 1)).toInt64)]) (st' := [.int (lg_cmp c.toInt64 (Int64.ofNat 0))]) rfl ?_
          refine Go_brT rfl rfl rfl (lgT_lt (by first | omega | (simp only [cs_1, Int32.toInt_toInt64]; omega))) ?_
          refine Go_Ps 1 (pc' := 18) (lv' := [(0, .long c.toInt64), (2, .long (Int64.ofNat 0)), (4, .long ((0 : Int32) - (Int32.ofInt 1)).toInt64)]) (st' := [.int (Int32.ofInt 0)]) rfl ?_
          exact Go_ret rfl rfl rfl
        exact Go_ret rfl rfl rfl
      refine Go_Ps 2 (pc' := 29) (lv' := [(0, .ref 159), (1, .int a), (2, .int b), (3, .int c), (4, .int d)]) (st' := [.int ((Int8.ofInt (-2)).toInt32)]) rfl ?_
      exact Go_ret rfl rfl rfl
  · refine ⟨(-2), h0, h0, h0_len, h0_slo, h0_rcv, ?_, ?_⟩
    · refine Go_Ps 1 (pc' := 1) (lv' := [(0, .ref 0), (1, .int a), (2, .int b), (3, .int c), (4, .int d)]) (st' := [.int a]) rfl ?_
      refine Go_call (v1 := (some (.int (Int32.ofInt 1)))) (h1 := h0) (vs := [.int a]) (r := []) rfl rfl rfl rfl (by decide) rfl rfl rfl rfl ?_ ?_
      · refine Go_Ps 1 (pc' := 1) (lv' := [(0, .int a)]) (st' := [.int a]) rfl ?_
        refine Go_brF rfl rfl rfl (iF_lt (by first | omega | (simp only [cs_0]; omega))) ?_
        refine Go_Ps 2 (pc' := 8) (lv' := [(0, .int a)]) (st' := [.int (2000000000 : Int32), .int a]) rfl ?_
        refine Go_brF rfl rfl rfl (iF_lt (by first | omega | (simp only [cs_11]; omega))) ?_
        refine Go_Ps 2 (pc' := 16) (lv' := [(0, .int a)]) (st' := [.int (Int32.ofInt 1)]) rfl ?_
        exact Go_ret rfl rfl rfl
      refine Go_Ps 3 (pc' := 9) (lv' := [(0, .ref 0), (1, .int a), (2, .int b), (3, .int c), (4, .int d)]) (st' := [.int (Int32.ofInt 1), .int b]) rfl ?_
      refine Go_brF rfl rfl rfl (iF_lt (by first | omega | (simp only [cs_3]; omega))) ?_
      refine Go_Ps 2 (pc' := 15) (lv' := [(0, .ref 0), (1, .int a), (2, .int b), (3, .int c), (4, .int d)]) (st' := [.int ((Int8.ofInt 20).toInt32), .int b]) rfl ?_
      refine Go_brF rfl rfl rfl (iF_lt (by first | omega | (simp only [cs_13]; omega))) ?_
      refine Go_Ps 3 (pc' := 23) (lv' := [(0, .ref 0), (1, .int a), (2, .int b), (3, .int c), (4, .int d)]) (st' := [.int c, .ref 18]) rfl ?_
      refine Go_call (v1 := (some (.int (Int32.ofInt 0)))) (h1 := h0) (vs := [.ref 18, .int c]) (r := []) rfl rfl rfl rfl (by decide) rfl rfl rfl rfl ?_ ?_
      · refine Go_Ps 1 (pc' := 1) (lv' := [(0, .ref 18), (1, .int c)]) (st' := [.int c]) rfl ?_
        refine Go_brF rfl rfl rfl (iF_lt (by first | omega | (simp only [cs_0]; omega))) ?_
        refine Go_Ps 3 (pc' := 9) (lv' := [(0, .ref 18), (1, .int c)]) (st' := [.int (0 : Int32), .int c]) rfl ?_
        refine Go_brT rfl rfl rfl (iT_le (by first | omega | (simp only [cs_2]; omega))) ?_
        refine Go_Ps 1 (pc' := 17) (lv' := [(0, .ref 18), (1, .int c)]) (st' := [.int (Int32.ofInt 0)]) rfl ?_
        exact Go_ret rfl rfl rfl
      refine Go_Ps 2 (pc' := 31) (lv' := [(0, .ref 0), (1, .int a), (2, .int b), (3, .int c), (4, .int d)]) (st' := [.int ((Int8.ofInt (-2)).toInt32)]) rfl ?_
      exact Go_ret rfl rfl rfl
    · refine Go_Ps 1 (pc' := 1) (lv' := [(0, .ref 159), (1, .int a), (2, .int b), (3, .int c), (4, .int d)]) (st' := [.int a]) rfl ?_
      refine Go_call (v1 := (some (.int (Int32.ofInt 1)))) (h1 := h0) (vs := [.int a]) (r := []) rfl rfl rfl rfl (by decide) rfl rfl rfl rfl ?_ ?_
      · refine Go_Ps 4 (pc' := 6) (lv' := [(0, .int a)]) (st' := [.long (2000000000 : Int64), .long (Int64.ofNat 0), .long a.toInt64]) rfl ?_
        refine Go_call (v1 := (some (.int (Int32.ofInt 1)))) (h1 := h0) (vs := [.long a.toInt64, .long (Int64.ofNat 0), .long (2000000000 : Int64)]) (r := []) rfl rfl rfl rfl (by decide) rfl rfl rfl rfl ?_ ?_
        · refine Go_Ps 3 (pc' := 3) (lv' := [(0, .long a.toInt64), (2, .long (Int64.ofNat 0)), (4, .long (2000000000 : Int64))]) (st' := [.int (lg_cmp a.toInt64 (Int64.ofNat 0))]) rfl ?_
          refine Go_brF rfl rfl rfl (lgF_lt (by first | omega | (simp only [cs_1, Int32.toInt_toInt64]; omega))) ?_
          refine Go_Ps 3 (pc' := 10) (lv' := [(0, .long a.toInt64), (2, .long (Int64.ofNat 0)), (4, .long (2000000000 : Int64))]) (st' := [.int (lg_cmp a.toInt64 (2000000000 : Int64))]) rfl ?_
          refine Go_brF rfl rfl rfl (lgF_gt (by first | omega | (simp only [cs_12, Int32.toInt_toInt64]; omega))) ?_
          refine Go_Ps 2 (pc' := 18) (lv' := [(0, .long a.toInt64), (2, .long (Int64.ofNat 0)), (4, .long (2000000000 : Int64))]) (st' := [.int (Int32.ofInt 1)]) rfl ?_
          exact Go_ret rfl rfl rfl
        exact Go_ret rfl rfl rfl
      refine Go_Ps 5 (pc' := 13) (lv' := [(0, .ref 159), (1, .int a), (2, .int b), (3, .int c), (4, .int d)]) (st' := [.long (20 : Int64), .long (Int64.ofNat 1), .long b.toInt64]) rfl ?_
      refine Go_call (v1 := (some (.int (Int32.ofInt 1)))) (h1 := h0) (vs := [.long b.toInt64, .long (Int64.ofNat 1), .long (20 : Int64)]) (r := []) rfl rfl rfl rfl (by decide) rfl rfl rfl rfl ?_ ?_
      · refine Go_Ps 3 (pc' := 3) (lv' := [(0, .long b.toInt64), (2, .long (Int64.ofNat 1)), (4, .long (20 : Int64))]) (st' := [.int (lg_cmp b.toInt64 (Int64.ofNat 1))]) rfl ?_
        refine Go_brF rfl rfl rfl (lgF_lt (by first | omega | (simp only [cs_10, Int32.toInt_toInt64]; omega))) ?_
        refine Go_Ps 3 (pc' := 10) (lv' := [(0, .long b.toInt64), (2, .long (Int64.ofNat 1)), (4, .long (20 : Int64))]) (st' := [.int (lg_cmp b.toInt64 (20 : Int64))]) rfl ?_
        refine Go_brF rfl rfl rfl (lgF_gt (by first | omega | (simp only [cs_14, Int32.toInt_toInt64]; omega))) ?_
        refine Go_Ps 2 (pc' := 18) (lv' := [(0, .long b.toInt64), (2, .long (Int64.ofNat 1)), (4, .long (20 : Int64))]) (st' := [.int (Int32.ofInt 1)]) rfl ?_
        exact Go_ret rfl rfl rfl
      refine Go_Ps 3 (pc' := 21) (lv' := [(0, .ref 159), (1, .int a), (2, .int b), (3, .int c), (4, .int d)]) (st' := [.int c, .ref 159]) rfl ?_
      refine Go_call (v1 := (some (.int (Int32.ofInt 0)))) (h1 := h0) (vs := [.ref 159, .int c]) (r := []) rfl rfl rfl rfl (by decide) rfl rfl rfl rfl ?_ ?_
      · refine Go_Ps 10 (pc' := 12) (lv' := [(0, .ref 159), (1, .int c)]) (st' := [.long ((0 : Int32) - (Int32.ofInt 1)).toInt64, .long (Int64.ofNat 0), .long c.toInt64]) rfl ?_
        refine Go_call (v1 := (some (.int (Int32.ofInt 0)))) (h1 := h0) (vs := [.long c.toInt64, .long (Int64.ofNat 0), .long ((0 : Int32) - (Int32.ofInt 1)).toInt64]) (r := []) rfl rfl rfl rfl (by decide) rfl rfl rfl rfl ?_ ?_
        · refine Go_Ps 3 (pc' := 3) (lv' := [(0, .long c.toInt64), (2, .long (Int64.ofNat 0)), (4, .long ((0 : Int32) - (Int32.ofInt 1)).toInt64)]) (st' := [.int (lg_cmp c.toInt64 (Int64.ofNat 0))]) rfl ?_
          refine Go_brF rfl rfl rfl (lgF_lt (by first | omega | (simp only [cs_1, Int32.toInt_toInt64]; omega))) ?_
          refine Go_Ps 3 (pc' := 10) (lv' := [(0, .long c.toInt64), (2, .long (Int64.ofNat 0)), (4, .long ((0 : Int32) - (Int32.ofInt 1)).toInt64)]) (st' := [.int (lg_cmp c.toInt64 (((0 : Int32) - (Int32.ofInt 1)).toInt64))]) rfl ?_
          refine Go_brT rfl rfl rfl (lgT_gt (by first | omega | (simp only [cs_4, Int32.toInt_toInt64]; omega))) ?_
          refine Go_Ps 1 (pc' := 18) (lv' := [(0, .long c.toInt64), (2, .long (Int64.ofNat 0)), (4, .long ((0 : Int32) - (Int32.ofInt 1)).toInt64)]) (st' := [.int (Int32.ofInt 0)]) rfl ?_
          exact Go_ret rfl rfl rfl
        exact Go_ret rfl rfl rfl
      refine Go_Ps 2 (pc' := 29) (lv' := [(0, .ref 159), (1, .int a), (2, .int b), (3, .int c), (4, .int d)]) (st' := [.int ((Int8.ofInt (-2)).toInt32)]) rfl ?_
      exact Go_ret rfl rfl rfl
set_option maxHeartbeats 4000000 in
set_option maxRecDepth 100000 in
/-- count -/
theorem op_58 (a : Int32) : Both mr_101 mr_197 [.int a] h0 := by
  rcases (show a.toInt < 0 ∨ a.toInt = 0 ∨ a.toInt = 1 ∨ a.toInt = 2 ∨ a.toInt = 3 ∨ a.toInt = 4 ∨ a.toInt = 5 ∨ a.toInt = 6 ∨ a.toInt = 7 ∨ a.toInt = 8 ∨ a.toInt = 9 ∨ 9 < a.toInt by omega) with hd | hd | hd | hd | hd | hd | hd | hd | hd | hd | hd | hd
  · refine ⟨(-1), h0, h0, h0_len, h0_slo, h0_rcv, ?_, ?_⟩
    · refine Go_Ps 1 (pc' := 1) (lv' := [(0, .ref 0), (1, .int a)]) (st' := [.int a]) rfl ?_
      refine Go_swO (t := 136) rfl (by omega) (by decide) ?_
      refine Go_Ps 1 (pc' := 137) (lv' := [(0, .ref 0), (1, .int a)]) (st' := [.int (Int32.ofInt (-1))]) rfl ?_
      exact Go_ret rfl rfl rfl
    · refine Go_Ps 3 (pc' := 3) (lv' := [(2, .int (Int32.ofInt 0)), (0, .ref 159), (1, .int a)]) (st' := [.int a]) rfl ?_
      refine Go_swO (t := 152) rfl (by omega) (by decide) ?_
      refine Go_Ps 1 (pc' := 153) (lv' := [(2, .int (Int32.ofInt 0)), (0, .ref 159), (1, .int a)]) (st' := [.int (Int32.ofInt (-1))]) rfl ?_
      exact Go_ret rfl rfl rfl
  · obtain rfl : a = 0 := Int32.toInt_inj.mp (by rw [show (0 : Int32).toInt = 0 from by decide]; omega)
    exact clo_58_0
  · obtain rfl : a = 1 := Int32.toInt_inj.mp (by rw [show (1 : Int32).toInt = 1 from by decide]; omega)
    exact clo_58_1
  · obtain rfl : a = 2 := Int32.toInt_inj.mp (by rw [show (2 : Int32).toInt = 2 from by decide]; omega)
    exact clo_58_2
  · obtain rfl : a = 3 := Int32.toInt_inj.mp (by rw [show (3 : Int32).toInt = 3 from by decide]; omega)
    exact clo_58_3
  · obtain rfl : a = 4 := Int32.toInt_inj.mp (by rw [show (4 : Int32).toInt = 4 from by decide]; omega)
    exact clo_58_4
  · obtain rfl : a = 5 := Int32.toInt_inj.mp (by rw [show (5 : Int32).toInt = 5 from by decide]; omega)
    exact clo_58_5
  · obtain rfl : a = 6 := Int32.toInt_inj.mp (by rw [show (6 : Int32).toInt = 6 from by decide]; omega)
    exact clo_58_6
  · obtain rfl : a = 7 := Int32.toInt_inj.mp (by rw [show (7 : Int32).toInt = 7 from by decide]; omega)
    exact clo_58_7
  · obtain rfl : a = 8 := Int32.toInt_inj.mp (by rw [show (8 : Int32).toInt = 8 from by decide]; omega)
    exact clo_58_8
  · obtain rfl : a = 9 := Int32.toInt_inj.mp (by rw [show (9 : Int32).toInt = 9 from by decide]; omega)
    exact clo_58_9
  · refine ⟨(-1), h0, h0, h0_len, h0_slo, h0_rcv, ?_, ?_⟩
    · refine Go_Ps 1 (pc' := 1) (lv' := [(0, .ref 0), (1, .int a)]) (st' := [.int a]) rfl ?_
      refine Go_swO (t := 136) rfl (by omega) (by decide) ?_
      refine Go_Ps 1 (pc' := 137) (lv' := [(0, .ref 0), (1, .int a)]) (st' := [.int (Int32.ofInt (-1))]) rfl ?_
      exact Go_ret rfl rfl rfl
    · refine Go_Ps 3 (pc' := 3) (lv' := [(2, .int (Int32.ofInt 0)), (0, .ref 159), (1, .int a)]) (st' := [.int a]) rfl ?_
      refine Go_swO (t := 152) rfl (by omega) (by decide) ?_
      refine Go_Ps 1 (pc' := 153) (lv' := [(2, .int (Int32.ofInt 0)), (0, .ref 159), (1, .int a)]) (st' := [.int (Int32.ofInt (-1))]) rfl ?_
      exact Go_ret rfl rfl rfl
set_option maxHeartbeats 4000000 in
set_option maxRecDepth 100000 in
/-- image -/
theorem op_59 (a : Int32) : Both mr_133 mr_239 [.int a] h0 := by
  rcases (show a.toInt < 0 ∨ a.toInt = 0 ∨ a.toInt = 1 ∨ a.toInt = 2 ∨ 2 < a.toInt by omega) with hd | hd | hd | hd | hd
  · refine ⟨(-2), h0, h0, h0_len, h0_slo, h0_rcv, ?_, ?_⟩
    · refine Go_Ps 1 (pc' := 1) (lv' := [(0, .ref 0), (1, .int a)]) (st' := [.int a]) rfl ?_
      refine Go_brT rfl rfl rfl (iT_lt (by first | omega | (simp only [cs_0]; omega))) ?_
      refine Go_Ps 1 (pc' := 11) (lv' := [(0, .ref 0), (1, .int a)]) (st' := [.int ((Int8.ofInt (-2)).toInt32)]) rfl ?_
      exact Go_ret rfl rfl rfl
    · refine Go_Ps 4 (pc' := 6) (lv' := [(0, .ref 159), (1, .int a)]) (st' := [.long (2 : Int64), .long (Int64.ofNat 0), .long a.toInt64]) rfl ?_
      refine Go_call (v1 := (some (.int (Int32.ofInt 0)))) (h1 := h0) (vs := [.long a.toInt64, .long (Int64.ofNat 0), .long (2 : Int64)]) (r := []) rfl rfl rfl rfl (by decide) rfl rfl rfl rfl ?_ ?_
      · refine Go_Ps 3 (pc' := 3) (lv' := [(0, .long a.toInt64), (2, .long (Int64.ofNat 0)), (4, .long (2 : Int64))]) (st' := [.int (lg_cmp a.toInt64 (Int64.ofNat 0))]) rfl ?_
        refine Go_brT rfl rfl rfl (lgT_lt (by first | omega | (simp only [cs_1, Int32.toInt_toInt64]; omega))) ?_
        refine Go_Ps 1 (pc' := 18) (lv' := [(0, .long a.toInt64), (2, .long (Int64.ofNat 0)), (4, .long (2 : Int64))]) (st' := [.int (Int32.ofInt 0)]) rfl ?_
        exact Go_ret rfl rfl rfl
      refine Go_Ps 2 (pc' := 14) (lv' := [(0, .ref 159), (1, .int a)]) (st' := [.int ((Int8.ofInt (-2)).toInt32)]) rfl ?_
      exact Go_ret rfl rfl rfl
  · obtain rfl : a = 0 := Int32.toInt_inj.mp (by rw [show (0 : Int32).toInt = 0 from by decide]; omega)
    exact clo_59_0
  · obtain rfl : a = 1 := Int32.toInt_inj.mp (by rw [show (1 : Int32).toInt = 1 from by decide]; omega)
    exact clo_59_1
  · obtain rfl : a = 2 := Int32.toInt_inj.mp (by rw [show (2 : Int32).toInt = 2 from by decide]; omega)
    exact clo_59_2
  · refine ⟨(-2), h0, h0, h0_len, h0_slo, h0_rcv, ?_, ?_⟩
    · refine Go_Ps 1 (pc' := 1) (lv' := [(0, .ref 0), (1, .int a)]) (st' := [.int a]) rfl ?_
      refine Go_brF rfl rfl rfl (iF_lt (by first | omega | (simp only [cs_0]; omega))) ?_
      refine Go_Ps 2 (pc' := 6) (lv' := [(0, .ref 0), (1, .int a)]) (st' := [.int (Int32.ofInt 3), .int a]) rfl ?_
      refine Go_brF rfl rfl rfl (iF_lt (by first | omega | (simp only [cs_6]; omega))) ?_
      refine Go_Ps 1 (pc' := 11) (lv' := [(0, .ref 0), (1, .int a)]) (st' := [.int ((Int8.ofInt (-2)).toInt32)]) rfl ?_
      exact Go_ret rfl rfl rfl
    · refine Go_Ps 4 (pc' := 6) (lv' := [(0, .ref 159), (1, .int a)]) (st' := [.long (2 : Int64), .long (Int64.ofNat 0), .long a.toInt64]) rfl ?_
      refine Go_call (v1 := (some (.int (Int32.ofInt 0)))) (h1 := h0) (vs := [.long a.toInt64, .long (Int64.ofNat 0), .long (2 : Int64)]) (r := []) rfl rfl rfl rfl (by decide) rfl rfl rfl rfl ?_ ?_
      · refine Go_Ps 3 (pc' := 3) (lv' := [(0, .long a.toInt64), (2, .long (Int64.ofNat 0)), (4, .long (2 : Int64))]) (st' := [.int (lg_cmp a.toInt64 (Int64.ofNat 0))]) rfl ?_
        refine Go_brF rfl rfl rfl (lgF_lt (by first | omega | (simp only [cs_1, Int32.toInt_toInt64]; omega))) ?_
        refine Go_Ps 3 (pc' := 10) (lv' := [(0, .long a.toInt64), (2, .long (Int64.ofNat 0)), (4, .long (2 : Int64))]) (st' := [.int (lg_cmp a.toInt64 (2 : Int64))]) rfl ?_
        refine Go_brT rfl rfl rfl (lgT_gt (by first | omega | (simp only [cs_7, Int32.toInt_toInt64]; omega))) ?_
        refine Go_Ps 1 (pc' := 18) (lv' := [(0, .long a.toInt64), (2, .long (Int64.ofNat 0)), (4, .long (2 : Int64))]) (st' := [.int (Int32.ofInt 0)]) rfl ?_
        exact Go_ret rfl rfl rfl
      refine Go_Ps 2 (pc' := 14) (lv' := [(0, .ref 159), (1, .int a)]) (st' := [.int ((Int8.ofInt (-2)).toInt32)]) rfl ?_
      exact Go_ret rfl rfl rfl
set_option maxHeartbeats 4000000 in
set_option maxRecDepth 100000 in
/-- back -/
theorem op_60 (a : Int32) : Both mr_96 mr_190 [.int a] h0 := by
  rcases (show a.toInt < 0 ∨ a.toInt = 0 ∨ a.toInt = 1 ∨ a.toInt = 2 ∨ 2 < a.toInt by omega) with hd | hd | hd | hd | hd
  · refine ⟨(-2), h0, h0, h0_len, h0_slo, h0_rcv, ?_, ?_⟩
    · refine Go_Ps 1 (pc' := 1) (lv' := [(0, .ref 0), (1, .int a)]) (st' := [.int a]) rfl ?_
      refine Go_brT rfl rfl rfl (iT_lt (by first | omega | (simp only [cs_0]; omega))) ?_
      refine Go_Ps 1 (pc' := 11) (lv' := [(0, .ref 0), (1, .int a)]) (st' := [.int ((Int8.ofInt (-2)).toInt32)]) rfl ?_
      exact Go_ret rfl rfl rfl
    · refine Go_Ps 4 (pc' := 6) (lv' := [(0, .ref 159), (1, .int a)]) (st' := [.long (2 : Int64), .long (Int64.ofNat 0), .long a.toInt64]) rfl ?_
      refine Go_call (v1 := (some (.int (Int32.ofInt 0)))) (h1 := h0) (vs := [.long a.toInt64, .long (Int64.ofNat 0), .long (2 : Int64)]) (r := []) rfl rfl rfl rfl (by decide) rfl rfl rfl rfl ?_ ?_
      · refine Go_Ps 3 (pc' := 3) (lv' := [(0, .long a.toInt64), (2, .long (Int64.ofNat 0)), (4, .long (2 : Int64))]) (st' := [.int (lg_cmp a.toInt64 (Int64.ofNat 0))]) rfl ?_
        refine Go_brT rfl rfl rfl (lgT_lt (by first | omega | (simp only [cs_1, Int32.toInt_toInt64]; omega))) ?_
        refine Go_Ps 1 (pc' := 18) (lv' := [(0, .long a.toInt64), (2, .long (Int64.ofNat 0)), (4, .long (2 : Int64))]) (st' := [.int (Int32.ofInt 0)]) rfl ?_
        exact Go_ret rfl rfl rfl
      refine Go_Ps 2 (pc' := 14) (lv' := [(0, .ref 159), (1, .int a)]) (st' := [.int ((Int8.ofInt (-2)).toInt32)]) rfl ?_
      exact Go_ret rfl rfl rfl
  · obtain rfl : a = 0 := Int32.toInt_inj.mp (by rw [show (0 : Int32).toInt = 0 from by decide]; omega)
    exact clo_60_0
  · obtain rfl : a = 1 := Int32.toInt_inj.mp (by rw [show (1 : Int32).toInt = 1 from by decide]; omega)
    exact clo_60_1
  · obtain rfl : a = 2 := Int32.toInt_inj.mp (by rw [show (2 : Int32).toInt = 2 from by decide]; omega)
    exact clo_60_2
  · refine ⟨(-2), h0, h0, h0_len, h0_slo, h0_rcv, ?_, ?_⟩
    · refine Go_Ps 1 (pc' := 1) (lv' := [(0, .ref 0), (1, .int a)]) (st' := [.int a]) rfl ?_
      refine Go_brF rfl rfl rfl (iF_lt (by first | omega | (simp only [cs_0]; omega))) ?_
      refine Go_Ps 2 (pc' := 6) (lv' := [(0, .ref 0), (1, .int a)]) (st' := [.int (Int32.ofInt 3), .int a]) rfl ?_
      refine Go_brF rfl rfl rfl (iF_lt (by first | omega | (simp only [cs_6]; omega))) ?_
      refine Go_Ps 1 (pc' := 11) (lv' := [(0, .ref 0), (1, .int a)]) (st' := [.int ((Int8.ofInt (-2)).toInt32)]) rfl ?_
      exact Go_ret rfl rfl rfl
    · refine Go_Ps 4 (pc' := 6) (lv' := [(0, .ref 159), (1, .int a)]) (st' := [.long (2 : Int64), .long (Int64.ofNat 0), .long a.toInt64]) rfl ?_
      refine Go_call (v1 := (some (.int (Int32.ofInt 0)))) (h1 := h0) (vs := [.long a.toInt64, .long (Int64.ofNat 0), .long (2 : Int64)]) (r := []) rfl rfl rfl rfl (by decide) rfl rfl rfl rfl ?_ ?_
      · refine Go_Ps 3 (pc' := 3) (lv' := [(0, .long a.toInt64), (2, .long (Int64.ofNat 0)), (4, .long (2 : Int64))]) (st' := [.int (lg_cmp a.toInt64 (Int64.ofNat 0))]) rfl ?_
        refine Go_brF rfl rfl rfl (lgF_lt (by first | omega | (simp only [cs_1, Int32.toInt_toInt64]; omega))) ?_
        refine Go_Ps 3 (pc' := 10) (lv' := [(0, .long a.toInt64), (2, .long (Int64.ofNat 0)), (4, .long (2 : Int64))]) (st' := [.int (lg_cmp a.toInt64 (2 : Int64))]) rfl ?_
        refine Go_brT rfl rfl rfl (lgT_gt (by first | omega | (simp only [cs_7, Int32.toInt_toInt64]; omega))) ?_
        refine Go_Ps 1 (pc' := 18) (lv' := [(0, .long a.toInt64), (2, .long (Int64.ofNat 0)), (4, .long (2 : Int64))]) (st' := [.int (Int32.ofInt 0)]) rfl ?_
        exact Go_ret rfl rfl rfl
      refine Go_Ps 2 (pc' := 14) (lv' := [(0, .ref 159), (1, .int a)]) (st' := [.int ((Int8.ofInt (-2)).toInt32)]) rfl ?_
      exact Go_ret rfl rfl rfl
