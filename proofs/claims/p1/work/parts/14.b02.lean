set_option maxHeartbeats 4000000 in
set_option maxRecDepth 100000 in
/-- rules -/
theorem op_13 (a : Int32) : Both mr_158 mr_301 [.int a] h0 := by
  rcases (show a.toInt < 0 ∨ 0 ≤ a.toInt by omega) with hd | hd
  · refine ⟨(-2), h0, h0, h0_len, h0_slo, h0_rcv, ?_, ?_⟩
    · refine Go_Ps 3 (pc' := 5) (lv' := [(0, .ref 0), (1, .int a)]) (st' := [.int a, .ref 18]) rfl ?_
      refine Go_call (v1 := (some (.int (Int32.ofInt 0)))) (h1 := h0) (vs := [.ref 18, .int a]) (r := []) rfl rfl rfl rfl (by decide) rfl rfl rfl rfl ?_ ?_
      · refine Go_Ps 1 (pc' := 1) (lv' := [(0, .ref 18), (1, .int a)]) (st' := [.int a]) rfl ?_
        refine Go_brT rfl rfl rfl (iT_lt (by first | omega | (simp only [cs_0]; omega))) ?_
        refine Go_Ps 1 (pc' := 17) (lv' := [(0, .ref 18), (1, .int a)]) (st' := [.int (Int32.ofInt 0)]) rfl ?_
        exact Go_ret rfl rfl rfl
      refine Go_Ps 2 (pc' := 13) (lv' := [(0, .ref 0), (1, .int a)]) (st' := [.int ((Int8.ofInt (-2)).toInt32)]) rfl ?_
      exact Go_ret rfl rfl rfl
    · refine Go_Ps 2 (pc' := 2) (lv' := [(0, .ref 159), (1, .int a)]) (st' := [.int a, .ref 159]) rfl ?_
      refine Go_call (v1 := (some (.int (Int32.ofInt 0)))) (h1 := h0) (vs := [.ref 159, .int a]) (r := []) rfl rfl rfl rfl (by decide) rfl rfl rfl rfl ?_ ?_
      · refine Go_Ps 10 (pc' := 12) (lv' := [(0, .ref 159), (1, .int a)]) (st' := [.long ((0 : Int32) - (Int32.ofInt 1)).toInt64, .long (Int64.ofNat 0), .long a.toInt64]) rfl ?_
        refine Go_call (v1 := (some (.int (Int32.ofInt 0)))) (h1 := h0) (vs := [.long a.toInt64, .long (Int64.ofNat 0), .long ((0 : Int32) - (Int32.ofInt 1)).toInt64]) (r := []) rfl rfl rfl rfl (by decide) rfl rfl rfl rfl ?_ ?_
        · refine Go_Ps 3 (pc' := 3) (lv' := [(0, .long a.toInt64), (2, .long (Int64.ofNat 0)), (4, .long ((0 : Int32) - (Int32.ofInt 1)).toInt64)]) (st' := [.int (lg_cmp a.toInt64 (Int64.ofNat 0))]) rfl ?_
          refine Go_brT rfl rfl rfl (lgT_lt (by first | omega | (simp only [cs_1, Int32.toInt_toInt64]; omega))) ?_
          refine Go_Ps 1 (pc' := 18) (lv' := [(0, .long a.toInt64), (2, .long (Int64.ofNat 0)), (4, .long ((0 : Int32) - (Int32.ofInt 1)).toInt64)]) (st' := [.int (Int32.ofInt 0)]) rfl ?_
          exact Go_ret rfl rfl rfl
        exact Go_ret rfl rfl rfl
      refine Go_Ps 2 (pc' := 10) (lv' := [(0, .ref 159), (1, .int a)]) (st' := [.int ((Int8.ofInt (-2)).toInt32)]) rfl ?_
      exact Go_ret rfl rfl rfl
  · refine ⟨(-2), h0, h0, h0_len, h0_slo, h0_rcv, ?_, ?_⟩
    · refine Go_Ps 3 (pc' := 5) (lv' := [(0, .ref 0), (1, .int a)]) (st' := [.int a, .ref 18]) rfl ?_
      refine Go_call (v1 := (some (.int (Int32.ofInt 0)))) (h1 := h0) (vs := [.ref 18, .int a]) (r := []) rfl rfl rfl rfl (by decide) rfl rfl rfl rfl ?_ ?_
      · refine Go_Ps 1 (pc' := 1) (lv' := [(0, .ref 18), (1, .int a)]) (st' := [.int a]) rfl ?_
        refine Go_brF rfl rfl rfl (iF_lt (by first | omega | (simp only [cs_0]; omega))) ?_
        refine Go_Ps 3 (pc' := 9) (lv' := [(0, .ref 18), (1, .int a)]) (st' := [.int (0 : Int32), .int a]) rfl ?_
        refine Go_brT rfl rfl rfl (iT_le (by first | omega | (simp only [cs_2]; omega))) ?_
        refine Go_Ps 1 (pc' := 17) (lv' := [(0, .ref 18), (1, .int a)]) (st' := [.int (Int32.ofInt 0)]) rfl ?_
        exact Go_ret rfl rfl rfl
      refine Go_Ps 2 (pc' := 13) (lv' := [(0, .ref 0), (1, .int a)]) (st' := [.int ((Int8.ofInt (-2)).toInt32)]) rfl ?_
      exact Go_ret rfl rfl rfl
    · refine Go_Ps 2 (pc' := 2) (lv' := [(0, .ref 159), (1, .int a)]) (st' := [.int a, .ref 159]) rfl ?_
      refine Go_call (v1 := (some (.int (Int32.ofInt 0)))) (h1 := h0) (vs := [.ref 159, .int a]) (r := []) rfl rfl rfl rfl (by decide) rfl rfl rfl rfl ?_ ?_
      · refine Go_Ps 10 (pc' := 12) (lv' := [(0, .ref 159), (1, .int a)]) (st' := [.long ((0 : Int32) - (Int32.ofInt 1)).toInt64, .long (Int64.ofNat 0), .long a.toInt64]) rfl ?_
        refine Go_call (v1 := (some (.int (Int32.ofInt 0)))) (h1 := h0) (vs := [.long a.toInt64, .long (Int64.ofNat 0), .long ((0 : Int32) - (Int32.ofInt 1)).toInt64]) (r := []) rfl rfl rfl rfl (by decide) rfl rfl rfl rfl ?_ ?_
        · refine Go_Ps 3 (pc' := 3) (lv' := [(0, .long a.toInt64), (2, .long (Int64.ofNat 0)), (4, .long ((0 : Int32) - (Int32.ofInt 1)).toInt64)]) (st' := [.int (lg_cmp a.toInt64 (Int64.ofNat 0))]) rfl ?_
          refine Go_brF rfl rfl rfl (lgF_lt (by first | omega | (simp only [cs_1, Int32.toInt_toInt64]; omega))) ?_
          refine Go_Ps 3 (pc' := 10) (lv' := [(0, .long a.toInt64), (2, .long (Int64.ofNat 0)), (4, .long ((0 : Int32) - (Int32.ofInt 1)).toInt64)]) (st' := [.int (lg_cmp a.toInt64 (((0 : Int32) - (Int32.ofInt 1)).toInt64))]) rfl ?_
          refine Go_brT rfl rfl rfl (lgT_gt (by first | omega | (simp only [cs_4, Int32.toInt_toInt64]; omega))) ?_
          refine Go_Ps 1 (pc' := 18) (lv' := [(0, .long a.toInt64), (2, .long (Int64.ofNat 0)), (4, .long ((0 : Int32) - (Int32.ofInt 1)).toInt64)]) (st' := [.int (Int32.ofInt 0)]) rfl ?_
          exact Go_ret rfl rfl rfl
        exact Go_ret rfl rfl rfl
      refine Go_Ps 2 (pc' := 10) (lv' := [(0, .ref 159), (1, .int a)]) (st' := [.int ((Int8.ofInt (-2)).toInt32)]) rfl ?_
      exact Go_ret rfl rfl rfl
set_option maxHeartbeats 4000000 in
set_option maxRecDepth 100000 in
/-- does -/
theorem op_14 (a : Int32) (b : Int32) : Both mr_104 mr_207 [.int a, .int b] h0 := by
  rcases (show a.toInt < 0 ∨ 0 ≤ a.toInt by omega) with hd | hd
  · refine ⟨(-2), h0, h0, h0_len, h0_slo, h0_rcv, ?_, ?_⟩
    · refine Go_Ps 4 (pc' := 6) (lv' := [(0, .ref 0), (1, .int a), (2, .int b)]) (st' := [.int b, .int a, .ref 18]) rfl ?_
      refine Go_call (v1 := (some (.int (Int32.ofInt 0)))) (h1 := h0) (vs := [.ref 18, .int a, .int b]) (r := []) rfl rfl rfl rfl (by decide) rfl rfl rfl rfl ?_ ?_
      · refine Go_Ps 2 (pc' := 2) (lv' := [(0, .ref 18), (1, .int a), (2, .int b)]) (st' := [.int a, .ref 18]) rfl ?_
        refine Go_call (v1 := (some (.int (Int32.ofInt 0)))) (h1 := h0) (vs := [.ref 18, .int a]) (r := []) rfl rfl rfl rfl (by decide) rfl rfl rfl rfl ?_ ?_
        · refine Go_Ps 1 (pc' := 1) (lv' := [(0, .ref 18), (1, .int a)]) (st' := [.ref 18]) rfl ?_
          refine Go_call (v1 := (some (.int (Int32.ofInt 0)))) (h1 := h0) (vs := [.ref 18]) (r := []) rfl rfl rfl rfl (by decide) rfl rfl rfl rfl ?_ ?_
          · refine Go_Ps 4 (pc' := 12) (lv' := [(0, .ref 18)]) (st' := [.int (Int32.ofInt 0)]) rfl ?_
            exact Go_ret rfl rfl rfl
          refine Go_Ps 2 (pc' := 24) (lv' := [(0, .ref 18), (1, .int a)]) (st' := [.int (Int32.ofInt 0)]) rfl ?_
          exact Go_ret rfl rfl rfl
        refine Go_Ps 2 (pc' := 21) (lv' := [(0, .ref 18), (1, .int a), (2, .int b)]) (st' := [.int (Int32.ofInt 0)]) rfl ?_
        exact Go_ret rfl rfl rfl
      refine Go_Ps 2 (pc' := 26) (lv' := [(0, .ref 0), (1, .int a), (2, .int b)]) (st' := [.int ((Int8.ofInt (-2)).toInt32)]) rfl ?_
      exact Go_ret rfl rfl rfl
    · refine Go_Ps 3 (pc' := 3) (lv' := [(0, .ref 159), (1, .int a), (2, .int b)]) (st' := [.int b, .int a, .ref 159]) rfl ?_
      refine Go_call (v1 := (some (.int (Int32.ofInt 0)))) (h1 := h0) (vs := [.ref 159, .int a, .int b]) (r := []) rfl rfl rfl rfl (by decide) rfl rfl rfl rfl ?_ ?_
      · refine Go_Ps 3 (pc' := 3) (lv' := [(0, .ref 159), (1, .int a), (2, .int b)]) (st' := [.long a.toInt64, .ref 159]) rfl ?_
        refine Go_call (v1 := (some (.int (Int32.ofInt 0)))) (h1 := h0) (vs := [.ref 159, .long a.toInt64]) (r := []) rfl rfl rfl rfl (by decide) rfl rfl rfl rfl ?_ ?_
        · refine Go_Ps 3 (pc' := 3) (lv' := [(0, .ref 159), (1, .long a.toInt64)]) (st' := [.ref 159, .long (Int64.ofNat 0), .long a.toInt64]) rfl ?_
          refine Go_call (v1 := (some (.int (Int32.ofInt 0)))) (h1 := h0) (vs := [.ref 159]) (r := [.long (Int64.ofNat 0), .long a.toInt64]) rfl rfl rfl rfl (by decide) rfl rfl rfl rfl ?_ ?_
          · refine Go_Ps 1 (pc' := 1) (lv' := [(0, .ref 159)]) (st' := [.ref 159]) rfl ?_
            refine Go_call (v1 := (some (.int (Int32.ofInt 0)))) (h1 := h0) (vs := [.ref 159]) (r := []) rfl rfl rfl rfl (by decide) rfl rfl rfl rfl ?_ ?_
            · refine Go_Ps 6 (pc' := 15) (lv' := [(0, .ref 159)]) (st' := [.int (Int32.ofInt 0)]) rfl ?_
              exact Go_ret rfl rfl rfl
            refine Go_Ps 2 (pc' := 19) (lv' := [(0, .ref 159)]) (st' := [.int (Int32.ofInt 0)]) rfl ?_
            exact Go_ret rfl rfl rfl
          refine Go_Ps 3 (pc' := 9) (lv' := [(0, .ref 159), (1, .long a.toInt64)]) (st' := [.long ((Int32.ofInt 0) - (Int32.ofInt 1)).toInt64, .long (Int64.ofNat 0), .long a.toInt64]) rfl ?_
          refine Go_call (v1 := (some (.int (Int32.ofInt 0)))) (h1 := h0) (vs := [.long a.toInt64, .long (Int64.ofNat 0), .long ((Int32.ofInt 0) - (Int32.ofInt 1)).toInt64]) (r := []) rfl rfl rfl rfl (by decide) rfl rfl rfl rfl ?_ ?_
          · refine Go_Ps 3 (pc' := 3) (lv' := [(0, .long a.toInt64), (2, .long (Int64.ofNat 0)), (4, .long ((Int32.ofInt 0) - (Int32.ofInt 1)).toInt64)]) (st' := [.int (lg_cmp a.toInt64 (Int64.ofNat 0))]) rfl ?_
            refine Go_brT rfl rfl rfl (lgT_lt (by first | omega | (simp only [cs_1, Int32.toInt_toInt64]; omega))) ?_
            refine Go_Ps 1 (pc' := 18) (lv' := [(0, .long a.toInt64), (2, .long (Int64.ofNat 0)), (4, .long ((Int32.ofInt 0) - (Int32.ofInt 1)).toInt64)]) (st' := [.int (Int32.ofInt 0)]) rfl ?_
            exact Go_ret rfl rfl rfl
          exact Go_ret rfl rfl rfl
        refine Go_Ps 2 (pc' := 31) (lv' := [(0, .ref 159), (1, .int a), (2, .int b)]) (st' := [.int (Int32.ofInt 0)]) rfl ?_
        exact Go_ret rfl rfl rfl
      refine Go_Ps 2 (pc' := 20) (lv' := [(0, .ref 159), (1, .int a), (2, .int b)]) (st' := [.int ((Int8.ofInt (-2)).toInt32)]) rfl ?_
      exact Go_ret rfl rfl rfl
  · refine ⟨(-2), h0, h0, h0_len, h0_slo, h0_rcv, ?_, ?_⟩
    · refine Go_Ps 4 (pc' := 6) (lv' := [(0, .ref 0), (1, .int a), (2, .int b)]) (st' := [.int b, .int a, .ref 18]) rfl ?_
      refine Go_call (v1 := (some (.int (Int32.ofInt 0)))) (h1 := h0) (vs := [.ref 18, .int a, .int b]) (r := []) rfl rfl rfl rfl (by decide) rfl rfl rfl rfl ?_ ?_
      · refine Go_Ps 2 (pc' := 2) (lv' := [(0, .ref 18), (1, .int a), (2, .int b)]) (st' := [.int a, .ref 18]) rfl ?_
        refine Go_call (v1 := (some (.int (Int32.ofInt 0)))) (h1 := h0) (vs := [.ref 18, .int a]) (r := []) rfl rfl rfl rfl (by decide) rfl rfl rfl rfl ?_ ?_
        · refine Go_Ps 1 (pc' := 1) (lv' := [(0, .ref 18), (1, .int a)]) (st' := [.ref 18]) rfl ?_
          refine Go_call (v1 := (some (.int (Int32.ofInt 0)))) (h1 := h0) (vs := [.ref 18]) (r := []) rfl rfl rfl rfl (by decide) rfl rfl rfl rfl ?_ ?_
          · refine Go_Ps 4 (pc' := 12) (lv' := [(0, .ref 18)]) (st' := [.int (Int32.ofInt 0)]) rfl ?_
            exact Go_ret rfl rfl rfl
          refine Go_Ps 2 (pc' := 24) (lv' := [(0, .ref 18), (1, .int a)]) (st' := [.int (Int32.ofInt 0)]) rfl ?_
          exact Go_ret rfl rfl rfl
        refine Go_Ps 2 (pc' := 21) (lv' := [(0, .ref 18), (1, .int a), (2, .int b)]) (st' := [.int (Int32.ofInt 0)]) rfl ?_
        exact Go_ret rfl rfl rfl
      refine Go_Ps 2 (pc' := 26) (lv' := [(0, .ref 0), (1, .int a), (2, .int b)]) (st' := [.int ((Int8.ofInt (-2)).toInt32)]) rfl ?_
      exact Go_ret rfl rfl rfl
    · refine Go_Ps 3 (pc' := 3) (lv' := [(0, .ref 159), (1, .int a), (2, .int b)]) (st' := [.int b, .int a, .ref 159]) rfl ?_
      refine Go_call (v1 := (some (.int (Int32.ofInt 0)))) (h1 := h0) (vs := [.ref 159, .int a, .int b]) (r := []) rfl rfl rfl rfl (by decide) rfl rfl rfl rfl ?_ ?_
      · refine Go_Ps 3 (pc' := 3) (lv' := [(0, .ref 159), (1, .int a), (2, .int b)]) (st' := [.long a.toInt64, .ref 159]) rfl ?_
        refine Go_call (v1 := (some (.int (Int32.ofInt 0)))) (h1 := h0) (vs := [.ref 159, .long a.toInt64]) (r := []) rfl rfl rfl rfl (by decide) rfl rfl rfl rfl ?_ ?_
        · refine Go_Ps 3 (pc' := 3) (lv' := [(0, .ref 159), (1, .long a.toInt64)]) (st' := [.ref 159, .long (Int64.ofNat 0), .long a.toInt64]) rfl ?_
          refine Go_call (v1 := (some (.int (Int32.ofInt 0)))) (h1 := h0) (vs := [.ref 159]) (r := [.long (Int64.ofNat 0), .long a.toInt64]) rfl rfl rfl rfl (by decide) rfl rfl rfl rfl ?_ ?_
          · refine Go_Ps 1 (pc' := 1) (lv' := [(0, .ref 159)]) (st' := [.ref 159]) rfl ?_
            refine Go_call (v1 := (some (.int (Int32.ofInt 0)))) (h1 := h0) (vs := [.ref 159]) (r := []) rfl rfl rfl rfl (by decide) rfl rfl rfl rfl ?_ ?_
            · refine Go_Ps 6 (pc' := 15) (lv' := [(0, .ref 159)]) (st' := [.int (Int32.ofInt 0)]) rfl ?_
              exact Go_ret rfl rfl rfl
            refine Go_Ps 2 (pc' := 19) (lv' := [(0, .ref 159)]) (st' := [.int (Int32.ofInt 0)]) rfl ?_
            exact Go_ret rfl rfl rfl
          refine Go_Ps 3 (pc' := 9) (lv' := [(0, .ref 159), (1, .long a.toInt64)]) (st' := [.long ((Int32.ofInt 0) - (Int32.ofInt 1)).toInt64, .long (Int64.ofNat 0), .long a.toInt64]) rfl ?_
          refine Go_call (v1 := (some (.int (Int32.ofInt 0)))) (h1 := h0) (vs := [.long a.toInt64, .long (Int64.ofNat 0), .long ((Int32.ofInt 0) - (Int32.ofInt 1)).toInt64]) (r := []) rfl rfl rfl rfl (by decide) rfl rfl rfl rfl ?_ ?_
          · refine Go_Ps 3 (pc' := 3) (lv' := [(0, .long a.toInt64), (2, .long (Int64.ofNat 0)), (4, .long ((Int32.ofInt 0) - (Int32.ofInt 1)).toInt64)]) (st' := [.int (lg_cmp a.toInt64 (Int64.ofNat 0))]) rfl ?_
            refine Go_brF rfl rfl rfl (lgF_lt (by first | omega | (simp only [cs_1, Int32.toInt_toInt64]; omega))) ?_
            refine Go_Ps 3 (pc' := 10) (lv' := [(0, .long a.toInt64), (2, .long (Int64.ofNat 0)), (4, .long ((Int32.ofInt 0) - (Int32.ofInt 1)).toInt64)]) (st' := [.int (lg_cmp a.toInt64 (((Int32.ofInt 0) - (Int32.ofInt 1)).toInt64))]) rfl ?_
            refine Go_brT rfl rfl rfl (lgT_gt (by first | omega | (simp only [cs_5, Int32.toInt_toInt64]; omega))) ?_
            refine Go_Ps 1 (pc' := 18) (lv' := [(0, .long a.toInt64), (2, .long (Int64.ofNat 0)), (4, .long ((Int32.ofInt 0) - (Int32.ofInt 1)).toInt64)]) (st' := [.int (Int32.ofInt 0)]) rfl ?_
            exact Go_ret rfl rfl rfl
          exact Go_ret rfl rfl rfl
        refine Go_Ps 2 (pc' := 31) (lv' := [(0, .ref 159), (1, .int a), (2, .int b)]) (st' := [.int (Int32.ofInt 0)]) rfl ?_
        exact Go_ret rfl rfl rfl
      refine Go_Ps 2 (pc' := 20) (lv' := [(0, .ref 159), (1, .int a), (2, .int b)]) (st' := [.int ((Int8.ofInt (-2)).toInt32)]) rfl ?_
      exact Go_ret rfl rfl rfl
set_option maxHeartbeats 4000000 in
set_option maxRecDepth 100000 in
/-- told -/
theorem op_15 (a : Int32) (b : Int32) : Both mr_167 mr_315 [.int a, .int b] h0 := by
  refine ⟨(-2), h0, h0, h0_len, h0_slo, h0_rcv, ?_, ?_⟩
  · refine Go_Ps 3 (pc' := 5) (lv' := [(0, .ref 0), (1, .int a), (2, .int b)]) (st' := [.int a, .ref 18]) rfl ?_
    refine Go_call (v1 := (some (.int (Int32.ofInt 0)))) (h1 := h0) (vs := [.ref 18, .int a]) (r := []) rfl rfl rfl rfl (by decide) rfl rfl rfl rfl ?_ ?_
    · refine Go_Ps 1 (pc' := 1) (lv' := [(0, .ref 18), (1, .int a)]) (st' := [.ref 18]) rfl ?_
      refine Go_call (v1 := (some (.int (Int32.ofInt 0)))) (h1 := h0) (vs := [.ref 18]) (r := []) rfl rfl rfl rfl (by decide) rfl rfl rfl rfl ?_ ?_
      · refine Go_Ps 4 (pc' := 12) (lv' := [(0, .ref 18)]) (st' := [.int (Int32.ofInt 0)]) rfl ?_
        exact Go_ret rfl rfl rfl
      refine Go_Ps 2 (pc' := 26) (lv' := [(0, .ref 18), (1, .int a)]) (st' := [.int (Int32.ofInt 0)]) rfl ?_
      exact Go_ret rfl rfl rfl
    refine Go_Ps 2 (pc' := 20) (lv' := [(0, .ref 0), (1, .int a), (2, .int b)]) (st' := [.int ((Int8.ofInt (-2)).toInt32)]) rfl ?_
    exact Go_ret rfl rfl rfl
  · refine Go_Ps 2 (pc' := 2) (lv' := [(0, .ref 159), (1, .int a), (2, .int b)]) (st' := [.int a, .ref 159]) rfl ?_
    refine Go_call (v1 := (some (.int (Int32.ofInt 0)))) (h1 := h0) (vs := [.ref 159, .int a]) (r := []) rfl rfl rfl rfl (by decide) rfl rfl rfl rfl ?_ ?_
    · refine Go_Ps 1 (pc' := 1) (lv' := [(0, .ref 159), (1, .int a)]) (st' := [.ref 159]) rfl ?_
      refine Go_call (v1 := (some (.int (Int32.ofInt 0)))) (h1 := h0) (vs := [.ref 159]) (r := []) rfl rfl rfl rfl (by decide) rfl rfl rfl rfl ?_ ?_
      · refine Go_Ps 6 (pc' := 15) (lv' := [(0, .ref 159)]) (st' := [.int (Int32.ofInt 0)]) rfl ?_
        exact Go_ret rfl rfl rfl
      refine Go_Ps 2 (pc' := 26) (lv' := [(0, .ref 159), (1, .int a)]) (st' := [.int (Int32.ofInt 0)]) rfl ?_
      exact Go_ret rfl rfl rfl
    refine Go_Ps 2 (pc' := 20) (lv' := [(0, .ref 159), (1, .int a), (2, .int b)]) (st' := [.int ((Int8.ofInt (-2)).toInt32)]) rfl ?_
    exact Go_ret rfl rfl rfl
set_option maxHeartbeats 4000000 in
set_option maxRecDepth 100000 in
/-- marks -/
theorem op_16 (a : Int32) : Both mr_146 mr_273 [.int a] h0 := by
  rcases (show a.toInt < 0 ∨ 0 ≤ a.toInt by omega) with hd | hd
  · refine ⟨(-2), h0, h0, h0_len, h0_slo, h0_rcv, ?_, ?_⟩
    · refine Go_Ps 3 (pc' := 5) (lv' := [(0, .ref 0), (1, .int a)]) (st' := [.int a, .ref 18]) rfl ?_
      refine Go_call (v1 := (some (.int (Int32.ofInt 0)))) (h1 := h0) (vs := [.ref 18, .int a]) (r := []) rfl rfl rfl rfl (by decide) rfl rfl rfl rfl ?_ ?_
      · refine Go_Ps 1 (pc' := 1) (lv' := [(0, .ref 18), (1, .int a)]) (st' := [.int a]) rfl ?_
        refine Go_brT rfl rfl rfl (iT_lt (by first | omega | (simp only [cs_0]; omega))) ?_
        refine Go_Ps 1 (pc' := 17) (lv' := [(0, .ref 18), (1, .int a)]) (st' := [.int (Int32.ofInt 0)]) rfl ?_
        exact Go_ret rfl rfl rfl
      refine Go_Ps 2 (pc' := 25) (lv' := [(0, .ref 0), (1, .int a)]) (st' := [.int ((Int8.ofInt (-2)).toInt32)]) rfl ?_
      exact Go_ret rfl rfl rfl
    · refine Go_Ps 2 (pc' := 2) (lv' := [(0, .ref 159), (1, .int a)]) (st' := [.int a, .ref 159]) rfl ?_
      refine Go_call (v1 := (some (.int (Int32.ofInt 0)))) (h1 := h0) (vs := [.ref 159, .int a]) (r := []) rfl rfl rfl rfl (by decide) rfl rfl rfl rfl ?_ ?_
      · refine Go_Ps 10 (pc' := 12) (lv' := [(0, .ref 159), (1, .int a)]) (st' := [.long ((0 : Int32) - (Int32.ofInt 1)).toInt64, .long (Int64.ofNat 0), .long a.toInt64]) rfl ?_
        refine Go_call (v1 := (some (.int (Int32.ofInt 0)))) (h1 := h0) (vs := [.long a.toInt64, .long (Int64.ofNat 0), .long ((0 : Int32) - (Int32.ofInt 1)).toInt64]) (r := []) rfl rfl rfl rfl (by decide) rfl rfl rfl rfl ?_ ?_
        · refine Go_Ps 3 (pc' := 3) (lv' := [(0, .long a.toInt64), (2, .long (Int64.ofNat 0)), (4, .long ((0 : Int32) - (Int32.ofInt 1)).toInt64)]) (st' := [.int (lg_cmp a.toInt64 (Int64.ofNat 0))]) rfl ?_
          refine Go_brT rfl rfl rfl (lgT_lt (by first | omega | (simp only [cs_1, Int32.toInt_toInt64]; omega))) ?_
          refine Go_Ps 1 (pc' := 18) (lv' := [(0, .long a.toInt64), (2, .long (Int64.ofNat 0)), (4, .long ((0 : Int32) - (Int32.ofInt 1)).toInt64)]) (st' := [.int (Int32.ofInt 0)]) rfl ?_
          exact Go_ret rfl rfl rfl
        exact Go_ret rfl rfl rfl
      refine Go_Ps 2 (pc' := 22) (lv' := [(0, .ref 159), (1, .int a)]) (st' := [.int ((Int8.ofInt (-2)).toInt32)]) rfl ?_
      exact Go_ret rfl rfl rfl
  · refine ⟨(-2), h0, h0, h0_len, h0_slo, h0_rcv, ?_, ?_⟩
    · refine Go_Ps 3 (pc' := 5) (lv' := [(0, .ref 0), (1, .int a)]) (st' := [.int a, .ref 18]) rfl ?_
      refine Go_call (v1 := (some (.int (Int32.ofInt 0)))) (h1 := h0) (vs := [.ref 18, .int a]) (r := []) rfl rfl rfl rfl (by decide) rfl rfl rfl rfl ?_ ?_
      · refine Go_Ps 1 (pc' := 1) (lv' := [(0, .ref 18), (1, .int a)]) (st' := [.int a]) rfl ?_
        refine Go_brF rfl rfl rfl (iF_lt (by first | omega | (simp only [cs_0]; omega))) ?_
        refine Go_Ps 3 (pc' := 9) (lv' := [(0, .ref 18), (1, .int a)]) (st' := [.int (0 : Int32), .int a]) rfl ?_
        refine Go_brT rfl rfl rfl (iT_le (by first | omega | (simp only [cs_2]; omega))) ?_
        refine Go_Ps 1 (pc' := 17) (lv' := [(0, .ref 18), (1, .int a)]) (st' := [.int (Int32.ofInt 0)]) rfl ?_
        exact Go_ret rfl rfl rfl
      refine Go_Ps 2 (pc' := 25) (lv' := [(0, .ref 0), (1, .int a)]) (st' := [.int ((Int8.ofInt (-2)).toInt32)]) rfl ?_
      exact Go_ret rfl rfl rfl
    · refine Go_Ps 2 (pc' := 2) (lv' := [(0, .ref 159), (1, .int a)]) (st' := [.int a, .ref 159]) rfl ?_
      refine Go_call (v1 := (some (.int (Int32.ofInt 0)))) (h1 := h0) (vs := [.ref 159, .int a]) (r := []) rfl rfl rfl rfl (by decide) rfl rfl rfl rfl ?_ ?_
      · refine Go_Ps 10 (pc' := 12) (lv' := [(0, .ref 159), (1, .int a)]) (st' := [.long ((0 : Int32) - (Int32.ofInt 1)).toInt64, .long (Int64.ofNat 0), .long a.toInt64]) rfl ?_
        refine Go_call (v1 := (some (.int (Int32.ofInt 0)))) (h1 := h0) (vs := [.long a.toInt64, .long (Int64.ofNat 0), .long ((0 : Int32) - (Int32.ofInt 1)).toInt64]) (r := []) rfl rfl rfl rfl (by decide) rfl rfl rfl rfl ?_ ?_
        · refine Go_Ps 3 (pc' := 3) (lv' := [(0, .long a.toInt64), (2, .long (Int64.ofNat 0)), (4, .long ((0 : Int32) - (Int32.ofInt 1)).toInt64)]) (st' := [.int (lg_cmp a.toInt64 (Int64.ofNat 0))]) rfl ?_
          refine Go_brF rfl rfl rfl (lgF_lt (by first | omega | (simp only [cs_1, Int32.toInt_toInt64]; omega))) ?_
          refine Go_Ps 3 (pc' := 10) (lv' := [(0, .long a.toInt64), (2, .long (Int64.ofNat 0)), (4, .long ((0 : Int32) - (Int32.ofInt 1)).toInt64)]) (st' := [.int (lg_cmp a.toInt64 (((0 : Int32) - (Int32.ofInt 1)).toInt64))]) rfl ?_
          refine Go_brT rfl rfl rfl (lgT_gt (by first | omega | (simp only [cs_4, Int32.toInt_toInt64]; omega))) ?_
          refine Go_Ps 1 (pc' := 18) (lv' := [(0, .long a.toInt64), (2, .long (Int64.ofNat 0)), (4, .long ((0 : Int32) - (Int32.ofInt 1)).toInt64)]) (st' := [.int (Int32.ofInt 0)]) rfl ?_
          exact Go_ret rfl rfl rfl
        exact Go_ret rfl rfl rfl
      refine Go_Ps 2 (pc' := 22) (lv' := [(0, .ref 159), (1, .int a)]) (st' := [.int ((Int8.ofInt (-2)).toInt32)]) rfl ?_
      exact Go_ret rfl rfl rfl
set_option maxHeartbeats 4000000 in
set_option maxRecDepth 100000 in
/-- wrong -/
theorem op_17 (a : Int32) : Both mr_177 mr_325 [.int a] h0 := by
  rcases (show a.toInt < 0 ∨ 0 ≤ a.toInt by omega) with hd | hd
  · refine ⟨(-2), h0, h0, h0_len, h0_slo, h0_rcv, ?_, ?_⟩
    · refine Go_Ps 3 (pc' := 5) (lv' := [(0, .ref 0), (1, .int a)]) (st' := [.int a, .ref 18]) rfl ?_
      refine Go_call (v1 := (some (.int (Int32.ofInt 0)))) (h1 := h0) (vs := [.ref 18, .int a]) (r := []) rfl rfl rfl rfl (by decide) rfl rfl rfl rfl ?_ ?_
      · refine Go_Ps 1 (pc' := 1) (lv' := [(0, .ref 18), (1, .int a)]) (st' := [.int a]) rfl ?_
        refine Go_brT rfl rfl rfl (iT_lt (by first | omega | (simp only [cs_0]; omega))) ?_
        refine Go_Ps 1 (pc' := 17) (lv' := [(0, .ref 18), (1, .int a)]) (st' := [.int (Int32.ofInt 0)]) rfl ?_
        exact Go_ret rfl rfl rfl
      refine Go_Ps 2 (pc' := 31) (lv' := [(0, .ref 0), (1, .int a)]) (st' := [.int ((Int8.ofInt (-2)).toInt32)]) rfl ?_
      exact Go_ret rfl rfl rfl
    · refine Go_Ps 2 (pc' := 2) (lv' := [(0, .ref 159), (1, .int a)]) (st' := [.int a, .ref 159]) rfl ?_
      refine Go_call (v1 := (some (.int (Int32.ofInt 0)))) (h1 := h0) (vs := [.ref 159, .int a]) (r := []) rfl rfl rfl rfl (by decide) rfl rfl rfl rfl ?_ ?_
      · refine Go_Ps 10 (pc' := 12) (lv' := [(0, .ref 159), (1, .int a)]) (st' := [.long ((0 : Int32) - (Int32.ofInt 1)).toInt64, .long (Int64.ofNat 0), .long a.toInt64]) rfl ?_
        refine Go_call (v1 := (some (.int (Int32.ofInt 0)))) (h1 := h0) (vs := [.long a.toInt64, .long (Int64.ofNat 0), .long ((0 : Int32) - (Int32.ofInt 1)).toInt64]) (r := []) rfl rfl rfl rfl (by decide) rfl rfl rfl rfl ?_ ?_
        · refine Go_Ps 3 (pc' := 3) (lv' := [(0, .long a.toInt64), (2, .long (Int64.ofNat 0)), (4, .long ((0 : Int32) - (Int32.ofInt 1)).toInt64)]) (st' := [.int (lg_cmp a.toInt64 (Int64.ofNat 0))]) rfl ?_
          refine Go_brT rfl rfl rfl (lgT_lt (by first | omega | (simp only [cs_1, Int32.toInt_toInt64]; omega))) ?_
          refine Go_Ps 1 (pc' := 18) (lv' := [(0, .long a.toInt64), (2, .long (Int64.ofNat 0)), (4, .long ((0 : Int32) - (Int32.ofInt 1)).toInt64)]) (st' := [.int (Int32.ofInt 0)]) rfl ?_
          exact Go_ret rfl rfl rfl
        exact Go_ret rfl rfl rfl
      refine Go_Ps 2 (pc' := 10) (lv' := [(0, .ref 159), (1, .int a)]) (st' := [.int ((Int8.ofInt (-2)).toInt32)]) rfl ?_
      exact Go_ret rfl rfl rfl
  · refine ⟨(-2), h0, h0, h0_len, h0_slo, h0_rcv, ?_, ?_⟩
    · refine Go_Ps 3 (pc' := 5) (lv' := [(0, .ref 0), (1, .int a)]) (st' := [.int a, .ref 18]) rfl ?_
      refine Go_call (v1 := (some (.int (Int32.ofInt 0)))) (h1 := h0) (vs := [.ref 18, .int a]) (r := []) rfl rfl rfl rfl (by decide) rfl rfl rfl rfl ?_ ?_
      · refine Go_Ps 1 (pc' := 1) (lv' := [(0, .ref 18), (1, .int a)]) (st' := [.int a]) rfl ?_
        refine Go_brF rfl rfl rfl (iF_lt (by first | omega | (simp only [cs_0]; omega))) ?_
        refine Go_Ps 3 (pc' := 9) (lv' := [(0, .ref 18), (1, .int a)]) (st' := [.int (0 : Int32), .int a]) rfl ?_
        refine Go_brT rfl rfl rfl (iT_le (by first | omega | (simp only [cs_2]; omega))) ?_
        refine Go_Ps 1 (pc' := 17) (lv' := [(0, .ref 18), (1, .int a)]) (st' := [.int (Int32.ofInt 0)]) rfl ?_
        exact Go_ret rfl rfl rfl
      refine Go_Ps 2 (pc' := 31) (lv' := [(0, .ref 0), (1, .int a)]) (st' := [.int ((Int8.ofInt (-2)).toInt32)]) rfl ?_
      exact Go_ret rfl rfl rfl
    · refine Go_Ps 2 (pc' := 2) (lv' := [(0, .ref 159), (1, .int a)]) (st' := [.int a, .ref 159]) rfl ?_
      refine Go_call (v1 := (some (.int (Int32.ofInt 0)))) (h1 := h0) (vs := [.ref 159, .int a]) (r := []) rfl rfl rfl rfl (by decide) rfl rfl rfl rfl ?_ ?_
      · refine Go_Ps 10 (pc' := 12) (lv' := [(0, .ref 159), (1, .int a)]) (st' := [.long ((0 : Int32) - (Int32.ofInt 1)).toInt64, .long (Int64.ofNat 0), .long a.toInt64]) rfl ?_
        refine Go_call (v1 := (some (.int (Int32.ofInt 0)))) (h1 := h0) (vs := [.long a.toInt64, .long (Int64.ofNat 0), .long ((0 : Int32) - (Int32.ofInt 1)).toInt64]) (r := []) rfl rfl rfl rfl (by decide) rfl rfl rfl rfl ?_ ?_
        · refine Go_Ps 3 (pc' := 3) (lv' := [(0, .long a.toInt64), (2, .long (Int64.ofNat 0)), (4, .long ((0 : Int32) - (Int32.ofInt 1)).toInt64)]) (st' := [.int (lg_cmp a.toInt64 (Int64.ofNat 0))]) rfl ?_
          refine Go_brF rfl rfl rfl (lgF_lt (by first | omega | (simp only [cs_1, Int32.toInt_toInt64]; omega))) ?_
          refine Go_Ps 3 (pc' := 10) (lv' := [(0, .long a.toInt64), (2, .long (Int64.ofNat 0)), (4, .long ((0 : Int32) - (Int32.ofInt 1)).toInt64)]) (st' := [.int (lg_cmp a.toInt64 (((0 : Int32) - (Int32.ofInt 1)).toInt64))]) rfl ?_
          refine Go_brT rfl rfl rfl (lgT_gt (by first | omega | (simp only [cs_4, Int32.toInt_toInt64]; omega))) ?_
          refine Go_Ps 1 (pc' := 18) (lv' := [(0, .long a.toInt64), (2, .long (Int64.ofNat 0)), (4, .long ((0 : Int32) - (Int32.ofInt 1)).toInt64)]) (st' := [.int (Int32.ofInt 0)]) rfl ?_
          exact Go_ret rfl rfl rfl
        exact Go_ret rfl rfl rfl
      refine Go_Ps 2 (pc' := 10) (lv' := [(0, .ref 159), (1, .int a)]) (st' := [.int ((Int8.ofInt (-2)).toInt32)]) rfl ?_
      exact Go_ret rfl rfl rfl
set_option maxHeartbeats 4000000 in
set_option maxRecDepth 100000 in
/-- best -/
theorem op_18  : Both mr_98 mr_192 [] h0 := by
  exact clo_18
