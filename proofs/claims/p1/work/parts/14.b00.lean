set_option maxHeartbeats 4000000 in
set_option maxRecDepth 100000 in
/-- end -/
theorem op_1 (a : Int32) : Both mr_109 mr_212 [.int a] h0 := by
  rcases (show a.toInt < 0 ∨ a.toInt = 0 ∨ 0 < a.toInt by omega) with hd | hd | hd
  · refine ⟨(-1), h0, h0, h0_len, h0_slo, h0_rcv, ?_, ?_⟩
    · refine Go_Ps 1 (pc' := 1) (lv' := [(0, .ref 0), (1, .int a)]) (st' := [.int a]) rfl ?_
      refine Go_brT rfl rfl rfl (iT_lt (by first | omega | (simp only [cs_0]; omega))) ?_
      refine Go_Ps 1 (pc' := 16) (lv' := [(0, .ref 0), (1, .int a)]) (st' := [.int (Int32.ofInt (-1))]) rfl ?_
      exact Go_ret rfl rfl rfl
    · refine Go_Ps 6 (pc' := 8) (lv' := [(0, .ref 159), (1, .int a)]) (st' := [.long (0 : Int32).toInt64, .long (Int64.ofNat 0), .long a.toInt64]) rfl ?_
      refine Go_call (v1 := (some (.int (Int32.ofInt 0)))) (h1 := h0) (vs := [.long a.toInt64, .long (Int64.ofNat 0), .long (0 : Int32).toInt64]) (r := []) rfl rfl rfl rfl (by decide) rfl rfl rfl rfl ?_ ?_
      · refine Go_Ps 3 (pc' := 3) (lv' := [(0, .long a.toInt64), (2, .long (Int64.ofNat 0)), (4, .long (0 : Int32).toInt64)]) (st' := [.int (lg_cmp a.toInt64 (Int64.ofNat 0))]) rfl ?_
        refine Go_brT rfl rfl rfl (lgT_lt (by first | omega | (simp only [cs_1, Int32.toInt_toInt64]; omega))) ?_
        refine Go_Ps 1 (pc' := 18) (lv' := [(0, .long a.toInt64), (2, .long (Int64.ofNat 0)), (4, .long (0 : Int32).toInt64)]) (st' := [.int (Int32.ofInt 0)]) rfl ?_
        exact Go_ret rfl rfl rfl
      refine Go_Ps 2 (pc' := 15) (lv' := [(0, .ref 159), (1, .int a)]) (st' := [.int (Int32.ofInt (-1))]) rfl ?_
      exact Go_ret rfl rfl rfl
  · obtain rfl : a = 0 := Int32.toInt_inj.mp (by rw [show (0 : Int32).toInt = 0 from by decide]; omega)
    exact clo_1_0
  · refine ⟨(-1), h0, h0, h0_len, h0_slo, h0_rcv, ?_, ?_⟩
    · refine Go_Ps 1 (pc' := 1) (lv' := [(0, .ref 0), (1, .int a)]) (st' := [.int a]) rfl ?_
      refine Go_brF rfl rfl rfl (iF_lt (by first | omega | (simp only [cs_0]; omega))) ?_
      refine Go_Ps 4 (pc' := 12) (lv' := [(0, .ref 0), (1, .int a)]) (st' := [.int (0 : Int32), .int a]) rfl ?_
      refine Go_brF rfl rfl rfl (iF_le (by first | omega | (simp only [cs_2]; omega))) ?_
      refine Go_Ps 1 (pc' := 16) (lv' := [(0, .ref 0), (1, .int a)]) (st' := [.int (Int32.ofInt (-1))]) rfl ?_
      exact Go_ret rfl rfl rfl
    · refine Go_Ps 6 (pc' := 8) (lv' := [(0, .ref 159), (1, .int a)]) (st' := [.long (0 : Int32).toInt64, .long (Int64.ofNat 0), .long a.toInt64]) rfl ?_
      refine Go_call (v1 := (some (.int (Int32.ofInt 0)))) (h1 := h0) (vs := [.long a.toInt64, .long (Int64.ofNat 0), .long (0 : Int32).toInt64]) (r := []) rfl rfl rfl rfl (by decide) rfl rfl rfl rfl ?_ ?_
      · refine Go_Ps 3 (pc' := 3) (lv' := [(0, .long a.toInt64), (2, .long (Int64.ofNat 0)), (4, .long (0 : Int32).toInt64)]) (st' := [.int (lg_cmp a.toInt64 (Int64.ofNat 0))]) rfl ?_
        refine Go_brF rfl rfl rfl (lgF_lt (by first | omega | (simp only [cs_1, Int32.toInt_toInt64]; omega))) ?_
        refine Go_Ps 3 (pc' := 10) (lv' := [(0, .long a.toInt64), (2, .long (Int64.ofNat 0)), (4, .long (0 : Int32).toInt64)]) (st' := [.int (lg_cmp a.toInt64 ((0 : Int32).toInt64))]) rfl ?_
        refine Go_brT rfl rfl rfl (lgT_gt (by first | omega | (simp only [cs_2, Int32.toInt_toInt64]; omega))) ?_
        refine Go_Ps 1 (pc' := 18) (lv' := [(0, .long a.toInt64), (2, .long (Int64.ofNat 0)), (4, .long (0 : Int32).toInt64)]) (st' := [.int (Int32.ofInt 0)]) rfl ?_
        exact Go_ret rfl rfl rfl
      refine Go_Ps 2 (pc' := 15) (lv' := [(0, .ref 159), (1, .int a)]) (st' := [.int (Int32.ofInt (-1))]) rfl ?_
      exact Go_ret rfl rfl rfl
set_option maxHeartbeats 4000000 in
set_option maxRecDepth 100000 in
/-- school -/
theorem op_2  : Both mr_160 mr_303 [] h0 := by
  exact clo_2
set_option maxHeartbeats 4000000 in
set_option maxRecDepth 100000 in
/-- fault -/
theorem op_3 (a : Int32) : Both mr_112 mr_216 [.int a] h0 := by
  rcases (show a.toInt < 0 ∨ a.toInt = 0 ∨ a.toInt = 1 ∨ 1 < a.toInt by omega) with hd | hd | hd | hd
  · refine ⟨(-1), h0, h0, h0_len, h0_slo, h0_rcv, ?_, ?_⟩
    · refine Go_Ps 1 (pc' := 1) (lv' := [(0, .ref 0), (1, .int a)]) (st' := [.int a]) rfl ?_
      refine Go_brT rfl rfl rfl (iT_ne (by first | omega | (simp only [cs_0]; omega))) ?_
      refine Go_Ps 2 (pc' := 14) (lv' := [(0, .ref 0), (1, .int a)]) (st' := [.int (Int32.ofInt 1), .int a]) rfl ?_
      refine Go_brT rfl rfl rfl (iT_ne (by first | omega | (simp only [cs_3]; omega))) ?_
      refine Go_Ps 1 (pc' := 28) (lv' := [(0, .ref 0), (1, .int a)]) (st' := [.int (Int32.ofInt (-1))]) rfl ?_
      exact Go_ret rfl rfl rfl
    · refine Go_Ps 1 (pc' := 1) (lv' := [(0, .ref 159), (1, .int a)]) (st' := [.int a]) rfl ?_
      refine Go_brT rfl rfl rfl (iT_ne (by first | omega | (simp only [cs_0]; omega))) ?_
      refine Go_Ps 2 (pc' := 13) (lv' := [(0, .ref 159), (1, .int a)]) (st' := [.int (Int32.ofInt 1), .int a]) rfl ?_
      refine Go_brT rfl rfl rfl (iT_ne (by first | omega | (simp only [cs_3]; omega))) ?_
      refine Go_Ps 1 (pc' := 24) (lv' := [(0, .ref 159), (1, .int a)]) (st' := [.int (Int32.ofInt (-1))]) rfl ?_
      exact Go_ret rfl rfl rfl
  · obtain rfl : a = 0 := Int32.toInt_inj.mp (by rw [show (0 : Int32).toInt = 0 from by decide]; omega)
    exact clo_3_0
  · obtain rfl : a = 1 := Int32.toInt_inj.mp (by rw [show (1 : Int32).toInt = 1 from by decide]; omega)
    exact clo_3_1
  · refine ⟨(-1), h0, h0, h0_len, h0_slo, h0_rcv, ?_, ?_⟩
    · refine Go_Ps 1 (pc' := 1) (lv' := [(0, .ref 0), (1, .int a)]) (st' := [.int a]) rfl ?_
      refine Go_brT rfl rfl rfl (iT_ne (by first | omega | (simp only [cs_0]; omega))) ?_
      refine Go_Ps 2 (pc' := 14) (lv' := [(0, .ref 0), (1, .int a)]) (st' := [.int (Int32.ofInt 1), .int a]) rfl ?_
      refine Go_brT rfl rfl rfl (iT_ne (by first | omega | (simp only [cs_3]; omega))) ?_
      refine Go_Ps 1 (pc' := 28) (lv' := [(0, .ref 0), (1, .int a)]) (st' := [.int (Int32.ofInt (-1))]) rfl ?_
      exact Go_ret rfl rfl rfl
    · refine Go_Ps 1 (pc' := 1) (lv' := [(0, .ref 159), (1, .int a)]) (st' := [.int a]) rfl ?_
      refine Go_brT rfl rfl rfl (iT_ne (by first | omega | (simp only [cs_0]; omega))) ?_
      refine Go_Ps 2 (pc' := 13) (lv' := [(0, .ref 159), (1, .int a)]) (st' := [.int (Int32.ofInt 1), .int a]) rfl ?_
      refine Go_brT rfl rfl rfl (iT_ne (by first | omega | (simp only [cs_3]; omega))) ?_
      refine Go_Ps 1 (pc' := 24) (lv' := [(0, .ref 159), (1, .int a)]) (st' := [.int (Int32.ofInt (-1))]) rfl ?_
      exact Go_ret rfl rfl rfl
set_option maxHeartbeats 4000000 in
set_option maxRecDepth 100000 in
/-- door -/
theorem op_4 (a : Int32) (b : Int32) : Both mr_107 mr_210 [.int a, .int b] h0 := by
  rcases (show a.toInt < 0 ∨ 0 ≤ a.toInt by omega) with hd | hd
  · refine ⟨(-2), h0, h0, h0_len, h0_slo, h0_rcv, ?_, ?_⟩
    · refine Go_Ps 3 (pc' := 5) (lv' := [(0, .ref 0), (1, .int a), (2, .int b)]) (st' := [.int a, .ref 18]) rfl ?_
      refine Go_call (v1 := (some (.int (Int32.ofInt 0)))) (h1 := h0) (vs := [.ref 18, .int a]) (r := []) rfl rfl rfl rfl (by decide) rfl rfl rfl rfl ?_ ?_
      · refine Go_Ps 1 (pc' := 1) (lv' := [(0, .ref 18), (1, .int a)]) (st' := [.int a]) rfl ?_
        refine Go_brT rfl rfl rfl (iT_lt (by first | omega | (simp only [cs_0]; omega))) ?_
        refine Go_Ps 1 (pc' := 17) (lv' := [(0, .ref 18), (1, .int a)]) (st' := [.int (Int32.ofInt 0)]) rfl ?_
        exact Go_ret rfl rfl rfl
      refine Go_Ps 2 (pc' := 13) (lv' := [(0, .ref 0), (1, .int a), (2, .int b)]) (st' := [.int ((Int8.ofInt (-2)).toInt32)]) rfl ?_
      exact Go_ret rfl rfl rfl
    · refine Go_Ps 2 (pc' := 2) (lv' := [(0, .ref 159), (1, .int a), (2, .int b)]) (st' := [.int a, .ref 159]) rfl ?_
      refine Go_call (v1 := (some (.int (Int32.ofInt 0)))) (h1 := h0) (vs := [.ref 159, .int a]) (r := []) rfl rfl rfl rfl (by decide) rfl rfl rfl rfl ?_ ?_
      · refine Go_Ps 10 (pc' := 12) (lv' := [(0, .ref 159), (1, .int a)]) (st' := [.long ((0 : Int32) - (Int32.ofInt 1)).toInt64, .long (Int64.ofNat 0), .long a.toInt64]) rfl ?_
        refine Go_call (v1 := (some (.int (Int32.ofInt 0)))) (h1 := h0) (vs := [.long a.toInt64, .long (Int64.ofNat 0), .long ((0 : Int32) - (Int32.ofInt 1)).toInt64]) (r := []) rfl rfl rfl rfl (by decide) rfl rfl rfl rfl ?_ ?_
        · refine Go_Ps 3 (pc' := 3) (lv' := [(0, .long a.toInt64), (2, .long (Int64.ofNat 0)), (4, .long ((0 : Int32) - (Int32.ofInt 1)).toInt64)]) (st' := [.int (lg_cmp a.toInt64 (Int64.ofNat 0))]) rfl ?_
          refine Go_brT rfl rfl rfl (lgT_lt (by first | omega | (simp only [cs_1, Int32.toInt_toInt64]; omega))) ?_
          refine Go_Ps 1 (pc' := 18) (lv' := [(0, .long a.toInt64), (2, .long (Int64.ofNat 0)), (4, .long ((0 : Int32) - (Int32.ofInt 1)).toInt64)]) (st' := [.int (Int32.ofInt 0)]) rfl ?_
          exact Go_ret rfl rfl rfl
        exact Go_ret rfl rfl rfl
      refine Go_Ps 2 (pc' := 31) (lv' := [(0, .ref 159), (1, .int a), (2, .int b)]) (st' := [.int ((Int8.ofInt (-2)).toInt32)]) rfl ?_
      exact Go_ret rfl rfl rfl
  · refine ⟨(-2), h0, h0, h0_len, h0_slo, h0_rcv, ?_, ?_⟩
    · refine Go_Ps 3 (pc' := 5) (lv' := [(0, .ref 0), (1, .int a), (2, .int b)]) (st' := [.int a, .ref 18]) rfl ?_
      refine Go_call (v1 := (some (.int (Int32.ofInt 0)))) (h1 := h0) (vs := [.ref 18, .int a]) (r := []) rfl rfl rfl rfl (by decide) rfl rfl rfl rfl ?_ ?_
      · refine Go_Ps 1 (pc' := 1) (lv' := [(0, .ref 18), (1, .int a)]) (st' := [.int a]) rfl ?_
        refine Go_brF rfl rfl rfl (iF_lt (by first | omega | (simp only [cs_0]; omega))) ?_
        refine Go_Ps 3 (pc' := 9) (lv' := [(0, .ref 18), (1, .int a)]) (st' := [.int (0 : Int32), .int a]) rfl ?_
        refine Go_brT rfl rfl rfl (iT_le (by first | omega | (simp only [cs_2]; omega))) ?_
        refine Go_Ps 1 (pc' := 17) (lv' := [(0, .ref 18), (1, .int a)]) (st' := [.int (Int32.ofInt 0)]) rfl ?_
        exact Go_ret rfl rfl rfl
      refine Go_Ps 2 (pc' := 13) (lv' := [(0, .ref 0), (1, .int a), (2, .int b)]) (st' := [.int ((Int8.ofInt (-2)).toInt32)]) rfl ?_
      exact Go_ret rfl rfl rfl
    · refine Go_Ps 2 (pc' := 2) (lv' := [(0, .ref 159), (1, .int a), (2, .int b)]) (st' := [.int a, .ref 159]) rfl ?_
      refine Go_call (v1 := (some (.int (Int32.ofInt 0)))) (h1 := h0) (vs := [.ref 159, .int a]) (r := []) rfl rfl rfl rfl (by decide) rfl rfl rfl rfl ?_ ?_
      · refine Go_Ps 10 (pc' := 12) (lv' := [(0, .ref 159), (1, .int a)]) (st' := [.long ((0 : Int32) - (Int32.ofInt 1)).toInt64, .long (Int64.ofNat 0), .long a.toInt64]) rfl ?_
        refine Go_call (v1 := (some (.int (Int32.ofInt 0)))) (h1 := h0) (vs := [.long a.toInt64, .long (Int64.ofNat 0), .long ((0 : Int32) - (Int32.ofInt 1)).toInt64]) (r := []) rfl rfl rfl rfl (by decide) rfl rfl rfl rfl ?_ ?_
        · refine Go_Ps 3 (pc' := 3) (lv' := [(0, .long a.toInt64), (2, .long (Int64.ofNat 0)), (4, .long ((0 : Int32) - (Int32.ofInt 1)).toInt64)]) (st' := [.int (lg_cmp a.toInt64 (Int64.ofNat 0))]) rfl ?_
          refine Go_brF rfl rfl rfl (lgF_lt (by first | omega | (simp only [cs_1, Int32.toInt_toInt64]; omega))) ?_
          refine Go_Ps 3 (pc' := 10) (lv' := [(0, .long a.toInt64), (2, .long (Int64.ofNat 0)), (4, .long ((0 : Int32) - (Int32.ofInt 1)).toInt64)]) (st' := [.int (lg_cmp a.toInt64 (((0 : Int32) - (Int32.ofInt 1)).toInt64))]) rfl ?_
          refine Go_brT rfl rfl rfl (lgT_gt (by first | omega | (simp only [cs_4, Int32.toInt_toInt64]; omega))) ?_
          refine Go_Ps 1 (pc' := 18) (lv' := [(0, .long a.toInt64), (2, .long (Int64.ofNat 0)), (4, .long ((0 : Int32) - (Int32.ofInt 1)).toInt64)]) (st' := [.int (Int32.ofInt 0)]) rfl ?_
          exact Go_ret rfl rfl rfl
        exact Go_ret rfl rfl rfl
      refine Go_Ps 2 (pc' := 31) (lv' := [(0, .ref 159), (1, .int a), (2, .int b)]) (st' := [.int ((Int8.ofInt (-2)).toInt32)]) rfl ?_
      exact Go_ret rfl rfl rfl
set_option maxHeartbeats 4000000 in
set_option maxRecDepth 100000 in
/-- lesson -/
theorem op_5 (a : Int32) (b : Int32) (c : Int32) : Both mr_145 mr_271 [.int a, .int b, .int c] h0 := by
  rcases (show a.toInt < 0 ∨ 0 ≤ a.toInt by omega) with hd | hd
  · refine ⟨(-2), h0, h0, h0_len, h0_slo, h0_rcv, ?_, ?_⟩
    · refine Go_Ps 3 (pc' := 5) (lv' := [(0, .ref 0), (1, .int a), (2, .int b), (3, .int c)]) (st' := [.int a, .ref 18]) rfl ?_
      refine Go_call (v1 := (some (.int (Int32.ofInt 0)))) (h1 := h0) (vs := [.ref 18, .int a]) (r := []) rfl rfl rfl rfl (by decide) rfl rfl rfl rfl ?_ ?_
      · refine Go_Ps 1 (pc' := 1) (lv' := [(0, .ref 18), (1, .int a)]) (st' := [.int a]) rfl ?_
        refine Go_brT rfl rfl rfl (iT_lt (by first | omega | (simp only [cs_0]; omega))) ?_
        refine Go_Ps 1 (pc' := 17) (lv' := [(0, .ref 18), (1, .int a)]) (st' := [.int (Int32.ofInt 0)]) rfl ?_
        exact Go_ret rfl rfl rfl
      refine Go_Ps 2 (pc' := 20) (lv' := [(0, .ref 0), (1, .int a), (2, .int b), (3, .int c)]) (st' := [.int ((Int8.ofInt (-2)).toInt32)]) rfl ?_
      exact Go_ret rfl rfl rfl
    · refine Go_Ps 2 (pc' := 2) (lv' := [(0, .ref 159), (1, .int a), (2, .int b), (3, .int c)]) (st' := [.int a, .ref 159]) rfl ?_
      refine Go_call (v1 := (some (.int (Int32.ofInt 0)))) (h1 := h0) (vs := [.ref 159, .int a]) (r := []) rfl rfl rfl rfl (by decide) rfl rfl rfl rfl ?_ ?_
      · refine Go_Ps 10 (pc' := 12) (lv' := [(0, .ref 159), (1, .int a)]) (st' := [.long ((0 : Int32) - (Int32.ofInt 1)).toInt64, .long (Int64.ofNat 0), .long a.toInt64]) rfl ?_
        refine Go_call (v1 := (some (.int (Int32.ofInt 0)))) (h1 := h0) (vs := [.long a.toInt64, .long (Int64.ofNat 0), .long ((0 : Int32) - (Int32.ofInt 1)).toInt64]) (r := []) rfl rfl rfl rfl (by decide) rfl rfl rfl rfl ?_ ?_
        · refine Go_Ps 3 (pc' := 3) (lv' := [(0, .long a.toInt64), (2, .long (Int64.ofNat 0)), (4, .long ((0 : Int32) - (Int32.ofInt 1)).toInt64)]) (st' := [.int (lg_cmp a.toInt64 (Int64.ofNat 0))]) rfl ?_
          refine Go_brT rfl rfl rfl (lgT_lt (by first | omega | (simp only [cs_1, Int32.toInt_toInt64]; omega))) ?_
          refine Go_Ps 1 (pc' := 18) (lv' := [(0, .long a.toInt64), (2, .long (Int64.ofNat 0)), (4, .long ((0 : Int32) - (Int32.ofInt 1)).toInt64)]) (st' := [.int (Int32.ofInt 0)]) rfl ?_
          exact Go_ret rfl rfl rfl
        exact Go_ret rfl rfl rfl
      refine Go_Ps 2 (pc' := 20) (lv' := [(0, .ref 159), (1, .int a), (2, .int b), (3, .int c)]) (st' := [.int ((Int8.ofInt (-2)).toInt32)]) rfl ?_
      exact Go_ret rfl rfl rfl
  · refine ⟨(-2), h0, h0, h0_len, h0_slo, h0_rcv, ?_, ?_⟩
    · refine Go_Ps 3 (pc' := 5) (lv' := [(0, .ref 0), (1, .int a), (2, .int b), (3, .int c)]) (st' := [.int a, .ref 18]) rfl ?_
      refine Go_call (v1 := (some (.int (Int32.ofInt 0)))) (h1 := h0) (vs := [.ref 18, .int a]) (r := []) rfl rfl rfl rfl (by decide) rfl rfl rfl rfl ?_ ?_
      · refine Go_Ps 1 (pc' := 1) (lv' := [(0, .ref 18), (1, .int a)]) (st' := [.int a]) rfl ?_
        refine Go_brF rfl rfl rfl (iF_lt (by first | omega | (simp only [cs_0]; omega))) ?_
        refine Go_Ps 3 (pc' := 9) (lv' := [(0, .ref 18), (1, .int a)]) (st' := [.int (0 : Int32), .int a]) rfl ?_
        refine Go_brT rfl rfl rfl (iT_le (by first | omega | (simp only [cs_2]; omega))) ?_
        refine Go_Ps 1 (pc' := 17) (lv' := [(0, .ref 18), (1, .int a)]) (st' := [.int (Int32.ofInt 0)]) rfl ?_
        exact Go_ret rfl rfl rfl
      refine Go_Ps 2 (pc' := 20) (lv' := [(0, .ref 0), (1, .int a), (2, .int b), (3, .int c)]) (st' := [.int ((Int8.ofInt (-2)).toInt32)]) rfl ?_
      exact Go_ret rfl rfl rfl
    · refine Go_Ps 2 (pc' := 2) (lv' := [(0, .ref 159), (1, .int a), (2, .int b), (3, .int c)]) (st' := [.int a, .ref 159]) rfl ?_
      refine Go_call (v1 := (some (.int (Int32.ofInt 0)))) (h1 := h0) (vs := [.ref 159, .int a]) (r := []) rfl rfl rfl rfl (by decide) rfl rfl rfl rfl ?_ ?_
      · refine Go_Ps 10 (pc' := 12) (lv' := [(0, .ref 159), (1, .int a)]) (st' := [.long ((0 : Int32) - (Int32.ofInt 1)).toInt64, .long (Int64.ofNat 0), .long a.toInt64]) rfl ?_
        refine Go_call (v1 := (some (.int (Int32.ofInt 0)))) (h1 := h0) (vs := [.long a.toInt64, .long (Int64.ofNat 0), .long ((0 : Int32) - (Int32.ofInt 1)).toInt64]) (r := []) rfl rfl rfl rfl (by decide) rfl rfl rfl rfl ?_ ?_
        · refine Go_Ps 3 (pc' := 3) (lv' := [(0, .long a.toInt64), (2, .long (Int64.ofNat 0)), (4, .long ((0 : Int32) - (Int32.ofInt 1)).toInt64)]) (st' := [.int (lg_cmp a.toInt64 (Int64.ofNat 0))]) rfl ?_
          refine Go_brF rfl rfl rfl (lgF_lt (by first | omega | (simp only [cs_1, Int32.toInt_toInt64]; omega))) ?_
          refine Go_Ps 3 (pc' := 10) (lv' := [(0, .long a.toInt64), (2, .long (Int64.ofNat 0)), (4, .long ((0 : Int32) - (Int32.ofInt 1)).toInt64)]) (st' := [.int (lg_cmp a.toInt64 (((0 : Int32) - (Int32.ofInt 1)).toInt64))]) rfl ?_
          refine Go_brT rfl rfl rfl (lgT_gt (by first | omega | (simp only [cs_4, Int32.toInt_toInt64]; omega))) ?_
          refine Go_Ps 1 (pc' := 18) (lv' := [(0, .long a.toInt64), (2, .long (Int64.ofNat 0)), (4, .long ((0 : Int32) - (Int32.ofInt 1)).toInt64)]) (st' := [.int (Int32.ofInt 0)]) rfl ?_
          exact Go_ret rfl rfl rfl
        exact Go_ret rfl rfl rfl
      refine Go_Ps 2 (pc' := 20) (lv' := [(0, .ref 159), (1, .int a), (2, .int b), (3, .int c)]) (st' := [.int ((Int8.ofInt (-2)).toInt32)]) rfl ?_
      exact Go_ret rfl rfl rfl
set_option maxHeartbeats 4000000 in
set_option maxRecDepth 100000 in
/-- exam -/
theorem op_6 (a : Int32) (b : Int32) : Both mr_111 mr_215 [.int a, .int b] h0 := by
  rcases (show a.toInt < 0 ∨ 0 ≤ a.toInt by omega) with hd | hd
  · refine ⟨(-2), h0, h0, h0_len, h0_slo, h0_rcv, ?_, ?_⟩
    · refine Go_Ps 1 (pc' := 1) (lv' := [(0, .ref 0), (1, .int a), (2, .int b)]) (st' := [.int a]) rfl ?_
      refine Go_brT rfl rfl rfl (iT_lt (by first | omega | (simp only [cs_0]; omega))) ?_
      refine Go_Ps 1 (pc' := 27) (lv' := [(0, .ref 0), (1, .int a), (2, .int b)]) (st' := [.int ((Int8.ofInt (-2)).toInt32)]) rfl ?_
      exact Go_ret rfl rfl rfl
    · refine Go_Ps 2 (pc' := 2) (lv' := [(0, .ref 159), (1, .int a), (2, .int b)]) (st' := [.int a, .ref 159]) rfl ?_
      refine Go_call (v1 := (some (.int (Int32.ofInt 0)))) (h1 := h0) (vs := [.ref 159, .int a]) (r := []) rfl rfl rfl rfl (by decide) rfl rfl rfl rfl ?_ ?_
      · refine Go_Ps 10 (pc' := 12) (lv' := [(0, .ref 159), (1, .int a)]) (st' := [.long ((0 : Int32) - (Int32.ofInt 1)).toInt64, .long (Int64.ofNat 0), .long a.toInt64]) rfl ?_
        refine Go_call (v1 := (some (.int (Int32.ofInt 0)))) (h1 := h0) (vs := [.long a.toInt64, .long (Int64.ofNat 0), .long ((0 : Int32) - (Int32.ofInt 1)).toInt64]) (r := []) rfl rfl rfl rfl (by decide) rfl rfl rfl rfl ?_ ?_
        · refine Go_Ps 3 (pc' := 3) (lv' := [(0, .long a.toInt64), (2, .long (Int64.ofNat 0)), (4, .long ((0 : Int32) - (Int32.ofInt 1)).toInt64)]) (st' := [.int (lg_cmp a.toInt64 (Int64.ofNat 0))]) rfl ?_
          refine Go_brT rfl rfl rfl (lgT_lt (by first | omega | (simp only [cs_1, Int32.toInt_toInt64]; omega))) ?_
          refine Go_Ps 1 (pc' := 18) (lv' := [(0, .long a.toInt64), (2, .long (Int64.ofNat 0)), (4, .long ((0 : Int32) - (Int32.ofInt 1)).toInt64)]) (st' := [.int (Int32.ofInt 0)]) rfl ?_
          exact Go_ret rfl rfl rfl
        exact Go_ret rfl rfl rfl
      refine Go_Ps 2 (pc' := 36) (lv' := [(0, .ref 159), (1, .int a), (2, .int b)]) (st' := [.int ((Int8.ofInt (-2)).toInt32)]) rfl ?_
      exact Go_ret rfl rfl rfl
  · refine ⟨(-2), h0, h0, h0_len, h0_slo, h0_rcv, ?_, ?_⟩
    · refine Go_Ps 1 (pc' := 1) (lv' := [(0, .ref 0), (1, .int a), (2, .int b)]) (st' := [.int a]) rfl ?_
      refine Go_brF rfl rfl rfl (iF_lt (by first | omega | (simp only [cs_0]; omega))) ?_
      refine Go_Ps 5 (pc' := 15) (lv' := [(0, .ref 0), (1, .int a), (2, .int b)]) (st' := [.int (0 : Int32), .int a]) rfl ?_
      refine Go_brT rfl rfl rfl (iT_le (by first | omega | (simp only [cs_2]; omega))) ?_
      refine Go_Ps 1 (pc' := 27) (lv' := [(0, .ref 0), (1, .int a), (2, .int b)]) (st' := [.int ((Int8.ofInt (-2)).toInt32)]) rfl ?_
      exact Go_ret rfl rfl rfl
    · refine Go_Ps 2 (pc' := 2) (lv' := [(0, .ref 159), (1, .int a), (2, .int b)]) (st' := [.int a, .ref 159]) rfl ?_
      refine Go_call (v1 := (some (.int (Int32.ofInt 0)))) (h1 := h0) (vs := [.ref 159, .int a]) (r := []) rfl rfl rfl rfl (by decide) rfl rfl rfl rfl ?_ ?_
      · refine Go_Ps 10 (pc' := 12) (lv' := [(0, .ref 159), (1, .int a)]) (st' := [.long ((0 : Int32) - (Int32.ofInt 1)).toInt64, .long (Int64.ofNat 0), .long a.toInt64]) rfl ?_
        refine Go_call (v1 := (some (.int (Int32.ofInt 0)))) (h1 := h0) (vs := [.long a.toInt64, .long (Int64.ofNat 0), .long ((0 : Int32) - (Int32.ofInt 1)).toInt64]) (r := []) rfl rfl rfl rfl (by decide) rfl rfl rfl rfl ?_ ?_
        · refine Go_Ps 3 (pc' := 3) (lv' := [(0, .long a.toInt64), (2, .long (Int64.ofNat 0)), (4, .long ((0 : Int32) - (Int32.ofInt 1)).toInt64)]) (st' := [.int (lg_cmp a.toInt64 (Int64.ofNat 0))]) rfl ?_
          refine Go_brF rfl rfl rfl (lgF_lt (by first | omega | (simp only [cs_1, Int32.toInt_toInt64]; omega))) ?_
          refine Go_Ps 3 (pc' := 10) (lv' := [(0, .long a.toInt64), (2, .long (Int64.ofNat 0)), (4, .long ((0 : Int32) - (Int32.ofInt 1)).toInt64)]) (st' := [.int (lg_cmp a.toInt64 (((0 : Int32) - (Int32.ofInt 1)).toInt64))]) rfl ?_
          refine Go_brT rfl rfl rfl (lgT_gt (by first | omega | (simp only [cs_4, Int32.toInt_toInt64]; omega))) ?_
          refine Go_Ps 1 (pc' := 18) (lv' := [(0, .long a.toInt64), (2, .long (Int64.ofNat 0)), (4, .long ((0 : Int32) - (Int32.ofInt 1)).toInt64)]) (st' := [.int (Int32.ofInt 0)]) rfl ?_
          exact Go_ret rfl rfl rfl
        exact Go_ret rfl rfl rfl
      refine Go_Ps 2 (pc' := 36) (lv' := [(0, .ref 159), (1, .int a), (2, .int b)]) (st' := [.int ((Int8.ofInt (-2)).toInt32)]) rfl ?_
      exact Go_ret rfl rfl rfl
