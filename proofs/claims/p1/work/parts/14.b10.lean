set_option maxHeartbeats 4000000 in
set_option maxRecDepth 100000 in
/-- write -/
theorem op_62 (a : Int32) (b : Int32) (c : Int64) : Both mr_176 mr_324 [.int a, .int b, .long c] h0 := by
  rcases (show a.toInt < 0 ∨ a.toInt = 0 ∨ a.toInt = 1 ∨ a.toInt = 2 ∨ a.toInt = 3 ∨ 3 < a.toInt by omega) with hd | hd | hd | hd | hd | hd
  · refine ⟨(-2), h0, h0, h0_len, h0_slo, h0_rcv, ?_, ?_⟩
    · refine Go_Ps 1 (pc' := 1) (lv' := [(0, .ref 0), (1, .int a), (2, .int b), (3, .long c)]) (st' := [.int a]) rfl ?_
      refine Go_call (v1 := (some (.int (Int32.ofInt 0)))) (h1 := h0) (vs := [.int a]) (r := []) rfl rfl rfl rfl (by decide) rfl rfl rfl rfl ?_ ?_
      · refine Go_Ps 1 (pc' := 1) (lv' := [(0, .int a)]) (st' := [.int a]) rfl ?_
        refine Go_brT rfl rfl rfl (iT_lt (by first | omega | (simp only [cs_0]; omega))) ?_
        refine Go_Ps 1 (pc' := 14) (lv' := [(0, .int a)]) (st' := [.int (Int32.ofInt 0)]) rfl ?_
        exact Go_ret rfl rfl rfl
      refine Go_Ps 2 (pc' := 9) (lv' := [(0, .ref 0), (1, .int a), (2, .int b), (3, .long c)]) (st' := [.int ((Int8.ofInt (-2)).toInt32)]) rfl ?_
      exact Go_ret rfl rfl rfl
    · refine Go_Ps 1 (pc' := 1) (lv' := [(0, .ref 159), (1, .int a), (2, .int b), (3, .long c)]) (st' := [.int a]) rfl ?_
      refine Go_call (v1 := (some (.int (Int32.ofInt 0)))) (h1 := h0) (vs := [.int a]) (r := []) rfl rfl rfl rfl (by decide) rfl rfl rfl rfl ?_ ?_
      · refine Go_Ps 4 (pc' := 6) (lv' := [(0, .int a)]) (st' := [.long (3 : Int64), .long (Int64.ofNat 0), .long a.toInt64]) rfl ?_
        refine Go_call (v1 := (some (.int (Int32.ofInt 0)))) (h1 := h0) (vs := [.long a.toInt64, .long (Int64.ofNat 0), .long (3 : Int64)]) (r := []) rfl rfl rfl rfl (by decide) rfl rfl rfl rfl ?_ ?_
        · refine Go_Ps 3 (pc' := 3) (lv' := [(0, .long a.toInt64), (2, .long (Int64.ofNat 0)), (4, .long (3 : Int64))]) (st' := [.int (lg_cmp a.toInt64 (Int64.ofNat 0))]) rfl ?_
          refine Go_brT rfl rfl rfl (lgT_lt (by first | omega | (simp only [cs_1, Int32.toInt_toInt64]; omega))) ?_
          refine Go_Ps 1 (pc' := 18) (lv' := [(0, .long a.toInt64), (2, .long (Int64.ofNat 0)), (4, .long (3 : Int64))]) (st' := [.int (Int32.ofInt 0)]) rfl ?_
          exact Go_ret rfl rfl rfl
        exact Go_ret rfl rfl rfl
      refine Go_Ps 2 (pc' := 9) (lv' := [(0, .ref 159), (1, .int a), (2, .int b), (3, .long c)]) (st' := [.int ((Int8.ofInt (-2)).toInt32)]) rfl ?_
      exact Go_ret rfl rfl rfl
  · obtain rfl : a = 0 := Int32.toInt_inj.mp (by rw [show (0 : Int32).toInt = 0 from by decide]; omega)
    refine ⟨(-6), h0, h0, h0_len, h0_slo, h0_rcv, ?_, ?_⟩
    · refine Go_Ps 1 (pc' := 1) (lv' := [(0, .ref 0), (1, .int (0 : Int32)), (2, .int b), (3, .long c)]) (st' := [.int (0 : Int32)]) rfl ?_
      refine Go_call (v1 := (some (.int (Int32.ofInt 1)))) (h1 := h0) (vs := [.int (0 : Int32)]) (r := []) rfl rfl rfl rfl (by decide) rfl rfl rfl rfl ?_ ?_
      · refine Go_Ps 7 (pc' := 14) (lv' := [(0, .int (0 : Int32))]) (st' := [.int (Int32.ofInt 1)]) rfl ?_
        exact Go_ret rfl rfl rfl
      refine Go_Ps 10 (pc' := 28) (lv' := [(5, .ref 151), (0, .ref 0), (1, .int (0 : Int32)), (2, .int b), (3, .long c)]) (st' := [.int ((Int8.ofInt (-6)).toInt32)]) rfl ?_
      exact Go_ret rfl rfl rfl
    · refine Go_Ps 1 (pc' := 1) (lv' := [(0, .ref 159), (1, .int (0 : Int32)), (2, .int b), (3, .long c)]) (st' := [.int (0 : Int32)]) rfl ?_
      refine Go_call (v1 := (some (.int (Int32.ofInt 1)))) (h1 := h0) (vs := [.int (0 : Int32)]) (r := []) rfl rfl rfl rfl (by decide) rfl rfl rfl rfl ?_ ?_
      · refine Go_Ps 4 (pc' := 6) (lv' := [(0, .int (0 : Int32))]) (st' := [.long (3 : Int64), .long (Int64.ofNat 0), .long (0 : Int32).toInt64]) rfl ?_
        refine Go_call (v1 := (some (.int (Int32.ofInt 1)))) (h1 := h0) (vs := [.long (0 : Int32).toInt64, .long (Int64.ofNat 0), .long (3 : Int64)]) (r := []) rfl rfl rfl rfl (by decide) rfl rfl rfl rfl ?_ ?_
        · refine Go_Ps 10 (pc' := 18) (lv' := [(0, .long (0 : Int32).toInt64), (2, .long (Int64.ofNat 0)), (4, .long (3 : Int64))]) (st' := [.int (Int32.ofInt 1)]) rfl ?_
          exact Go_ret rfl rfl rfl
        exact Go_ret rfl rfl rfl
      refine Go_Ps 8 (pc' := 22) (lv' := [(0, .ref 159), (1, .int (0 : Int32)), (2, .int b), (3, .long c)]) (st' := [.int ((Int8.ofInt (-6)).toInt32)]) rfl ?_
      exact Go_ret rfl rfl rfl
  · obtain rfl : a = 1 := Int32.toInt_inj.mp (by rw [show (1 : Int32).toInt = 1 from by decide]; omega)
    refine ⟨(-6), h0, h0, h0_len, h0_slo, h0_rcv, ?_, ?_⟩
    · refine Go_Ps 1 (pc' := 1) (lv' := [(0, .ref 0), (1, .int (1 : Int32)), (2, .int b), (3, .long c)]) (st' := [.int (1 : Int32)]) rfl ?_
      refine Go_call (v1 := (some (.int (Int32.ofInt 1)))) (h1 := h0) (vs := [.int (1 : Int32)]) (r := []) rfl rfl rfl rfl (by decide) rfl rfl rfl rfl ?_ ?_
      · refine Go_Ps 7 (pc' := 14) (lv' := [(0, .int (1 : Int32))]) (st' := [.int (Int32.ofInt 1)]) rfl ?_
        exact Go_ret rfl rfl rfl
      refine Go_Ps 10 (pc' := 28) (lv' := [(5, .ref 153), (0, .ref 0), (1, .int (1 : Int32)), (2, .int b), (3, .long c)]) (st' := [.int ((Int8.ofInt (-6)).toInt32)]) rfl ?_
      exact Go_ret rfl rfl rfl
    · refine Go_Ps 1 (pc' := 1) (lv' := [(0, .ref 159), (1, .int (1 : Int32)), (2, .int b), (3, .long c)]) (st' := [.int (1 : Int32)]) rfl ?_
      refine Go_call (v1 := (some (.int (Int32.ofInt 1)))) (h1 := h0) (vs := [.int (1 : Int32)]) (r := []) rfl rfl rfl rfl (by decide) rfl rfl rfl rfl ?_ ?_
      · refine Go_Ps 4 (pc' := 6) (lv' := [(0, .int (1 : Int32))]) (st' := [.long (3 : Int64), .long (Int64.ofNat 0), .long (1 : Int32).toInt64]) rfl ?_
        refine Go_call (v1 := (some (.int (Int32.ofInt 1)))) (h1 := h0) (vs := [.long (1 : Int32).toInt64, .long (Int64.ofNat 0), .long (3 : Int64)]) (r := []) rfl rfl rfl rfl (by decide) rfl rfl rfl rfl ?_ ?_
        · refine Go_Ps 10 (pc' := 18) (lv' := [(0, .long (1 : Int32).toInt64), (2, .long (Int64.ofNat 0)), (4, .long (3 : Int64))]) (st' := [.int (Int32.ofInt 1)]) rfl ?_
          exact Go_ret rfl rfl rfl
        exact Go_ret rfl rfl rfl
      refine Go_Ps 8 (pc' := 22) (lv' := [(0, .ref 159), (1, .int (1 : Int32)), (2, .int b), (3, .long c)]) (st' := [.int ((Int8.ofInt (-6)).toInt32)]) rfl ?_
      exact Go_ret rfl rfl rfl
  · obtain rfl : a = 2 := Int32.toInt_inj.mp (by rw [show (2 : Int32).toInt = 2 from by decide]; omega)
    refine ⟨(-6), h0, h0, h0_len, h0_slo, h0_rcv, ?_, ?_⟩
    · refine Go_Ps 1 (pc' := 1) (lv' := [(0, .ref 0), (1, .int (2 : Int32)), (2, .int b), (3, .long c)]) (st' := [.int (2 : Int32)]) rfl ?_
      refine Go_call (v1 := (some (.int (Int32.ofInt 1)))) (h1 := h0) (vs := [.int (2 : Int32)]) (r := []) rfl rfl rfl rfl (by decide) rfl rfl rfl rfl ?_ ?_
      · refine Go_Ps 7 (pc' := 14) (lv' := [(0, .int (2 : Int32))]) (st' := [.int (Int32.ofInt 1)]) rfl ?_
        exact Go_ret rfl rfl rfl
      refine Go_Ps 10 (pc' := 28) (lv' := [(5, .ref 155), (0, .ref 0), (1, .int (2 : Int32)), (2, .int b), (3, .long c)]) (st' := [.int ((Int8.ofInt (-6)).toInt32)]) rfl ?_
      exact Go_ret rfl rfl rfl
    · refine Go_Ps 1 (pc' := 1) (lv' := [(0, .ref 159), (1, .int (2 : Int32)), (2, .int b), (3, .long c)]) (st' := [.int (2 : Int32)]) rfl ?_
      refine Go_call (v1 := (some (.int (Int32.ofInt 1)))) (h1 := h0) (vs := [.int (2 : Int32)]) (r := []) rfl rfl rfl rfl (by decide) rfl rfl rfl rfl ?_ ?_
      · refine Go_Ps 4 (pc' := 6) (lv' := [(0, .int (2 : Int32))]) (st' := [.long (3 : Int64), .long (Int64.ofNat 0), .long (2 : Int32).toInt64]) rfl ?_
        refine Go_call (v1 := (some (.int (Int32.ofInt 1)))) (h1 := h0) (vs := [.long (2 : Int32).toInt64, .long (Int64.ofNat 0), .long (3 : Int64)]) (r := []) rfl rfl rfl rfl (by decide) rfl rfl rfl rfl ?_ ?_
        · refine Go_Ps 10 (pc' := 18) (lv' := [(0, .long (2 : Int32).toInt64), (2, .long (Int64.ofNat 0)), (4, .long (3 : Int64))]) (st' := [.int (Int32.ofInt 1)]) rfl ?_
          exact Go_ret rfl rfl rfl
        exact Go_ret rfl rfl rfl
      refine Go_Ps 8 (pc' := 22) (lv' := [(0, .ref 159), (1, .int (2 : Int32)), (2, .int b), (3, .long c)]) (st' := [.int ((Int8.ofInt (-6)).toInt32)]) rfl ?_
      exact Go_ret rfl rfl rfl
  · obtain rfl : a = 3 := Int32.toInt_inj.mp (by rw [show (3 : Int32).toInt = 3 from by decide]; omega)
    refine ⟨(-6), h0, h0, h0_len, h0_slo, h0_rcv, ?_, ?_⟩
    · refine Go_Ps 1 (pc' := 1) (lv' := [(0, .ref 0), (1, .int (3 : Int32)), (2, .int b), (3, .long c)]) (st' := [.int (3 : Int32)]) rfl ?_
      refine Go_call (v1 := (some (.int (Int32.ofInt 1)))) (h1 := h0) (vs := [.int (3 : Int32)]) (r := []) rfl rfl rfl rfl (by decide) rfl rfl rfl rfl ?_ ?_
      · refine Go_Ps 7 (pc' := 14) (lv' := [(0, .int (3 : Int32))]) (st' := [.int (Int32.ofInt 1)]) rfl ?_
        exact Go_ret rfl rfl rfl
      refine Go_Ps 10 (pc' := 28) (lv' := [(5, .ref 157), (0, .ref 0), (1, .int (3 : Int32)), (2, .int b), (3, .long c)]) (st' := [.int ((Int8.ofInt (-6)).toInt32)]) rfl ?_
      exact Go_ret rfl rfl rfl
    · refine Go_Ps 1 (pc' := 1) (lv' := [(0, .ref 159), (1, .int (3 : Int32)), (2, .int b), (3, .long c)]) (st' := [.int (3 : Int32)]) rfl ?_
      refine Go_call (v1 := (some (.int (Int32.ofInt 1)))) (h1 := h0) (vs := [.int (3 : Int32)]) (r := []) rfl rfl rfl rfl (by decide) rfl rfl rfl rfl ?_ ?_
      · refine Go_Ps 4 (pc' := 6) (lv' := [(0, .int (3 : Int32))]) (st' := [.long (3 : Int64), .long (Int64.ofNat 0), .long (3 : Int32).toInt64]) rfl ?_
        refine Go_call (v1 := (some (.int (Int32.ofInt 1)))) (h1 := h0) (vs := [.long (3 : Int32).toInt64, .long (Int64.ofNat 0), .long (3 : Int64)]) (r := []) rfl rfl rfl rfl (by decide) rfl rfl rfl rfl ?_ ?_
        · refine Go_Ps 10 (pc' := 18) (lv' := [(0, .long (3 : Int32).toInt64), (2, .long (Int64.ofNat 0)), (4, .long (3 : Int64))]) (st' := [.int (Int32.ofInt 1)]) rfl ?_
          exact Go_ret rfl rfl rfl
        exact Go_ret rfl rfl rfl
      refine Go_Ps 8 (pc' := 22) (lv' := [(0, .ref 159), (1, .int (3 : Int32)), (2, .int b), (3, .long c)]) (st' := [.int ((Int8.ofInt (-6)).toInt32)]) rfl ?_
      exact Go_ret rfl rfl rfl
  · refine ⟨(-2), h0, h0, h0_len, h0_slo, h0_rcv, ?_, ?_⟩
    · refine Go_Ps 1 (pc' := 1) (lv' := [(0, .ref 0), (1, .int a), (2, .int b), (3, .long c)]) (st' := [.int a]) rfl ?_
      refine Go_call (v1 := (some (.int (Int32.ofInt 0)))) (h1 := h0) (vs := [.int a]) (r := []) rfl rfl rfl rfl (by decide) rfl rfl rfl rfl ?_ ?_
      · refine Go_Ps 1 (pc' := 1) (lv' := [(0, .int a)]) (st' := [.int a]) rfl ?_
        refine Go_brF rfl rfl rfl (iF_lt (by first | omega | (simp only [cs_0]; omega))) ?_
        refine Go_Ps 2 (pc' := 6) (lv' := [(0, .int a)]) (st' := [.int (Int32.ofInt 4), .int a]) rfl ?_
        refine Go_brT rfl rfl rfl (iT_le (by first | omega | (simp only [cs_8]; omega))) ?_
        refine Go_Ps 1 (pc' := 14) (lv' := [(0, .int a)]) (st' := [.int (Int32.ofInt 0)]) rfl ?_
        exact Go_ret rfl rfl rfl
      refine Go_Ps 2 (pc' := 9) (lv' := [(0, .ref 0), (1, .int a), (2, .int b), (3, .long c)]) (st' := [.int ((Int8.ofInt (-2)).toInt32)]) rfl ?_
      exact Go_ret rfl rfl rfl
    · refine Go_Ps 1 (pc' := 1) (lv' := [(0, .ref 159), (1, .int a), (2, .int b), (3, .long c)]) (st' := [.int a]) rfl ?_
      refine Go_call (v1 := (some (.int (Int32.ofInt 0)))) (h1 := h0) (vs := [.int a]) (r := []) rfl rfl rfl rfl (by decide) rfl rfl rfl rfl ?_ ?_
      · refine Go_Ps 4 (pc' := 6) (lv' := [(0, .int a)]) (st' := [.long (3 : Int64), .long (Int64.ofNat 0), .long a.toInt64]) rfl ?_
        refine Go_call (v1 := (some (.int (Int32.ofInt 0)))) (h1 := h0) (vs := [.long a.toInt64, .long (Int64.ofNat 0), .long (3 : Int64)]) (r := []) rfl rfl rfl rfl (by decide) rfl rfl rfl rfl ?_ ?_
        · refine Go_Ps 3 (pc' := 3) (lv' := [(0, .long a.toInt64), (2, .long (Int64.ofNat 0)), (4, .long (3 : Int64))]) (st' := [.int (lg_cmp a.toInt64 (Int64.ofNat 0))]) rfl ?_
          refine Go_brF rfl rfl rfl (lgF_lt (by first | omega | (simp only [cs_1, Int32.toInt_toInt64]; omega))) ?_
          refine Go_Ps 3 (pc' := 10) (lv' := [(0, .long a.toInt64), (2, .long (Int64.ofNat 0)), (4, .long (3 : Int64))]) (st' := [.int (lg_cmp a.toInt64 (3 : Int64))]) rfl ?_
          refine Go_brT rfl rfl rfl (lgT_gt (by first | omega | (simp only [cs_9, Int32.toInt_toInt64]; omega))) ?_
          refine Go_Ps 1 (pc' := 18) (lv' := [(0, .long a.toInt64), (2, .long (Int64.ofNat 0)), (4, .long (3 : Int64))]) (st' := [.int (Int32.ofInt 0)]) rfl ?_
          exact Go_ret rfl rfl rfl
        exact Go_ret rfl rfl rfl
      refine Go_Ps 2 (pc' := 9) (lv' := [(0, .ref 159), (1, .int a), (2, .int b), (3, .long c)]) (st' := [.int ((Int8.ofInt (-2)).toInt32)]) rfl ?_
      exact Go_ret rfl rfl rfl
set_option maxHeartbeats 4000000 in
set_option maxRecDepth 100000 in
/-- paste -/
theorem op_63 (a : Int32) (b : Int32) (c : Int32) (d : Int32) (e : Int32) : Both mr_153 mr_288 [.int a, .int b, .int c, .int d, .int e] h0 := by
  rcases (show a.toInt < 0 ∨ a.toInt = 0 ∨ a.toInt = 1 ∨ a.toInt = 2 ∨ a.toInt = 3 ∨ 3 < a.toInt by omega) with hd | hd | hd | hd | hd | hd
  · refine ⟨(-2), h0, h0, h0_len, h0_slo, h0_rcv, ?_, ?_⟩
    · refine Go_Ps 1 (pc' := 1) (lv' := [(0, .ref 0), (1, .int a), (2, .int b), (3, .int c), (4, .int d), (5, .int e)]) (st' := [.int a]) rfl ?_
      refine Go_call (v1 := (some (.int (Int32.ofInt 0)))) (h1 := h0) (vs := [.int a]) (r := []) rfl rfl rfl rfl (by decide) rfl rfl rfl rfl ?_ ?_
      · refine Go_Ps 1 (pc' := 1) (lv' := [(0, .int a)]) (st' := [.int a]) rfl ?_
        refine Go_brT rfl rfl rfl (iT_lt (by first | omega | (simp only [cs_0]; omega))) ?_
        refine Go_Ps 1 (pc' := 14) (lv' := [(0, .int a)]) (st' := [.int (Int32.ofInt 0)]) rfl ?_
        exact Go_ret rfl rfl rfl
      refine Go_Ps 2 (pc' := 16) (lv' := [(0, .ref 0), (1, .int a), (2, .int b), (3, .int c), (4, .int d), (5, .int e)]) (st' := [.int ((Int8.ofInt (-2)).toInt32)]) rfl ?_
      exact Go_ret rfl rfl rfl
    · refine Go_Ps 1 (pc' := 1) (lv' := [(0, .ref 159), (1, .int a), (2, .int b), (3, .int c), (4, .int d), (5, .int e)]) (st' := [.int a]) rfl ?_
      refine Go_call (v1 := (some (.int (Int32.ofInt 0)))) (h1 := h0) (vs := [.int a]) (r := []) rfl rfl rfl rfl (by decide) rfl rfl rfl rfl ?_ ?_
      · refine Go_Ps 4 (pc' := 6) (lv' := [(0, .int a)]) (st' := [.long (3 : Int64), .long (Int64.ofNat 0), .long a.toInt64]) rfl ?_
        refine Go_call (v1 := (some (.int (Int32.ofInt 0)))) (h1 := h0) (vs := [.long a.toInt64, .long (Int64.ofNat 0), .long (3 : Int64)]) (r := []) rfl rfl rfl rfl (by decide) rfl rfl rfl rfl ?_ ?_
        · refine Go_Ps 3 (pc' := 3) (lv' := [(0, .long a.toInt64), (2, .long (Int64.ofNat 0)), (4, .long (3 : Int64))]) (st' := [.int (lg_cmp a.toInt64 (Int64.ofNat 0))]) rfl ?_
          refine Go_brT rfl rfl rfl (lgT_lt (by first | omega | (simp only [cs_1, Int32.toInt_toInt64]; omega))) ?_
          refine Go_Ps 1 (pc' := 18) (lv' := [(0, .long a.toInt64), (2, .long (Int64.ofNat 0)), (4, .long (3 : Int64))]) (st' := [.int (Int32.ofInt 0)]) rfl ?_
          exact Go_ret rfl rfl rfl
        exact Go_ret rfl rfl rfl
      refine Go_Ps 2 (pc' := 16) (lv' := [(0, .ref 159), (1, .int a), (2, .int b), (3, .int c), (4, .int d), (5, .int e)]) (st' := [.int ((Int8.ofInt (-2)).toInt32)]) rfl ?_
      exact Go_ret rfl rfl rfl
  · obtain rfl : a = 0 := Int32.toInt_inj.mp (by rw [show (0 : Int32).toInt = 0 from by decide]; omega)
    rcases (show c.toInt < 0 ∨ c.toInt = 0 ∨ c.toInt = 1 ∨ c.toInt = 2 ∨ c.toInt = 3 ∨ 3 < c.toInt by omega) with he | he | he | he | he | he
    · refine ⟨(-2), h0, h0, h0_len, h0_slo, h0_rcv, ?_, ?_⟩
      · refine Go_Ps 1 (pc' := 1) (lv' := [(0, .ref 0), (1, .int (0 : Int32)), (2, .int b), (3, .int c), (4, .int d), (5, .int e)]) (st' := [.int (0 : Int32)]) rfl ?_
        refine Go_call (v1 := (some (.int (Int32.ofInt 1)))) (h1 := h0) (vs := [.int (0 : Int32)]) (r := []) rfl rfl rfl rfl (by decide) rfl rfl rfl rfl ?_ ?_
        · refine Go_Ps 7 (pc' := 14) (lv' := [(0, .int (0 : Int32))]) (st' := [.int (Int32.ofInt 1)]) rfl ?_
          exact Go_ret rfl rfl rfl
        refine Go_Ps 2 (pc' := 8) (lv' := [(0, .ref 0), (1, .int (0 : Int32)), (2, .int b), (3, .int c), (4, .int d), (5, .int e)]) (st' := [.int c]) rfl ?_
        refine Go_call (v1 := (some (.int (Int32.ofInt 0)))) (h1 := h0) (vs := [.int c]) (r := []) rfl rfl rfl rfl (by decide) rfl rfl rfl rfl ?_ ?_
        · refine Go_Ps 1 (pc' := 1) (lv' := [(0, .int c)]) (st' := [.int c]) rfl ?_
          refine Go_brT rfl rfl rfl (iT_lt (by first | omega | (simp only [cs_0]; omega))) ?_
          refine Go_Ps 1 (pc' := 14) (lv' := [(0, .int c)]) (st' := [.int (Int32.ofInt 0)]) rfl ?_
          exact Go_ret rfl rfl rfl
        refine Go_Ps 2 (pc' := 16) (lv' := [(0, .ref 0), (1, .int (0 : Int32)), (2, .int b), (3, .int c), (4, .int d), (5, .int e)]) (st' := [.int ((Int8.ofInt (-2)).toInt32)]) rfl ?_
        exact Go_ret rfl rfl rfl
      · refine Go_Ps 1 (pc' := 1) (lv' := [(0, .ref 159), (1, .int (0 : Int32)), (2, .int b), (3, .int c), (4, .int d), (5, .int e)]) (st' := [.int (0 : Int32)]) rfl ?_
        refine Go_call (v1 := (some (.int (Int32.ofInt 1)))) (h1 := h0) (vs := [.int (0 : Int32)]) (r := []) rfl rfl rfl rfl (by decide) rfl rfl rfl rfl ?_ ?_
        · refine Go_Ps 4 (pc' := 6) (lv' := [(0, .int (0 : Int32))]) (st' := [.long (3 : Int64), .long (Int64.ofNat 0), .long (0 : Int32).toInt64]) rfl ?_
          refine Go_call (v1 := (some (.int (Int32.ofInt 1)))) (h1 := h0) (vs := [.long (0 : Int32).toInt64, .long (Int64.ofNat 0), .long (3 : Int64)]) (r := []) rfl rfl rfl rfl (by decide) rfl rfl rfl rfl ?_ ?_
          · refine Go_Ps 10 (pc' := 18) (lv' := [(0, .long (0 : Int32).toInt64), (2, .long (Int64.ofNat 0)), (4, .long (3 : Int64))]) (st' := [.int (Int32.ofInt 1)]) rfl ?_
            exact Go_ret rfl rfl rfl
          exact Go_ret rfl rfl rfl
        refine Go_Ps 2 (pc' := 8) (lv' := [(0, .ref 159), (1, .int (0 : Int32)), (2, .int b), (3, .int c), (4, .int d), (5, .int e)]) (st' := [.int c]) rfl ?_
        refine Go_call (v1 := (some (.int (Int32.ofInt 0)))) (h1 := h0) (vs := [.int c]) (r := []) rfl rfl rfl rfl (by decide) rfl rfl rfl rfl ?_ ?_
        · refine Go_Ps 4 (pc' := 6) (lv' := [(0, .int c)]) (st' := [.long (3 : Int64), .long (Int64.ofNat 0), .long c.toInt64]) rfl ?_
          refine Go_call (v1 := (some (.int (Int32.ofInt 0)))) (h1 := h0) (vs := [.long c.toInt64, .long (Int64.ofNat 0), .long (3 : Int64)]) (r := []) rfl rfl rfl rfl (by decide) rfl rfl rfl rfl ?_ ?_
          · refine Go_Ps 3 (pc' := 3) (lv' := [(0, .long c.toInt64), (2, .long (Int64.ofNat 0)), (4, .long (3 : Int64))]) (st' := [.int (lg_cmp c.toInt64 (Int64.ofNat 0))]) rfl ?_
            refine Go_brT rfl rfl rfl (lgT_lt (by first | omega | (simp only [cs_1, Int32.toInt_toInt64]; omega))) ?_
            refine Go_Ps 1 (pc' := 18) (lv' := [(0, .long c.toInt64), (2, .long (Int64.ofNat 0)), (4, .long (3 : Int64))]) (st' := [.int (Int32.ofInt 0)]) rfl ?_
            exact Go_ret rfl rfl rfl
          exact Go_ret rfl rfl rfl
        refine Go_Ps 2 (pc' := 16) (lv' := [(0, .ref 159), (1, .int (0 : Int32)), (2, .int b), (3, .int c), (4, .int d), (5, .int e)]) (st' := [.int ((Int8.ofInt (-2)).toInt32)]) rfl ?_
        exact Go_ret rfl rfl rfl
    · obtain rfl : c = 0 := Int32.toInt_inj.mp (by rw [show (0 : Int32).toInt = 0 from by decide]; omega)
      refine ⟨(-6), h0, h0, h0_len, h0_slo, h0_rcv, ?_, ?_⟩
      · refine Go_Ps 1 (pc' := 1) (lv' := [(0, .ref 0), (1, .int (0 : Int32)), (2, .int b), (3, .int (0 : Int32)), (4, .int d), (5, .int e)]) (st' := [.int (0 : Int32)]) rfl ?_
        refine Go_call (v1 := (some (.int (Int32.ofInt 1)))) (h1 := h0) (vs := [.int (0 : Int32)]) (r := []) rfl rfl rfl rfl (by decide) rfl rfl rfl rfl ?_ ?_
        · refine Go_Ps 7 (pc' := 14) (lv' := [(0, .int (0 : Int32))]) (st' := [.int (Int32.ofInt 1)]) rfl ?_
          exact Go_ret rfl rfl rfl
        refine Go_Ps 2 (pc' := 8) (lv' := [(0, .ref 0), (1, .int (0 : Int32)), (2, .int b), (3, .int (0 : Int32)), (4, .int d), (5, .int e)]) (st' := [.int (0 : Int32)]) rfl ?_
        refine Go_call (v1 := (some (.int (Int32.ofInt 1)))) (h1 := h0) (vs := [.int (0 : Int32)]) (r := []) rfl rfl rfl rfl (by decide) rfl rfl rfl rfl ?_ ?_
        · refine Go_Ps 7 (pc' := 14) (lv' := [(0, .int (0 : Int32))]) (st' := [.int (Int32.ofInt 1)]) rfl ?_
          exact Go_ret rfl rfl rfl
        refine Go_Ps 15 (pc' := 51) (lv' := [(7, .ref 151), (6, .ref 151), (0, .ref 0), (1, .int (0 : Int32)), (2, .int b), (3, .int (0 : Int32)), (4, .int d), (5, .int e)]) (st' := [.int ((Int8.ofInt (-6)).toInt32)]) rfl ?_
        exact Go_ret rfl rfl rfl
      · refine Go_Ps 1 (pc' := 1) (lv' := [(0, .ref 159), (1, .int (0 : Int32)), (2, .int b), (3, .int (0 : Int32)), (4, .int d), (5, .int e)]) (st' := [.int (0 : Int32)]) rfl ?_
        refine Go_call (v1 := (some (.int (Int32.ofInt 1)))) (h1 := h0) (vs := [.int (0 : Int32)]) (r := []) rfl rfl rfl rfl (by decide) rfl rfl rfl rfl ?_ ?_
        · refine Go_Ps 4 (pc' := 6) (lv' := [(0, .int (0 : Int32))]) (st' := [.long (3 : Int64), .long (Int64.ofNat 0), .long (0 : Int32).toInt64]) rfl ?_
          refine Go_call (v1 := (some (.int (Int32.ofInt 1)))) (h1 := h0) (vs := [.long (0 : Int32).toInt64, .long (Int64.ofNat 0), .long (3 : Int64)]) (r := []) rfl rfl rfl rfl (by decide) rfl rfl rfl rfl ?_ ?_
          · refine Go_Ps 10 (pc' := 18) (lv' := [(0, .long (0 : Int32).toInt64), (2, .long (Int64.ofNat 0)), (4, .long (3 : Int64))]) (st' := [.int (Int32.ofInt 1)]) rfl ?_
            exact Go_ret rfl rfl rfl
          exact Go_ret rfl rfl rfl
        refine Go_Ps 2 (pc' := 8) (lv' := [(0, .ref 159), (1, .int (0 : Int32)), (2, .int b), (3, .int (0 : Int32)), (4, .int d), (5, .int e)]) (st' := [.int (0 : Int32)]) rfl ?_
        refine Go_call (v1 := (some (.int (Int32.ofInt 1)))) (h1 := h0) (vs := [.int (0 : Int32)]) (r := []) rfl rfl rfl rfl (by decide) rfl rfl rfl rfl ?_ ?_
        · refine Go_Ps 4 (pc' := 6) (lv' := [(0, .int (0 : Int32))]) (st' := [.long (3 : Int64), .long (Int64.ofNat 0), .long (0 : Int32).toInt64]) rfl ?_
          refine Go_call (v1 := (some (.int (Int32.ofInt 1)))) (h1 := h0) (vs := [.long (0 : Int32).toInt64, .long (Int64.ofNat 0), .long (3 : Int64)]) (r := []) rfl rfl rfl rfl (by decide) rfl rfl rfl rfl ?_ ?_
          · refine Go_Ps 10 (pc' := 18) (lv' := [(0, .long (0 : Int32).toInt64), (2, .long (Int64.ofNat 0)), (4, .long (3 : Int64))]) (st' := [.int (Int32.ofInt 1)]) rfl ?_
            exact Go_ret rfl rfl rfl
          exact Go_ret rfl rfl rfl
        refine Go_Ps 8 (pc' := 39) (lv' := [(0, .ref 159), (1, .int (0 : Int32)), (2, .int b), (3, .int (0 : Int32)), (4, .int d), (5, .int e)]) (st' := [.int ((Int8.ofInt (-6)).toInt32)]) rfl ?_
        exact Go_ret rfl rfl rfl
    · obtain rfl : c = 1 := Int32.toInt_inj.mp (by rw [show (1 : Int32).toInt = 1 from by decide]; omega)
      refine ⟨(-6), h0, h0, h0_len, h0_slo, h0_rcv, ?_, ?_⟩
      · refine Go_Ps 1 (pc' := 1) (lv' := [(0, .ref 0), (1, .int (0 : Int32)), (2, .int b), (3, .int (1 : Int32)), (4, .int d), (5, .int e)]) (st' := [.int (0 : Int32)]) rfl ?_
        refine Go_call (v1 := (some (.int (Int32.ofInt 1)))) (h1 := h0) (vs := [.int (0 : Int32)]) (r := []) rfl rfl rfl rfl (by decide) rfl rfl rfl rfl ?_ ?_
        · refine Go_Ps 7 (pc' := 14) (lv' := [(0, .int (0 : Int32))]) (st' := [.int (Int32.ofInt 1)]) rfl ?_
          exact Go_ret rfl rfl rfl
        refine Go_Ps 2 (pc' := 8) (lv' := [(0, .ref 0), (1, .int (0 : Int32)), (2, .int b), (3, .int (1 : Int32)), (4, .int d), (5, .int e)]) (st' := [.int (1 : Int32)]) rfl ?_
        refine Go_call (v1 := (some (.int (Int32.ofInt 1)))) (h1 := h0) (vs := [.int (1 : Int32)]) (r := []) rfl rfl rfl rfl (by decide) rfl rfl rfl rfl ?_ ?_
        · refine Go_Ps 7 (pc' := 14) (lv' := [(0, .int (1 : Int32))]) (st' := [.int (Int32.ofInt 1)]) rfl ?_
          exact Go_ret rfl rfl rfl
        refine Go_Ps 15 (pc' := 51) (lv' := [(7, .ref 153), (6, .ref 151), (0, .ref 0), (1, .int (0 : Int32)), (2, .int b), (3, .int (1 : Int32)), (4, .int d), (5, .int e)]) (st' := [.int ((Int8.ofInt (-6)).toInt32)]) rfl ?_
        exact Go_ret rfl rfl rfl
      · refine Go_Ps 1 (pc' := 1) (lv' := [(0, .ref 159), (1, .int (0 : Int32)), (2, .int b), (3, .int (1 : Int32)), (4, .int d), (5, .int e)]) (st' := [.int (0 : Int32)]) rfl ?_
        refine Go_call (v1 := (some (.int (Int32.ofInt 1)))) (h1 := h0) (vs := [.int (0 : Int32)]) (r := []) rfl rfl rfl rfl (by decide) rfl rfl rfl rfl ?_ ?_
        · refine Go_Ps 4 (pc' := 6) (lv' := [(0, .int (0 : Int32))]) (st' := [.long (3 : Int64), .long (Int64.ofNat 0), .long (0 : Int32).toInt64]) rfl ?_
          refine Go_call (v1 := (some (.int (Int32.ofInt 1)))) (h1 := h0) (vs := [.long (0 : Int32).toInt64, .long (Int64.ofNat 0), .long (3 : Int64)]) (r := []) rfl rfl rfl rfl (by decide) rfl rfl rfl rfl ?_ ?_
          · refine Go_Ps 10 (pc' := 18) (lv' := [(0, .long (0 : Int32).toInt64), (2, .long (Int64.ofNat 0)), (4, .long (3 : Int64))]) (st' := [.int (Int32.ofInt 1)]) rfl ?_
            exact Go_ret rfl rfl rfl
          exact Go_ret rfl rfl rfl
        refine Go_Ps 2 (pc' := 8) (lv' := [(0, .ref 159), (1, .int (0 : Int32)), (2, .int b), (3, .int (1 : Int32)), (4, .int d), (5, .int e)]) (st' := [.int (1 : Int32)]) rfl ?_
        refine Go_call (v1 := (some (.int (Int32.ofInt 1)))) (h1 := h0) (vs := [.int (1 : Int32)]) (r := []) rfl rfl rfl rfl (by decide) rfl rfl rfl rfl ?_ ?_
        · refine Go_Ps 4 (pc' := 6) (lv' := [(0, .int (1 : Int32))]) (st' := [.long (3 : Int64), .long (Int64.ofNat 0), .long (1 : Int32).toInt64]) rfl ?_
          refine Go_call (v1 := (some (.int (Int32.ofInt 1)))) (h1 := h0) (vs := [.long (1 : Int32).toInt64, .long (Int64.ofNat 0), .long (3 : Int64)]) (r := []) rfl rfl rfl rfl (by decide) rfl rfl rfl rfl ?_ ?_
          · refine Go_Ps 10 (pc' := 18) (lv' := [(0, .long (1 : Int32).toInt64), (2, .long (Int64.ofNat 0)), (4, .long (3 : Int64))]) (st' := [.int (Int32.ofInt 1)]) rfl ?_
            exact Go_ret rfl rfl rfl
          exact Go_ret rfl rfl rfl
        refine Go_Ps 8 (pc' := 39) (lv' := [(0, .ref 159), (1, .int (0 : Int32)), (2, .int b), (3, .int (1 : Int32)), (4, .int d), (5, .int e)]) (st' := [.int ((Int8.ofInt (-6)).toInt32)]) rfl ?_
        exact Go_ret rfl rfl rfl
    · obtain rfl : c = 2 := Int32.toInt_inj.mp (by rw [show (2 : Int32).toInt = 2 from by decide]; omega)
      refine ⟨(-6), h0, h0, h0_len, h0_slo, h0_rcv, ?_, ?_⟩
      · refine Go_Ps 1 (pc' := 1) (lv' := [(0, .ref 0), (1, .int (0 : Int32)), (2, .int b), (3, .int (2 : Int32)), (4, .int d), (5, .int e)]) (st' := [.int (0 : Int32)]) rfl ?_
        refine Go_call (v1 := (some (.int (Int32.ofInt 1)))) (h1 := h0) (vs := [.int (0 : Int32)]) (r := []) rfl rfl rfl rfl (by decide) rfl rfl rfl rfl ?_ ?_
        · refine Go_Ps 7 (pc' := 14) (lv' := [(0, .int (0 : Int32))]) (st' := [.int (Int32.ofInt 1)]) rfl ?_
          exact Go_ret rfl rfl rfl
        refine Go_Ps 2 (pc' := 8) (lv' := [(0, .ref 0), (1, .int (0 : Int32)), (2, .int b), (3, .int (2 : Int32)), (4, .int d), (5, .int e)]) (st' := [.int (2 : Int32)]) rfl ?_
        refine Go_call (v1 := (some (.int (Int32.ofInt 1)))) (h1 := h0) (vs := [.int (2 : Int32)]) (r := []) rfl rfl rfl rfl (by decide) rfl rfl rfl rfl ?_ ?_
        · refine Go_Ps 7 (pc' := 14) (lv' := [(0, .int (2 : Int32))]) (st' := [.int (Int32.ofInt 1)]) rfl ?_
          exact Go_ret rfl rfl rfl
        refine Go_Ps 15 (pc' := 51) (lv' := [(7, .ref 155), (6, .ref 151), (0, .ref 0), (1, .int (0 : Int32)), (2, .int b), (3, .int (2 : Int32)), (4, .int d), (5, .int e)]) (st' := [.int ((Int8.ofInt (-6)).toInt32)]) rfl ?_
        exact Go_ret rfl rfl rfl
      · refine Go_Ps 1 (pc' := 1) (lv' := [(0, .ref 159), (1, .int (0 : Int32)), (2, .int b), (3, .int (2 : Int32)), (4, .int d), (5, .int e)]) (st' := [.int (0 : Int32)]) rfl ?_
        refine Go_call (v1 := (some (.int (Int32.ofInt 1)))) (h1 := h0) (vs := [.int (0 : Int32)]) (r := []) rfl rfl rfl rfl (by decide) rfl rfl rfl rfl ?_ ?_
        · refine Go_Ps 4 (pc' := 6) (lv' := [(0, .int (0 : Int32))]) (st' := [.long (3 : Int64), .long (Int64.ofNat 0), .long (0 : Int32).toInt64]) rfl ?_
          refine Go_call (v1 := (some (.int (Int32.ofInt 1)))) (h1 := h0) (vs := [.long (0 : Int32).toInt64, .long (Int64.ofNat 0), .long (3 : Int64)]) (r := []) rfl rfl rfl rfl (by decide) rfl rfl rfl rfl ?_ ?_
          · refine Go_Ps 10 (pc' := 18) (lv' := [(0, .long (0 : Int32).toInt64), (2, .long (Int64.ofNat 0)), (4, .long (3 : Int64))]) (st' := [.int (Int32.ofInt 1)]) rfl ?_
            exact Go_ret rfl rfl rfl
          exact Go_ret rfl rfl rfl
        refine Go_Ps 2 (pc' := 8) (lv' := [(0, .ref 159), (1, .int (0 : Int32)), (2, .int b), (3, .int (2 : Int32)), (4, .int d), (5, .int e)]) (st' := [.int (2 : Int32)]) rfl ?_
        refine Go_call (v1 := (some (.int (Int32.ofInt 1)))) (h1 := h0) (vs := [.int (2 : Int32)]) (r := []) rfl rfl rfl rfl (by decide) rfl rfl rfl rfl ?_ ?_
        · refine Go_Ps 4 (pc' := 6) (lv' := [(0, .int (2 : Int32))]) (st' := [.long (3 : Int64), .long (Int64.ofNat 0), .long (2 : Int32).toInt64]) rfl ?_
          refine Go_call (v1 := (some (.int (Int32.ofInt 1)))) (h1 := h0) (vs := [.long (2 : Int32).toInt64, .long (Int64.ofNat 0), .long (3 : Int64)]) (r := []) rfl rfl rfl rfl (by decide) rfl rfl rfl rfl ?_ ?_
          · refine Go_Ps 10 (pc' := 18) (lv' := [(0, .long (2 : Int32).toInt64), (2, .long (Int64.ofNat 0)), (4, .long (3 : Int64))]) (st' := [.int (Int32.ofInt 1)]) rfl ?_
            exact Go_ret rfl rfl rfl
          exact Go_ret rfl rfl rfl
        refine Go_Ps 8 (pc' := 39) (lv' := [(0, .ref 159), (1, .int (0 : Int32)), (2, .int b), (3, .int (2 : Int32)), (4, .int d), (5, .int e)]) (st' := [.int ((Int8.ofInt (-6)).toInt32)]) rfl ?_
        exact Go_ret rfl rfl rfl
    · obtain rfl : c = 3 := Int32.toInt_inj.mp (by rw [show (3 : Int32).toInt = 3 from by decide]; omega)
      refine ⟨(-6), h0, h0, h0_len, h0_slo, h0_rcv, ?_, ?_⟩
      · refine Go_Ps 1 (pc' := 1) (lv' := [(0, .ref 0), (1, .int (0 : Int32)), (2, .int b), (3, .int (3 : Int32)), (4, .int d), (5, .int e)]) (st' := [.int (0 : Int32)]) rfl ?_
        refine Go_call (v1 := (some (.int (Int32.ofInt 1)))) (h1 := h0) (vs := [.int (0 : Int32)]) (r := []) rfl rfl rfl rfl (by decide) rfl rfl rfl rfl ?_ ?_
        · refine Go_Ps 7 (pc' := 14) (lv' := [(0, .int (0 : Int32))]) (st' := [.int (Int32.ofInt 1)]) rfl ?_
          exact Go_ret rfl rfl rfl
        refine Go_Ps 2 (pc' := 8) (lv' := [(0, .ref 0), (1, .int (0 : Int32)), (2, .int b), (3, .int (3 : Int32)), (4, .int d), (5, .int e)]) (st' := [.int (3 : Int32)]) rfl ?_
        refine Go_call (v1 := (some (.int (Int32.ofInt 1)))) (h1 := h0) (vs := [.int (3 : Int32)]) (r := []) rfl rfl rfl rfl (by decide) rfl rfl rfl rfl ?_ ?_
        · refine Go_Ps 7 (pc' := 14) (lv' := [(0, .int (3 : Int32))]) (st' := [.int (Int32.ofInt 1)]) rfl ?_
          exact Go_ret rfl rfl rfl
        refine Go_Ps 15 (pc' := 51) (lv' := [(7, .ref 157), (6, .ref 151), (0, .ref 0), (1, .int (0 : Int32)), (2, .int b), (3, .int (3 : Int32)), (4, .int d), (5, .int e)]) (st' := [.int ((Int8.ofInt (-6)).toInt32)]) rfl ?_
        exact Go_ret rfl rfl rfl
      · refine Go_Ps 1 (pc' := 1) (lv' := [(0, .ref 159), (1, .int (0 : Int32)), (2, .int b), (3, .int (3 : Int32)), (4, .int d), (5, .int e)]) (st' := [.int (0 : Int32)]) rfl ?_
        refine Go_call (v1 := (some (.int (Int32.ofInt 1)))) (h1 := h0) (vs := [.int (0 : Int32)]) (r := []) rfl rfl rfl rfl (by decide) rfl rfl rfl rfl ?_ ?_
        · refine Go_Ps 4 (pc' := 6) (lv' := [(0, .int (0 : Int32))]) (st' := [.long (3 : Int64), .long (Int64.ofNat 0), .long (0 : Int32).toInt64]) rfl ?_
          refine Go_call (v1 := (some (.int (Int32.ofInt 1)))) (h1 := h0) (vs := [.long (0 : Int32).toInt64, .long (Int64.ofNat 0), .long (3 : Int64)]) (r := []) rfl rfl rfl rfl (by decide) rfl rfl rfl rfl ?_ ?_
          · refine Go_Ps 10 (pc' := 18) (lv' := [(0, .long (0 : Int32).toInt64), (2, .long (Int64.ofNat 0)), (4, .long (3 : Int64))]) (st' := [.int (Int32.ofInt 1)]) rfl ?_
            exact Go_ret rfl rfl rfl
          exact Go_ret rfl rfl rfl
        refine Go_Ps 2 (pc' := 8) (lv' := [(0, .ref 159), (1, .int (0 : Int32)), (2, .int b), (3, .int (3 : Int32)), (4, .int d), (5, .int e)]) (st' := [.int (3 : Int32)]) rfl ?_
        refine Go_call (v1 := (some (.int (Int32.ofInt 1)))) (h1 := h0) (vs := [.int (3 : Int32)]) (r := []) rfl rfl rfl rfl (by decide) rfl rfl rfl rfl ?_ ?_
        · refine Go_Ps 4 (pc' := 6) (lv' := [(0, .int (3 : Int32))]) (st' := [.long (3 : Int64), .long (Int64.ofNat 0), .long (3 : Int32).toInt64]) rfl ?_
          refine Go_call (v1 := (some (.int (Int32.ofInt 1)))) (h1 := h0) (vs := [.long (3 : Int32).toInt64, .long (Int64.ofNat 0), .long (3 : Int64)]) (r := []) rfl rfl rfl rfl (by decide) rfl rfl rfl rfl ?_ ?_
          · refine Go_Ps 10 (pc' := 18) (lv' := [(0, .long (3 : Int32).toInt64), (2, .long (Int64.ofNat 0)), (4, .long (3 : Int64))]) (st' := [.int (Int32.ofInt 1)]) rfl ?_
            exact Go_ret rfl rfl rfl
          exact Go_ret rfl rfl rfl
        refine Go_Ps 8 (pc' := 39) (lv' := [(0, .ref 159), (1, .int (0 : Int32)), (2, .int b), (3, .int (3 : Int32)), (4, .int d), (5, .int e)]) (st' := [.int ((Int8.ofInt (-6)).toInt32)]) rfl ?_
        exact Go_ret rfl rfl rfl
    · refine ⟨(-2), h0, h0, h0_len, h0_slo, h0_rcv, ?_, ?_⟩
      · refine Go_Ps 1 (pc' := 1) (lv' := [(0, .ref 0), (1, .int (0 : Int32)), (2, .int b), (3, .int c), (4, .int d), (5, .int e)]) (st' := [.int (0 : Int32)]) rfl ?_
        refine Go_call (v1 := (some (.int (Int32.ofInt 1)))) (h1 := h0) (vs := [.int (0 : Int32)]) (r := []) rfl rfl rfl rfl (by decide) rfl rfl rfl rfl ?_ ?_
        · refine Go_Ps 7 (pc' := 14) (lv' := [(0, .int (0 : Int32))]) (st' := [.int (Int32.ofInt 1)]) rfl ?_
          exact Go_ret rfl rfl rfl
        refine Go_Ps 2 (pc' := 8) (lv' := [(0, .ref 0), (1, .int (0 : Int32)), (2, .int b), (3, .int c), (4, .int d), (5, .int e)]) (st' := [.int c]) rfl ?_
        refine Go_call (v1 := (some (.int (Int32.ofInt 0)))) (h1 := h0) (vs := [.int c]) (r := []) rfl rfl rfl rfl (by decide) rfl rfl rfl rfl ?_ ?_
        · refine Go_Ps 1 (pc' := 1) (lv' := [(0, .int c)]) (st' := [.int c]) rfl ?_
          refine Go_brF rfl rfl rfl (iF_lt (by first | omega | (simp only [cs_0]; omega))) ?_
          refine Go_Ps 2 (pc' := 6) (lv' := [(0, .int c)]) (st' := [.int (Int32.ofInt 4), .int c]) rfl ?_
          refine Go_brT rfl rfl rfl (iT_le (by first | omega | (simp only [cs_8]; omega))) ?_
          refine Go_Ps 1 (pc' := 14) (lv' := [(0, .int c)]) (st' := [.int (Int32.ofInt 0)]) rfl ?_
          exact Go_ret rfl rfl rfl
        refine Go_Ps 2 (pc' := 16) (lv' := [(0, .ref 0), (1, .int (0 : Int32)), (2, .int b), (3, .int c), (4, .int d), (5, .int e)]) (st' := [.int ((Int8.ofInt (-2)).toInt32)]) rfl ?_
        exact Go_ret rfl rfl rfl
      · refine Go_Ps 1 (pc' := 1) (lv' := [(0, .ref 159), (1, .int (0 : Int32)), (2, .int b), (3, .int c), (4, .int d), (5, .int e)]) (st' := [.int (0 : Int32)]) rfl ?_
        refine Go_call (v1 := (some (.int (Int32.ofInt 1)))) (h1 := h0) (vs := [.int (0 : Int32)]) (r := []) rfl rfl rfl rfl (by decide) rfl rfl rfl rfl ?_ ?_
        · refine Go_Ps 4 (pc' := 6) (lv' := [(0, .int (0 : Int32))]) (st' := [.long (3 : Int64), .long (Int64.ofNat 0), .long (0 : Int32).toInt64]) rfl ?_
          refine Go_call (v1 := (some (.int (Int32.ofInt 1)))) (h1 := h0) (vs := [.long (0 : Int32).toInt64, .long (Int64.ofNat 0), .long (3 : Int64)]) (r := []) rfl rfl rfl rfl (by decide) rfl rfl rfl rfl ?_ ?_
          · refine Go_Ps 10 (pc' := 18) (lv' := [(0, .long (0 : Int32).toInt64), (2, .long (Int64.ofNat 0)), (4, .long (3 : Int64))]) (st' := [.int (Int32.ofInt 1)]) rfl ?_
            exact Go_ret rfl rfl rfl
          exact Go_ret rfl rfl rfl
        refine Go_Ps 2 (pc' := 8) (lv' := [(0, .ref 159), (1, .int (0 : Int32)), (2, .int b), (3, .int c), (4, .int d), (5, .int e)]) (st' := [.int c]) rfl ?_
        refine Go_call (v1 := (some (.int (Int32.ofInt 0)))) (h1 := h0) (vs := [.int c]) (r := []) rfl rfl rfl rfl (by decide) rfl rfl rfl rfl ?_ ?_
        · refine Go_Ps 4 (pc' := 6) (lv' := [(0, .int c)]) (st' := [.long (3 : Int64), .long (Int64.ofNat 0), .long c.toInt64]) rfl ?_
          refine Go_call (v1 := (some (.int (Int32.ofInt 0)))) (h1 := h0) (vs := [.long c.toInt64, .long (Int64.ofNat 0), .long (3 : Int64)]) (r := []) rfl rfl rfl rfl (by decide) rfl rfl rfl rfl ?_ ?_
          · refine Go_Ps 3 (pc' := 3) (lv' := [(0, .long c.toInt64), (2, .long (Int64.ofNat 0)), (4, .long (3 : Int64))]) (st' := [.int (lg_cmp c.toInt64 (Int64.ofNat 0))]) rfl ?_
            refine Go_brF rfl rfl rfl (lgF_lt (by first | omega | (simp only [cs_1, Int32.toInt_toInt64]; omega))) ?_
            refine Go_Ps 3 (pc' := 10) (lv' := [(0, .long c.toInt64), (2, .long (Int64.ofNat 0)), (4, .long (3 : Int64))]) (st' := [.int (lg_cmp c.toInt64 (3 : Int64))]) rfl ?_
            refine Go_brT rfl rfl rfl (lgT_gt (by first | omega | (simp only [cs_9, Int32.toInt_toInt64]; omega))) ?_
            refine Go_Ps 1 (pc' := 18) (lv' := [(0, .long c.toInt64), (2, .long (Int64.ofNat 0)), (4, .long (3 : Int64))]) (st' := [.int (Int32.ofInt 0)]) rfl ?_
            exact Go_ret rfl rfl rfl
          exact Go_ret rfl rfl rfl
        refine Go_Ps 2 (pc' := 16) (lv' := [(0, .ref 159), (1, .int (0 : Int32)), (2, .int b), (3, .int c), (4, .int d), (5, .int e)]) (st' := [.int ((Int8.ofInt (-2)).toInt32)]) rfl ?_
        exact Go_ret rfl rfl rfl
  · obtain rfl : a = 1 := Int32.toInt_inj.mp (by rw [show (1 : Int32).toInt = 1 from by decide]; omega)
    rcases (show c.toInt < 0 ∨ c.toInt = 0 ∨ c.toInt = 1 ∨ c.toInt = 2 ∨ c.toInt = 3 ∨ 3 < c.toInt by omega) with he | he | he | he | he | he
    · refine ⟨(-2), h0, h0, h0_len, h0_slo, h0_rcv, ?_, ?_⟩
      · refine Go_Ps 1 (pc' := 1) (lv' := [(0, .ref 0), (1, .int (1 : Int32)), (2, .int b), (3, .int c), (4, .int d), (5, .int e)]) (st' := [.int (1 : Int32)]) rfl ?_
        refine Go_call (v1 := (some (.int (Int32.ofInt 1)))) (h1 := h0) (vs := [.int (1 : Int32)]) (r := []) rfl rfl rfl rfl (by decide) rfl rfl rfl rfl ?_ ?_
        · refine Go_Ps 7 (pc' := 14) (lv' := [(0, .int (1 : Int32))]) (st' := [.int (Int32.ofInt 1)]) rfl ?_
          exact Go_ret rfl rfl rfl
        refine Go_Ps 2 (pc' := 8) (lv' := [(0, .ref 0), (1, .int (1 : Int32)), (2, .int b), (3, .int c), (4, .int d), (5, .int e)]) (st' := [.int c]) rfl ?_
        refine Go_call (v1 := (some (.int (Int32.ofInt 0)))) (h1 := h0) (vs := [.int c]) (r := []) rfl rfl rfl rfl (by decide) rfl rfl rfl rfl ?_ ?_
        · refine Go_Ps 1 (pc' := 1) (lv' := [(0, .int c)]) (st' := [.int c]) rfl ?_
          refine Go_brT rfl rfl rfl (iT_lt (by first | omega | (simp only [cs_0]; omega))) ?_
          refine Go_Ps 1 (pc' := 14) (lv' := [(0, .int c)]) (st' := [.int (Int32.ofInt 0)]) rfl ?_
          exact Go_ret rfl rfl rfl
        refine Go_Ps 2 (pc' := 16) (lv' := [(0, .ref 0), (1, .int (1 : Int32)), (2, .int b), (3, .int c), (4, .int d), (5, .int e)]) (st' := [.int ((Int8.ofInt (-2)).toInt32)]) rfl ?_
        exact Go_ret rfl rfl rfl
      · refine Go_Ps 1 (pc' := 1) (lv' := [(0, .ref 159), (1, .int (1 : Int32)), (2, .int b), (3, .int c), (4, .int d), (5, .int e)]) (st' := [.int (1 : Int32)]) rfl ?_
        refine Go_call (v1 := (some (.int (Int32.ofInt 1)))) (h1 := h0) (vs := [.int (1 : Int32)]) (r := []) rfl rfl rfl rfl (by decide) rfl rfl rfl rfl ?_ ?_
        · refine Go_Ps 4 (pc' := 6) (lv' := [(0, .int (1 : Int32))]) (st' := [.long (3 : Int64), .long (Int64.ofNat 0), .long (1 : Int32).toInt64]) rfl ?_
          refine Go_call (v1 := (some (.int (Int32.ofInt 1)))) (h1 := h0) (vs := [.long (1 : Int32).toInt64, .long (Int64.ofNat 0), .long (3 : Int64)]) (r := []) rfl rfl rfl rfl (by decide) rfl rfl rfl rfl ?_ ?_
          · refine Go_Ps 10 (pc' := 18) (lv' := [(0, .long (1 : Int32).toInt64), (2, .long (Int64.ofNat 0)), (4, .long (3 : Int64))]) (st' := [.int (Int32.ofInt 1)]) rfl ?_
            exact Go_ret rfl rfl rfl
          exact Go_ret rfl rfl rfl
        refine Go_Ps 2 (pc' := 8) (lv' := [(0, .ref 159), (1, .int (1 : Int32)), (2, .int b), (3, .int c), (4, .int d), (5, .int e)]) (st' := [.int c]) rfl ?_
        refine Go_call (v1 := (some (.int (Int32.ofInt 0)))) (h1 := h0) (vs := [.int c]) (r := []) rfl rfl rfl rfl (by decide) rfl rfl rfl rfl ?_ ?_
        · refine Go_Ps 4 (pc' := 6) (lv' := [(0, .int c)]) (st' := [.long (3 : Int64), .long (Int64.ofNat 0), .long c.toInt64]) rfl ?_
          refine Go_call (v1 := (some (.int (Int32.ofInt 0)))) (h1 := h0) (vs := [.long c.toInt64, .long (Int64.ofNat 0), .long (3 : Int64)]) (r := []) rfl rfl rfl rfl (by decide) rfl rfl rfl rfl ?_ ?_
          · refine Go_Ps 3 (pc' := 3) (lv' := [(0, .long c.toInt64), (2, .long (Int64.ofNat 0)), (4, .long (3 : Int64))]) (st' := [.int (lg_cmp c.toInt64 (Int64.ofNat 0))]) rfl ?_
            refine Go_brT rfl rfl rfl (lgT_lt (by first | omega | (simp only [cs_1, Int32.toInt_toInt64]; omega))) ?_
            refine Go_Ps 1 (pc' := 18) (lv' := [(0, .long c.toInt64), (2, .long (Int64.ofNat 0)), (4, .long (3 : Int64))]) (st' := [.int (Int32.ofInt 0)]) rfl ?_
            exact Go_ret rfl rfl rfl
          exact Go_ret rfl rfl rfl
        refine Go_Ps 2 (pc' := 16) (lv' := [(0, .ref 159), (1, .int (1 : Int32)), (2, .int b), (3, .int c), (4, .int d), (5, .int e)]) (st' := [.int ((Int8.ofInt (-2)).toInt32)]) rfl ?_
        exact Go_ret rfl rfl rfl
    · obtain rfl : c = 0 := Int32.toInt_inj.mp (by rw [show (0 : Int32).toInt = 0 from by decide]; omega)
      refine ⟨(-6), h0, h0, h0_len, h0_slo, h0_rcv, ?_, ?_⟩
      · refine Go_Ps 1 (pc' := 1) (lv' := [(0, .ref 0), (1, .int (1 : Int32)), (2, .int b), (3, .int (0 : Int32)), (4, .int d), (5, .int e)]) (st' := [.int (1 : Int32)]) rfl ?_
        refine Go_call (v1 := (some (.int (Int32.ofInt 1)))) (h1 := h0) (vs := [.int (1 : Int32)]) (r := []) rfl rfl rfl rfl (by decide) rfl rfl rfl rfl ?_ ?_
        · refine Go_Ps 7 (pc' := 14) (lv' := [(0, .int (1 : Int32))]) (st' := [.int (Int32.ofInt 1)]) rfl ?_
          exact Go_ret rfl rfl rfl
        refine Go_Ps 2 (pc' := 8) (lv' := [(0, .ref 0), (1, .int (1 : Int32)), (2, .int b), (3, .int (0 : Int32)), (4, .int d), (5, .int e)]) (st' := [.int (0 : Int32)]) rfl ?_
        refine Go_call (v1 := (some (.int (Int32.ofInt 1)))) (h1 := h0) (vs := [.int (0 : Int32)]) (r := []) rfl rfl rfl rfl (by decide) rfl rfl rfl rfl ?_ ?_
        · refine Go_Ps 7 (pc' := 14) (lv' := [(0, .int (0 : Int32))]) (st' := [.int (Int32.ofInt 1)]) rfl ?_
          exact Go_ret rfl rfl rfl
        refine Go_Ps 15 (pc' := 51) (lv' := [(7, .ref 151), (6, .ref 153), (0, .ref 0), (1, .int (1 : Int32)), (2, .int b), (3, .int (0 : Int32)), (4, .int d), (5, .int e)]) (st' := [.int ((Int8.ofInt (-6)).toInt32)]) rfl ?_
        exact Go_ret rfl rfl rfl
      · refine Go_Ps 1 (pc' := 1) (lv' := [(0, .ref 159), (1, .int (1 : Int32)), (2, .int b), (3, .int (0 : Int32)), (4, .int d), (5, .int e)]) (st' := [.int (1 : Int32)]) rfl ?_
        refine Go_call (v1 := (some (.int (Int32.ofInt 1)))) (h1 := h0) (vs := [.int (1 : Int32)]) (r := []) rfl rfl rfl rfl (by decide) rfl rfl rfl rfl ?_ ?_
        · refine Go_Ps 4 (pc' := 6) (lv' := [(0, .int (1 : Int32))]) (st' := [.long (3 : Int64), .long (Int64.ofNat 0), .long (1 : Int32).toInt64]) rfl ?_
          refine Go_call (v1 := (some (.int (Int32.ofInt 1)))) (h1 := h0) (vs := [.long (1 : Int32).toInt64, .long (Int64.ofNat 0), .long (3 : Int64)]) (r := []) rfl rfl rfl rfl (by decide) rfl rfl rfl rfl ?_ ?_
          · refine Go_Ps 10 (pc' := 18) (lv' := [(0, .long (1 : Int32).toInt64), (2, .long (Int64.ofNat 0)), (4, .long (3 : Int64))]) (st' := [.int (Int32.ofInt 1)]) rfl ?_
            exact Go_ret rfl rfl rfl
          exact Go_ret rfl rfl rfl
        refine Go_Ps 2 (pc' := 8) (lv' := [(0, .ref 159), (1, .int (1 : Int32)), (2, .int b), (3, .int (0 : Int32)), (4, .int d), (5, .int e)]) (st' := [.int (0 : Int32)]) rfl ?_
        refine Go_call (v1 := (some (.int (Int32.ofInt 1)))) (h1 := h0) (vs := [.int (0 : Int32)]) (r := []) rfl rfl rfl rfl (by decide) rfl rfl rfl rfl ?_ ?_
        · refine Go_Ps 4 (pc' := 6) (lv' := [(0, .int (0 : Int32))]) (st' := [.long (3 : Int64), .long (Int64.ofNat 0), .long (0 : Int32).toInt64]) rfl ?_
          refine Go_call (v1 := (some (.int (Int32.ofInt 1)))) (h1 := h0) (vs := [.long (0 : Int32).toInt64, .long (Int64.ofNat 0), .long (3 : Int64)]) (r := []) rfl rfl rfl rfl (by decide) rfl rfl rfl rfl ?_ ?_
          · refine Go_Ps 10 (pc' := 18) (lv' := [(0, .long (0 : Int32).toInt64), (2, .long (Int64.ofNat 0)), (4, .long (3 : Int64))]) (st' := [.int (Int32.ofInt 1)]) rfl ?_
            exact Go_ret rfl rfl rfl
          exact Go_ret rfl rfl rfl
        refine Go_Ps 8 (pc' := 39) (lv' := [(0, .ref 159), (1, .int (1 : Int32)), (2, .int b), (3, .int (0 : Int32)), (4, .int d), (5, .int e)]) (st' := [.int ((Int8.ofInt (-6)).toInt32)]) rfl ?_
        exact Go_ret rfl rfl rfl
    · obtain rfl : c = 1 := Int32.toInt_inj.mp (by rw [show (1 : Int32).toInt = 1 from by decide]; omega)
      refine ⟨(-6), h0, h0, h0_len, h0_slo, h0_rcv, ?_, ?_⟩
      · refine Go_Ps 1 (pc' := 1) (lv' := [(0, .ref 0), (1, .int (1 : Int32)), (2, .int b), (3, .int (1 : Int32)), (4, .int d), (5, .int e)]) (st' := [.int (1 : Int32)]) rfl ?_
        refine Go_call (v1 := (some (.int (Int32.ofInt 1)))) (h1 := h0) (vs := [.int (1 : Int32)]) (r := []) rfl rfl rfl rfl (by decide) rfl rfl rfl rfl ?_ ?_
        · refine Go_Ps 7 (pc' := 14) (lv' := [(0, .int (1 : Int32))]) (st' := [.int (Int32.ofInt 1)]) rfl ?_
          exact Go_ret rfl rfl rfl
        refine Go_Ps 2 (pc' := 8) (lv' := [(0, .ref 0), (1, .int (1 : Int32)), (2, .int b), (3, .int (1 : Int32)), (4, .int d), (5, .int e)]) (st' := [.int (1 : Int32)]) rfl ?_
        refine Go_call (v1 := (some (.int (Int32.ofInt 1)))) (h1 := h0) (vs := [.int (1 : Int32)]) (r := []) rfl rfl rfl rfl (by decide) rfl rfl rfl rfl ?_ ?_
        · refine Go_Ps 7 (pc' := 14) (lv' := [(0, .int (1 : Int32))]) (st' := [.int (Int32.ofInt 1)]) rfl ?_
          exact Go_ret rfl rfl rfl
        refine Go_Ps 15 (pc' := 51) (lv' := [(7, .ref 153), (6, .ref 153), (0, .ref 0), (1, .int (1 : Int32)), (2, .int b), (3, .int (1 : Int32)), (4, .int d), (5, .int e)]) (st' := [.int ((Int8.ofInt (-6)).toInt32)]) rfl ?_
        exact Go_ret rfl rfl rfl
      · refine Go_Ps 1 (pc' := 1) (lv' := [(0, .ref 159), (1, .int (1 : Int32)), (2, .int b), (3, .int (1 : Int32)), (4, .int d), (5, .int e)]) (st' := [.int (1 : Int32)]) rfl ?_
        refine Go_call (v1 := (some (.int (Int32.ofInt 1)))) (h1 := h0) (vs := [.int (1 : Int32)]) (r := []) rfl rfl rfl rfl (by decide) rfl rfl rfl rfl ?_ ?_
        · refine Go_Ps 4 (pc' := 6) (lv' := [(0, .int (1 : Int32))]) (st' := [.long (3 : Int64), .long (Int64.ofNat 0), .long (1 : Int32).toInt64]) rfl ?_
          refine Go_call (v1 := (some (.int (Int32.ofInt 1)))) (h1 := h0) (vs := [.long (1 : Int32).toInt64, .long (Int64.ofNat 0), .long (3 : Int64)]) (r := []) rfl rfl rfl rfl (by decide) rfl rfl rfl rfl ?_ ?_
          · refine Go_Ps 10 (pc' := 18) (lv' := [(0, .long (1 : Int32).toInt64), (2, .long (Int64.ofNat 0)), (4, .long (3 : Int64))]) (st' := [.int (Int32.ofInt 1)]) rfl ?_
            exact Go_ret rfl rfl rfl
          exact Go_ret rfl rfl rfl
        refine Go_Ps 2 (pc' := 8) (lv' := [(0, .ref 159), (1, .int (1 : Int32)), (2, .int b), (3, .int (1 : Int32)), (4, .int d), (5, .int e)]) (st' := [.int (1 : Int32)]) rfl ?_
        refine Go_call (v1 := (some (.int (Int32.ofInt 1)))) (h1 := h0) (vs := [.int (1 : Int32)]) (r := []) rfl rfl rfl rfl (by decide) rfl rfl rfl rfl ?_ ?_
        · refine Go_Ps 4 (pc' := 6) (lv' := [(0, .int (1 : Int32))]) (st' := [.long (3 : Int64), .long (Int64.ofNat 0), .long (1 : Int32).toInt64]) rfl ?_
          refine Go_call (v1 := (some (.int (Int32.ofInt 1)))) (h1 := h0) (vs := [.long (1 : Int32).toInt64, .long (Int64.ofNat 0), .long (3 : Int64)]) (r := []) rfl rfl rfl rfl (by decide) rfl rfl rfl rfl ?_ ?_
          · refine Go_Ps 10 (pc' := 18) (lv' := [(0, .long (1 : Int32).toInt64), (2, .long (Int64.ofNat 0)), (4, .long (3 : Int64))]) (st' := [.int (Int32.ofInt 1)]) rfl ?_
            exact Go_ret rfl rfl rfl
          exact Go_ret rfl rfl rfl
        refine Go_Ps 8 (pc' := 39) (lv' := [(0, .ref 159), (1, .int (1 : Int32)), (2, .int b), (3, .int (1 : Int32)), (4, .int d), (5, .int e)]) (st' := [.int ((Int8.ofInt (-6)).toInt32)]) rfl ?_
        exact Go_ret rfl rfl rfl
    · obtain rfl : c = 2 := Int32.toInt_inj.mp (by rw [show (2 : Int32).toInt = 2 from by decide]; omega)
      refine ⟨(-6), h0, h0, h0_len, h0_slo, h0_rcv, ?_, ?_⟩
      · refine Go_Ps 1 (pc' := 1) (lv' := [(0, .ref 0), (1, .int (1 : Int32)), (2, .int b), (3, .int (2 : Int32)), (4, .int d), (5, .int e)]) (st' := [.int (1 : Int32)]) rfl ?_
        refine Go_call (v1 := (some (.int (Int32.ofInt 1)))) (h1 := h0) (vs := [.int (1 : Int32)]) (r := []) rfl rfl rfl rfl (by decide) rfl rfl rfl rfl ?_ ?_
        · refine Go_Ps 7 (pc' := 14) (lv' := [(0, .int (1 : Int32))]) (st' := [.int (Int32.ofInt 1)]) rfl ?_
          exact Go_ret rfl rfl rfl
        refine Go_Ps 2 (pc' := 8) (lv' := [(0, .ref 0), (1, .int (1 : Int32)), (2, .int b), (3, .int (2 : Int32)), (4, .int d), (5, .int e)]) (st' := [.int (2 : Int32)]) rfl ?_
        refine Go_call (v1 := (some (.int (Int32.ofInt 1)))) (h1 := h0) (vs := [.int (2 : Int32)]) (r := []) rfl rfl rfl rfl (by decide) rfl rfl rfl rfl ?_ ?_
        · refine Go_Ps 7 (pc' := 14) (lv' := [(0, .int (2 : Int32))]) (st' := [.int (Int32.ofInt 1)]) rfl ?_
          exact Go_ret rfl rfl rfl
        refine Go_Ps 15 (pc' := 51) (lv' := [(7, .ref 155), (6, .ref 153), (0, .ref 0), (1, .int (1 : Int32)), (2, .int b), (3, .int (2 : Int32)), (4, .int d), (5, .int e)]) (st' := [.int ((Int8.ofInt (-6)).toInt32)]) rfl ?_
        exact Go_ret rfl rfl rfl
      · refine Go_Ps 1 (pc' := 1) (lv' := [(0, .ref 159), (1, .int (1 : Int32)), (2, .int b), (3, .int (2 : Int32)), (4, .int d), (5, .int e)]) (st' := [.int (1 : Int32)]) rfl ?_
        refine Go_call (v1 := (some (.int (Int32.ofInt 1)))) (h1 := h0) (vs := [.int (1 : Int32)]) (r := []) rfl rfl rfl rfl (by decide) rfl rfl rfl rfl ?_ ?_
        · refine Go_Ps 4 (pc' := 6) (lv' := [(0, .int (1 : Int32))]) (st' := [.long (3 : Int64), .long (Int64.ofNat 0), .long (1 : Int32).toInt64]) rfl ?_
          refine Go_call (v1 := (some (.int (Int32.ofInt 1)))) (h1 := h0) (vs := [.long (1 : Int32).toInt64, .long (Int64.ofNat 0), .long (3 : Int64)]) (r := []) rfl rfl rfl rfl (by decide) rfl rfl rfl rfl ?_ ?_
          · refine Go_Ps 10 (pc' := 18) (lv' := [(0, .long (1 : Int32).toInt64), (2, .long (Int64.ofNat 0)), (4, .long (3 : Int64))]) (st' := [.int (Int32.ofInt 1)]) rfl ?_
            exact Go_ret rfl rfl rfl
          exact Go_ret rfl rfl rfl
        refine Go_Ps 2 (pc' := 8) (lv' := [(0, .ref 159), (1, .int (1 : Int32)), (2, .int b), (3, .int (2 : Int32)), (4, .int d), (5, .int e)]) (st' := [.int (2 : Int32)]) rfl ?_
        refine Go_call (v1 := (some (.int (Int32.ofInt 1)))) (h1 := h0) (vs := [.int (2 : Int32)]) (r := []) rfl rfl rfl rfl (by decide) rfl rfl rfl rfl ?_ ?_
        · refine Go_Ps 4 (pc' := 6) (lv' := [(0, .int (2 : Int32))]) (st' := [.long (3 : Int64), .long (Int64.ofNat 0), .long (2 : Int32).toInt64]) rfl ?_
          refine Go_call (v1 := (some (.int (Int32.ofInt 1)))) (h1 := h0) (vs := [.long (2 : Int32).toInt64, .long (Int64.ofNat 0), .long (3 : Int64)]) (r := []) rfl rfl rfl rfl (by decide) rfl rfl rfl rfl ?_ ?_
          · refine Go_Ps 10 (pc' := 18) (lv' := [(0, .long (2 : Int32).toInt64), (2, .long (Int64.ofNat 0)), (4, .long (3 : Int64))]) (st' := [.int (Int32.ofInt 1)]) rfl ?_
            exact Go_ret rfl rfl rfl
          exact Go_ret rfl rfl rfl
        refine Go_Ps 8 (pc' := 39) (lv' := [(0, .ref 159), (1, .int (1 : Int32)), (2, .int b), (3, .int (2 : Int32)), (4, .int d), (5, .int e)]) (st' := [.int ((Int8.ofInt (-6)).toInt32)]) rfl ?_
        exact Go_ret rfl rfl rfl
    · obtain rfl : c = 3 := Int32.toInt_inj.mp (by rw [show (3 : Int32).toInt = 3 from by decide]; omega)
      refine ⟨(-6), h0, h0, h0_len, h0_slo, h0_rcv, ?_, ?_⟩
      · refine Go_Ps 1 (pc' := 1) (lv' := [(0, .ref 0), (1, .int (1 : Int32)), (2, .int b), (3, .int (3 : Int32)), (4, .int d), (5, .int e)]) (st' := [.int (1 : Int32)]) rfl ?_
        refine Go_call (v1 := (some (.int (Int32.ofInt 1)))) (h1 := h0) (vs := [.int (1 : Int32)]) (r := []) rfl rfl rfl rfl (by decide) rfl rfl rfl rfl ?_ ?_
        · refine Go_Ps 7 (pc' := 14) (lv' := [(0, .int (1 : Int32))]) (st' := [.int (Int32.ofInt 1)]) rfl ?_
          exact Go_ret rfl rfl rfl
        refine Go_Ps 2 (pc' := 8) (lv' := [(0, .ref 0), (1, .int (1 : Int32)), (2, .int b), (3, .int (3 : Int32)), (4, .int d), (5, .int e)]) (st' := [.int (3 : Int32)]) rfl ?_
        refine Go_call (v1 := (some (.int (Int32.ofInt 1)))) (h1 := h0) (vs := [.int (3 : Int32)]) (r := []) rfl rfl rfl rfl (by decide) rfl rfl rfl rfl ?_ ?_
        · refine Go_Ps 7 (pc' := 14) (lv' := [(0, .int (3 : Int32))]) (st' := [.int (Int32.ofInt 1)]) rfl ?_
          exact Go_ret rfl rfl rfl
        refine Go_Ps 15 (pc' := 51) (lv' := [(7, .ref 157), (6, .ref 153), (0, .ref 0), (1, .int (1 : Int32)), (2, .int b), (3, .int (3 : Int32)), (4, .int d), (5, .int e)]) (st' := [.int ((Int8.ofInt (-6)).toInt32)]) rfl ?_
        exact Go_ret rfl rfl rfl
      · refine Go_Ps 1 (pc' := 1) (lv' := [(0, .ref 159), (1, .int (1 : Int32)), (2, .int b), (3, .int (3 : Int32)), (4, .int d), (5, .int e)]) (st' := [.int (1 : Int32)]) rfl ?_
        refine Go_call (v1 := (some (.int (Int32.ofInt 1)))) (h1 := h0) (vs := [.int (1 : Int32)]) (r := []) rfl rfl rfl rfl (by decide) rfl rfl rfl rfl ?_ ?_
        · refine Go_Ps 4 (pc' := 6) (lv' := [(0, .int (1 : Int32))]) (st' := [.long (3 : Int64), .long (Int64.ofNat 0), .long (1 : Int32).toInt64]) rfl ?_
          refine Go_call (v1 := (some (.int (Int32.ofInt 1)))) (h1 := h0) (vs := [.long (1 : Int32).toInt64, .long (Int64.ofNat 0), .long (3 : Int64)]) (r := []) rfl rfl rfl rfl (by decide) rfl rfl rfl rfl ?_ ?_
          · refine Go_Ps 10 (pc' := 18) (lv' := [(0, .long (1 : Int32).toInt64), (2, .long (Int64.ofNat 0)), (4, .long (3 : Int64))]) (st' := [.int (Int32.ofInt 1)]) rfl ?_
            exact Go_ret rfl rfl rfl
          exact Go_ret rfl rfl rfl
        refine Go_Ps 2 (pc' := 8) (lv' := [(0, .ref 159), (1, .int (1 : Int32)), (2, .int b), (3, .int (3 : Int32)), (4, .int d), (5, .int e)]) (st' := [.int (3 : Int32)]) rfl ?_
        refine Go_call (v1 := (some (.int (Int32.ofInt 1)))) (h1 := h0) (vs := [.int (3 : Int32)]) (r := []) rfl rfl rfl rfl (by decide) rfl rfl rfl rfl ?_ ?_
        · refine Go_Ps 4 (pc' := 6) (lv' := [(0, .int (3 : Int32))]) (st' := [.long (3 : Int64), .long (Int64.ofNat 0), .long (3 : Int32).toInt64]) rfl ?_
          refine Go_call (v1 := (some (.int (Int32.ofInt 1)))) (h1 := h0) (vs := [.long (3 : Int32).toInt64, .long (Int64.ofNat 0), .long (3 : Int64)]) (r := []) rfl rfl rfl rfl (by decide) rfl rfl rfl rfl ?_ ?_
          · refine Go_Ps 10 (pc' := 18) (lv' := [(0, .long (3 : Int32).toInt64), (2, .long (Int64.ofNat 0)), (4, .long (3 : Int64))]) (st' := [.int (Int32.ofInt 1)]) rfl ?_
            exact Go_ret rfl rfl rfl
          exact Go_ret rfl rfl rfl
        refine Go_Ps 8 (pc' := 39) (lv' := [(0, .ref 159), (1, .int (1 : Int32)), (2, .int b), (3, .int (3 : Int32)), (4, .int d), (5, .int e)]) (st' := [.int ((Int8.ofInt (-6)).toInt32)]) rfl ?_
        exact Go_ret rfl rfl rfl
    · refine ⟨(-2), h0, h0, h0_len, h0_slo, h0_rcv, ?_, ?_⟩
      · refine Go_Ps 1 (pc' := 1) (lv' := [(0, .ref 0), (1, .int (1 : Int32)), (2, .int b), (3, .int c), (4, .int d), (5, .int e)]) (st' := [.int (1 : Int32)]) rfl ?_
        refine Go_call (v1 := (some (.int (Int32.ofInt 1)))) (h1 := h0) (vs := [.int (1 : Int32)]) (r := []) rfl rfl rfl rfl (by decide) rfl rfl rfl rfl ?_ ?_
        · refine Go_Ps 7 (pc' := 14) (lv' := [(0, .int (1 : Int32))]) (st' := [.int (Int32.ofInt 1)]) rfl ?_
          exact Go_ret rfl rfl rfl
        refine Go_Ps 2 (pc' := 8) (lv' := [(0, .ref 0), (1, .int (1 : Int32)), (2, .int b), (3, .int c), (4, .int d), (5, .int e)]) (st' := [.int c]) rfl ?_
        refine Go_call (v1 := (some (.int (Int32.ofInt 0)))) (h1 := h0) (vs := [.int c]) (r := []) rfl rfl rfl rfl (by decide) rfl rfl rfl rfl ?_ ?_
        · refine Go_Ps 1 (pc' := 1) (lv' := [(0, .int c)]) (st' := [.int c]) rfl ?_
          refine Go_brF rfl rfl rfl (iF_lt (by first | omega | (simp only [cs_0]; omega))) ?_
          refine Go_Ps 2 (pc' := 6) (lv' := [(0, .int c)]) (st' := [.int (Int32.ofInt 4), .int c]) rfl ?_
          refine Go_brT rfl rfl rfl (iT_le (by first | omega | (simp only [cs_8]; omega))) ?_
          refine Go_Ps 1 (pc' := 14) (lv' := [(0, .int c)]) (st' := [.int (Int32.ofInt 0)]) rfl ?_
          exact Go_ret rfl rfl rfl
        refine Go_Ps 2 (pc' := 16) (lv' := [(0, .ref 0), (1, .int (1 : Int32)), (2, .int b), (3, .int c), (4, .int d), (5, .int e)]) (st' := [.int ((Int8.ofInt (-2)).toInt32)]) rfl ?_
        exact Go_ret rfl rfl rfl
      · refine Go_Ps 1 (pc' := 1) (lv' := [(0, .ref 159), (1, .int (1 : Int32)), (2, .int b), (3, .int c), (4, .int d), (5, .int e)]) (st' := [.int (1 : Int32)]) rfl ?_
        refine Go_call (v1 := (some (.int (Int32.ofInt 1)))) (h1 := h0) (vs := [.int (1 : Int32)]) (r := []) rfl rfl rfl rfl (by decide) rfl rfl rfl rfl ?_ ?_
        · refine Go_Ps 4 (pc' := 6) (lv' := [(0, .int (1 : Int32))]) (st' := [.long (3 : Int64), .long (Int64.ofNat 0), .long (1 : Int32).toInt64]) rfl ?_
          refine Go_call (v1 := (some (.int (Int32.ofInt 1)))) (h1 := h0) (vs := [.long (1 : Int32).toInt64, .long (Int64.ofNat 0), .long (3 : Int64)]) (r := []) rfl rfl rfl rfl (by decide) rfl rfl rfl rfl ?_ ?_
          · refine Go_Ps 10 (pc' := 18) (lv' := [(0, .long (1 : Int32).toInt64), (2, .long (Int64.ofNat 0)), (4, .long (3 : Int64))]) (st' := [.int (Int32.ofInt 1)]) rfl ?_
            exact Go_ret rfl rfl rfl
          exact Go_ret rfl rfl rfl
        refine Go_Ps 2 (pc' := 8) (lv' := [(0, .ref 159), (1, .int (1 : Int32)), (2, .int b), (3, .int c), (4, .int d), (5, .int e)]) (st' := [.int c]) rfl ?_
        refine Go_call (v1 := (some (.int (Int32.ofInt 0)))) (h1 := h0) (vs := [.int c]) (r := []) rfl rfl rfl rfl (by decide) rfl rfl rfl rfl ?_ ?_
        · refine Go_Ps 4 (pc' := 6) (lv' := [(0, .int c)]) (st' := [.long (3 : Int64), .long (Int64.ofNat 0), .long c.toInt64]) rfl ?_
          refine Go_call (v1 := (some (.int (Int32.ofInt 0)))) (h1 := h0) (vs := [.long c.toInt64, .long (Int64.ofNat 0), .long (3 : Int64)]) (r := []) rfl rfl rfl rfl (by decide) rfl rfl rfl rfl ?_ ?_
          · refine Go_Ps 3 (pc' := 3) (lv' := [(0, .long c.toInt64), (2, .long (Int64.ofNat 0)), (4, .long (3 : Int64))]) (st' := [.int (lg_cmp c.toInt64 (Int64.ofNat 0))]) rfl ?_
            refine Go_brF rfl rfl rfl (lgF_lt (by first | omega | (simp only [cs_1, Int32.toInt_toInt64]; omega))) ?_
            refine Go_Ps 3 (pc' := 10) (lv' := [(0, .long c.toInt64), (2, .long (Int64.ofNat 0)), (4, .long (3 : Int64))]) (st' := [.int (lg_cmp c.toInt64 (3 : Int64))]) rfl ?_
            refine Go_brT rfl rfl rfl (lgT_gt (by first | omega | (simp only [cs_9, Int32.toInt_toInt64]; omega))) ?_
            refine Go_Ps 1 (pc' := 18) (lv' := [(0, .long c.toInt64), (2, .long (Int64.ofNat 0)), (4, .long (3 : Int64))]) (st' := [.int (Int32.ofInt 0)]) rfl ?_
            exact Go_ret rfl rfl rfl
          exact Go_ret rfl rfl rfl
        refine Go_Ps 2 (pc' := 16) (lv' := [(0, .ref 159), (1, .int (1 : Int32)), (2, .int b), (3, .int c), (4, .int d), (5, .int e)]) (st' := [.int ((Int8.ofInt (-2)).toInt32)]) rfl ?_
        exact Go_ret rfl rfl rfl
  · obtain rfl : a = 2 := Int32.toInt_inj.mp (by rw [show (2 : Int32).toInt = 2 from by decide]; omega)
    rcases (show c.toInt < 0 ∨ c.toInt = 0 ∨ c.toInt = 1 ∨ c.toInt = 2 ∨ c.toInt = 3 ∨ 3 < c.toInt by omega) with he | he | he | he | he | he
    · refine ⟨(-2), h0, h0, h0_len, h0_slo, h0_rcv, ?_, ?_⟩
      · refine Go_Ps 1 (pc' := 1) (lv' := [(0, .ref 0), (1, .int (2 : Int32)), (2, .int b), (3, .int c), (4, .int d), (5, .int e)]) (st' := [.int (2 : Int32)]) rfl ?_
        refine Go_call (v1 := (some (.int (Int32.ofInt 1)))) (h1 := h0) (vs := [.int (2 : Int32)]) (r := []) rfl rfl rfl rfl (by decide) rfl rfl rfl rfl ?_ ?_
        · refine Go_Ps 7 (pc' := 14) (lv' := [(0, .int (2 : Int32))]) (st' := [.int (Int32.ofInt 1)]) rfl ?_
          exact Go_ret rfl rfl rfl
        refine Go_Ps 2 (pc' := 8) (lv' := [(0, .ref 0), (1, .int (2 : Int32)), (2, .int b), (3, .int c), (4, .int d), (5, .int e)]) (st' := [.int c]) rfl ?_
        refine Go_call (v1 := (some (.int (Int32.ofInt 0)))) (h1 := h0) (vs := [.int c]) (r := []) rfl rfl rfl rfl (by decide) rfl rfl rfl rfl ?_ ?_
        · refine Go_Ps 1 (pc' := 1) (lv' := [(0, .int c)]) (st' := [.int c]) rfl ?_
          refine Go_brT rfl rfl rfl (iT_lt (by first | omega | (simp only [cs_0]; omega))) ?_
          refine Go_Ps 1 (pc' := 14) (lv' := [(0, .int c)]) (st' := [.int (Int32.ofInt 0)]) rfl ?_
          exact Go_ret rfl rfl rfl
        refine Go_Ps 2 (pc' := 16) (lv' := [(0, .ref 0), (1, .int (2 : Int32)), (2, .int b), (3, .int c), (4, .int d), (5, .int e)]) (st' := [.int ((Int8.ofInt (-2)).toInt32)]) rfl ?_
        exact Go_ret rfl rfl rfl
      · refine Go_Ps 1 (pc' := 1) (lv' := [(0, .ref 159), (1, .int (2 : Int32)), (2, .int b), (3, .int c), (4, .int d), (5, .int e)]) (st' := [.int (2 : Int32)]) rfl ?_
        refine Go_call (v1 := (some (.int (Int32.ofInt 1)))) (h1 := h0) (vs := [.int (2 : Int32)]) (r := []) rfl rfl rfl rfl (by decide) rfl rfl rfl rfl ?_ ?_
        · refine Go_Ps 4 (pc' := 6) (lv' := [(0, .int (2 : Int32))]) (st' := [.long (3 : Int64), .long (Int64.ofNat 0), .long (2 : Int32).toInt64]) rfl ?_
          refine Go_call (v1 := (some (.int (Int32.ofInt 1)))) (h1 := h0) (vs := [.long (2 : Int32).toInt64, .long (Int64.ofNat 0), .long (3 : Int64)]) (r := []) rfl rfl rfl rfl (by decide) rfl rfl rfl rfl ?_ ?_
          · refine Go_Ps 10 (pc' := 18) (lv' := [(0, .long (2 : Int32).toInt64), (2, .long (Int64.ofNat 0)), (4, .long (3 : Int64))]) (st' := [.int (Int32.ofInt 1)]) rfl ?_
            exact Go_ret rfl rfl rfl
          exact Go_ret rfl rfl rfl
        refine Go_Ps 2 (pc' := 8) (lv' := [(0, .ref 159), (1, .int (2 : Int32)), (2, .int b), (3, .int c), (4, .int d), (5, .int e)]) (st' := [.int c]) rfl ?_
        refine Go_call (v1 := (some (.int (Int32.ofInt 0)))) (h1 := h0) (vs := [.int c]) (r := []) rfl rfl rfl rfl (by decide) rfl rfl rfl rfl ?_ ?_
        · refine Go_Ps 4 (pc' := 6) (lv' := [(0, .int c)]) (st' := [.long (3 : Int64), .long (Int64.ofNat 0), .long c.toInt64]) rfl ?_
          refine Go_call (v1 := (some (.int (Int32.ofInt 0)))) (h1 := h0) (vs := [.long c.toInt64, .long (Int64.ofNat 0), .long (3 : Int64)]) (r := []) rfl rfl rfl rfl (by decide) rfl rfl rfl rfl ?_ ?_
          · refine Go_Ps 3 (pc' := 3) (lv' := [(0, .long c.toInt64), (2, .long (Int64.ofNat 0)), (4, .long (3 : Int64))]) (st' := [.int (lg_cmp c.toInt64 (Int64.ofNat 0))]) rfl ?_
            refine Go_brT rfl rfl rfl (lgT_lt (by first | omega | (simp only [cs_1, Int32.toInt_toInt64]; omega))) ?_
            refine Go_Ps 1 (pc' := 18) (lv' := [(0, .long c.toInt64), (2, .long (Int64.ofNat 0)), (4, .long (3 : Int64))]) (st' := [.int (Int32.ofInt 0)]) rfl ?_
            exact Go_ret rfl rfl rfl
          exact Go_ret rfl rfl rfl
        refine Go_Ps 2 (pc' := 16) (lv' := [(0, .ref 159), (1, .int (2 : Int32)), (2, .int b), (3, .int c), (4, .int d), (5, .int e)]) (st' := [.int ((Int8.ofInt (-2)).toInt32)]) rfl ?_
        exact Go_ret rfl rfl rfl
    · obtain rfl : c = 0 := Int32.toInt_inj.mp (by rw [show (0 : Int32).toInt = 0 from by decide]; omega)
      refine ⟨(-6), h0, h0, h0_len, h0_slo, h0_rcv, ?_, ?_⟩
      · refine Go_Ps 1 (pc' := 1) (lv' := [(0, .ref 0), (1, .int (2 : Int32)), (2, .int b), (3, .int (0 : Int32)), (4, .int d), (5, .int e)]) (st' := [.int (2 : Int32)]) rfl ?_
        refine Go_call (v1 := (some (.int (Int32.ofInt 1)))) (h1 := h0) (vs := [.int (2 : Int32)]) (r := []) rfl rfl rfl rfl (by decide) rfl rfl rfl rfl ?_ ?_
        · refine Go_Ps 7 (pc' := 14) (lv' := [(0, .int (2 : Int32))]) (st' := [.int (Int32.ofInt 1)]) rfl ?_
          exact Go_ret rfl rfl rfl
        refine Go_Ps 2 (pc' := 8) (lv' := [(0, .ref 0), (1, .int (2 : Int32)), (2, .int b), (3, .int (0 : Int32)), (4, .int d), (5, .int e)]) (st' := [.int (0 : Int32)]) rfl ?_
        refine Go_call (v1 := (some (.int (Int32.ofInt 1)))) (h1 := h0) (vs := [.int (0 : Int32)]) (r := []) rfl rfl rfl rfl (by decide) rfl rfl rfl rfl ?_ ?_
        · refine Go_Ps 7 (pc' := 14) (lv' := [(0, .int (0 : Int32))]) (st' := [.int (Int32.ofInt 1)]) rfl ?_
          exact Go_ret rfl rfl rfl
        refine Go_Ps 15 (pc' := 51) (lv' := [(7, .ref 151), (6, .ref 155), (0, .ref 0), (1, .int (2 : Int32)), (2, .int b), (3, .int (0 : Int32)), (4, .int d), (5, .int e)]) (st' := [.int ((Int8.ofInt (-6)).toInt32)]) rfl ?_
        exact Go_ret rfl rfl rfl
      · refine Go_Ps 1 (pc' := 1) (lv' := [(0, .ref 159), (1, .int (2 : Int32)), (2, .int b), (3, .int (0 : Int32)), (4, .int d), (5, .int e)]) (st' := [.int (2 : Int32)]) rfl ?_
        refine Go_call (v1 := (some (.int (Int32.ofInt 1)))) (h1 := h0) (vs := [.int (2 : Int32)]) (r := []) rfl rfl rfl rfl (by decide) rfl rfl rfl rfl ?_ ?_
        · refine Go_Ps 4 (pc' := 6) (lv' := [(0, .int (2 : Int32))]) (st' := [.long (3 : Int64), .long (Int64.ofNat 0), .long (2 : Int32).toInt64]) rfl ?_
          refine Go_call (v1 := (some (.int (Int32.ofInt 1)))) (h1 := h0) (vs := [.long (2 : Int32).toInt64, .long (Int64.ofNat 0), .long (3 : Int64)]) (r := []) rfl rfl rfl rfl (by decide) rfl rfl rfl rfl ?_ ?_
          · refine Go_Ps 10 (pc' := 18) (lv' := [(0, .long (2 : Int32).toInt64), (2, .long (Int64.ofNat 0)), (4, .long (3 : Int64))]) (st' := [.int (Int32.ofInt 1)]) rfl ?_
            exact Go_ret rfl rfl rfl
          exact Go_ret rfl rfl rfl
        refine Go_Ps 2 (pc' := 8) (lv' := [(0, .ref 159), (1, .int (2 : Int32)), (2, .int b), (3, .int (0 : Int32)), (4, .int d), (5, .int e)]) (st' := [.int (0 : Int32)]) rfl ?_
        refine Go_call (v1 := (some (.int (Int32.ofInt 1)))) (h1 := h0) (vs := [.int (0 : Int32)]) (r := []) rfl rfl rfl rfl (by decide) rfl rfl rfl rfl ?_ ?_
        · refine Go_Ps 4 (pc' := 6) (lv' := [(0, .int (0 : Int32))]) (st' := [.long (3 : Int64), .long (Int64.ofNat 0), .long (0 : Int32).toInt64]) rfl ?_
          refine Go_call (v1 := (some (.int (Int32.ofInt 1)))) (h1 := h0) (vs := [.long (0 : Int32).toInt64, .long (Int64.ofNat 0), .long (3 : Int64)]) (r := []) rfl rfl rfl rfl (by decide) rfl rfl rfl rfl ?_ ?_
          · refine Go_Ps 10 (pc' := 18) (lv' := [(0, .long (0 : Int32).toInt64), (2, .long (Int64.ofNat 0)), (4, .long (3 : Int64))]) (st' := [.int (Int32.ofInt 1)]) rfl ?_
            exact Go_ret rfl rfl rfl
          exact Go_ret rfl rfl rfl
        refine Go_Ps 8 (pc' := 39) (lv' := [(0, .ref 159), (1, .int (2 : Int32)), (2, .int b), (3, .int (0 : Int32)), (4, .int d), (5, .int e)]) (st' := [.int ((Int8.ofInt (-6)).toInt32)]) rfl ?_
        exact Go_ret rfl rfl rfl
    · obtain rfl : c = 1 := Int32.toInt_inj.mp (by rw [show (1 : Int32).toInt = 1 from by decide]; omega)
      refine ⟨(-6), h0, h0, h0_len, h0_slo, h0_rcv, ?_, ?_⟩
      · refine Go_Ps 1 (pc' := 1) (lv' := [(0, .ref 0), (1, .int (2 : Int32)), (2, .int b), (3, .int (1 : Int32)), (4, .int d), (5, .int e)]) (st' := [.int (2 : Int32)]) rfl ?_
        refine Go_call (v1 := (some (.int (Int32.ofInt 1)))) (h1 := h0) (vs := [.int (2 : Int32)]) (r := []) rfl rfl rfl rfl (by decide) rfl rfl rfl rfl ?_ ?_
        · refine Go_Ps 7 (pc' := 14) (lv' := [(0, .int (2 : Int32))]) (st' := [.int (Int32.ofInt 1)]) rfl ?_
          exact Go_ret rfl rfl rfl
        refine Go_Ps 2 (pc' := 8) (lv' := [(0, .ref 0), (1, .int (2 : Int32)), (2, .int b), (3, .int (1 : Int32)), (4, .int d), (5, .int e)]) (st' := [.int (1 : Int32)]) rfl ?_
        refine Go_call (v1 := (some (.int (Int32.ofInt 1)))) (h1 := h0) (vs := [.int (1 : Int32)]) (r := []) rfl rfl rfl rfl (by decide) rfl rfl rfl rfl ?_ ?_
        · refine Go_Ps 7 (pc' := 14) (lv' := [(0, .int (1 : Int32))]) (st' := [.int (Int32.ofInt 1)]) rfl ?_
          exact Go_ret rfl rfl rfl
        refine Go_Ps 15 (pc' := 51) (lv' := [(7, .ref 153), (6, .ref 155), (0, .ref 0), (1, .int (2 : Int32)), (2, .int b), (3, .int (1 : Int32)), (4, .int d), (5, .int e)]) (st' := [.int ((Int8.ofInt (-6)).toInt32)]) rfl ?_
        exact Go_ret rfl rfl rfl
      · refine Go_Ps 1 (pc' := 1) (lv' := [(0, .ref 159), (1, .int (2 : Int32)), (2, .int b), (3, .int (1 : Int32)), (4, .int d), (5, .int e)]) (st' := [.int (2 : Int32)]) rfl ?_
        refine Go_call (v1 := (some (.int (Int32.ofInt 1)))) (h1 := h0) (vs := [.int (2 : Int32)]) (r := []) rfl rfl rfl rfl (by decide) rfl rfl rfl rfl ?_ ?_
        · refine Go_Ps 4 (pc' := 6) (lv' := [(0, .int (2 : Int32))]) (st' := [.long (3 : Int64), .long (Int64.ofNat 0), .long (2 : Int32).toInt64]) rfl ?_
          refine Go_call (v1 := (some (.int (Int32.ofInt 1)))) (h1 := h0) (vs := [.long (2 : Int32).toInt64, .long (Int64.ofNat 0), .long (3 : Int64)]) (r := []) rfl rfl rfl rfl (by decide) rfl rfl rfl rfl ?_ ?_
          · refine Go_Ps 10 (pc' := 18) (lv' := [(0, .long (2 : Int32).toInt64), (2, .long (Int64.ofNat 0)), (4, .long (3 : Int64))]) (st' := [.int (Int32.ofInt 1)]) rfl ?_
            exact Go_ret rfl rfl rfl
          exact Go_ret rfl rfl rfl
        refine Go_Ps 2 (pc' := 8) (lv' := [(0, .ref 159), (1, .int (2 : Int32)), (2, .int b), (3, .int (1 : Int32)), (4, .int d), (5, .int e)]) (st' := [.int (1 : Int32)]) rfl ?_
        refine Go_call (v1 := (some (.int (Int32.ofInt 1)))) (h1 := h0) (vs := [.int (1 : Int32)]) (r := []) rfl rfl rfl rfl (by decide) rfl rfl rfl rfl ?_ ?_
        · refine Go_Ps 4 (pc' := 6) (lv' := [(0, .int (1 : Int32))]) (st' := [.long (3 : Int64), .long (Int64.ofNat 0), .long (1 : Int32).toInt64]) rfl ?_
          refine Go_call (v1 := (some (.int (Int32.ofInt 1)))) (h1 := h0) (vs := [.long (1 : Int32).toInt64, .long (Int64.ofNat 0), .long (3 : Int64)]) (r := []) rfl rfl rfl rfl (by decide) rfl rfl rfl rfl ?_ ?_
          · refine Go_Ps 10 (pc' := 18) (lv' := [(0, .long (1 : Int32).toInt64), (2, .long (Int64.ofNat 0)), (4, .long (3 : Int64))]) (st' := [.int (Int32.ofInt 1)]) rfl ?_
            exact Go_ret rfl rfl rfl
          exact Go_ret rfl rfl rfl
        refine Go_Ps 8 (pc' := 39) (lv' := [(0, .ref 159), (1, .int (2 : Int32)), (2, .int b), (3, .int (1 : Int32)), (4, .int d), (5, .int e)]) (st' := [.int ((Int8.ofInt (-6)).toInt32)]) rfl ?_
        exact Go_ret rfl rfl rfl
    · obtain rfl : c = 2 := Int32.toInt_inj.mp (by rw [show (2 : Int32).toInt = 2 from by decide]; omega)
      refine ⟨(-6), h0, h0, h0_len, h0_slo, h0_rcv, ?_, ?_⟩
      · refine Go_Ps 1 (pc' := 1) (lv' := [(0, .ref 0), (1, .int (2 : Int32)), (2, .int b), (3, .int (2 : Int32)), (4, .int d), (5, .int e)]) (st' := [.int (2 : Int32)]) rfl ?_
        refine Go_call (v1 := (some (.int (Int32.ofInt 1)))) (h1 := h0) (vs := [.int (2 : Int32)]) (r := []) rfl rfl rfl rfl (by decide) rfl rfl rfl rfl ?_ ?_
        · refine Go_Ps 7 (pc' := 14) (lv' := [(0, .int (2 : Int32))]) (st' := [.int (Int32.ofInt 1)]) rfl ?_
          exact Go_ret rfl rfl rfl
        refine Go_Ps 2 (pc' := 8) (lv' := [(0, .ref 0), (1, .int (2 : Int32)), (2, .int b), (3, .int (2 : Int32)), (4, .int d), (5, .int e)]) (st' := [.int (2 : Int32)]) rfl ?_
        refine Go_call (v1 := (some (.int (Int32.ofInt 1)))) (h1 := h0) (vs := [.int (2 : Int32)]) (r := []) rfl rfl rfl rfl (by decide) rfl rfl rfl rfl ?_ ?_
        · refine Go_Ps 7 (pc' := 14) (lv' := [(0, .int (2 : Int32))]) (st' := [.int (Int32.ofInt 1)]) rfl ?_
          exact Go_ret rfl rfl rfl
        refine Go_Ps 15 (pc' := 51) (lv' := [(7, .ref 155), (6, .ref 155), (0, .ref 0), (1, .int (2 : Int32)), (2, .int b), (3, .int (2 : Int32)), (4, .int d), (5, .int e)]) (st' := [.int ((Int8.ofInt (-6)).toInt32)]) rfl ?_
        exact Go_ret rfl rfl rfl
      · refine Go_Ps 1 (pc' := 1) (lv' := [(0, .ref 159), (1, .int (2 : Int32)), (2, .int b), (3, .int (2 : Int32)), (4, .int d), (5, .int e)]) (st' := [.int (2 : Int32)]) rfl ?_
        refine Go_call (v1 := (some (.int (Int32.ofInt 1)))) (h1 := h0) (vs := [.int (2 : Int32)]) (r := []) rfl rfl rfl rfl (by decide) rfl rfl rfl rfl ?_ ?_
        · refine Go_Ps 4 (pc' := 6) (lv' := [(0, .int (2 : Int32))]) (st' := [.long (3 : Int64), .long (Int64.ofNat 0), .long (2 : Int32).toInt64]) rfl ?_
          refine Go_call (v1 := (some (.int (Int32.ofInt 1)))) (h1 := h0) (vs := [.long (2 : Int32).toInt64, .long (Int64.ofNat 0), .long (3 : Int64)]) (r := []) rfl rfl rfl rfl (by decide) rfl rfl rfl rfl ?_ ?_
          · refine Go_Ps 10 (pc' := 18) (lv' := [(0, .long (2 : Int32).toInt64), (2, .long (Int64.ofNat 0)), (4, .long (3 : Int64))]) (st' := [.int (Int32.ofInt 1)]) rfl ?_
            exact Go_ret rfl rfl rfl
          exact Go_ret rfl rfl rfl
        refine Go_Ps 2 (pc' := 8) (lv' := [(0, .ref 159), (1, .int (2 : Int32)), (2, .int b), (3, .int (2 : Int32)), (4, .int d), (5, .int e)]) (st' := [.int (2 : Int32)]) rfl ?_
        refine Go_call (v1 := (some (.int (Int32.ofInt 1)))) (h1 := h0) (vs := [.int (2 : Int32)]) (r := []) rfl rfl rfl rfl (by decide) rfl rfl rfl rfl ?_ ?_
        · refine Go_Ps 4 (pc' := 6) (lv' := [(0, .int (2 : Int32))]) (st' := [.long (3 : Int64), .long (Int64.ofNat 0), .long (2 : Int32).toInt64]) rfl ?_
          refine Go_call (v1 := (some (.int (Int32.ofInt 1)))) (h1 := h0) (vs := [.long (2 : Int32).toInt64, .long (Int64.ofNat 0), .long (3 : Int64)]) (r := []) rfl rfl rfl rfl (by decide) rfl rfl rfl rfl ?_ ?_
          · refine Go_Ps 10 (pc' := 18) (lv' := [(0, .long (2 : Int32).toInt64), (2, .long (Int64.ofNat 0)), (4, .long (3 : Int64))]) (st' := [.int (Int32.ofInt 1)]) rfl ?_
            exact Go_ret rfl rfl rfl
          exact Go_ret rfl rfl rfl
        refine Go_Ps 8 (pc' := 39) (lv' := [(0, .ref 159), (1, .int (2 : Int32)), (2, .int b), (3, .int (2 : Int32)), (4, .int d), (5, .int e)]) (st' := [.int ((Int8.ofInt (-6)).toInt32)]) rfl ?_
        exact Go_ret rfl rfl rfl
    · obtain rfl : c = 3 := Int32.toInt_inj.mp (by rw [show (3 : Int32).toInt = 3 from by decide]; omega)
      refine ⟨(-6), h0, h0, h0_len, h0_slo, h0_rcv, ?_, ?_⟩
      · refine Go_Ps 1 (pc' := 1) (lv' := [(0, .ref 0), (1, .int (2 : Int32)), (2, .int b), (3, .int (3 : Int32)), (4, .int d), (5, .int e)]) (st' := [.int (2 : Int32)]) rfl ?_
        refine Go_call (v1 := (some (.int (Int32.ofInt 1)))) (h1 := h0) (vs := [.int (2 : Int32)]) (r := []) rfl rfl rfl rfl (by decide) rfl rfl rfl rfl ?_ ?_
        · refine Go_Ps 7 (pc' := 14) (lv' := [(0, .int (2 : Int32))]) (st' := [.int (Int32.ofInt 1)]) rfl ?_
          exact Go_ret rfl rfl rfl
        refine Go_Ps 2 (pc' := 8) (lv' := [(0, .ref 0), (1, .int (2 : Int32)), (2, .int b), (3, .int (3 : Int32)), (4, .int d), (5, .int e)]) (st' := [.int (3 : Int32)]) rfl ?_
        refine Go_call (v1 := (some (.int (Int32.ofInt 1)))) (h1 := h0) (vs := [.int (3 : Int32)]) (r := []) rfl rfl rfl rfl (by decide) rfl rfl rfl rfl ?_ ?_
        · refine Go_Ps 7 (pc' := 14) (lv' := [(0, .int (3 : Int32))]) (st' := [.int (Int32.ofInt 1)]) rfl ?_
          exact Go_ret rfl rfl rfl
        refine Go_Ps 15 (pc' := 51) (lv' := [(7, .ref 157), (6, .ref 155), (0, .ref 0), (1, .int (2 : Int32)), (2, .int b), (3, .int (3 : Int32)), (4, .int d), (5, .int e)]) (st' := [.int ((Int8.ofInt (-6)).toInt32)]) rfl ?_
        exact Go_ret rfl rfl rfl
      · refine Go_Ps 1 (pc' := 1) (lv' := [(0, .ref 159), (1, .int (2 : Int32)), (2, .int b), (3, .int (3 : Int32)), (4, .int d), (5, .int e)]) (st' := [.int (2 : Int32)]) rfl ?_
        refine Go_call (v1 := (some (.int (Int32.ofInt 1)))) (h1 := h0) (vs := [.int (2 : Int32)]) (r := []) rfl rfl rfl rfl (by decide) rfl rfl rfl rfl ?_ ?_
        · refine Go_Ps 4 (pc' := 6) (lv' := [(0, .int (2 : Int32))]) (st' := [.long (3 : Int64), .long (Int64.ofNat 0), .long (2 : Int32).toInt64]) rfl ?_
          refine Go_call (v1 := (some (.int (Int32.ofInt 1)))) (h1 := h0) (vs := [.long (2 : Int32).toInt64, .long (Int64.ofNat 0), .long (3 : Int64)]) (r := []) rfl rfl rfl rfl (by decide) rfl rfl rfl rfl ?_ ?_
          · refine Go_Ps 10 (pc' := 18) (lv' := [(0, .long (2 : Int32).toInt64), (2, .long (Int64.ofNat 0)), (4, .long (3 : Int64))]) (st' := [.int (Int32.ofInt 1)]) rfl ?_
            exact Go_ret rfl rfl rfl
          exact Go_ret rfl rfl rfl
        refine Go_Ps 2 (pc' := 8) (lv' := [(0, .ref 159), (1, .int (2 : Int32)), (2, .int b), (3, .int (3 : Int32)), (4, .int d), (5, .int e)]) (st' := [.int (3 : Int32)]) rfl ?_
        refine Go_call (v1 := (some (.int (Int32.ofInt 1)))) (h1 := h0) (vs := [.int (3 : Int32)]) (r := []) rfl rfl rfl rfl (by decide) rfl rfl rfl rfl ?_ ?_
        · refine Go_Ps 4 (pc' := 6) (lv' := [(0, .int (3 : Int32))]) (st' := [.long (3 : Int64), .long (Int64.ofNat 0), .long (3 : Int32).toInt64]) rfl ?_
          refine Go_call (v1 := (some (.int (Int32.ofInt 1)))) (h1 := h0) (vs := [.long (3 : Int32).toInt64, .long (Int64.ofNat 0), .long (3 : Int64)]) (r := []) rfl rfl rfl rfl (by decide) rfl rfl rfl rfl ?_ ?_
          · refine Go_Ps 10 (pc' := 18) (lv' := [(0, .long (3 : Int32).toInt64), (2, .long (Int64.ofNat 0)), (4, .long (3 : Int64))]) (st' := [.int (Int32.ofInt 1)]) rfl ?_
            exact Go_ret rfl rfl rfl
          exact Go_ret rfl rfl rfl
        refine Go_Ps 8 (pc' := 39) (lv' := [(0, .ref 159), (1, .int (2 : Int32)), (2, .int b), (3, .int (3 : Int32)), (4, .int d), (5, .int e)]) (st' := [.int ((Int8.ofInt (-6)).toInt32)]) rfl ?_
        exact Go_ret rfl rfl rfl
    · refine ⟨(-2), h0, h0, h0_len, h0_slo, h0_rcv, ?_, ?_⟩
      · refine Go_Ps 1 (pc' := 1) (lv' := [(0, .ref 0), (1, .int (2 : Int32)), (2, .int b), (3, .int c), (4, .int d), (5, .int e)]) (st' := [.int (2 : Int32)]) rfl ?_
        refine Go_call (v1 := (some (.int (Int32.ofInt 1)))) (h1 := h0) (vs := [.int (2 : Int32)]) (r := []) rfl rfl rfl rfl (by decide) rfl rfl rfl rfl ?_ ?_
        · refine Go_Ps 7 (pc' := 14) (lv' := [(0, .int (2 : Int32))]) (st' := [.int (Int32.ofInt 1)]) rfl ?_
          exact Go_ret rfl rfl rfl
        refine Go_Ps 2 (pc' := 8) (lv' := [(0, .ref 0), (1, .int (2 : Int32)), (2, .int b), (3, .int c), (4, .int d), (5, .int e)]) (st' := [.int c]) rfl ?_
        refine Go_call (v1 := (some (.int (Int32.ofInt 0)))) (h1 := h0) (vs := [.int c]) (r := []) rfl rfl rfl rfl (by decide) rfl rfl rfl rfl ?_ ?_
        · refine Go_Ps 1 (pc' := 1) (lv' := [(0, .int c)]) (st' := [.int c]) rfl ?_
          refine Go_brF rfl rfl rfl (iF_lt (by first | omega | (simp only [cs_0]; omega))) ?_
          refine Go_Ps 2 (pc' := 6) (lv' := [(0, .int c)]) (st' := [.int (Int32.ofInt 4), .int c]) rfl ?_
          refine Go_brT rfl rfl rfl (iT_le (by first | omega | (simp only [cs_8]; omega))) ?_
          refine Go_Ps 1 (pc' := 14) (lv' := [(0, .int c)]) (st' := [.int (Int32.ofInt 0)]) rfl ?_
          exact Go_ret rfl rfl rfl
        refine Go_Ps 2 (pc' := 16) (lv' := [(0, .ref 0), (1, .int (2 : Int32)), (2, .int b), (3, .int c), (4, .int d), (5, .int e)]) (st' := [.int ((Int8.ofInt (-2)).toInt32)]) rfl ?_
        exact Go_ret rfl rfl rfl
      · refine Go_Ps 1 (pc' := 1) (lv' := [(0, .ref 159), (1, .int (2 : Int32)), (2, .int b), (3, .int c), (4, .int d), (5, .int e)]) (st' := [.int (2 : Int32)]) rfl ?_
        refine Go_call (v1 := (some (.int (Int32.ofInt 1)))) (h1 := h0) (vs := [.int (2 : Int32)]) (r := []) rfl rfl rfl rfl (by decide) rfl rfl rfl rfl ?_ ?_
        · refine Go_Ps 4 (pc' := 6) (lv' := [(0, .int (2 : Int32))]) (st' := [.long (3 : Int64), .long (Int64.ofNat 0), .long (2 : Int32).toInt64]) rfl ?_
          refine Go_call (v1 := (some (.int (Int32.ofInt 1)))) (h1 := h0) (vs := [.long (2 : Int32).toInt64, .long (Int64.ofNat 0), .long (3 : Int64)]) (r := []) rfl rfl rfl rfl (by decide) rfl rfl rfl rfl ?_ ?_
          · refine Go_Ps 10 (pc' := 18) (lv' := [(0, .long (2 : Int32).toInt64), (2, .long (Int64.ofNat 0)), (4, .long (3 : Int64))]) (st' := [.int (Int32.ofInt 1)]) rfl ?_
            exact Go_ret rfl rfl rfl
          exact Go_ret rfl rfl rfl
        refine Go_Ps 2 (pc' := 8) (lv' := [(0, .ref 159), (1, .int (2 : Int32)), (2, .int b), (3, .int c), (4, .int d), (5, .int e)]) (st' := [.int c]) rfl ?_
        refine Go_call (v1 := (some (.int (Int32.ofInt 0)))) (h1 := h0) (vs := [.int c]) (r := []) rfl rfl rfl rfl (by decide) rfl rfl rfl rfl ?_ ?_
        · refine Go_Ps 4 (pc' := 6) (lv' := [(0, .int c)]) (st' := [.long (3 : Int64), .long (Int64.ofNat 0), .long c.toInt64]) rfl ?_
          refine Go_call (v1 := (some (.int (Int32.ofInt 0)))) (h1 := h0) (vs := [.long c.toInt64, .long (Int64.ofNat 0), .long (3 : Int64)]) (r := []) rfl rfl rfl rfl (by decide) rfl rfl rfl rfl ?_ ?_
          · refine Go_Ps 3 (pc' := 3) (lv' := [(0, .long c.toInt64), (2, .long (Int64.ofNat 0)), (4, .long (3 : Int64))]) (st' := [.int (lg_cmp c.toInt64 (Int64.ofNat 0))]) rfl ?_
            refine Go_brF rfl rfl rfl (lgF_lt (by first | omega | (simp only [cs_1, Int32.toInt_toInt64]; omega))) ?_
            refine Go_Ps 3 (pc' := 10) (lv' := [(0, .long c.toInt64), (2, .long (Int64.ofNat 0)), (4, .long (3 : Int64))]) (st' := [.int (lg_cmp c.toInt64 (3 : Int64))]) rfl ?_
            refine Go_brT rfl rfl rfl (lgT_gt (by first | omega | (simp only [cs_9, Int32.toInt_toInt64]; omega))) ?_
            refine Go_Ps 1 (pc' := 18) (lv' := [(0, .long c.toInt64), (2, .long (Int64.ofNat 0)), (4, .long (3 : Int64))]) (st' := [.int (Int32.ofInt 0)]) rfl ?_
            exact Go_ret rfl rfl rfl
          exact Go_ret rfl rfl rfl
        refine Go_Ps 2 (pc' := 16) (lv' := [(0, .ref 159), (1, .int (2 : Int32)), (2, .int b), (3, .int c), (4, .int d), (5, .int e)]) (st' := [.int ((Int8.ofInt (-2)).toInt32)]) rfl ?_
        exact Go_ret rfl rfl rfl
  · obtain rfl : a = 3 := Int32.toInt_inj.mp (by rw [show (3 : Int32).toInt = 3 from by decide]; omega)
    rcases (show c.toInt < 0 ∨ c.toInt = 0 ∨ c.toInt = 1 ∨ c.toInt = 2 ∨ c.toInt = 3 ∨ 3 < c.toInt by omega) with he | he | he | he | he | he
    · refine ⟨(-2), h0, h0, h0_len, h0_slo, h0_rcv, ?_, ?_⟩
      · refine Go_Ps 1 (pc' := 1) (lv' := [(0, .ref 0), (1, .int (3 : Int32)), (2, .int b), (3, .int c), (4, .int d), (5, .int e)]) (st' := [.int (3 : Int32)]) rfl ?_
        refine Go_call (v1 := (some (.int (Int32.ofInt 1)))) (h1 := h0) (vs := [.int (3 : Int32)]) (r := []) rfl rfl rfl rfl (by decide) rfl rfl rfl rfl ?_ ?_
        · refine Go_Ps 7 (pc' := 14) (lv' := [(0, .int (3 : Int32))]) (st' := [.int (Int32.ofInt 1)]) rfl ?_
          exact Go_ret rfl rfl rfl
        refine Go_Ps 2 (pc' := 8) (lv' := [(0, .ref 0), (1, .int (3 : Int32)), (2, .int b), (3, .int c), (4, .int d), (5, .int e)]) (st' := [.int c]) rfl ?_
        refine Go_call (v1 := (some (.int (Int32.ofInt 0)))) (h1 := h0) (vs := [.int c]) (r := []) rfl rfl rfl rfl (by decide) rfl rfl rfl rfl ?_ ?_
        · refine Go_Ps 1 (pc' := 1) (lv' := [(0, .int c)]) (st' := [.int c]) rfl ?_
          refine Go_brT rfl rfl rfl (iT_lt (by first | omega | (simp only [cs_0]; omega))) ?_
          refine Go_Ps 1 (pc' := 14) (lv' := [(0, .int c)]) (st' := [.int (Int32.ofInt 0)]) rfl ?_
          exact Go_ret rfl rfl rfl
        refine Go_Ps 2 (pc' := 16) (lv' := [(0, .ref 0), (1, .int (3 : Int32)), (2, .int b), (3, .int c), (4, .int d), (5, .int e)]) (st' := [.int ((Int8.ofInt (-2)).toInt32)]) rfl ?_
        exact Go_ret rfl rfl rfl
      · refine Go_Ps 1 (pc' := 1) (lv' := [(0, .ref 159), (1, .int (3 : Int32)), (2, .int b), (3, .int c), (4, .int d), (5, .int e)]) (st' := [.int (3 : Int32)]) rfl ?_
        refine Go_call (v1 := (some (.int (Int32.ofInt 1)))) (h1 := h0) (vs := [.int (3 : Int32)]) (r := []) rfl rfl rfl rfl (by decide) rfl rfl rfl rfl ?_ ?_
        · refine Go_Ps 4 (pc' := 6) (lv' := [(0, .int (3 : Int32))]) (st' := [.long (3 : Int64), .long (Int64.ofNat 0), .long (3 : Int32).toInt64]) rfl ?_
          refine Go_call (v1 := (some (.int (Int32.ofInt 1)))) (h1 := h0) (vs := [.long (3 : Int32).toInt64, .long (Int64.ofNat 0), .long (3 : Int64)]) (r := []) rfl rfl rfl rfl (by decide) rfl rfl rfl rfl ?_ ?_
          · refine Go_Ps 10 (pc' := 18) (lv' := [(0, .long (3 : Int32).toInt64), (2, .long (Int64.ofNat 0)), (4, .long (3 : Int64))]) (st' := [.int (Int32.ofInt 1)]) rfl ?_
            exact Go_ret rfl rfl rfl
          exact Go_ret rfl rfl rfl
        refine Go_Ps 2 (pc' := 8) (lv' := [(0, .ref 159), (1, .int (3 : Int32)), (2, .int b), (3, .int c), (4, .int d), (5, .int e)]) (st' := [.int c]) rfl ?_
        refine Go_call (v1 := (some (.int (Int32.ofInt 0)))) (h1 := h0) (vs := [.int c]) (r := []) rfl rfl rfl rfl (by decide) rfl rfl rfl rfl ?_ ?_
        · refine Go_Ps 4 (pc' := 6) (lv' := [(0, .int c)]) (st' := [.long (3 : Int64), .long (Int64.ofNat 0), .long c.toInt64]) rfl ?_
          refine Go_call (v1 := (some (.int (Int32.ofInt 0)))) (h1 := h0) (vs := [.long c.toInt64, .long (Int64.ofNat 0), .long (3 : Int64)]) (r := []) rfl rfl rfl rfl (by decide) rfl rfl rfl rfl ?_ ?_
          · refine Go_Ps 3 (pc' := 3) (lv' := [(0, .long c.toInt64), (2, .long (Int64.ofNat 0)), (4, .long (3 : Int64))]) (st' := [.int (lg_cmp c.toInt64 (Int64.ofNat 0))]) rfl ?_
            refine Go_brT rfl rfl rfl (lgT_lt (by first | omega | (simp only [cs_1, Int32.toInt_toInt64]; omega))) ?_
            refine Go_Ps 1 (pc' := 18) (lv' := [(0, .long c.toInt64), (2, .long (Int64.ofNat 0)), (4, .long (3 : Int64))]) (st' := [.int (Int32.ofInt 0)]) rfl ?_
            exact Go_ret rfl rfl rfl
          exact Go_ret rfl rfl rfl
        refine Go_Ps 2 (pc' := 16) (lv' := [(0, .ref 159), (1, .int (3 : Int32)), (2, .int b), (3, .int c), (4, .int d), (5, .int e)]) (st' := [.int ((Int8.ofInt (-2)).toInt32)]) rfl ?_
        exact Go_ret rfl rfl rfl
    · obtain rfl : c = 0 := Int32.toInt_inj.mp (by rw [show (0 : Int32).toInt = 0 from by decide]; omega)
      refine ⟨(-6), h0, h0, h0_len, h0_slo, h0_rcv, ?_, ?_⟩
      · refine Go_Ps 1 (pc' := 1) (lv' := [(0, .ref 0), (1, .int (3 : Int32)), (2, .int b), (3, .int (0 : Int32)), (4, .int d), (5, .int e)]) (st' := [.int (3 : Int32)]) rfl ?_
        refine Go_call (v1 := (some (.int (Int32.ofInt 1)))) (h1 := h0) (vs := [.int (3 : Int32)]) (r := []) rfl rfl rfl rfl (by decide) rfl rfl rfl rfl ?_ ?_
        · refine Go_Ps 7 (pc' := 14) (lv' := [(0, .int (3 : Int32))]) (st' := [.int (Int32.ofInt 1)]) rfl ?_
          exact Go_ret rfl rfl rfl
        refine Go_Ps 2 (pc' := 8) (lv' := [(0, .ref 0), (1, .int (3 : Int32)), (2, .int b), (3, .int (0 : Int32)), (4, .int d), (5, .int e)]) (st' := [.int (0 : Int32)]) rfl ?_
        refine Go_call (v1 := (some (.int (Int32.ofInt 1)))) (h1 := h0) (vs := [.int (0 : Int32)]) (r := []) rfl rfl rfl rfl (by decide) rfl rfl rfl rfl ?_ ?_
        · refine Go_Ps 7 (pc' := 14) (lv' := [(0, .int (0 : Int32))]) (st' := [.int (Int32.ofInt 1)]) rfl ?_
          exact Go_ret rfl rfl rfl
        refine Go_Ps 15 (pc' := 51) (lv' := [(7, .ref 151), (6, .ref 157), (0, .ref 0), (1, .int (3 : Int32)), (2, .int b), (3, .int (0 : Int32)), (4, .int d), (5, .int e)]) (st' := [.int ((Int8.ofInt (-6)).toInt32)]) rfl ?_
        exact Go_ret rfl rfl rfl
      · refine Go_Ps 1 (pc' := 1) (lv' := [(0, .ref 159), (1, .int (3 : Int32)), (2, .int b), (3, .int (0 : Int32)), (4, .int d), (5, .int e)]) (st' := [.int (3 : Int32)]) rfl ?_
        refine Go_call (v1 := (some (.int (Int32.ofInt 1)))) (h1 := h0) (vs := [.int (3 : Int32)]) (r := []) rfl rfl rfl rfl (by decide) rfl rfl rfl rfl ?_ ?_
        · refine Go_Ps 4 (pc' := 6) (lv' := [(0, .int (3 : Int32))]) (st' := [.long (3 : Int64), .long (Int64.ofNat 0), .long (3 : Int32).toInt64]) rfl ?_
          refine Go_call (v1 := (some (.int (Int32.ofInt 1)))) (h1 := h0) (vs := [.long (3 : Int32).toInt64, .long (Int64.ofNat 0), .long (3 : Int64)]) (r := []) rfl rfl rfl rfl (by decide) rfl rfl rfl rfl ?_ ?_
          · refine Go_Ps 10 (pc' := 18) (lv' := [(0, .long (3 : Int32).toInt64), (2, .long (Int64.ofNat 0)), (4, .long (3 : Int64))]) (st' := [.int (Int32.ofInt 1)]) rfl ?_
            exact Go_ret rfl rfl rfl
          exact Go_ret rfl rfl rfl
        refine Go_Ps 2 (pc' := 8) (lv' := [(0, .ref 159), (1, .int (3 : Int32)), (2, .int b), (3, .int (0 : Int32)), (4, .int d), (5, .int e)]) (st' := [.int (0 : Int32)]) rfl ?_
        refine Go_call (v1 := (some (.int (Int32.ofInt 1)))) (h1 := h0) (vs := [.int (0 : Int32)]) (r := []) rfl rfl rfl rfl (by decide) rfl rfl rfl rfl ?_ ?_
        · refine Go_Ps 4 (pc' := 6) (lv' := [(0, .int (0 : Int32))]) (st' := [.long (3 : Int64), .long (Int64.ofNat 0), .long (0 : Int32).toInt64]) rfl ?_
          refine Go_call (v1 := (some (.int (Int32.ofInt 1)))) (h1 := h0) (vs := [.long (0 : Int32).toInt64, .long (Int64.ofNat 0), .long (3 : Int64)]) (r := []) rfl rfl rfl rfl (by decide) rfl rfl rfl rfl ?_ ?_
          · refine Go_Ps 10 (pc' := 18) (lv' := [(0, .long (0 : Int32).toInt64), (2, .long (Int64.ofNat 0)), (4, .long (3 : Int64))]) (st' := [.int (Int32.ofInt 1)]) rfl ?_
            exact Go_ret rfl rfl rfl
          exact Go_ret rfl rfl rfl
        refine Go_Ps 8 (pc' := 39) (lv' := [(0, .ref 159), (1, .int (3 : Int32)), (2, .int b), (3, .int (0 : Int32)), (4, .int d), (5, .int e)]) (st' := [.int ((Int8.ofInt (-6)).toInt32)]) rfl ?_
        exact Go_ret rfl rfl rfl
    · obtain rfl : c = 1 := Int32.toInt_inj.mp (by rw [show (1 : Int32).toInt = 1 from by decide]; omega)
      refine ⟨(-6), h0, h0, h0_len, h0_slo, h0_rcv, ?_, ?_⟩
      · refine Go_Ps 1 (pc' := 1) (lv' := [(0, .ref 0), (1, .int (3 : Int32)), (2, .int b), (3, .int (1 : Int32)), (4, .int d), (5, .int e)]) (st' := [.int (3 : Int32)]) rfl ?_
        refine Go_call (v1 := (some (.int (Int32.ofInt 1)))) (h1 := h0) (vs := [.int (3 : Int32)]) (r := []) rfl rfl rfl rfl (by decide) rfl rfl rfl rfl ?_ ?_
        · refine Go_Ps 7 (pc' := 14) (lv' := [(0, .int (3 : Int32))]) (st' := [.int (Int32.ofInt 1)]) rfl ?_
          exact Go_ret rfl rfl rfl
        refine Go_Ps 2 (pc' := 8) (lv' := [(0, .ref 0), (1, .int (3 : Int32)), (2, .int b), (3, .int (1 : Int32)), (4, .int d), (5, .int e)]) (st' := [.int (1 : Int32)]) rfl ?_
        refine Go_call (v1 := (some (.int (Int32.ofInt 1)))) (h1 := h0) (vs := [.int (1 : Int32)]) (r := []) rfl rfl rfl rfl (by decide) rfl rfl rfl rfl ?_ ?_
        · refine Go_Ps 7 (pc' := 14) (lv' := [(0, .int (1 : Int32))]) (st' := [.int (Int32.ofInt 1)]) rfl ?_
          exact Go_ret rfl rfl rfl
        refine Go_Ps 15 (pc' := 51) (lv' := [(7, .ref 153), (6, .ref 157), (0, .ref 0), (1, .int (3 : Int32)), (2, .int b), (3, .int (1 : Int32)), (4, .int d), (5, .int e)]) (st' := [.int ((Int8.ofInt (-6)).toInt32)]) rfl ?_
        exact Go_ret rfl rfl rfl
      · refine Go_Ps 1 (pc' := 1) (lv' := [(0, .ref 159), (1, .int (3 : Int32)), (2, .int b), (3, .int (1 : Int32)), (4, .int d), (5, .int e)]) (st' := [.int (3 : Int32)]) rfl ?_
        refine Go_call (v1 := (some (.int (Int32.ofInt 1)))) (h1 := h0) (vs := [.int (3 : Int32)]) (r := []) rfl rfl rfl rfl (by decide) rfl rfl rfl rfl ?_ ?_
        · refine Go_Ps 4 (pc' := 6) (lv' := [(0, .int (3 : Int32))]) (st' := [.long (3 : Int64), .long (Int64.ofNat 0), .long (3 : Int32).toInt64]) rfl ?_
          refine Go_call (v1 := (some (.int (Int32.ofInt 1)))) (h1 := h0) (vs := [.long (3 : Int32).toInt64, .long (Int64.ofNat 0), .long (3 : Int64)]) (r := []) rfl rfl rfl rfl (by decide) rfl rfl rfl rfl ?_ ?_
          · refine Go_Ps 10 (pc' := 18) (lv' := [(0, .long (3 : Int32).toInt64), (2, .long (Int64.ofNat 0)), (4, .long (3 : Int64))]) (st' := [.int (Int32.ofInt 1)]) rfl ?_
            exact Go_ret rfl rfl rfl
          exact Go_ret rfl rfl rfl
        refine Go_Ps 2 (pc' := 8) (lv' := [(0, .ref 159), (1, .int (3 : Int32)), (2, .int b), (3, .int (1 : Int32)), (4, .int d), (5, .int e)]) (st' := [.int (1 : Int32)]) rfl ?_
        refine Go_call (v1 := (some (.int (Int32.ofInt 1)))) (h1 := h0) (vs := [.int (1 : Int32)]) (r := []) rfl rfl rfl rfl (by decide) rfl rfl rfl rfl ?_ ?_
        · refine Go_Ps 4 (pc' := 6) (lv' := [(0, .int (1 : Int32))]) (st' := [.long (3 : Int64), .long (Int64.ofNat 0), .long (1 : Int32).toInt64]) rfl ?_
          refine Go_call (v1 := (some (.int (Int32.ofInt 1)))) (h1 := h0) (vs := [.long (1 : Int32).toInt64, .long (Int64.ofNat 0), .long (3 : Int64)]) (r := []) rfl rfl rfl rfl (by decide) rfl rfl rfl rfl ?_ ?_
          · refine Go_Ps 10 (pc' := 18) (lv' := [(0, .long (1 : Int32).toInt64), (2, .long (Int64.ofNat 0)), (4, .long (3 : Int64))]) (st' := [.int (Int32.ofInt 1)]) rfl ?_
            exact Go_ret rfl rfl rfl
          exact Go_ret rfl rfl rfl
        refine Go_Ps 8 (pc' := 39) (lv' := [(0, .ref 159), (1, .int (3 : Int32)), (2, .int b), (3, .int (1 : Int32)), (4, .int d), (5, .int e)]) (st' := [.int ((Int8.ofInt (-6)).toInt32)]) rfl ?_
        exact Go_ret rfl rfl rfl
    · obtain rfl : c = 2 := Int32.toInt_inj.mp (by rw [show (2 : Int32).toInt = 2 from by decide]; omega)
      refine ⟨(-6), h0, h0, h0_len, h0_slo, h0_rcv, ?_, ?_⟩
      · refine Go_Ps 1 (pc' := 1) (lv' := [(0, .ref 0), (1, .int (3 : Int32)), (2, .int b), (3, .int (2 : Int32)), (4, .int d), (5, .int e)]) (st' := [.int (3 : Int32)]) rfl ?_
        refine Go_call (v1 := (some (.int (Int32.ofInt 1)))) (h1 := h0) (vs := [.int (3 : Int32)]) (r := []) rfl rfl rfl rfl (by decide) rfl rfl rfl rfl ?_ ?_
        · refine Go_Ps 7 (pc' := 14) (lv' := [(0, .int (3 : Int32))]) (st' := [.int (Int32.ofInt 1)]) rfl ?_
          exact Go_ret rfl rfl rfl
        refine Go_Ps 2 (pc' := 8) (lv' := [(0, .ref 0), (1, .int (3 : Int32)), (2, .int b), (3, .int (2 : Int32)), (4, .int d), (5, .int e)]) (st' := [.int (2 : Int32)]) rfl ?_
        refine Go_call (v1 := (some (.int (Int32.ofInt 1)))) (h1 := h0) (vs := [.int (2 : Int32)]) (r := []) rfl rfl rfl rfl (by decide) rfl rfl rfl rfl ?_ ?_
        · refine Go_Ps 7 (pc' := 14) (lv' := [(0, .int (2 : Int32))]) (st' := [.int (Int32.ofInt 1)]) rfl ?_
          exact Go_ret rfl rfl rfl
        refine Go_Ps 15 (pc' := 51) (lv' := [(7, .ref 155), (6, .ref 157), (0, .ref 0), (1, .int (3 : Int32)), (2, .int b), (3, .int (2 : Int32)), (4, .int d), (5, .int e)]) (st' := [.int ((Int8.ofInt (-6)).toInt32)]) rfl ?_
        exact Go_ret rfl rfl rfl
      · refine Go_Ps 1 (pc' := 1) (lv' := [(0, .ref 159), (1, .int (3 : Int32)), (2, .int b), (3, .int (2 : Int32)), (4, .int d), (5, .int e)]) (st' := [.int (3 : Int32)]) rfl ?_
        refine Go_call (v1 := (some (.int (Int32.ofInt 1)))) (h1 := h0) (vs := [.int (3 : Int32)]) (r := []) rfl rfl rfl rfl (by decide) rfl rfl rfl rfl ?_ ?_
        · refine Go_Ps 4 (pc' := 6) (lv' := [(0, .int (3 : Int32))]) (st' := [.long (3 : Int64), .long (Int64.ofNat 0), .long (3 : Int32).toInt64]) rfl ?_
          refine Go_call (v1 := (some (.int (Int32.ofInt 1)))) (h1 := h0) (vs := [.long (3 : Int32).toInt64, .long (Int64.ofNat 0), .long (3 : Int64)]) (r := []) rfl rfl rfl rfl (by decide) rfl rfl rfl rfl ?_ ?_
          · refine Go_Ps 10 (pc' := 18) (lv' := [(0, .long (3 : Int32).toInt64), (2, .long (Int64.ofNat 0)), (4, .long (3 : Int64))]) (st' := [.int (Int32.ofInt 1)]) rfl ?_
            exact Go_ret rfl rfl rfl
          exact Go_ret rfl rfl rfl
        refine Go_Ps 2 (pc' := 8) (lv' := [(0, .ref 159), (1, .int (3 : Int32)), (2, .int b), (3, .int (2 : Int32)), (4, .int d), (5, .int e)]) (st' := [.int (2 : Int32)]) rfl ?_
        refine Go_call (v1 := (some (.int (Int32.ofInt 1)))) (h1 := h0) (vs := [.int (2 : Int32)]) (r := []) rfl rfl rfl rfl (by decide) rfl rfl rfl rfl ?_ ?_
        · refine Go_Ps 4 (pc' := 6) (lv' := [(0, .int (2 : Int32))]) (st' := [.long (3 : Int64), .long (Int64.ofNat 0), .long (2 : Int32).toInt64]) rfl ?_
          refine Go_call (v1 := (some (.int (Int32.ofInt 1)))) (h1 := h0) (vs := [.long (2 : Int32).toInt64, .long (Int64.ofNat 0), .long (3 : Int64)]) (r := []) rfl rfl rfl rfl (by decide) rfl rfl rfl rfl ?_ ?_
          · refine Go_Ps 10 (pc' := 18) (lv' := [(0, .long (2 : Int32).toInt64), (2, .long (Int64.ofNat 0)), (4, .long (3 : Int64))]) (st' := [.int (Int32.ofInt 1)]) rfl ?_
            exact Go_ret rfl rfl rfl
          exact Go_ret rfl rfl rfl
        refine Go_Ps 8 (pc' := 39) (lv' := [(0, .ref 159), (1, .int (3 : Int32)), (2, .int b), (3, .int (2 : Int32)), (4, .int d), (5, .int e)]) (st' := [.int ((Int8.ofInt (-6)).toInt32)]) rfl ?_
        exact Go_ret rfl rfl rfl
    · obtain rfl : c = 3 := Int32.toInt_inj.mp (by rw [show (3 : Int32).toInt = 3 from by decide]; omega)
      refine ⟨(-6), h0, h0, h0_len, h0_slo, h0_rcv, ?_, ?_⟩
      · refine Go_Ps 1 (pc' := 1) (lv' := [(0, .ref 0), (1, .int (3 : Int32)), (2, .int b), (3, .int (3 : Int32)), (4, .int d), (5, .int e)]) (st' := [.int (3 : Int32)]) rfl ?_
        refine Go_call (v1 := (some (.int (Int32.ofInt 1)))) (h1 := h0) (vs := [.int (3 : Int32)]) (r := []) rfl rfl rfl rfl (by decide) rfl rfl rfl rfl ?_ ?_
        · refine Go_Ps 7 (pc' := 14) (lv' := [(0, .int (3 : Int32))]) (st' := [.int (Int32.ofInt 1)]) rfl ?_
          exact Go_ret rfl rfl rfl
        refine Go_Ps 2 (pc' := 8) (lv' := [(0, .ref 0), (1, .int (3 : Int32)), (2, .int b), (3, .int (3 : Int32)), (4, .int d), (5, .int e)]) (st' := [.int (3 : Int32)]) rfl ?_
        refine Go_call (v1 := (some (.int (Int32.ofInt 1)))) (h1 := h0) (vs := [.int (3 : Int32)]) (r := []) rfl rfl rfl rfl (by decide) rfl rfl rfl rfl ?_ ?_
        · refine Go_Ps 7 (pc' := 14) (lv' := [(0, .int (3 : Int32))]) (st' := [.int (Int32.ofInt 1)]) rfl ?_
          exact Go_ret rfl rfl rfl
        refine Go_Ps 15 (pc' := 51) (lv' := [(7, .ref 157), (6, .ref 157), (0, .ref 0), (1, .int (3 : Int32)), (2, .int b), (3, .int (3 : Int32)), (4, .int d), (5, .int e)]) (st' := [.int ((Int8.ofInt (-6)).toInt32)]) rfl ?_
        exact Go_ret rfl rfl rfl
      · refine Go_Ps 1 (pc' := 1) (lv' := [(0, .ref 159), (1, .int (3 : Int32)), (2, .int b), (3, .int (3 : Int32)), (4, .int d), (5, .int e)]) (st' := [.int (3 : Int32)]) rfl ?_
        refine Go_call (v1 := (some (.int (Int32.ofInt 1)))) (h1 := h0) (vs := [.int (3 : Int32)]) (r := []) rfl rfl rfl rfl (by decide) rfl rfl rfl rfl ?_ ?_
        · refine Go_Ps 4 (pc' := 6) (lv' := [(0, .int (3 : Int32))]) (st' := [.long (3 : Int64), .long (Int64.ofNat 0), .long (3 : Int32).toInt64]) rfl ?_
          refine Go_call (v1 := (some (.int (Int32.ofInt 1)))) (h1 := h0) (vs := [.long (3 : Int32).toInt64, .long (Int64.ofNat 0), .long (3 : Int64)]) (r := []) rfl rfl rfl rfl (by decide) rfl rfl rfl rfl ?_ ?_
          · refine Go_Ps 10 (pc' := 18) (lv' := [(0, .long (3 : Int32).toInt64), (2, .long (Int64.ofNat 0)), (4, .long (3 : Int64))]) (st' := [.int (Int32.ofInt 1)]) rfl ?_
            exact Go_ret rfl rfl rfl
          exact Go_ret rfl rfl rfl
        refine Go_Ps 2 (pc' := 8) (lv' := [(0, .ref 159), (1, .int (3 : Int32)), (2, .int b), (3, .int (3 : Int32)), (4, .int d), (5, .int e)]) (st' := [.int (3 : Int32)]) rfl ?_
        refine Go_call (v1 := (some (.int (Int32.ofInt 1)))) (h1 := h0) (vs := [.int (3 : Int32)]) (r := []) rfl rfl rfl rfl (by decide) rfl rfl rfl rfl ?_ ?_
        · refine Go_Ps 4 (pc' := 6) (lv' := [(0, .int (3 : Int32))]) (st' := [.long (3 : Int64), .long (Int64.ofNat 0), .long (3 : Int32).toInt64]) rfl ?_
          refine Go_call (v1 := (some (.int (Int32.ofInt 1)))) (h1 := h0) (vs := [.long (3 : Int32).toInt64, .long (Int64.ofNat 0), .long (3 : Int64)]) (r := []) rfl rfl rfl rfl (by decide) rfl rfl rfl rfl ?_ ?_
          · refine Go_Ps 10 (pc' := 18) (lv' := [(0, .long (3 : Int32).toInt64), (2, .long (Int64.ofNat 0)), (4, .long (3 : Int64))]) (st' := [.int (Int32.ofInt 1)]) rfl ?_
            exact Go_ret rfl rfl rfl
          exact Go_ret rfl rfl rfl
        refine Go_Ps 8 (pc' := 39) (lv' := [(0, .ref 159), (1, .int (3 : Int32)), (2, .int b), (3, .int (3 : Int32)), (4, .int d), (5, .int e)]) (st' := [.int ((Int8.ofInt (-6)).toInt32)]) rfl ?_
        exact Go_ret rfl rfl rfl
    · refine ⟨(-2), h0, h0, h0_len, h0_slo, h0_rcv, ?_, ?_⟩
      · refine Go_Ps 1 (pc' := 1) (lv' := [(0, .ref 0), (1, .int (3 : Int32)), (2, .int b), (3, .int c), (4, .int d), (5, .int e)]) (st' := [.int (3 : Int32)]) rfl ?_
        refine Go_call (v1 := (some (.int (Int32.ofInt 1)))) (h1 := h0) (vs := [.int (3 : Int32)]) (r := []) rfl rfl rfl rfl (by decide) rfl rfl rfl rfl ?_ ?_
        · refine Go_Ps 7 (pc' := 14) (lv' := [(0, .int (3 : Int32))]) (st' := [.int (Int32.ofInt 1)]) rfl ?_
          exact Go_ret rfl rfl rfl
        refine Go_Ps 2 (pc' := 8) (lv' := [(0, .ref 0), (1, .int (3 : Int32)), (2, .int b), (3, .int c), (4, .int d), (5, .int e)]) (st' := [.int c]) rfl ?_
        refine Go_call (v1 := (some (.int (Int32.ofInt 0)))) (h1 := h0) (vs := [.int c]) (r := []) rfl rfl rfl rfl (by decide) rfl rfl rfl rfl ?_ ?_
        · refine Go_Ps 1 (pc' := 1) (lv' := [(0, .int c)]) (st' := [.int c]) rfl ?_
          refine Go_brF rfl rfl rfl (iF_lt (by first | omega | (simp only [cs_0]; omega))) ?_
          refine Go_Ps 2 (pc' := 6) (lv' := [(0, .int c)]) (st' := [.int (Int32.ofInt 4), .int c]) rfl ?_
          refine Go_brT rfl rfl rfl (iT_le (by first | omega | (simp only [cs_8]; omega))) ?_
          refine Go_Ps 1 (pc' := 14) (lv' := [(0, .int c)]) (st' := [.int (Int32.ofInt 0)]) rfl ?_
          exact Go_ret rfl rfl rfl
        refine Go_Ps 2 (pc' := 16) (lv' := [(0, .ref 0), (1, .int (3 : Int32)), (2, .int b), (3, .int c), (4, .int d), (5, .int e)]) (st' := [.int ((Int8.ofInt (-2)).toInt32)]) rfl ?_
        exact Go_ret rfl rfl rfl
      · refine Go_Ps 1 (pc' := 1) (lv' := [(0, .ref 159), (1, .int (3 : Int32)), (2, .int b), (3, .int c), (4, .int d), (5, .int e)]) (st' := [.int (3 : Int32)]) rfl ?_
        refine Go_call (v1 := (some (.int (Int32.ofInt 1)))) (h1 := h0) (vs := [.int (3 : Int32)]) (r := []) rfl rfl rfl rfl (by decide) rfl rfl rfl rfl ?_ ?_
        · refine Go_Ps 4 (pc' := 6) (lv' := [(0, .int (3 : Int32))]) (st' := [.long (3 : Int64), .long (Int64.ofNat 0), .long (3 : Int32).toInt64]) rfl ?_
          refine Go_call (v1 := (some (.int (Int32.ofInt 1)))) (h1 := h0) (vs := [.long (3 : Int32).toInt64, .long (Int64.ofNat 0), .long (3 : Int64)]) (r := []) rfl rfl rfl rfl (by decide) rfl rfl rfl rfl ?_ ?_
          · refine Go_Ps 10 (pc' := 18) (lv' := [(0, .long (3 : Int32).toInt64), (2, .long (Int64.ofNat 0)), (4, .long (3 : Int64))]) (st' := [.int (Int32.ofInt 1)]) rfl ?_
            exact Go_ret rfl rfl rfl
          exact Go_ret rfl rfl rfl
        refine Go_Ps 2 (pc' := 8) (lv' := [(0, .ref 159), (1, .int (3 : Int32)), (2, .int b), (3, .int c), (4, .int d), (5, .int e)]) (st' := [.int c]) rfl ?_
        refine Go_call (v1 := (some (.int (Int32.ofInt 0)))) (h1 := h0) (vs := [.int c]) (r := []) rfl rfl rfl rfl (by decide) rfl rfl rfl rfl ?_ ?_
        · refine Go_Ps 4 (pc' := 6) (lv' := [(0, .int c)]) (st' := [.long (3 : Int64), .long (Int64.ofNat 0), .long c.toInt64]) rfl ?_
          refine Go_call (v1 := (some (.int (Int32.ofInt 0)))) (h1 := h0) (vs := [.long c.toInt64, .long (Int64.ofNat 0), .long (3 : Int64)]) (r := []) rfl rfl rfl rfl (by decide) rfl rfl rfl rfl ?_ ?_
          · refine Go_Ps 3 (pc' := 3) (lv' := [(0, .long c.toInt64), (2, .long (Int64.ofNat 0)), (4, .long (3 : Int64))]) (st' := [.int (lg_cmp c.toInt64 (Int64.ofNat 0))]) rfl ?_
            refine Go_brF rfl rfl rfl (lgF_lt (by first | omega | (simp only [cs_1, Int32.toInt_toInt64]; omega))) ?_
            refine Go_Ps 3 (pc' := 10) (lv' := [(0, .long c.toInt64), (2, .long (Int64.ofNat 0)), (4, .long (3 : Int64))]) (st' := [.int (lg_cmp c.toInt64 (3 : Int64))]) rfl ?_
            refine Go_brT rfl rfl rfl (lgT_gt (by first | omega | (simp only [cs_9, Int32.toInt_toInt64]; omega))) ?_
            refine Go_Ps 1 (pc' := 18) (lv' := [(0, .long c.toInt64), (2, .long (Int64.ofNat 0)), (4, .long (3 : Int64))]) (st' := [.int (Int32.ofInt 0)]) rfl ?_
            exact Go_ret rfl rfl rfl
          exact Go_ret rfl rfl rfl
        refine Go_Ps 2 (pc' := 16) (lv' := [(0, .ref 159), (1, .int (3 : Int32)), (2, .int b), (3, .int c), (4, .int d), (5, .int e)]) (st' := [.int ((Int8.ofInt (-2)).toInt32)]) rfl ?_
        exact Go_ret rfl rfl rfl
  · refine ⟨(-2), h0, h0, h0_len, h0_slo, h0_rcv, ?_, ?_⟩
    · refine Go_Ps 1 (pc' := 1) (lv' := [(0, .ref 0), (1, .int a), (2, .int b), (3, .int c), (4, .int d), (5, .int e)]) (st' := [.int a]) rfl ?_
      refine Go_call (v1 := (some (.int (Int32.ofInt 0)))) (h1 := h0) (vs := [.int a]) (r := []) rfl rfl rfl rfl (by decide) rfl rfl rfl rfl ?_ ?_
      · refine Go_Ps 1 (pc' := 1) (lv' := [(0, .int a)]) (st' := [.int a]) rfl ?_
        refine Go_brF rfl rfl rfl (iF_lt (by first | omega | (simp only [cs_0]; omega))) ?_
        refine Go_Ps 2 (pc' := 6) (lv' := [(0, .int a)]) (st' := [.int (Int32.ofInt 4), .int a]) rfl ?_
        refine Go_brT rfl rfl rfl (iT_le (by first | omega | (simp only [cs_8]; omega))) ?_
        refine Go_Ps 1 (pc' := 14) (lv' := [(0, .int a)]) (st' := [.int (Int32.ofInt 0)]) rfl ?_
        exact Go_ret rfl rfl rfl
      refine Go_Ps 2 (pc' := 16) (lv' := [(0, .ref 0), (1, .int a), (2, .int b), (3, .int c), (4, .int d), (5, .int e)]) (st' := [.int ((Int8.ofInt (-2)).toInt32)]) rfl ?_
      exact Go_ret rfl rfl rfl
    · refine Go_Ps 1 (pc' := 1) (lv' := [(0, .ref 159), (1, .int a), (2, .int b), (3, .int c), (4, .int d), (5, .int e)]) (st' := [.int a]) rfl ?_
      refine Go_call (v1 := (some (.int (Int32.ofInt 0)))) (h1 := h0) (vs := [.int a]) (r := []) rfl rfl rfl rfl (by decide) rfl rfl rfl rfl ?_ ?_
      · refine Go_Ps 4 (pc' := 6) (lv' := [(0, .int a)]) (st' := [.long (3 : Int64), .long (Int64.ofNat 0), .long a.toInt64]) rfl ?_
        refine Go_call (v1 := (some (.int (Int32.ofInt 0)))) (h1 := h0) (vs := [.long a.toInt64, .long (Int64.ofNat 0), .long (3 : Int64)]) (r := []) rfl rfl rfl rfl (by decide) rfl rfl rfl rfl ?_ ?_
        · refine Go_Ps 3 (pc' := 3) (lv' := [(0, .long a.toInt64), (2, .long (Int64.ofNat 0)), (4, .long (3 : Int64))]) (st' := [.int (lg_cmp a.toInt64 (Int64.ofNat 0))]) rfl ?_
          refine Go_brF rfl rfl rfl (lgF_lt (by first | omega | (simp only [cs_1, Int32.toInt_toInt64]; omega))) ?_
          refine Go_Ps 3 (pc' := 10) (lv' := [(0, .long a.toInt64), (2, .long (Int64.ofNat 0)), (4, .long (3 : Int64))]) (st' := [.int (lg_cmp a.toInt64 (3 : Int64))]) rfl ?_
          refine Go_brT rfl rfl rfl (lgT_gt (by first | omega | (simp only [cs_9, Int32.toInt_toInt64]; omega))) ?_
          refine Go_Ps 1 (pc' := 18) (lv' := [(0, .long a.toInt64), (2, .long (Int64.ofNat 0)), (4, .long (3 : Int64))]) (st' := [.int (Int32.ofInt 0)]) rfl ?_
          exact Go_ret rfl rfl rfl
        exact Go_ret rfl rfl rfl
      refine Go_Ps 2 (pc' := 16) (lv' := [(0, .ref 159), (1, .int a), (2, .int b), (3, .int c), (4, .int d), (5, .int e)]) (st' := [.int ((Int8.ofInt (-2)).toInt32)]) rfl ?_
      exact Go_ret rfl rfl rfl
