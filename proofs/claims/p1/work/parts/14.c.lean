theorem op_0 (a b c d e : Int32) : Both mr_113 mr_217 [.int a, .int b, .int c, .int d, .int e] h0 := sorry
theorem op_61 (a b c : Int32) : Both mr_156 mr_299 [.int a, .int b, .int c] h0 := sorry
