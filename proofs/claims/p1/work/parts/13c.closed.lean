set_option maxRecDepth 100000 in
theorem clo_2 : Both mr_160 mr_303 [] h0 := sorry
set_option maxRecDepth 100000 in
theorem clo_59_0 : Both mr_133 mr_239 [.int (0 : Int32)] h0 := sorry
set_option maxRecDepth 100000 in
theorem clo_59_1 : Both mr_133 mr_239 [.int (1 : Int32)] h0 := sorry
set_option maxRecDepth 100000 in
theorem clo_59_2 : Both mr_133 mr_239 [.int (2 : Int32)] h0 := sorry
