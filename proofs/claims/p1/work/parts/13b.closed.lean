set_option maxRecDepth 100000 in
theorem clo_1_0 : Both mr_109 mr_212 [.int (0 : Int32)] h0 := Both_closed 0 800 (by decide +kernel)
set_option maxRecDepth 100000 in
theorem clo_3_0 : Both mr_112 mr_216 [.int (0 : Int32)] h0 := Both_closed 0 800 (by decide +kernel)
set_option maxRecDepth 100000 in
theorem clo_3_1 : Both mr_112 mr_216 [.int (1 : Int32)] h0 := Both_closed (-1) 800 (by decide +kernel)
set_option maxRecDepth 100000 in
theorem clo_18 : Both mr_98 mr_192 [] h0 := Both_closed (-2) 800 (by decide +kernel)
set_option maxRecDepth 100000 in
theorem clo_19 : Both mr_125 mr_231 [] h0 := Both_closed (-2) 800 (by decide +kernel)
set_option maxRecDepth 100000 in
theorem clo_21 : Both mr_172 mr_320 [] h0 := Both_closed (-2) 800 (by decide +kernel)
set_option maxRecDepth 100000 in
theorem clo_44 : Both mr_124 mr_230 [] h0 := Both_closed (-2) 800 (by decide +kernel)
set_option maxRecDepth 100000 in
theorem clo_51 : Both mr_128 mr_235 [] h0 := Both_closed (-2) 800 (by decide +kernel)
set_option maxRecDepth 100000 in
theorem clo_53 : Both mr_166 mr_313 [] h0 := Both_closed (-2) 800 (by decide +kernel)
set_option maxRecDepth 100000 in
theorem clo_58_0 : Both mr_101 mr_197 [.int (0 : Int32)] h0 := Both_closed 0 800 (by decide +kernel)
set_option maxRecDepth 100000 in
theorem clo_58_1 : Both mr_101 mr_197 [.int (1 : Int32)] h0 := Both_closed 0 800 (by decide +kernel)
set_option maxRecDepth 100000 in
theorem clo_58_2 : Both mr_101 mr_197 [.int (2 : Int32)] h0 := Both_closed 0 800 (by decide +kernel)
set_option maxRecDepth 100000 in
theorem clo_58_3 : Both mr_101 mr_197 [.int (3 : Int32)] h0 := Both_closed 0 800 (by decide +kernel)
set_option maxRecDepth 100000 in
theorem clo_58_4 : Both mr_101 mr_197 [.int (4 : Int32)] h0 := Both_closed 0 800 (by decide +kernel)
set_option maxRecDepth 100000 in
theorem clo_58_5 : Both mr_101 mr_197 [.int (5 : Int32)] h0 := Both_closed 0 800 (by decide +kernel)
set_option maxRecDepth 100000 in
theorem clo_58_6 : Both mr_101 mr_197 [.int (6 : Int32)] h0 := Both_closed 0 800 (by decide +kernel)
set_option maxRecDepth 100000 in
theorem clo_58_7 : Both mr_101 mr_197 [.int (7 : Int32)] h0 := Both_closed 0 800 (by decide +kernel)
set_option maxRecDepth 100000 in
theorem clo_58_8 : Both mr_101 mr_197 [.int (8 : Int32)] h0 := Both_closed 0 800 (by decide +kernel)
set_option maxRecDepth 100000 in
theorem clo_58_9 : Both mr_101 mr_197 [.int (9 : Int32)] h0 := Both_closed 0 800 (by decide +kernel)
set_option maxRecDepth 100000 in
theorem clo_60_0 : Both mr_96 mr_190 [.int (0 : Int32)] h0 := Both_closed (-6) 800 (by decide +kernel)
set_option maxRecDepth 100000 in
theorem clo_60_1 : Both mr_96 mr_190 [.int (1 : Int32)] h0 := Both_closed (-6) 800 (by decide +kernel)
set_option maxRecDepth 100000 in
theorem clo_60_2 : Both mr_96 mr_190 [.int (2 : Int32)] h0 := Both_closed (-6) 800 (by decide +kernel)
