/-! school() and image(k) on the fresh objects -/
def clo_2_h0 : AH := ((h0.set 0 (0, 10, [.ref 1, .ref 3, .ref 4, .ref 8, .ref 10, .ref 14, .ref 150, .ref 70, .ref 71, .ref 44, .ref 18])).set 4 (0, 6, [.int 1, .int 1, .ref 5, .ref 6, .ref 7])).set 7 (1, 0, [.int 1, .int 0, .int 0, .int 0, .int 0, .int 0, .int 0, .int 0, .int 0, .int 0, .int 0, .int 0, .int 0, .int 0, .int 0, .int 0, .int 0, .int 0, .int 0, .int 0, .int 0, .int 0, .int 0, .int 0, .int 0, .int 0, .int 0, .int 0, .int 0, .int 0, .int 0, .int 0, .int 0, .int 0, .int 0, .int 0, .int 0, .int 0, .int 0, .int 0, .int 0, .int 0, .int 0, .int 0, .int 0, .int 0, .int 0, .int 0, .int 0, .int 0, .int 0, .int 0, .int 0, .int 0, .int 0, .int 0, .int 0, .int 0, .int 0, .int 0, .int 0, .int 0, .int 0, .int 0, .int 0, .int 0, .int 0, .int 0, .int 0, .int 0, .int 0, .int 0, .int 0, .int 0, .int 0, .int 0, .int 0, .int 0, .int 0, .int 0, .int 0])
theorem clo_2_0_0 : seg MT 3000 50 4000 none mr_160 32 (0, [(0, .ref 0)], [], h0) = some (71, [(1, .ref 18), (0, .ref 0)], [.int 0], clo_2_h0) := eqS_ok (by decide +kernel)
theorem clo_2_1_0 : seg MT 3000 50 4000 none mr_303 160 (0, [(0, .ref 159)], [], clo_2_h0) = some (34, [(1, .int 14), (0, .ref 159)], [.int 226, .int 14], clo_2_h0) := eqS_ok (by decide +kernel)
theorem clo_2_1_1 : seg MT 3000 50 4000 none mr_303 160 (34, [(1, .int 14), (0, .ref 159)], [.int 226, .int 14], clo_2_h0) = some (34, [(1, .int 30), (0, .ref 159)], [.int 226, .int 30], clo_2_h0) := eqS_ok (by decide +kernel)
theorem clo_2_1_2 : seg MT 3000 50 4000 none mr_303 160 (34, [(1, .int 30), (0, .ref 159)], [.int 226, .int 30], clo_2_h0) = some (34, [(1, .int 46), (0, .ref 159)], [.int 226, .int 46], clo_2_h0) := eqS_ok (by decide +kernel)
theorem clo_2_1_3 : seg MT 3000 50 4000 none mr_303 160 (34, [(1, .int 46), (0, .ref 159)], [.int 226, .int 46], clo_2_h0) = some (34, [(1, .int 62), (0, .ref 159)], [.int 226, .int 62], clo_2_h0) := eqS_ok (by decide +kernel)
theorem clo_2_1_4 : seg MT 3000 50 4000 none mr_303 160 (34, [(1, .int 62), (0, .ref 159)], [.int 226, .int 62], clo_2_h0) = some (34, [(1, .int 78), (0, .ref 159)], [.int 226, .int 78], clo_2_h0) := eqS_ok (by decide +kernel)
theorem clo_2_1_5 : seg MT 3000 50 4000 none mr_303 160 (34, [(1, .int 78), (0, .ref 159)], [.int 226, .int 78], clo_2_h0) = some (34, [(1, .int 94), (0, .ref 159)], [.int 226, .int 94], clo_2_h0) := eqS_ok (by decide +kernel)
theorem clo_2_1_6 : seg MT 3000 50 4000 none mr_303 160 (34, [(1, .int 94), (0, .ref 159)], [.int 226, .int 94], clo_2_h0) = some (34, [(1, .int 110), (0, .ref 159)], [.int 226, .int 110], clo_2_h0) := eqS_ok (by decide +kernel)
theorem clo_2_1_7 : seg MT 3000 50 4000 none mr_303 160 (34, [(1, .int 110), (0, .ref 159)], [.int 226, .int 110], clo_2_h0) = some (34, [(1, .int 126), (0, .ref 159)], [.int 226, .int 126], clo_2_h0) := eqS_ok (by decide +kernel)
theorem clo_2_1_8 : seg MT 3000 50 4000 none mr_303 160 (34, [(1, .int 126), (0, .ref 159)], [.int 226, .int 126], clo_2_h0) = some (34, [(1, .int 142), (0, .ref 159)], [.int 226, .int 142], clo_2_h0) := eqS_ok (by decide +kernel)
theorem clo_2_1_9 : seg MT 3000 50 4000 none mr_303 160 (34, [(1, .int 142), (0, .ref 159)], [.int 226, .int 142], clo_2_h0) = some (34, [(1, .int 158), (0, .ref 159)], [.int 226, .int 158], clo_2_h0) := eqS_ok (by decide +kernel)
theorem clo_2_1_10 : seg MT 3000 50 4000 none mr_303 160 (34, [(1, .int 158), (0, .ref 159)], [.int 226, .int 158], clo_2_h0) = some (34, [(1, .int 174), (0, .ref 159)], [.int 226, .int 174], clo_2_h0) := eqS_ok (by decide +kernel)
theorem clo_2_1_11 : seg MT 3000 50 4000 none mr_303 160 (34, [(1, .int 174), (0, .ref 159)], [.int 226, .int 174], clo_2_h0) = some (34, [(1, .int 190), (0, .ref 159)], [.int 226, .int 190], clo_2_h0) := eqS_ok (by decide +kernel)
theorem clo_2_1_12 : seg MT 3000 50 4000 none mr_303 160 (34, [(1, .int 190), (0, .ref 159)], [.int 226, .int 190], clo_2_h0) = some (34, [(1, .int 206), (0, .ref 159)], [.int 226, .int 206], clo_2_h0) := eqS_ok (by decide +kernel)
theorem clo_2_1_13 : seg MT 3000 50 4000 none mr_303 160 (34, [(1, .int 206), (0, .ref 159)], [.int 226, .int 206], clo_2_h0) = some (34, [(1, .int 222), (0, .ref 159)], [.int 226, .int 222], clo_2_h0) := eqS_ok (by decide +kernel)
theorem clo_2_1_14 : seg MT 3000 50 4000 none mr_303 160 (34, [(1, .int 222), (0, .ref 159)], [.int 226, .int 222], clo_2_h0) = some (91, [(1, .int 8), (0, .ref 159)], [.int 226, .int 8], clo_2_h0) := eqS_ok (by decide +kernel)
theorem clo_2_1_15 : seg MT 3000 50 4000 none mr_303 160 (91, [(1, .int 8), (0, .ref 159)], [.int 226, .int 8], clo_2_h0) = some (99, [(1, .int 20), (0, .ref 159)], [.int 20, .ref 160], clo_2_h0) := eqS_ok (by decide +kernel)
theorem clo_2_1_16 : seg MT 3000 50 4000 none mr_303 160 (99, [(1, .int 20), (0, .ref 159)], [.int 20, .ref 160], clo_2_h0) = some (105, [(1, .int 32), (0, .ref 159)], [.int 0, .int 32, .ref 160], clo_2_h0) := eqS_ok (by decide +kernel)
theorem clo_2_1_17 : seg MT 3000 50 4000 none mr_303 160 (105, [(1, .int 32), (0, .ref 159)], [.int 0, .int 32, .ref 160], clo_2_h0) = some (88, [(1, .int 45), (0, .ref 159)], [.int 45], clo_2_h0) := eqS_ok (by decide +kernel)
theorem clo_2_1_18 : seg MT 3000 50 4000 none mr_303 160 (88, [(1, .int 45), (0, .ref 159)], [.int 45], clo_2_h0) = some (98, [(1, .int 57), (0, .ref 159)], [.ref 160], clo_2_h0) := eqS_ok (by decide +kernel)
theorem clo_2_1_19 : seg MT 3000 50 4000 none mr_303 160 (98, [(1, .int 57), (0, .ref 159)], [.ref 160], clo_2_h0) = some (104, [(1, .int 69), (0, .ref 159)], [.int 69, .ref 165, .int 69, .ref 160], clo_2_h0) := eqS_ok (by decide +kernel)
theorem clo_2_1_20 : seg MT 3000 50 4000 none mr_303 160 (104, [(1, .int 69), (0, .ref 159)], [.int 69, .ref 165, .int 69, .ref 160], clo_2_h0) = some (87, [(1, .int 82), (0, .ref 159)], [], clo_2_h0) := eqS_ok (by decide +kernel)
theorem clo_2_1_21 : seg MT 3000 50 4000 none mr_303 160 (87, [(1, .int 82), (0, .ref 159)], [], clo_2_h0) = some (95, [(1, .int 94), (0, .ref 159)], [.ref 159], clo_2_h0) := eqS_ok (by decide +kernel)
theorem clo_2_1_22 : seg MT 3000 50 4000 none mr_303 160 (95, [(1, .int 94), (0, .ref 159)], [.ref 159], clo_2_h0) = some (103, [(1, .int 106), (0, .ref 159)], [.ref 165, .int 106, .ref 160], clo_2_h0) := eqS_ok (by decide +kernel)
theorem clo_2_1_23 : seg MT 3000 50 4000 none mr_303 160 (103, [(1, .int 106), (0, .ref 159)], [.ref 165, .int 106, .ref 160], clo_2_h0) = some (109, [(1, .int 119), (0, .ref 159)], [], clo_2_h0) := eqS_ok (by decide +kernel)
theorem clo_2_1_24 : seg MT 3000 50 4000 none mr_303 160 (109, [(1, .int 119), (0, .ref 159)], [], clo_2_h0) = some (94, [(1, .int 131), (0, .ref 159)], [], clo_2_h0) := eqS_ok (by decide +kernel)
theorem clo_2_1_25 : seg MT 3000 50 4000 none mr_303 160 (94, [(1, .int 131), (0, .ref 159)], [], clo_2_h0) = some (100, [(1, .int 143), (0, .ref 159)], [.ref 159, .int 143, .ref 160], clo_2_h0) := eqS_ok (by decide +kernel)
theorem clo_2_1_26 : seg MT 3000 50 4000 none mr_303 160 (100, [(1, .int 143), (0, .ref 159)], [.ref 159, .int 143, .ref 160], clo_2_h0) = some (106, [(1, .int 155), (0, .ref 159)], [], clo_2_h0) := eqS_ok (by decide +kernel)
theorem clo_2_1_27 : seg MT 3000 50 4000 none mr_303 160 (106, [(1, .int 155), (0, .ref 159)], [], clo_2_h0) = some (91, [(1, .int 168), (0, .ref 159)], [.int 226, .int 168], clo_2_h0) := eqS_ok (by decide +kernel)
theorem clo_2_1_28 : seg MT 3000 50 4000 none mr_303 160 (91, [(1, .int 168), (0, .ref 159)], [.int 226, .int 168], clo_2_h0) = some (99, [(1, .int 180), (0, .ref 159)], [.int 180, .ref 160], clo_2_h0) := eqS_ok (by decide +kernel)
theorem clo_2_1_29 : seg MT 3000 50 4000 none mr_303 160 (99, [(1, .int 180), (0, .ref 159)], [.int 180, .ref 160], clo_2_h0) = some (105, [(1, .int 192), (0, .ref 159)], [.int 0, .int 192, .ref 160], clo_2_h0) := eqS_ok (by decide +kernel)
theorem clo_2_1_30 : seg MT 3000 50 4000 none mr_303 160 (105, [(1, .int 192), (0, .ref 159)], [.int 0, .int 192, .ref 160], clo_2_h0) = some (88, [(1, .int 205), (0, .ref 159)], [.int 205], clo_2_h0) := eqS_ok (by decide +kernel)
theorem clo_2_1_31 : seg MT 3000 50 4000 none mr_303 160 (88, [(1, .int 205), (0, .ref 159)], [.int 205], clo_2_h0) = some (98, [(1, .int 217), (0, .ref 159)], [.ref 160], clo_2_h0) := eqS_ok (by decide +kernel)
theorem clo_2_1_32 : seg MT 3000 50 4000 none mr_303 119 (98, [(1, .int 217), (0, .ref 159)], [.ref 160], clo_2_h0) = some (119, [(1, .int 226), (0, .ref 159)], [.int 0], clo_2_h0) := eqS_ok (by decide +kernel)
theorem clo_2_r0 : Go MT 50 4000 none mr_160 0 [(0, .ref 0)] [] h0 (some (.int 0), clo_2_h0) := by
  refine Go_seg 32 clo_2_0_0 ?_
  exact Go_of 1 (by decide +kernel)
theorem clo_2_r1 : Go MT 50 4000 none mr_303 0 [(0, .ref 159)] [] clo_2_h0 (some (.int 0), clo_2_h0) := by
  refine Go_seg 160 clo_2_1_0 ?_
  refine Go_seg 160 clo_2_1_1 ?_
  refine Go_seg 160 clo_2_1_2 ?_
  refine Go_seg 160 clo_2_1_3 ?_
  refine Go_seg 160 clo_2_1_4 ?_
  refine Go_seg 160 clo_2_1_5 ?_
  refine Go_seg 160 clo_2_1_6 ?_
  refine Go_seg 160 clo_2_1_7 ?_
  refine Go_seg 160 clo_2_1_8 ?_
  refine Go_seg 160 clo_2_1_9 ?_
  refine Go_seg 160 clo_2_1_10 ?_
  refine Go_seg 160 clo_2_1_11 ?_
  refine Go_seg 160 clo_2_1_12 ?_
  refine Go_seg 160 clo_2_1_13 ?_
  refine Go_seg 160 clo_2_1_14 ?_
  refine Go_seg 160 clo_2_1_15 ?_
  refine Go_seg 160 clo_2_1_16 ?_
  refine Go_seg 160 clo_2_1_17 ?_
  refine Go_seg 160 clo_2_1_18 ?_
  refine Go_seg 160 clo_2_1_19 ?_
  refine Go_seg 160 clo_2_1_20 ?_
  refine Go_seg 160 clo_2_1_21 ?_
  refine Go_seg 160 clo_2_1_22 ?_
  refine Go_seg 160 clo_2_1_23 ?_
  refine Go_seg 160 clo_2_1_24 ?_
  refine Go_seg 160 clo_2_1_25 ?_
  refine Go_seg 160 clo_2_1_26 ?_
  refine Go_seg 160 clo_2_1_27 ?_
  refine Go_seg 160 clo_2_1_28 ?_
  refine Go_seg 160 clo_2_1_29 ?_
  refine Go_seg 160 clo_2_1_30 ?_
  refine Go_seg 160 clo_2_1_31 ?_
  refine Go_seg 119 clo_2_1_32 ?_
  exact Go_of 1 (by decide +kernel)
theorem clo_2 : Both mr_160 mr_303 [] h0 := ⟨0, clo_2_h0, clo_2_h0, by decide +kernel, by decide +kernel, by decide +kernel, clo_2_r0, clo_2_r1⟩
