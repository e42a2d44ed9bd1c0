/-! image(k) -/
def clo_59_0_h0 : AH := h0.set 71 (1, 3, [.int 1, .int 0, .int 0])
theorem clo_59_0_0_0 : seg MT 3000 50 4000 none mr_133 18 (0, [(0, .ref 0), (1, .int 0)], [], h0) = some (33, [(0, .ref 0), (1, .int 0)], [.int 0], clo_59_0_h0) := eqS_ok (by decide +kernel)
theorem clo_59_0_1_0 : seg MT 3000 50 4000 none mr_239 160 (0, [(0, .ref 159), (1, .int 0)], [], clo_59_0_h0) = some (45, [(2, .int 9), (0, .ref 159), (1, .int 0)], [], clo_59_0_h0) := eqS_ok (by decide +kernel)
theorem clo_59_0_1_1 : seg MT 3000 50 4000 none mr_239 160 (45, [(2, .int 9), (0, .ref 159), (1, .int 0)], [], clo_59_0_h0) = some (31, [(2, .int 18), (0, .ref 159), (1, .int 0)], [.int 226, .ref 161], clo_59_0_h0) := eqS_ok (by decide +kernel)
theorem clo_59_0_1_2 : seg MT 3000 50 4000 none mr_239 160 (31, [(2, .int 18), (0, .ref 159), (1, .int 0)], [.int 226, .ref 161], clo_59_0_h0) = some (40, [(2, .int 27), (0, .ref 159), (1, .int 0)], [.int 27, .ref 160, .int 27, .ref 161], clo_59_0_h0) := eqS_ok (by decide +kernel)
theorem clo_59_0_1_3 : seg MT 3000 50 4000 none mr_239 160 (40, [(2, .int 27), (0, .ref 159), (1, .int 0)], [.int 27, .ref 160, .int 27, .ref 161], clo_59_0_h0) = some (24, [(2, .int 37), (0, .ref 159), (1, .int 0)], [], clo_59_0_h0) := eqS_ok (by decide +kernel)
theorem clo_59_0_1_4 : seg MT 3000 50 4000 none mr_239 160 (24, [(2, .int 37), (0, .ref 159), (1, .int 0)], [], clo_59_0_h0) = some (35, [(2, .int 46), (0, .ref 159), (1, .int 0)], [.int 46, .ref 161], clo_59_0_h0) := eqS_ok (by decide +kernel)
theorem clo_59_0_1_5 : seg MT 3000 50 4000 none mr_239 160 (35, [(2, .int 46), (0, .ref 159), (1, .int 0)], [.int 46, .ref 161], clo_59_0_h0) = some (17, [(2, .int 56), (0, .ref 159), (1, .int 0)], [], clo_59_0_h0) := eqS_ok (by decide +kernel)
theorem clo_59_0_1_6 : seg MT 3000 50 4000 none mr_239 160 (17, [(2, .int 56), (0, .ref 159), (1, .int 0)], [], clo_59_0_h0) = some (32, [(2, .int 65), (0, .ref 159), (1, .int 0)], [.int 0, .int 226, .ref 161], clo_59_0_h0) := eqS_ok (by decide +kernel)
theorem clo_59_0_1_7 : seg MT 3000 50 4000 none mr_239 160 (32, [(2, .int 65), (0, .ref 159), (1, .int 0)], [.int 0, .int 226, .ref 161], clo_59_0_h0) = some (41, [(2, .int 74), (0, .ref 159), (1, .int 0)], [.int 0, .int 74, .ref 161], clo_59_0_h0) := eqS_ok (by decide +kernel)
theorem clo_59_0_1_8 : seg MT 3000 50 4000 none mr_239 160 (41, [(2, .int 74), (0, .ref 159), (1, .int 0)], [.int 0, .int 74, .ref 161], clo_59_0_h0) = some (25, [(2, .int 84), (0, .ref 159), (1, .int 0)], [.ref 159], clo_59_0_h0) := eqS_ok (by decide +kernel)
theorem clo_59_0_1_9 : seg MT 3000 50 4000 none mr_239 160 (25, [(2, .int 84), (0, .ref 159), (1, .int 0)], [.ref 159], clo_59_0_h0) = some (36, [(2, .int 93), (0, .ref 159), (1, .int 0)], [.ref 159, .int 93, .ref 161], clo_59_0_h0) := eqS_ok (by decide +kernel)
theorem clo_59_0_1_10 : seg MT 3000 50 4000 none mr_239 160 (36, [(2, .int 93), (0, .ref 159), (1, .int 0)], [.ref 159, .int 93, .ref 161], clo_59_0_h0) = some (18, [(2, .int 103), (0, .ref 159), (1, .int 0)], [.int 103], clo_59_0_h0) := eqS_ok (by decide +kernel)
theorem clo_59_0_1_11 : seg MT 3000 50 4000 none mr_239 160 (18, [(2, .int 103), (0, .ref 159), (1, .int 0)], [.int 103], clo_59_0_h0) = some (33, [(2, .int 112), (0, .ref 159), (1, .int 0)], [.int 0, .ref 161], clo_59_0_h0) := eqS_ok (by decide +kernel)
theorem clo_59_0_1_12 : seg MT 3000 50 4000 none mr_239 160 (33, [(2, .int 112), (0, .ref 159), (1, .int 0)], [.int 0, .ref 161], clo_59_0_h0) = some (42, [(2, .int 121), (0, .ref 159), (1, .int 0)], [], clo_59_0_h0) := eqS_ok (by decide +kernel)
theorem clo_59_0_1_13 : seg MT 3000 50 4000 none mr_239 160 (42, [(2, .int 121), (0, .ref 159), (1, .int 0)], [], clo_59_0_h0) = some (28, [(2, .int 131), (0, .ref 159), (1, .int 0)], [.ref 161], clo_59_0_h0) := eqS_ok (by decide +kernel)
theorem clo_59_0_1_14 : seg MT 3000 50 4000 none mr_239 160 (28, [(2, .int 131), (0, .ref 159), (1, .int 0)], [.ref 161], clo_59_0_h0) = some (39, [(2, .int 140), (0, .ref 159), (1, .int 0)], [.ref 160, .int 140, .ref 161], clo_59_0_h0) := eqS_ok (by decide +kernel)
theorem clo_59_0_1_15 : seg MT 3000 50 4000 none mr_239 160 (39, [(2, .int 140), (0, .ref 159), (1, .int 0)], [.ref 160, .int 140, .ref 161], clo_59_0_h0) = some (21, [(2, .int 150), (0, .ref 159), (1, .int 0)], [.int 226, .int 150], clo_59_0_h0) := eqS_ok (by decide +kernel)
theorem clo_59_0_1_16 : seg MT 3000 50 4000 none mr_239 160 (21, [(2, .int 150), (0, .ref 159), (1, .int 0)], [.int 226, .int 150], clo_59_0_h0) = some (34, [(2, .int 159), (0, .ref 159), (1, .int 0)], [.int 159, .int 0, .ref 161], clo_59_0_h0) := eqS_ok (by decide +kernel)
theorem clo_59_0_1_17 : seg MT 3000 50 4000 none mr_239 160 (34, [(2, .int 159), (0, .ref 159), (1, .int 0)], [.int 159, .int 0, .ref 161], clo_59_0_h0) = some (45, [(2, .int 169), (0, .ref 159), (1, .int 0)], [], clo_59_0_h0) := eqS_ok (by decide +kernel)
theorem clo_59_0_1_18 : seg MT 3000 50 4000 none mr_239 160 (45, [(2, .int 169), (0, .ref 159), (1, .int 0)], [], clo_59_0_h0) = some (31, [(2, .int 178), (0, .ref 159), (1, .int 0)], [.int 226, .ref 161], clo_59_0_h0) := eqS_ok (by decide +kernel)
theorem clo_59_0_1_19 : seg MT 3000 50 4000 none mr_239 160 (31, [(2, .int 178), (0, .ref 159), (1, .int 0)], [.int 226, .ref 161], clo_59_0_h0) = some (40, [(2, .int 187), (0, .ref 159), (1, .int 0)], [.int 187, .ref 160, .int 187, .ref 161], clo_59_0_h0) := eqS_ok (by decide +kernel)
theorem clo_59_0_1_20 : seg MT 3000 50 4000 none mr_239 160 (40, [(2, .int 187), (0, .ref 159), (1, .int 0)], [.int 187, .ref 160, .int 187, .ref 161], clo_59_0_h0) = some (24, [(2, .int 197), (0, .ref 159), (1, .int 0)], [], clo_59_0_h0) := eqS_ok (by decide +kernel)
theorem clo_59_0_1_21 : seg MT 3000 50 4000 none mr_239 160 (24, [(2, .int 197), (0, .ref 159), (1, .int 0)], [], clo_59_0_h0) = some (35, [(2, .int 206), (0, .ref 159), (1, .int 0)], [.int 206, .ref 161], clo_59_0_h0) := eqS_ok (by decide +kernel)
theorem clo_59_0_1_22 : seg MT 3000 50 4000 none mr_239 160 (35, [(2, .int 206), (0, .ref 159), (1, .int 0)], [.int 206, .ref 161], clo_59_0_h0) = some (17, [(2, .int 216), (0, .ref 159), (1, .int 0)], [], clo_59_0_h0) := eqS_ok (by decide +kernel)
theorem clo_59_0_1_23 : seg MT 3000 50 4000 none mr_239 160 (17, [(2, .int 216), (0, .ref 159), (1, .int 0)], [], clo_59_0_h0) = some (32, [(2, .int 225), (0, .ref 159), (1, .int 0)], [.int 0, .int 226, .ref 161], clo_59_0_h0) := eqS_ok (by decide +kernel)
def clo_59_0_h1 : AH := (h0.set 71 (1, 3, [.int 1, .int 0, .int 0])).set 162 (1, 3, [.int 1, .int 0, .int 0])
theorem clo_59_0_1_24 : seg MT 3000 50 4000 none mr_239 19 (32, [(2, .int 225), (0, .ref 159), (1, .int 0)], [.int 0, .int 226, .ref 161], clo_59_0_h0) = some (56, [(2, .int 226), (0, .ref 159), (1, .int 0)], [.int 0], clo_59_0_h1) := eqS_ok (by decide +kernel)
theorem clo_59_0_r0 : Go MT 50 4000 none mr_133 0 [(0, .ref 0), (1, .int 0)] [] h0 (some (.int 0), clo_59_0_h0) := by
  refine Go_seg 18 clo_59_0_0_0 ?_
  exact Go_of 1 (by decide +kernel)
theorem clo_59_0_r1 : Go MT 50 4000 none mr_239 0 [(0, .ref 159), (1, .int 0)] [] clo_59_0_h0 (some (.int 0), clo_59_0_h1) := by
  refine Go_seg 160 clo_59_0_1_0 ?_
  refine Go_seg 160 clo_59_0_1_1 ?_
  refine Go_seg 160 clo_59_0_1_2 ?_
  refine Go_seg 160 clo_59_0_1_3 ?_
  refine Go_seg 160 clo_59_0_1_4 ?_
  refine Go_seg 160 clo_59_0_1_5 ?_
  refine Go_seg 160 clo_59_0_1_6 ?_
  refine Go_seg 160 clo_59_0_1_7 ?_
  refine Go_seg 160 clo_59_0_1_8 ?_
  refine Go_seg 160 clo_59_0_1_9 ?_
  refine Go_seg 160 clo_59_0_1_10 ?_
  refine Go_seg 160 clo_59_0_1_11 ?_
  refine Go_seg 160 clo_59_0_1_12 ?_
  refine Go_seg 160 clo_59_0_1_13 ?_
  refine Go_seg 160 clo_59_0_1_14 ?_
  refine Go_seg 160 clo_59_0_1_15 ?_
  refine Go_seg 160 clo_59_0_1_16 ?_
  refine Go_seg 160 clo_59_0_1_17 ?_
  refine Go_seg 160 clo_59_0_1_18 ?_
  refine Go_seg 160 clo_59_0_1_19 ?_
  refine Go_seg 160 clo_59_0_1_20 ?_
  refine Go_seg 160 clo_59_0_1_21 ?_
  refine Go_seg 160 clo_59_0_1_22 ?_
  refine Go_seg 160 clo_59_0_1_23 ?_
  refine Go_seg 19 clo_59_0_1_24 ?_
  exact Go_of 1 (by decide +kernel)
theorem clo_59_0 : Both mr_133 mr_239 [.int (0 : Int32)] h0 := ⟨0, clo_59_0_h0, clo_59_0_h1, by decide +kernel, by decide +kernel, by decide +kernel, clo_59_0_r0, clo_59_0_r1⟩
def clo_59_1_h0 : AH := h0.set 71 (1, 3, [.int 0, .int 1, .int 0])
theorem clo_59_1_0_0 : seg MT 3000 50 4000 none mr_133 18 (0, [(0, .ref 0), (1, .int 1)], [], h0) = some (33, [(0, .ref 0), (1, .int 1)], [.int 0], clo_59_1_h0) := eqS_ok (by decide +kernel)
theorem clo_59_1_1_0 : seg MT 3000 50 4000 none mr_239 160 (0, [(0, .ref 159), (1, .int 1)], [], clo_59_1_h0) = some (45, [(2, .int 9), (0, .ref 159), (1, .int 1)], [], clo_59_1_h0) := eqS_ok (by decide +kernel)
theorem clo_59_1_1_1 : seg MT 3000 50 4000 none mr_239 160 (45, [(2, .int 9), (0, .ref 159), (1, .int 1)], [], clo_59_1_h0) = some (31, [(2, .int 18), (0, .ref 159), (1, .int 1)], [.int 226, .ref 161], clo_59_1_h0) := eqS_ok (by decide +kernel)
theorem clo_59_1_1_2 : seg MT 3000 50 4000 none mr_239 160 (31, [(2, .int 18), (0, .ref 159), (1, .int 1)], [.int 226, .ref 161], clo_59_1_h0) = some (40, [(2, .int 27), (0, .ref 159), (1, .int 1)], [.int 27, .ref 160, .int 253, .ref 161], clo_59_1_h0) := eqS_ok (by decide +kernel)
theorem clo_59_1_1_3 : seg MT 3000 50 4000 none mr_239 160 (40, [(2, .int 27), (0, .ref 159), (1, .int 1)], [.int 27, .ref 160, .int 253, .ref 161], clo_59_1_h0) = some (24, [(2, .int 37), (0, .ref 159), (1, .int 1)], [], clo_59_1_h0) := eqS_ok (by decide +kernel)
theorem clo_59_1_1_4 : seg MT 3000 50 4000 none mr_239 160 (24, [(2, .int 37), (0, .ref 159), (1, .int 1)], [], clo_59_1_h0) = some (35, [(2, .int 46), (0, .ref 159), (1, .int 1)], [.int 272, .ref 161], clo_59_1_h0) := eqS_ok (by decide +kernel)
theorem clo_59_1_1_5 : seg MT 3000 50 4000 none mr_239 160 (35, [(2, .int 46), (0, .ref 159), (1, .int 1)], [.int 272, .ref 161], clo_59_1_h0) = some (17, [(2, .int 56), (0, .ref 159), (1, .int 1)], [], clo_59_1_h0) := eqS_ok (by decide +kernel)
theorem clo_59_1_1_6 : seg MT 3000 50 4000 none mr_239 160 (17, [(2, .int 56), (0, .ref 159), (1, .int 1)], [], clo_59_1_h0) = some (32, [(2, .int 65), (0, .ref 159), (1, .int 1)], [.int 1, .int 226, .ref 161], clo_59_1_h0) := eqS_ok (by decide +kernel)
theorem clo_59_1_1_7 : seg MT 3000 50 4000 none mr_239 160 (32, [(2, .int 65), (0, .ref 159), (1, .int 1)], [.int 1, .int 226, .ref 161], clo_59_1_h0) = some (41, [(2, .int 74), (0, .ref 159), (1, .int 1)], [.int 0, .int 300, .ref 161], clo_59_1_h0) := eqS_ok (by decide +kernel)
theorem clo_59_1_1_8 : seg MT 3000 50 4000 none mr_239 160 (41, [(2, .int 74), (0, .ref 159), (1, .int 1)], [.int 0, .int 300, .ref 161], clo_59_1_h0) = some (25, [(2, .int 84), (0, .ref 159), (1, .int 1)], [.ref 159], clo_59_1_h0) := eqS_ok (by decide +kernel)
theorem clo_59_1_1_9 : seg MT 3000 50 4000 none mr_239 160 (25, [(2, .int 84), (0, .ref 159), (1, .int 1)], [.ref 159], clo_59_1_h0) = some (36, [(2, .int 93), (0, .ref 159), (1, .int 1)], [.ref 159, .int 319, .ref 161], clo_59_1_h0) := eqS_ok (by decide +kernel)
theorem clo_59_1_1_10 : seg MT 3000 50 4000 none mr_239 160 (36, [(2, .int 93), (0, .ref 159), (1, .int 1)], [.ref 159, .int 319, .ref 161], clo_59_1_h0) = some (18, [(2, .int 103), (0, .ref 159), (1, .int 1)], [.int 103], clo_59_1_h0) := eqS_ok (by decide +kernel)
theorem clo_59_1_1_11 : seg MT 3000 50 4000 none mr_239 160 (18, [(2, .int 103), (0, .ref 159), (1, .int 1)], [.int 103], clo_59_1_h0) = some (33, [(2, .int 112), (0, .ref 159), (1, .int 1)], [.int 226, .ref 161], clo_59_1_h0) := eqS_ok (by decide +kernel)
theorem clo_59_1_1_12 : seg MT 3000 50 4000 none mr_239 160 (33, [(2, .int 112), (0, .ref 159), (1, .int 1)], [.int 226, .ref 161], clo_59_1_h0) = some (42, [(2, .int 121), (0, .ref 159), (1, .int 1)], [], clo_59_1_h0) := eqS_ok (by decide +kernel)
theorem clo_59_1_1_13 : seg MT 3000 50 4000 none mr_239 160 (42, [(2, .int 121), (0, .ref 159), (1, .int 1)], [], clo_59_1_h0) = some (28, [(2, .int 131), (0, .ref 159), (1, .int 1)], [.ref 161], clo_59_1_h0) := eqS_ok (by decide +kernel)
theorem clo_59_1_1_14 : seg MT 3000 50 4000 none mr_239 160 (28, [(2, .int 131), (0, .ref 159), (1, .int 1)], [.ref 161], clo_59_1_h0) = some (39, [(2, .int 140), (0, .ref 159), (1, .int 1)], [.ref 160, .int 366, .ref 161], clo_59_1_h0) := eqS_ok (by decide +kernel)
theorem clo_59_1_1_15 : seg MT 3000 50 4000 none mr_239 160 (39, [(2, .int 140), (0, .ref 159), (1, .int 1)], [.ref 160, .int 366, .ref 161], clo_59_1_h0) = some (21, [(2, .int 150), (0, .ref 159), (1, .int 1)], [.int 226, .int 150], clo_59_1_h0) := eqS_ok (by decide +kernel)
theorem clo_59_1_1_16 : seg MT 3000 50 4000 none mr_239 160 (21, [(2, .int 150), (0, .ref 159), (1, .int 1)], [.int 226, .int 150], clo_59_1_h0) = some (34, [(2, .int 159), (0, .ref 159), (1, .int 1)], [.int 159, .int 226, .ref 161], clo_59_1_h0) := eqS_ok (by decide +kernel)
theorem clo_59_1_1_17 : seg MT 3000 50 4000 none mr_239 160 (34, [(2, .int 159), (0, .ref 159), (1, .int 1)], [.int 159, .int 226, .ref 161], clo_59_1_h0) = some (45, [(2, .int 169), (0, .ref 159), (1, .int 1)], [], clo_59_1_h0) := eqS_ok (by decide +kernel)
theorem clo_59_1_1_18 : seg MT 3000 50 4000 none mr_239 160 (45, [(2, .int 169), (0, .ref 159), (1, .int 1)], [], clo_59_1_h0) = some (31, [(2, .int 178), (0, .ref 159), (1, .int 1)], [.int 226, .ref 161], clo_59_1_h0) := eqS_ok (by decide +kernel)
theorem clo_59_1_1_19 : seg MT 3000 50 4000 none mr_239 160 (31, [(2, .int 178), (0, .ref 159), (1, .int 1)], [.int 226, .ref 161], clo_59_1_h0) = some (40, [(2, .int 187), (0, .ref 159), (1, .int 1)], [.int 187, .ref 160, .int 413, .ref 161], clo_59_1_h0) := eqS_ok (by decide +kernel)
theorem clo_59_1_1_20 : seg MT 3000 50 4000 none mr_239 160 (40, [(2, .int 187), (0, .ref 159), (1, .int 1)], [.int 187, .ref 160, .int 413, .ref 161], clo_59_1_h0) = some (24, [(2, .int 197), (0, .ref 159), (1, .int 1)], [], clo_59_1_h0) := eqS_ok (by decide +kernel)
theorem clo_59_1_1_21 : seg MT 3000 50 4000 none mr_239 160 (24, [(2, .int 197), (0, .ref 159), (1, .int 1)], [], clo_59_1_h0) = some (35, [(2, .int 206), (0, .ref 159), (1, .int 1)], [.int 432, .ref 161], clo_59_1_h0) := eqS_ok (by decide +kernel)
theorem clo_59_1_1_22 : seg MT 3000 50 4000 none mr_239 160 (35, [(2, .int 206), (0, .ref 159), (1, .int 1)], [.int 432, .ref 161], clo_59_1_h0) = some (17, [(2, .int 216), (0, .ref 159), (1, .int 1)], [], clo_59_1_h0) := eqS_ok (by decide +kernel)
theorem clo_59_1_1_23 : seg MT 3000 50 4000 none mr_239 160 (17, [(2, .int 216), (0, .ref 159), (1, .int 1)], [], clo_59_1_h0) = some (32, [(2, .int 225), (0, .ref 159), (1, .int 1)], [.int 1, .int 226, .ref 161], clo_59_1_h0) := eqS_ok (by decide +kernel)
def clo_59_1_h1 : AH := (h0.set 71 (1, 3, [.int 0, .int 1, .int 0])).set 162 (1, 3, [.int 0, .int 1, .int 0])
theorem clo_59_1_1_24 : seg MT 3000 50 4000 none mr_239 19 (32, [(2, .int 225), (0, .ref 159), (1, .int 1)], [.int 1, .int 226, .ref 161], clo_59_1_h0) = some (56, [(2, .int 226), (0, .ref 159), (1, .int 1)], [.int 0], clo_59_1_h1) := eqS_ok (by decide +kernel)
theorem clo_59_1_r0 : Go MT 50 4000 none mr_133 0 [(0, .ref 0), (1, .int 1)] [] h0 (some (.int 0), clo_59_1_h0) := by
  refine Go_seg 18 clo_59_1_0_0 ?_
  exact Go_of 1 (by decide +kernel)
theorem clo_59_1_r1 : Go MT 50 4000 none mr_239 0 [(0, .ref 159), (1, .int 1)] [] clo_59_1_h0 (some (.int 0), clo_59_1_h1) := by
  refine Go_seg 160 clo_59_1_1_0 ?_
  refine Go_seg 160 clo_59_1_1_1 ?_
  refine Go_seg 160 clo_59_1_1_2 ?_
  refine Go_seg 160 clo_59_1_1_3 ?_
  refine Go_seg 160 clo_59_1_1_4 ?_
  refine Go_seg 160 clo_59_1_1_5 ?_
  refine Go_seg 160 clo_59_1_1_6 ?_
  refine Go_seg 160 clo_59_1_1_7 ?_
  refine Go_seg 160 clo_59_1_1_8 ?_
  refine Go_seg 160 clo_59_1_1_9 ?_
  refine Go_seg 160 clo_59_1_1_10 ?_
  refine Go_seg 160 clo_59_1_1_11 ?_
  refine Go_seg 160 clo_59_1_1_12 ?_
  refine Go_seg 160 clo_59_1_1_13 ?_
  refine Go_seg 160 clo_59_1_1_14 ?_
  refine Go_seg 160 clo_59_1_1_15 ?_
  refine Go_seg 160 clo_59_1_1_16 ?_
  refine Go_seg 160 clo_59_1_1_17 ?_
  refine Go_seg 160 clo_59_1_1_18 ?_
  refine Go_seg 160 clo_59_1_1_19 ?_
  refine Go_seg 160 clo_59_1_1_20 ?_
  refine Go_seg 160 clo_59_1_1_21 ?_
  refine Go_seg 160 clo_59_1_1_22 ?_
  refine Go_seg 160 clo_59_1_1_23 ?_
  refine Go_seg 19 clo_59_1_1_24 ?_
  exact Go_of 1 (by decide +kernel)
theorem clo_59_1 : Both mr_133 mr_239 [.int (1 : Int32)] h0 := ⟨0, clo_59_1_h0, clo_59_1_h1, by decide +kernel, by decide +kernel, by decide +kernel, clo_59_1_r0, clo_59_1_r1⟩
def clo_59_2_h0 : AH := h0.set 71 (1, 3, [.int 0, .int 0, .int 1])
theorem clo_59_2_0_0 : seg MT 3000 50 4000 none mr_133 18 (0, [(0, .ref 0), (1, .int 2)], [], h0) = some (33, [(0, .ref 0), (1, .int 2)], [.int 0], clo_59_2_h0) := eqS_ok (by decide +kernel)
theorem clo_59_2_1_0 : seg MT 3000 50 4000 none mr_239 160 (0, [(0, .ref 159), (1, .int 2)], [], clo_59_2_h0) = some (45, [(2, .int 9), (0, .ref 159), (1, .int 2)], [], clo_59_2_h0) := eqS_ok (by decide +kernel)
theorem clo_59_2_1_1 : seg MT 3000 50 4000 none mr_239 160 (45, [(2, .int 9), (0, .ref 159), (1, .int 2)], [], clo_59_2_h0) = some (31, [(2, .int 18), (0, .ref 159), (1, .int 2)], [.int 226, .ref 161], clo_59_2_h0) := eqS_ok (by decide +kernel)
theorem clo_59_2_1_2 : seg MT 3000 50 4000 none mr_239 160 (31, [(2, .int 18), (0, .ref 159), (1, .int 2)], [.int 226, .ref 161], clo_59_2_h0) = some (40, [(2, .int 27), (0, .ref 159), (1, .int 2)], [.int 27, .ref 160, .int 479, .ref 161], clo_59_2_h0) := eqS_ok (by decide +kernel)
theorem clo_59_2_1_3 : seg MT 3000 50 4000 none mr_239 160 (40, [(2, .int 27), (0, .ref 159), (1, .int 2)], [.int 27, .ref 160, .int 479, .ref 161], clo_59_2_h0) = some (24, [(2, .int 37), (0, .ref 159), (1, .int 2)], [], clo_59_2_h0) := eqS_ok (by decide +kernel)
theorem clo_59_2_1_4 : seg MT 3000 50 4000 none mr_239 160 (24, [(2, .int 37), (0, .ref 159), (1, .int 2)], [], clo_59_2_h0) = some (35, [(2, .int 46), (0, .ref 159), (1, .int 2)], [.int 498, .ref 161], clo_59_2_h0) := eqS_ok (by decide +kernel)
theorem clo_59_2_1_5 : seg MT 3000 50 4000 none mr_239 160 (35, [(2, .int 46), (0, .ref 159), (1, .int 2)], [.int 498, .ref 161], clo_59_2_h0) = some (17, [(2, .int 56), (0, .ref 159), (1, .int 2)], [], clo_59_2_h0) := eqS_ok (by decide +kernel)
theorem clo_59_2_1_6 : seg MT 3000 50 4000 none mr_239 160 (17, [(2, .int 56), (0, .ref 159), (1, .int 2)], [], clo_59_2_h0) = some (32, [(2, .int 65), (0, .ref 159), (1, .int 2)], [.int 2, .int 226, .ref 161], clo_59_2_h0) := eqS_ok (by decide +kernel)
theorem clo_59_2_1_7 : seg MT 3000 50 4000 none mr_239 160 (32, [(2, .int 65), (0, .ref 159), (1, .int 2)], [.int 2, .int 226, .ref 161], clo_59_2_h0) = some (41, [(2, .int 74), (0, .ref 159), (1, .int 2)], [.int 0, .int 526, .ref 161], clo_59_2_h0) := eqS_ok (by decide +kernel)
theorem clo_59_2_1_8 : seg MT 3000 50 4000 none mr_239 160 (41, [(2, .int 74), (0, .ref 159), (1, .int 2)], [.int 0, .int 526, .ref 161], clo_59_2_h0) = some (25, [(2, .int 84), (0, .ref 159), (1, .int 2)], [.ref 159], clo_59_2_h0) := eqS_ok (by decide +kernel)
theorem clo_59_2_1_9 : seg MT 3000 50 4000 none mr_239 160 (25, [(2, .int 84), (0, .ref 159), (1, .int 2)], [.ref 159], clo_59_2_h0) = some (36, [(2, .int 93), (0, .ref 159), (1, .int 2)], [.ref 159, .int 545, .ref 161], clo_59_2_h0) := eqS_ok (by decide +kernel)
theorem clo_59_2_1_10 : seg MT 3000 50 4000 none mr_239 160 (36, [(2, .int 93), (0, .ref 159), (1, .int 2)], [.ref 159, .int 545, .ref 161], clo_59_2_h0) = some (18, [(2, .int 103), (0, .ref 159), (1, .int 2)], [.int 103], clo_59_2_h0) := eqS_ok (by decide +kernel)
theorem clo_59_2_1_11 : seg MT 3000 50 4000 none mr_239 160 (18, [(2, .int 103), (0, .ref 159), (1, .int 2)], [.int 103], clo_59_2_h0) = some (33, [(2, .int 112), (0, .ref 159), (1, .int 2)], [.int 452, .ref 161], clo_59_2_h0) := eqS_ok (by decide +kernel)
theorem clo_59_2_1_12 : seg MT 3000 50 4000 none mr_239 160 (33, [(2, .int 112), (0, .ref 159), (1, .int 2)], [.int 452, .ref 161], clo_59_2_h0) = some (42, [(2, .int 121), (0, .ref 159), (1, .int 2)], [], clo_59_2_h0) := eqS_ok (by decide +kernel)
theorem clo_59_2_1_13 : seg MT 3000 50 4000 none mr_239 160 (42, [(2, .int 121), (0, .ref 159), (1, .int 2)], [], clo_59_2_h0) = some (28, [(2, .int 131), (0, .ref 159), (1, .int 2)], [.ref 161], clo_59_2_h0) := eqS_ok (by decide +kernel)
theorem clo_59_2_1_14 : seg MT 3000 50 4000 none mr_239 160 (28, [(2, .int 131), (0, .ref 159), (1, .int 2)], [.ref 161], clo_59_2_h0) = some (39, [(2, .int 140), (0, .ref 159), (1, .int 2)], [.ref 160, .int 592, .ref 161], clo_59_2_h0) := eqS_ok (by decide +kernel)
theorem clo_59_2_1_15 : seg MT 3000 50 4000 none mr_239 160 (39, [(2, .int 140), (0, .ref 159), (1, .int 2)], [.ref 160, .int 592, .ref 161], clo_59_2_h0) = some (21, [(2, .int 150), (0, .ref 159), (1, .int 2)], [.int 226, .int 150], clo_59_2_h0) := eqS_ok (by decide +kernel)
theorem clo_59_2_1_16 : seg MT 3000 50 4000 none mr_239 160 (21, [(2, .int 150), (0, .ref 159), (1, .int 2)], [.int 226, .int 150], clo_59_2_h0) = some (34, [(2, .int 159), (0, .ref 159), (1, .int 2)], [.int 159, .int 452, .ref 161], clo_59_2_h0) := eqS_ok (by decide +kernel)
theorem clo_59_2_1_17 : seg MT 3000 50 4000 none mr_239 160 (34, [(2, .int 159), (0, .ref 159), (1, .int 2)], [.int 159, .int 452, .ref 161], clo_59_2_h0) = some (45, [(2, .int 169), (0, .ref 159), (1, .int 2)], [], clo_59_2_h0) := eqS_ok (by decide +kernel)
theorem clo_59_2_1_18 : seg MT 3000 50 4000 none mr_239 160 (45, [(2, .int 169), (0, .ref 159), (1, .int 2)], [], clo_59_2_h0) = some (31, [(2, .int 178), (0, .ref 159), (1, .int 2)], [.int 226, .ref 161], clo_59_2_h0) := eqS_ok (by decide +kernel)
theorem clo_59_2_1_19 : seg MT 3000 50 4000 none mr_239 160 (31, [(2, .int 178), (0, .ref 159), (1, .int 2)], [.int 226, .ref 161], clo_59_2_h0) = some (40, [(2, .int 187), (0, .ref 159), (1, .int 2)], [.int 187, .ref 160, .int 639, .ref 161], clo_59_2_h0) := eqS_ok (by decide +kernel)
theorem clo_59_2_1_20 : seg MT 3000 50 4000 none mr_239 160 (40, [(2, .int 187), (0, .ref 159), (1, .int 2)], [.int 187, .ref 160, .int 639, .ref 161], clo_59_2_h0) = some (24, [(2, .int 197), (0, .ref 159), (1, .int 2)], [], clo_59_2_h0) := eqS_ok (by decide +kernel)
theorem clo_59_2_1_21 : seg MT 3000 50 4000 none mr_239 160 (24, [(2, .int 197), (0, .ref 159), (1, .int 2)], [], clo_59_2_h0) = some (35, [(2, .int 206), (0, .ref 159), (1, .int 2)], [.int 658, .ref 161], clo_59_2_h0) := eqS_ok (by decide +kernel)
theorem clo_59_2_1_22 : seg MT 3000 50 4000 none mr_239 160 (35, [(2, .int 206), (0, .ref 159), (1, .int 2)], [.int 658, .ref 161], clo_59_2_h0) = some (17, [(2, .int 216), (0, .ref 159), (1, .int 2)], [], clo_59_2_h0) := eqS_ok (by decide +kernel)
theorem clo_59_2_1_23 : seg MT 3000 50 4000 none mr_239 160 (17, [(2, .int 216), (0, .ref 159), (1, .int 2)], [], clo_59_2_h0) = some (32, [(2, .int 225), (0, .ref 159), (1, .int 2)], [.int 2, .int 226, .ref 161], clo_59_2_h0) := eqS_ok (by decide +kernel)
def clo_59_2_h1 : AH := (h0.set 71 (1, 3, [.int 0, .int 0, .int 1])).set 162 (1, 3, [.int 0, .int 0, .int 1])
theorem clo_59_2_1_24 : seg MT 3000 50 4000 none mr_239 19 (32, [(2, .int 225), (0, .ref 159), (1, .int 2)], [.int 2, .int 226, .ref 161], clo_59_2_h0) = some (56, [(2, .int 226), (0, .ref 159), (1, .int 2)], [.int 0], clo_59_2_h1) := eqS_ok (by decide +kernel)
theorem clo_59_2_r0 : Go MT 50 4000 none mr_133 0 [(0, .ref 0), (1, .int 2)] [] h0 (some (.int 0), clo_59_2_h0) := by
  refine Go_seg 18 clo_59_2_0_0 ?_
  exact Go_of 1 (by decide +kernel)
theorem clo_59_2_r1 : Go MT 50 4000 none mr_239 0 [(0, .ref 159), (1, .int 2)] [] clo_59_2_h0 (some (.int 0), clo_59_2_h1) := by
  refine Go_seg 160 clo_59_2_1_0 ?_
  refine Go_seg 160 clo_59_2_1_1 ?_
  refine Go_seg 160 clo_59_2_1_2 ?_
  refine Go_seg 160 clo_59_2_1_3 ?_
  refine Go_seg 160 clo_59_2_1_4 ?_
  refine Go_seg 160 clo_59_2_1_5 ?_
  refine Go_seg 160 clo_59_2_1_6 ?_
  refine Go_seg 160 clo_59_2_1_7 ?_
  refine Go_seg 160 clo_59_2_1_8 ?_
  refine Go_seg 160 clo_59_2_1_9 ?_
  refine Go_seg 160 clo_59_2_1_10 ?_
  refine Go_seg 160 clo_59_2_1_11 ?_
  refine Go_seg 160 clo_59_2_1_12 ?_
  refine Go_seg 160 clo_59_2_1_13 ?_
  refine Go_seg 160 clo_59_2_1_14 ?_
  refine Go_seg 160 clo_59_2_1_15 ?_
  refine Go_seg 160 clo_59_2_1_16 ?_
  refine Go_seg 160 clo_59_2_1_17 ?_
  refine Go_seg 160 clo_59_2_1_18 ?_
  refine Go_seg 160 clo_59_2_1_19 ?_
  refine Go_seg 160 clo_59_2_1_20 ?_
  refine Go_seg 160 clo_59_2_1_21 ?_
  refine Go_seg 160 clo_59_2_1_22 ?_
  refine Go_seg 160 clo_59_2_1_23 ?_
  refine Go_seg 19 clo_59_2_1_24 ?_
  exact Go_of 1 (by decide +kernel)
theorem clo_59_2 : Both mr_133 mr_239 [.int (2 : Int32)] h0 := ⟨0, clo_59_2_h0, clo_59_2_h1, by decide +kernel, by decide +kernel, by decide +kernel, clo_59_2_r0, clo_59_2_r1⟩
