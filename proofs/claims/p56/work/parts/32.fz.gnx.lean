section GNX
variable {By : Int → Int} {Nb : Int} {S : PS}
theorem gNx_2 (e : gN2 By Nb (gN1 By Nb S) = S) (g : S.1 = 0)  (h2 : iW By Nb 2 S = 1) : gNext By Nb S = gDoor By Nb (adv By Nb S) := by
  unfold gNext
  dsimp only
  rw [e, if_neg (by omega), if_pos h2]
theorem gNx_6 (e : gN2 By Nb (gN1 By Nb S) = S) (g : S.1 = 0) (h2 : iW By Nb 2 S = 0) (h6 : iW By Nb 6 S = 1) : gNext By Nb S = gLesson By Nb (adv By Nb S) := by
  unfold gNext
  dsimp only
  rw [e, if_neg (by omega), if_neg (by omega), if_pos h6]
theorem gNx_3 (e : gN2 By Nb (gN1 By Nb S) = S) (g : S.1 = 0) (h2 : iW By Nb 2 S = 0) (h6 : iW By Nb 6 S = 0) (h3 : iW By Nb 3 S = 1) : gNext By Nb S = gExam By Nb (adv By Nb S) := by
  unfold gNext
  dsimp only
  rw [e, if_neg (by omega), if_neg (by omega), if_neg (by omega), if_pos h3]
theorem gNx_17 (e : gN2 By Nb (gN1 By Nb S) = S) (g : S.1 = 0) (h2 : iW By Nb 2 S = 0) (h6 : iW By Nb 6 S = 0) (h3 : iW By Nb 3 S = 0) (h17 : iW By Nb 17 S = 1) : gNext By Nb S = gTwin By Nb (adv By Nb S) := by
  unfold gNext
  dsimp only
  rw [e, if_neg (by omega), if_neg (by omega), if_neg (by omega), if_neg (by omega), if_pos h17]
theorem gNx_9 (e : gN2 By Nb (gN1 By Nb S) = S) (g : S.1 = 0) (h2 : iW By Nb 2 S = 0) (h6 : iW By Nb 6 S = 0) (h3 : iW By Nb 3 S = 0) (h17 : iW By Nb 17 S = 0) (h9 : iW By Nb 9 S = 1) : gNext By Nb S = gRule By Nb 8 (adv By Nb S) := by
  unfold gNext
  dsimp only
  rw [e, if_neg (by omega), if_neg (by omega), if_neg (by omega), if_neg (by omega), if_neg (by omega), if_pos h9]
theorem gNx_5 (e : gN2 By Nb (gN1 By Nb S) = S) (g : S.1 = 0) (h2 : iW By Nb 2 S = 0) (h6 : iW By Nb 6 S = 0) (h3 : iW By Nb 3 S = 0) (h17 : iW By Nb 17 S = 0) (h9 : iW By Nb 9 S = 0) (h5 : iW By Nb 5 S = 1) : gNext By Nb S = gHouse By Nb (adv By Nb S) := by
  unfold gNext
  dsimp only
  rw [e, if_neg (by omega), if_neg (by omega), if_neg (by omega), if_neg (by omega), if_neg (by omega), if_neg (by omega), if_pos h5]
theorem gNx_1 (e : gN2 By Nb (gN1 By Nb S) = S) (g : S.1 = 0) (h2 : iW By Nb 2 S = 0) (h6 : iW By Nb 6 S = 0) (h3 : iW By Nb 3 S = 0) (h17 : iW By Nb 17 S = 0) (h9 : iW By Nb 9 S = 0) (h5 : iW By Nb 5 S = 0) (h1 : iW By Nb 1 S = 1) : gNext By Nb S = gCourse By Nb (adv By Nb S) := by
  unfold gNext
  dsimp only
  rw [e, if_neg (by omega), if_neg (by omega), if_neg (by omega), if_neg (by omega), if_neg (by omega), if_neg (by omega), if_neg (by omega), if_pos h1]
theorem gNx_0 (e : gN2 By Nb (gN1 By Nb S) = S) (g : S.1 = 0) (h2 : iW By Nb 2 S = 0) (h6 : iW By Nb 6 S = 0) (h3 : iW By Nb 3 S = 0) (h17 : iW By Nb 17 S = 0) (h9 : iW By Nb 9 S = 0) (h5 : iW By Nb 5 S = 0) (h1 : iW By Nb 1 S = 0) : gNext By Nb S = gAhead By Nb (adv By Nb S) := by
  unfold gNext
  dsimp only
  rw [e, if_neg (by omega), if_neg (by omega), if_neg (by omega), if_neg (by omega), if_neg (by omega), if_neg (by omega), if_neg (by omega), if_neg (by omega)]
end GNX
