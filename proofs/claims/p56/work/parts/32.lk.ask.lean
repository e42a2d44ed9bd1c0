/-! what is asked of doors, and what changes leave alone -/
section ASK
variable {w w' : Int → Int}
theorem up7 {i v : Int} (h : i ≠ 0 ∧ i ≠ 2 ∧ i ≠ 7) (f : Int → Int) : uPd f i v 0 = f 0 ∧ uPd f i v 2 = f 2 ∧ uPd f i v 7 = f 7 := ⟨if_neg (by omega), if_neg (by omega), if_neg (by omega)⟩
theorem tc7 {d k o : Int} (hn : NNw w) : tcW w d k o 0 = w 0 ∧ tcW w d k o 2 = w 2 ∧ tcW w d k o 7 = w 7 := by
  unfold tcW
  split
  · rename_i h
    obtain ⟨⟨d0, d2, -⟩, -, -⟩ := h
    have n2 := hn.2.1
    have m0 := hn.2.2 d d0 (by omega)
    have n6 := hn.1
    unfold tcU
    have a := up7 (i := 26 + 24 * d + 2 * w (12 + 4 * d)) (v := k) (by omega) w
    have b := up7 (i := 26 + 24 * d + 2 * w (12 + 4 * d) + 1) (v := o) (by omega) (uPd w (26 + 24 * d + 2 * w (12 + 4 * d)) k)
    have c := up7 (i := 12 + 4 * d) (v := w (12 + 4 * d) + 1) (by omega) (uPd (uPd w (26 + 24 * d + 2 * w (12 + 4 * d)) k) (26 + 24 * d + 2 * w (12 + 4 * d) + 1) o)
    have e := up7 (i := 166 + w 6) (v := d) (by omega) (uPd (uPd (uPd w (26 + 24 * d + 2 * w (12 + 4 * d)) k) (26 + 24 * d + 2 * w (12 + 4 * d) + 1) o) (12 + 4 * d) (w (12 + 4 * d) + 1))
    have f := up7 (i := 6) (v := w 6 + 1) (by omega) (uPd (uPd (uPd (uPd w (26 + 24 * d + 2 * w (12 + 4 * d)) k) (26 + 24 * d + 2 * w (12 + 4 * d) + 1) o) (12 + 4 * d) (w (12 + 4 * d) + 1)) (166 + w 6) d)
    refine ⟨?_, ?_, ?_⟩ <;> omega
  · exact ⟨rfl, rfl, rfl⟩
theorem ut7 (hn : NNw w) (hg : TGT w) : utW w 0 = w 0 ∧ utW w 2 = w 2 ∧ utW w 7 = w 7 := by
  unfold utW
  split
  · exact ⟨rfl, rfl, rfl⟩
  · split
    · exact ⟨rfl, rfl, rfl⟩
    · have g := hg (w 6 - 1) (by omega) (by omega)
      unfold utU
      have z : 0 ≤ utD w := g.1
      have a := up7 (i := 6) (v := w 6 - 1) (by omega) w
      have b := up7 (i := 12 + 4 * utD w) (v := w (12 + 4 * utD w) - 1) (by omega) (uPd w 6 (w 6 - 1))
      refine ⟨?_, ?_, ?_⟩ <;> omega
theorem tr7 {d t n : Int} : trW w d t n 0 = w 0 ∧ trW w d t n 2 = w 2 ∧ trW w d t n 7 = w 7 := by
  unfold trW
  split
  · rename_i h
    exact up7 (i := 10 + 4 * d + t) (v := n) (by omega) w
  · exact ⟨rfl, rfl, rfl⟩
theorem ow7 {m v : Int} : owW w m v 0 = w 0 ∧ owW w m v 2 = w 2 ∧ owW w m v 7 = w 7 := by
  unfold owW
  split
  · have a := up7 (i := 8) (v := m) (by omega) w
    have b := up7 (i := 9) (v := v) (by omega) (uPd w 8 m)
    refine ⟨?_, ?_, ?_⟩ <;> omega
  · exact ⟨rfl, rfl, rfl⟩
theorem cy7 {d o : Int} : cyW w d o 0 = w 0 ∧ cyW w d o 2 = w 2 ∧ cyW w d o 7 = w 7 := by
  unfold cyW
  split
  · rename_i h
    exact up7 (i := 13 + 4 * d) (v := o) (by have := h.1; omega) w
  · exact ⟨rfl, rfl, rfl⟩
end ASK
