/-! what is only asked: door, lesson, exam -/
section LOOK
variable {w w' : Int → Int}
def exR (w : Int → Int) (d q : Int) : Int := if 0 ≤ d ∧ d < w 3 ∧ 0 ≤ q ∧ q ≤ 1 then w (122 + 2 * d + q) else -2
theorem exR_y {d q i x : Int} (h : 0 ≤ d ∧ d < w 3 ∧ 0 ≤ q ∧ q ≤ 1) (hi : i = 122 + 2 * d + q) (e : w i = x) : exR w d q = x := by
  unfold exR
  rw [if_pos h, ← hi, e]
theorem exR_n {d q : Int} (h : ¬ (0 ≤ d ∧ d < w 3 ∧ 0 ≤ q ∧ q ≤ 1)) : exR w d q = -2 := by
  unfold exR
  rw [if_neg h]
theorem exR_cg {d d' q q' : Int} (h : w' = w) (a : d' = d) (b : q' = q) : exR w' d' q' = exR w d q := by subst h a b; rfl
end LOOK
