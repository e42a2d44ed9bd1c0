/-! what is only asked: door, lesson, exam -/
section LOOK
variable {w w' : Int → Int}
def doR (w : Int → Int) (d q : Int) : Int := if 0 ≤ d ∧ d < w 2 ∧ 0 ≤ q ∧ q ≤ 3 then w (10 + 4 * d + q) else -2
theorem doR_y {d q i x : Int} (h : 0 ≤ d ∧ d < w 2 ∧ 0 ≤ q ∧ q ≤ 3) (hi : i = 10 + 4 * d + q) (e : w i = x) : doR w d q = x := by
  unfold doR
  rw [if_pos h, ← hi, e]
theorem doR_n {d q : Int} (h : ¬ (0 ≤ d ∧ d < w 2 ∧ 0 ≤ q ∧ q ≤ 3)) : doR w d q = -2 := by
  unfold doR
  rw [if_neg h]
theorem doR_cg {d d' q q' : Int} (h : w' = w) (a : d' = d) (b : q' = q) : doR w' d' q' = doR w d q := by subst h a b; rfl
def leR (w : Int → Int) (d i q : Int) : Int := if 0 ≤ d ∧ d < w 2 ∧ 0 ≤ q ∧ q ≤ 1 then (if 0 ≤ i ∧ i < w (12 + 4 * d) then w (26 + 24 * d + 2 * i + q) else -1) else -2
theorem leR_y {d i q j x : Int} (h : (0 ≤ d ∧ d < w 2 ∧ 0 ≤ q ∧ q ≤ 1) ∧ 0 ≤ i ∧ i < w (12 + 4 * d)) (hj : j = 26 + 24 * d + 2 * i + q) (e : w j = x) : leR w d i q = x := by
  unfold leR
  rw [if_pos h.1, if_pos h.2, ← hj, e]
theorem leR_1 {d i q : Int} (h : 0 ≤ d ∧ d < w 2 ∧ 0 ≤ q ∧ q ≤ 1) (k : i < 0 ∨ w (12 + 4 * d) ≤ i) : leR w d i q = -1 := by
  unfold leR
  rw [if_pos h, if_neg (by omega)]
theorem leR_2 {d i q : Int} (h : ¬ (0 ≤ d ∧ d < w 2 ∧ 0 ≤ q ∧ q ≤ 1)) : leR w d i q = -2 := by
  unfold leR
  rw [if_neg h]
theorem leR_cg {d d' i i' q q' : Int} (h : w' = w) (a : d' = d) (b : i' = i) (c : q' = q) : leR w' d' i' q' = leR w d i q := by subst h a b c; rfl
def exR (w : Int → Int) (d q : Int) : Int := if 0 ≤ d ∧ d < w 3 ∧ 0 ≤ q ∧ q ≤ 1 then w (122 + 2 * d + q) else -2
theorem exR_y {d q i x : Int} (h : 0 ≤ d ∧ d < w 3 ∧ 0 ≤ q ∧ q ≤ 1) (hi : i = 122 + 2 * d + q) (e : w i = x) : exR w d q = x := by
  unfold exR
  rw [if_pos h, ← hi, e]
theorem exR_n {d q : Int} (h : ¬ (0 ≤ d ∧ d < w 3 ∧ 0 ≤ q ∧ q ≤ 1)) : exR w d q = -2 := by
  unfold exR
  rw [if_neg h]
theorem exR_cg {d d' q q' : Int} (h : w' = w) (a : d' = d) (b : q' = q) : exR w' d' q' = exR w d q := by subst h a b; rfl
end LOOK
