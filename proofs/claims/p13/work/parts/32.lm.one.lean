/-! what is asked of one door and one knock, of a rule -/
section ONE
variable {w w' : Int → Int} {k : Int → Int}
noncomputable def iR (c : Prop) (v : Int) : Int := @ite _ c (Classical.propDecidable c) v (-2)
theorem iR_y {c : Prop} {v r : Int} (h : c) (e : r = v) : r = iR c v := by unfold iR; rw [if_pos h]; exact e
theorem iR_n {c : Prop} {v r : Int} (h : ¬ c) (e : r = -2) : r = iR c v := by unfold iR; rw [if_neg h]; exact e
abbrev dkC (w : Int → Int) (d q : Int) : Prop := 0 ≤ d ∧ d < w 2 ∧ 0 < w 7 ∧ 0 ≤ q ∧ q < pI (w 0)
/-- the lesson by which it is done so -/
def whL (way : Int) (k : Int → Int) (n x : Int) : Int := if way = 1 then -1 else BYL way k n x
theorem whL_0 {way n x r : Int} (h : way = 0) (e : r = LAT k x n.toNat) : r = whL way k n x := by unfold whL; rw [if_neg (by omega)]; exact BYL_0 h e
theorem whL_2 {way n x r : Int} (h : way = 2) (e : r = NER k x n.toNat) : r = whL way k n x := by unfold whL; rw [if_neg (by omega)]; exact BYL_2 (by omega) e
theorem whL_1 {way n x r : Int} (h : way = 1) (e : r = -1) : r = whL way k n x := by unfold whL; rw [if_pos h]; exact e
theorem whL_m {way n x r : Int} (h : (way ≠ 1 → r = BYL way k n x) ∧ (way = 1 → r = -1)) : r = whL way k n x := by
  unfold whL
  by_cases z : way = 1
  · rw [if_pos z]; exact h.2 z
  · rw [if_neg z]; exact h.1 z
noncomputable def whR (w : Int → Int) (d q : Int) : Int := iR (dkC w d q) (whL (w (10 + 4 * rlW w d)) (lkW w (rlW w d)) (w (12 + 4 * rlW w d)) q)
theorem whR_y {d q r c way n : Int} {k : Int → Int} (h : dkC w d q) (hc : c = rlW w d) (e1 : w (10 + 4 * c) = way) (e2 : w (12 + 4 * c) = n) (hk : ∀ i : Int, 0 ≤ i → i < n → k i = lkW w c i) (e : r = whL way k n q) : r = whR w d q := by
  subst hc e1 e2
  refine iR_y h (e.trans ?_)
  unfold whL
  rw [BYL_cg hk]
theorem whR_n {d q r : Int} (h : ¬ dkC w d q) (e : r = -2) : r = whR w d q := iR_n h e
theorem whR_cg {d d' q q' : Int} (h : w' = w) (a : d' = d) (b : q' = q) : whR w' d' q' = whR w d q := by subst h a b; rfl
end ONE
