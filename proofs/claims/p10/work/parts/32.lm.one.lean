/-! what is asked of one door and one knock, of a rule -/
section ONE
variable {w w' : Int → Int} {k : Int → Int}
noncomputable def iR (c : Prop) (v : Int) : Int := @ite _ c (Classical.propDecidable c) v (-2)
theorem iR_y {c : Prop} {v r : Int} (h : c) (e : r = v) : r = iR c v := by unfold iR; rw [if_pos h]; exact e
theorem iR_n {c : Prop} {v r : Int} (h : ¬ c) (e : r = -2) : r = iR c v := by unfold iR; rw [if_neg h]; exact e
abbrev dkC (w : Int → Int) (d q : Int) : Prop := 0 ≤ d ∧ d < w 2 ∧ 0 < w 7 ∧ 0 ≤ q ∧ q < pI (w 0)
noncomputable def opR (w : Int → Int) (d q : Int) : Int := iR (dkC w d q) (btI (DDw w d) q)
theorem opR_y {d q r x : Int} (h : dkC w d q) (e : r = btI x q) (ex : x = DDw w d) : r = opR w d q := by subst ex; exact iR_y h e
theorem opR_n {d q r : Int} (h : ¬ dkC w d q) (e : r = -2) : r = opR w d q := iR_n h e
theorem opR_cg {d d' q q' : Int} (h : w' = w) (a : d' = d) (b : q' = q) : opR w' d' q' = opR w d q := by subst h a b; rfl
end ONE
