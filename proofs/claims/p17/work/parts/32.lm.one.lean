/-! what is asked of one door and one knock, of a rule -/
section ONE
variable {w w' : Int → Int} {k : Int → Int}
noncomputable def iR (c : Prop) (v : Int) : Int := @ite _ c (Classical.propDecidable c) v (-2)
theorem iR_y {c : Prop} {v r : Int} (h : c) (e : r = v) : r = iR c v := by unfold iR; rw [if_pos h]; exact e
theorem iR_n {c : Prop} {v r : Int} (h : ¬ c) (e : r = -2) : r = iR c v := by unfold iR; rw [if_neg h]; exact e
end ONE
