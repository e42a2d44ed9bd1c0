/-! what is asked of one door and one knock, of a rule -/
section ONE
variable {w w' : Int → Int} {k : Int → Int}
noncomputable def iR (c : Prop) (v : Int) : Int := @ite _ c (Classical.propDecidable c) v (-2)
theorem iR_y {c : Prop} {v r : Int} (h : c) (e : r = v) : r = iR c v := by unfold iR; rw [if_pos h]; exact e
theorem iR_n {c : Prop} {v r : Int} (h : ¬ c) (e : r = -2) : r = iR c v := by unfold iR; rw [if_neg h]; exact e
/-- the deeds of a rule -/
noncomputable def dfR (w : Int → Int) (m v : Int) : Int := iR (rlOK w m v) (DOf m v (pI (w 0)).toNat)
theorem dfR_y {m v r K : Int} (h : rlOK w m v) (hK : K = pI (w 0)) (e : r = DOf m v K.toNat) : r = dfR w m v := by subst hK; exact iR_y h e
theorem dfR_n {m v r : Int} (h : ¬ rlOK w m v) (e : r = -2) : r = dfR w m v := iR_n h e
theorem dfR_cg {m m' v v' : Int} (h : w' = w) (a : m' = m) (b : v' = v) : dfR w' m' v' = dfR w m v := by subst h a b; rfl
end ONE
