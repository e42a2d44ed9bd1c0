/-! RUNS, further rules: more room, compares, closed runs -/
theorem amC_room {MT : Nat → Option MR} {r1 : AM} (hr : ∀ fr lo fr' lo' scr F pc lv st h x, fr ≤ fr' → lo ≤ lo' → r1 fr lo scr F pc lv st h = some x → r1 fr' lo' scr F pc lv st h = some x) {fr lo fr' lo' : Nat} (h1 : fr ≤ fr') (h2 : lo ≤ lo') {scr : AS} {F : MR} {i : Instr} {pc : Nat} {lv : ALv} {st : List Value} {h : AH} {kd id : Nat} {x : Option Value × AH} (hx : amC MT r1 fr lo scr F i pc lv st h kd id = some x) : amC MT r1 fr' lo' scr F i pc lv st h kd id = some x := by
  unfold amC at hx ⊢
  split at hx
  · obtain ⟨q, hq, h3⟩ := oB_inv hx
    obtain ⟨h4, h5⟩ := oC_inv h3
    simp only [Bool.and_eq_true, decide_eq_true_eq] at h4
    exact oB_mk hq (oC_mk (by simp only [Bool.and_eq_true, decide_eq_true_eq]; omega) (hr _ _ _ _ _ _ _ _ _ _ _ h1 h2 h5))
  · unfold sR at hx ⊢
    split at hx
    · obtain ⟨h4, h5⟩ := oC_inv hx
      simp only [Bool.and_eq_true, decide_eq_true_eq] at h4
      exact oC_mk (by simp only [Bool.and_eq_true, decide_eq_true_eq]; omega) (hr _ _ _ _ _ _ _ _ _ _ _ h1 h2 h5)
    · cases hx
  · obtain ⟨G, hG, h3⟩ := oB_inv hx
    obtain ⟨h4, h5⟩ := oC_inv h3
    obtain ⟨q, hq, h6⟩ := oB_inv h5
    simp only [Bool.and_eq_true, decide_eq_true_eq] at h4
    obtain ⟨⟨⟨⟨⟨b1, b2⟩, b3⟩, b4⟩, b5⟩, b6⟩ := h4
    refine oB_mk hG (oC_mk ?_ (oB_mk (hr _ _ _ _ _ _ _ _ _ _ _ (by omega) (by omega) hq) (hr _ _ _ _ _ _ _ _ _ _ _ h1 h2 h6)))
    simp only [Bool.and_eq_true, decide_eq_true_eq]
    exact ⟨⟨⟨⟨⟨b1, by omega⟩, by omega⟩, b4⟩, b5⟩, b6⟩
theorem am_room (MT : Nat → Option MR) : ∀ (n fr lo fr' lo' : Nat) (scr : AS) (F : MR) (pc : Nat) (lv : ALv) (st : List Value) (h : AH) (x : Option Value × AH), fr ≤ fr' → lo ≤ lo' → am MT n fr lo scr F pc lv st h = some x → am MT n fr' lo' scr F pc lv st h = some x := by
  intro n
  induction n with
  | zero => intro fr lo fr' lo' scr F pc lv st h x _ _ hx; cases hx
  | succ n ih =>
    intro fr lo fr' lo' scr F pc lv st h x h1 h2 hx
    rw [am_s] at hx ⊢
    unfold amB at hx ⊢
    obtain ⟨q, hq, h3⟩ := oB_inv hx
    refine oB_mk hq ?_
    split at h3
    · obtain ⟨y, hy, h4⟩ := oB_inv h3
      exact oB_mk hy (ih _ _ _ _ _ _ _ _ _ _ _ h1 h2 h4)
    · obtain ⟨y, hy, h4⟩ := oB_inv h3
      exact oB_mk hy (ih _ _ _ _ _ _ _ _ _ _ _ h1 h2 h4)
    · obtain ⟨y, hy, h4⟩ := oB_inv h3
      exact oB_mk hy (ih _ _ _ _ _ _ _ _ _ _ _ h1 h2 h4)
    · obtain ⟨y, hy, h4⟩ := oB_inv h3
      obtain ⟨h5, h6⟩ := oC_inv h4
      exact oB_mk hy (oC_mk h5 (amC_room (fun a b a' b' c d e f g i j h8 h9 z => ih a b a' b' c d e f g i j h8 h9 z) h1 h2 h6))
    · exact h3
theorem Go_room {MT : Nat → Option MR} {fr lo fr' lo' : Nat} {scr : AS} {F : MR} {pc : Nat} {lv : ALv} {st : List Value} {h : AH} {x : Option Value × AH} (g : Go MT fr lo scr F pc lv st h x) (h1 : fr ≤ fr') (h2 : lo ≤ lo') : Go MT fr' lo' scr F pc lv st h x := by
  obtain ⟨n, hn⟩ := g
  exact ⟨n, am_room MT n fr lo fr' lo' _ _ _ _ _ _ _ h1 h2 hn⟩
section GB
variable {MT : Nat → Option MR} {fr lo : Nat} {scr : AS} {F : MR} {pc len tgt a b : Nat} {i : Instr} {lv lv' : ALv} {st r : List Value} {h : AH} {x : Option Value × AH}
theorem Go_swO {dflt lo_ hi_ : Int} {offs : Array Int} {v : Int32} {t : Nat} (hf : fc F pc = some (.tableswitch dflt lo_ hi_ offs, len, tgt)) (hc : v.toInt < lo_ ∨ hi_ < v.toInt) (ht : (pc : Int) + dflt = (t : Int)) (g : Go MT fr lo scr F t lv r h x) : Go MT fr lo scr F pc lv (.int v :: r) h x := by
  refine Go_Ps 1 ?_ g
  refine oB_mk hf (oC_mk rfl ?_)
  have e : tsw pc dflt lo_ hi_ offs v = some t := by
    unfold tsw
    rw [if_pos hc]
    exact oC_mk (decide_eq_true (by omega)) (by rw [ht]; rfl)
  show oB (oB (tsw pc dflt lo_ hi_ offs v) _) _ = _
  rw [e]
  rfl
theorem Go_swI {dflt lo_ hi_ o : Int} {offs : Array Int} {v : Int32} {t : Nat} (hf : fc F pc = some (.tableswitch dflt lo_ hi_ offs, len, tgt)) (hc : ¬ (v.toInt < lo_ ∨ hi_ < v.toInt)) (ho : offs[(v.toInt - lo_).toNat]? = some o) (ht : (pc : Int) + o = (t : Int)) (g : Go MT fr lo scr F t lv r h x) : Go MT fr lo scr F pc lv (.int v :: r) h x := by
  refine Go_Ps 1 ?_ g
  refine oB_mk hf (oC_mk rfl ?_)
  have e : tsw pc dflt lo_ hi_ offs v = some t := by
    unfold tsw
    rw [if_neg hc, ho]
    exact oC_mk (decide_eq_true (by omega)) (by rw [ht]; rfl)
  show oB (oB (tsw pc dflt lo_ hi_ offs v) _) _ = _
  rw [e]
  rfl
end GB
/-! compares by their integers -/
theorem lgc_a {x y : Int64} (h : x.toInt < y.toInt) : lg_cmp x y = -1 := by
  have h1 : x < y := Int64.lt_iff_toInt_lt.mpr h
  have h2 : ¬ x > y := fun z => by have := Int64.lt_iff_toInt_lt.mp z; omega
  have h3 : ¬ x = y := fun z => by rw [z] at h; omega
  unfold lg_cmp
  rw [if_neg h2, if_neg h3]
theorem lgc_b {x y : Int64} (h : y.toInt < x.toInt) : lg_cmp x y = 1 := by
  unfold lg_cmp
  rw [if_pos (Int64.lt_iff_toInt_lt.mpr h)]
theorem lgc_c {x y : Int64} (h : x.toInt = y.toInt) : lg_cmp x y = 0 := by
  have e : x = y := Int64.toInt_inj.mp h
  subst e
  have h2 : ¬ x > x := fun z => by have := Int64.lt_iff_toInt_lt.mp z; omega
  unfold lg_cmp
  rw [if_neg h2, if_pos rfl]
theorem lgT_lt {x y : Int64} (h : x.toInt < y.toInt) : lg_cmp x y < 0 := by rw [lgc_a h]; decide
theorem lgF_lt {x y : Int64} (h : ¬ x.toInt < y.toInt) : ¬ lg_cmp x y < 0 := by
  rcases (show y.toInt < x.toInt ∨ x.toInt = y.toInt by omega) with z | z
  · rw [lgc_b z]; decide
  · rw [lgc_c z]; decide
theorem lgT_gt {x y : Int64} (h : y.toInt < x.toInt) : 0 < lg_cmp x y := by rw [lgc_b h]; decide
theorem lgF_gt {x y : Int64} (h : ¬ y.toInt < x.toInt) : ¬ 0 < lg_cmp x y := by
  rcases (show x.toInt < y.toInt ∨ x.toInt = y.toInt by omega) with z | z
  · rw [lgc_a z]; decide
  · rw [lgc_c z]; decide

