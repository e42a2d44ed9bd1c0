section PLN
/-! the plan's numbers, kept and changed -/
variable {By : Int → Int} {Nb : Int} {Sp S T : PS} {σ0 σ σ' : SG} {W : List (Nat × Nat)} {a : Nat}
def KNW (W : List (Nat × Nat)) : Bool := W.all (fun q => decide (q.1 < 18) || decide (28 < q.1))
theorem lc_tag : ∀ i : Fin 226, 18 ≤ TG (18 + lcO (i.val : Int)) ∧ TG (18 + lcO (i.val : Int)) ≤ 28 ∧ 18 ≤ TG (44 + lcO (i.val : Int)) ∧ TG (44 + lcO (i.val : Int)) ≤ 28 := by decide +kernel
theorem lc_tg {i : Int} (hp : PLA a) (i0 : 0 ≤ i) (i1 : i < 226) : 18 ≤ TG (a + lcO i) ∧ TG (a + lcO i) ≤ 28 := by
  have k := lc_tag ⟨i.toNat, by omega⟩
  simp only at k
  rw [show ((i.toNat : Nat) : Int) = i by omega] at k
  rcases hp with h | h <;> subst h
  · exact ⟨k.1, k.2.1⟩
  · exact ⟨k.2.2.1, k.2.2.2⟩
theorem KN_fr {w : Int → Int} {A : Int → Prop} (hp : PLA a) (H : KN σ a w A) (h : Fr W σ σ') (hw : KNW W = true) : KN σ' a w A := fun i i0 i1 x => by
  rw [← H i i0 i1 x]
  refine ci_eq (h _ _ ?_)
  have t := lc_tg hp i0 i1
  unfold KNW at hw
  rw [List.all_eq_true] at hw
  rw [Bool.eq_false_iff]
  intro q
  have q2 := hw _ (List.elem_iff.mp q)
  simp only [Bool.or_eq_true, decide_eq_true_eq] at q2
  omega
theorem KN_w {w w' : Int → Int} {A : Int → Prop} (H : KN σ a w A) (e : w = w') : KN σ a w' A := by subst e; exact H
theorem KN_v {w : Int → Int} {A : Int → Prop} {i : Int} {b q : Nat} {y : Int32} (H : KN σ a w A) (x : A i) (i0 : 0 ≤ i) (i1 : i < 226) (hb : b = a + lcO i) (hq : q = (lcB i).toNat) (h : (σ b)[q]? = some (.int y)) : w i = y.toInt := by
  rw [← H i i0 i1 x]; unfold ci; rw [← hb, ← hq, h]
/-! where things lie -/
theorem lcO_lt {i : Int} (h : i < 10) (h3 : i ≠ 3) : lcO i = 0 := by unfold lcO; rw [if_pos h, if_neg h3]
theorem lcO_3 : lcO 3 = 2 := by decide
theorem lc_dr : ∀ d : Fin 4, lcO (10 + 4 * (d.val : Int)) = 10 + 4 * d.val ∧ lcO (11 + 4 * (d.val : Int)) = 10 + 4 * d.val ∧ lcO (12 + 4 * (d.val : Int)) = 11 + 4 * d.val ∧ lcO (13 + 4 * (d.val : Int)) = 10 + 4 * d.val ∧ lcB (10 + 4 * (d.val : Int)) = 1 ∧ lcB (11 + 4 * (d.val : Int)) = 2 ∧ lcB (12 + 4 * (d.val : Int)) = 2 ∧ lcB (13 + 4 * (d.val : Int)) = 3 := by decide +kernel
theorem lc_d {d : Int} (h0 : 0 ≤ d) (h4 : d < 4) : lcO (10 + 4 * d) = 10 + 4 * d.toNat ∧ lcO (11 + 4 * d) = 10 + 4 * d.toNat ∧ lcO (12 + 4 * d) = 11 + 4 * d.toNat ∧ lcO (13 + 4 * d) = 10 + 4 * d.toNat ∧ lcB (10 + 4 * d) = 1 ∧ lcB (11 + 4 * d) = 2 ∧ lcB (12 + 4 * d) = 2 ∧ lcB (13 + 4 * d) = 3 := by
  have k := lc_dr ⟨d.toNat, by omega⟩
  simp only at k
  rw [show ((d.toNat : Nat) : Int) = d by omega] at k; exact k
theorem lc_ls : ∀ d : Fin 4, ∀ m : Fin 12, lcO (26 + 24 * (d.val : Int) + 2 * (m.val : Int)) = 12 + 4 * d.val ∧ lcO (26 + 24 * (d.val : Int) + 2 * (m.val : Int) + 1) = 13 + 4 * d.val ∧ lcB (26 + 24 * (d.val : Int) + 2 * (m.val : Int)) = (m.val : Int) ∧ lcB (26 + 24 * (d.val : Int) + 2 * (m.val : Int) + 1) = (m.val : Int) := by decide +kernel
theorem lc_l {d m : Int} (h0 : 0 ≤ d) (h4 : d < 4) (m0 : 0 ≤ m) (m1 : m < 12) : lcO (26 + 24 * d + 2 * m) = 12 + 4 * d.toNat ∧ lcO (26 + 24 * d + 2 * m + 1) = 13 + 4 * d.toNat ∧ lcB (26 + 24 * d + 2 * m) = m ∧ lcB (26 + 24 * d + 2 * m + 1) = m := by
  have k := lc_ls ⟨d.toNat, by omega⟩ ⟨m.toNat, by omega⟩
  simp only at k
  rw [show ((d.toNat : Nat) : Int) = d by omega, show ((m.toNat : Nat) : Int) = m by omega] at k; exact k
theorem lc_es : ∀ m : Fin 12, lcO (122 + 2 * (m.val : Int)) = 3 ∧ lcO (122 + 2 * (m.val : Int) + 1) = 4 ∧ lcB (122 + 2 * (m.val : Int)) = (m.val : Int) ∧ lcB (122 + 2 * (m.val : Int) + 1) = (m.val : Int) := by decide +kernel
theorem lc_e {m : Int} (m0 : 0 ≤ m) (m1 : m < 12) : lcO (122 + 2 * m) = 3 ∧ lcO (122 + 2 * m + 1) = 4 ∧ lcB (122 + 2 * m) = m ∧ lcB (122 + 2 * m + 1) = m := by
  have k := lc_es ⟨m.toNat, by omega⟩
  simp only at k
  rw [show ((m.toNat : Nat) : Int) = m by omega] at k; exact k
theorem lc_hs : ∀ m : Fin 4, lcO (146 + 2 * (m.val : Int)) = 5 ∧ lcO (146 + 2 * (m.val : Int) + 1) = 6 ∧ lcB (146 + 2 * (m.val : Int)) = (m.val : Int) ∧ lcB (146 + 2 * (m.val : Int) + 1) = (m.val : Int) := by decide +kernel
theorem lc_h {m : Int} (m0 : 0 ≤ m) (m1 : m < 4) : lcO (146 + 2 * m) = 5 ∧ lcO (146 + 2 * m + 1) = 6 ∧ lcB (146 + 2 * m) = m ∧ lcB (146 + 2 * m + 1) = m := by
  have k := lc_hs ⟨m.toNat, by omega⟩
  simp only at k
  rw [show ((m.toNat : Nat) : Int) = m by omega] at k; exact k
theorem lc_cs : ∀ m : Fin 6, lcO (154 + 2 * (m.val : Int)) = 7 ∧ lcO (155 + 2 * (m.val : Int)) = 8 ∧ lcB (154 + 2 * (m.val : Int)) = (m.val : Int) ∧ lcB (155 + 2 * (m.val : Int)) = (m.val : Int) := by decide +kernel
theorem lc_c {m : Int} (m0 : 0 ≤ m) (m1 : m < 6) : lcO (154 + 2 * m) = 7 ∧ lcO (155 + 2 * m) = 8 ∧ lcB (154 + 2 * m) = m ∧ lcB (155 + 2 * m) = m := by
  have k := lc_cs ⟨m.toNat, by omega⟩
  simp only at k
  rw [show ((m.toNat : Nat) : Int) = m by omega] at k; exact k
/-! what counts behind a change -/
theorem act_low {w : Int → Int} {j v i : Int} (hj : j < 10 ∧ j ≠ 2 ∧ j ≠ 3 ∧ j ≠ 4 ∧ j ≠ 5 ∧ j ≠ 6) (h : act (uPd w j v) i) : act w i := by
  have e2 : uPd w j v 2 = w 2 := if_neg (by omega)
  have e3 : uPd w j v 3 = w 3 := if_neg (by omega)
  have e4 : uPd w j v 4 = w 4 := if_neg (by omega)
  have e5 : uPd w j v 5 = w 5 := if_neg (by omega)
  have e6 : uPd w j v 6 = w 6 := if_neg (by omega)
  unfold act at h
  rw [e2, e3, e4, e5, e6] at h
  rcases h with h | h | h | h | h | h | h
  · exact Or.inl h
  · exact Or.inr (Or.inl h)
  · have e : uPd w j v (12 + 4 * ((i - 26) / 24)) = w (12 + 4 * ((i - 26) / 24)) := if_neg (by omega)
    rw [e] at h
    exact Or.inr (Or.inr (Or.inl h))
  · exact Or.inr (Or.inr (Or.inr (Or.inl h)))
  · exact Or.inr (Or.inr (Or.inr (Or.inr (Or.inl h))))
  · exact Or.inr (Or.inr (Or.inr (Or.inr (Or.inr (Or.inl h)))))
  · exact Or.inr (Or.inr (Or.inr (Or.inr (Or.inr (Or.inr h)))))
/-- a number that no count is -/
theorem act_in {w : Int → Int} {j v i : Int} (hj : 10 ≤ j) (hk : j < 26 → (j - 10) % 4 ≠ 2) (h : act (uPd w j v) i) : act w i := by
  have e2 : uPd w j v 2 = w 2 := if_neg (by omega)
  have e3 : uPd w j v 3 = w 3 := if_neg (by omega)
  have e4 : uPd w j v 4 = w 4 := if_neg (by omega)
  have e5 : uPd w j v 5 = w 5 := if_neg (by omega)
  have e6 : uPd w j v 6 = w 6 := if_neg (by omega)
  unfold act at h
  rw [e2, e3, e4, e5, e6] at h
  rcases h with h | h | h | h | h | h | h
  · exact Or.inl h
  · exact Or.inr (Or.inl h)
  · have e : uPd w j v (12 + 4 * ((i - 26) / 24)) = w (12 + 4 * ((i - 26) / 24)) := if_neg (by omega)
    rw [e] at h
    exact Or.inr (Or.inr (Or.inl h))
  · exact Or.inr (Or.inr (Or.inr (Or.inl h)))
  · exact Or.inr (Or.inr (Or.inr (Or.inr (Or.inl h))))
  · exact Or.inr (Or.inr (Or.inr (Or.inr (Or.inr (Or.inl h)))))
  · exact Or.inr (Or.inr (Or.inr (Or.inr (Or.inr (Or.inr h)))))
theorem act_n3 {w : Int → Int} {m v i : Int} (hm : w 3 = m) (hv : v = m + 1) (h : act (uPd w 3 v) i) : act w i ∨ i = 122 + 2 * m ∨ i = 122 + 2 * m + 1 := by
  have e2 : uPd w 3 v 2 = w 2 := if_neg (by omega)
  have e3 : uPd w 3 v 3 = v := if_pos rfl
  have e4 : uPd w 3 v 4 = w 4 := if_neg (by omega)
  have e5 : uPd w 3 v 5 = w 5 := if_neg (by omega)
  have e6 : uPd w 3 v 6 = w 6 := if_neg (by omega)
  unfold act at h
  rw [e2, e3, e4, e5, e6] at h
  rcases h with h | h | h | h | h | h | h
  · exact Or.inl (Or.inl h)
  · exact Or.inl (Or.inr (Or.inl h))
  · have e : uPd w 3 v (12 + 4 * ((i - 26) / 24)) = w (12 + 4 * ((i - 26) / 24)) := if_neg (by omega)
    rw [e] at h
    exact Or.inl (Or.inr (Or.inr (Or.inl h)))
  · by_cases y : (i - 122) / 2 < w 3
    · exact Or.inl (Or.inr (Or.inr (Or.inr (Or.inl ⟨h.1, h.2.1, y⟩))))
    · exact Or.inr (by omega)
  · exact Or.inl (Or.inr (Or.inr (Or.inr (Or.inr (Or.inl h)))))
  · exact Or.inl (Or.inr (Or.inr (Or.inr (Or.inr (Or.inr (Or.inl h))))))
  · exact Or.inl (Or.inr (Or.inr (Or.inr (Or.inr (Or.inr (Or.inr h))))))
theorem act_n4 {w : Int → Int} {m v i : Int} (hm : w 4 = m) (hv : v = m + 1) (h : act (uPd w 4 v) i) : act w i ∨ i = 146 + 2 * m ∨ i = 146 + 2 * m + 1 := by
  have e2 : uPd w 4 v 2 = w 2 := if_neg (by omega)
  have e3 : uPd w 4 v 3 = w 3 := if_neg (by omega)
  have e4 : uPd w 4 v 4 = v := if_pos rfl
  have e5 : uPd w 4 v 5 = w 5 := if_neg (by omega)
  have e6 : uPd w 4 v 6 = w 6 := if_neg (by omega)
  unfold act at h
  rw [e2, e3, e4, e5, e6] at h
  rcases h with h | h | h | h | h | h | h
  · exact Or.inl (Or.inl h)
  · exact Or.inl (Or.inr (Or.inl h))
  · have e : uPd w 4 v (12 + 4 * ((i - 26) / 24)) = w (12 + 4 * ((i - 26) / 24)) := if_neg (by omega)
    rw [e] at h
    exact Or.inl (Or.inr (Or.inr (Or.inl h)))
  · exact Or.inl (Or.inr (Or.inr (Or.inr (Or.inl h))))
  · by_cases y : (i - 146) / 2 < w 4
    · exact Or.inl (Or.inr (Or.inr (Or.inr (Or.inr (Or.inl ⟨h.1, h.2.1, y⟩)))))
    · exact Or.inr (by omega)
  · exact Or.inl (Or.inr (Or.inr (Or.inr (Or.inr (Or.inr (Or.inl h))))))
  · exact Or.inl (Or.inr (Or.inr (Or.inr (Or.inr (Or.inr (Or.inr h))))))
theorem act_n5 {w : Int → Int} {m v i : Int} (hm : w 5 = m) (hv : v = m + 1) (h : act (uPd w 5 v) i) : act w i ∨ i = 154 + 2 * m := by
  have e2 : uPd w 5 v 2 = w 2 := if_neg (by omega)
  have e3 : uPd w 5 v 3 = w 3 := if_neg (by omega)
  have e4 : uPd w 5 v 4 = w 4 := if_neg (by omega)
  have e5 : uPd w 5 v 5 = v := if_pos rfl
  have e6 : uPd w 5 v 6 = w 6 := if_neg (by omega)
  unfold act at h
  rw [e2, e3, e4, e5, e6] at h
  rcases h with h | h | h | h | h | h | h
  · exact Or.inl (Or.inl h)
  · exact Or.inl (Or.inr (Or.inl h))
  · have e : uPd w 5 v (12 + 4 * ((i - 26) / 24)) = w (12 + 4 * ((i - 26) / 24)) := if_neg (by omega)
    rw [e] at h
    exact Or.inl (Or.inr (Or.inr (Or.inl h)))
  · exact Or.inl (Or.inr (Or.inr (Or.inr (Or.inl h))))
  · exact Or.inl (Or.inr (Or.inr (Or.inr (Or.inr (Or.inl h)))))
  · by_cases y : i % 2 = 1 ∨ (i - 154) / 2 < w 5
    · exact Or.inl (Or.inr (Or.inr (Or.inr (Or.inr (Or.inr (Or.inl ⟨h.1, h.2.1, y⟩))))))
    · exact Or.inr (by omega)
  · exact Or.inl (Or.inr (Or.inr (Or.inr (Or.inr (Or.inr (Or.inr h))))))
/-- a lesson more -/
theorem act_ls {w : Int → Int} {d m v i : Int} (d0 : 0 ≤ d) (d4 : d < 4) (hm : w (12 + 4 * d) = m) (hv : v = m + 1) (h : act (uPd w (12 + 4 * d) v) i) : act w i ∨ i = 26 + 24 * d + 2 * m ∨ i = 26 + 24 * d + 2 * m + 1 := by
  have e2 : uPd w (12 + 4 * d) v 2 = w 2 := if_neg (by omega)
  have e3 : uPd w (12 + 4 * d) v 3 = w 3 := if_neg (by omega)
  have e4 : uPd w (12 + 4 * d) v 4 = w 4 := if_neg (by omega)
  have e5 : uPd w (12 + 4 * d) v 5 = w 5 := if_neg (by omega)
  have e6 : uPd w (12 + 4 * d) v 6 = w 6 := if_neg (by omega)
  unfold act at h
  rw [e2, e3, e4, e5, e6] at h
  rcases h with h | h | h | h | h | h | h
  · exact Or.inl (Or.inl h)
  · exact Or.inl (Or.inr (Or.inl h))
  · by_cases y : (i - 26) / 24 = d
    · have e : uPd w (12 + 4 * d) v (12 + 4 * ((i - 26) / 24)) = v := if_pos (by omega)
      rw [e] at h
      by_cases z : (i - 26) % 24 / 2 < m
      · exact Or.inl (Or.inr (Or.inr (Or.inl ⟨h.1, h.2.1, h.2.2.1, by rw [y, hm]; exact z⟩)))
      · exact Or.inr (by omega)
    · have e : uPd w (12 + 4 * d) v (12 + 4 * ((i - 26) / 24)) = w (12 + 4 * ((i - 26) / 24)) := if_neg (by omega)
      rw [e] at h; exact Or.inl (Or.inr (Or.inr (Or.inl h)))
  · exact Or.inl (Or.inr (Or.inr (Or.inr (Or.inl h))))
  · exact Or.inl (Or.inr (Or.inr (Or.inr (Or.inr (Or.inl h)))))
  · exact Or.inl (Or.inr (Or.inr (Or.inr (Or.inr (Or.inr (Or.inl h))))))
  · exact Or.inl (Or.inr (Or.inr (Or.inr (Or.inr (Or.inr (Or.inr h))))))
/-- a door more -/
theorem act_dr {w : Int → Int} {v0 v1 v2 i : Int} (d0 : 0 ≤ w 2) (d4 : w 2 < 4) (h : act (uPd (uPd (uPd (uPd (uPd w (10 + 4 * w 2) v0) (10 + 4 * w 2 + 1) v1) (10 + 4 * w 2 + 2) 0) (10 + 4 * w 2 + 3) v2) 2 (w 2 + 1)) i) : act w i ∨ i = 10 + 4 * w 2 ∨ i = 10 + 4 * w 2 + 1 ∨ i = 10 + 4 * w 2 + 2 ∨ i = 10 + 4 * w 2 + 3 := by
  generalize hf : uPd (uPd (uPd (uPd (uPd w (10 + 4 * w 2) v0) (10 + 4 * w 2 + 1) v1) (10 + 4 * w 2 + 2) 0) (10 + 4 * w 2 + 3) v2) 2 (w 2 + 1) = f at h
  have e : ∀ x : Int, f x = if x = 2 then w 2 + 1 else if x = 10 + 4 * w 2 + 3 then v2 else if x = 10 + 4 * w 2 + 2 then 0 else if x = 10 + 4 * w 2 + 1 then v1 else if x = 10 + 4 * w 2 then v0 else w x := fun x => by rw [← hf]; rfl
  have e2 : f 2 = w 2 + 1 := by rw [e, if_pos rfl]
  have e3 : f 3 = w 3 := by rw [e, if_neg (by omega), if_neg (by omega), if_neg (by omega), if_neg (by omega), if_neg (by omega)]
  have e4 : f 4 = w 4 := by rw [e, if_neg (by omega), if_neg (by omega), if_neg (by omega), if_neg (by omega), if_neg (by omega)]
  have e5 : f 5 = w 5 := by rw [e, if_neg (by omega), if_neg (by omega), if_neg (by omega), if_neg (by omega), if_neg (by omega)]
  have e6 : f 6 = w 6 := by rw [e, if_neg (by omega), if_neg (by omega), if_neg (by omega), if_neg (by omega), if_neg (by omega)]
  unfold act at h
  rw [e2, e3, e4, e5, e6] at h
  rcases h with h | h | h | h | h | h | h
  · exact Or.inl (Or.inl h)
  · by_cases y : (i - 10) / 4 < w 2
    · exact Or.inl (Or.inr (Or.inl ⟨h.1, h.2.1, y⟩))
    · exact Or.inr (by omega)
  · by_cases y : (i - 26) / 24 = w 2
    · have e7 : f (12 + 4 * ((i - 26) / 24)) = 0 := by rw [e, if_neg (by omega), if_neg (by omega), if_pos (by omega)]
      rw [e7] at h; exfalso; omega
    · have e7 : f (12 + 4 * ((i - 26) / 24)) = w (12 + 4 * ((i - 26) / 24)) := by rw [e, if_neg (by omega), if_neg (by omega), if_neg (by omega), if_neg (by omega), if_neg (by omega)]
      rw [e7] at h
      exact Or.inl (Or.inr (Or.inr (Or.inl ⟨h.1, h.2.1, by omega, h.2.2.2⟩)))
  · exact Or.inl (Or.inr (Or.inr (Or.inr (Or.inl h))))
  · exact Or.inl (Or.inr (Or.inr (Or.inr (Or.inr (Or.inl h)))))
  · exact Or.inl (Or.inr (Or.inr (Or.inr (Or.inr (Or.inr (Or.inl h))))))
  · exact Or.inl (Or.inr (Or.inr (Or.inr (Or.inr (Or.inr (Or.inr h))))))
end PLN
