section FUL
variable {σ0 σ σ' σ1 σ2 : SG} {W W' : List (Nat × Nat)} {a : Nat} {w w' : Int → Int}
/-! plans of any kind: the two of the class, the three images -/
def PLI (a : Nat) : Prop := a = 72 ∨ a = 98 ∨ a = 124
def PLB (a : Nat) : Prop := a = 18 ∨ a = 44 ∨ a = 72 ∨ a = 98 ∨ a = 124
theorem PLA_B (h : PLA a) : PLB a := by
  unfold PLA at h
  unfold PLB
  omega
theorem PLI_B (h : PLI a) : PLB a := by
  unfold PLI at h
  unfold PLB
  omega
theorem plb_tags : ∀ a : Fin 130, (a.val = 18 ∨ a.val = 44 ∨ a.val = 72 ∨ a.val = 98 ∨ a.val = 124) → TG (a.val + 1) = 19 ∧ TG (a.val + 2) = 20 ∧ TG (a.val + 3) = 21 ∧ TG (a.val + 4) = 22 ∧ TG (a.val + 5) = 23 ∧ TG (a.val + 6) = 24 ∧ TG (a.val + 7) = 25 ∧ TG (a.val + 8) = 26 ∧ TG (a.val + 9) = 27 ∧ ∀ d : Fin 4, TG (a.val + 10 + 4 * d.val) = 28 ∧ TG (a.val + 11 + 4 * d.val) = 20 ∧ TG (a.val + 12 + 4 * d.val) = 21 ∧ TG (a.val + 13 + 4 * d.val) = 22 := by decide +kernel
theorem PLbt (h : PLB a) : TG (a + 1) = 19 ∧ TG (a + 2) = 20 ∧ TG (a + 3) = 21 ∧ TG (a + 4) = 22 ∧ TG (a + 5) = 23 ∧ TG (a + 6) = 24 ∧ TG (a + 7) = 25 ∧ TG (a + 8) = 26 ∧ TG (a + 9) = 27 ∧ ∀ d : Nat, d < 4 → TG (a + 10 + 4 * d) = 28 ∧ TG (a + 11 + 4 * d) = 20 ∧ TG (a + 12 + 4 * d) = 21 ∧ TG (a + 13 + 4 * d) = 22 := by
  have h' : a = 18 ∨ a = 44 ∨ a = 72 ∨ a = 98 ∨ a = 124 := h
  have k := plb_tags ⟨a, by omega⟩ h'
  obtain ⟨k1, k2, k3, k4, k5, k6, k7, k8, k9, kd⟩ := k
  exact ⟨k1, k2, k3, k4, k5, k6, k7, k8, k9, fun d hd => kd ⟨d, hd⟩⟩
theorem pli_tags : TG 72 = 31 ∧ TG 98 = 31 ∧ TG 124 = 31 := by decide +kernel
theorem PLI_t (h : PLI a) : TG a = 31 := by
  rcases h with h | h | h <;> subst h
  · exact pli_tags.1
  · exact pli_tags.2.1
  · exact pli_tags.2.2
theorem PLI_of {p : Nat} (h : TG p = 31) : PLI p := by
  have k : ∀ q : Fin 181, TG q.val = 31 → q.val = 72 ∨ q.val = 98 ∨ q.val = 124 := by decide +kernel
  by_cases z : p < 181
  · exact k ⟨p, z⟩ h
  · exfalso
    have : TG p = 999 := by
      have l : TAGS.length = 181 := by decide +kernel
      unfold TG; rw [List.getD_eq_getElem?_getD, List.getElem?_eq_none (by omega)]; rfl
    omega
/-- an image's own rows stay where they are -/
def FXI (W : List (Nat × Nat)) : Bool := !W.contains (31, 4) && !W.contains (31, 5) && !W.contains (31, 9) && !W.contains (31, 10) && !W.contains (31, 12) && !W.contains (31, 13) && !W.contains (31, 15) && !W.contains (19, 0) && !W.contains (20, 0) && !W.contains (20, 1) && !W.contains (28, 0)
theorem FXI_fr (hp : PLI a) (H : FXP σ a) (h : Fr W σ σ') (hw : FXI W = true) : FXP σ' a := by
  unfold FXI at hw
  simp only [Bool.and_eq_true] at hw
  obtain ⟨⟨⟨⟨⟨⟨⟨⟨⟨⟨w4, w5⟩, w9⟩, w10⟩, w12⟩, w13⟩, w15⟩, wd⟩, wl0⟩, wl1⟩, wdr⟩ := hw
  have t0 := PLI_t hp
  obtain ⟨t1, t2, t3, t4, t5, t6, t7, t8, t9, td⟩ := PLbt (PLI_B hp)
  obtain ⟨h4, h5, h9, h10, h12, h13, h15, e0, e1, hd⟩ := H
  refine ⟨(h _ _ (inW t0 (nq _ w4))).trans h4, (h _ _ (inW t0 (nq _ w5))).trans h5, (h _ _ (inW t0 (nq _ w9))).trans h9, (h _ _ (inW t0 (nq _ w10))).trans h10, (h _ _ (inW t0 (nq _ w12))).trans h12, (h _ _ (inW t0 (nq _ w13))).trans h13, (h _ _ (inW t0 (nq _ w15))).trans h15, (h _ _ (inW t2 (nq _ wl0))).trans e0, (h _ _ (inW t2 (nq _ wl1))).trans e1, fun d d4 => ?_⟩
  obtain ⟨a1, a2, a3, a4⟩ := hd d d4
  obtain ⟨b1, b2, b3, b4⟩ := td d d4
  exact ⟨(h _ _ (inWa t1 (by rw [Bool.and_eq_true]; exact ⟨by decide +kernel, wd⟩))).trans a1, (h _ _ (inW b1 (nq _ wdr))).trans a2, (h _ _ (inW b2 (nq _ wl0))).trans a3, (h _ _ (inW b2 (nq _ wl1))).trans a4⟩
/-! the block of one plan alone is written -/
def OUT (σ0 σ : SG) (p : Nat) : Prop := ∀ b q : Nat, 18 ≤ b → b < 150 → (b < p ∨ p + 26 ≤ b) → (σ b)[q]? = (σ0 b)[q]?
theorem OUT_0 {p : Nat} : OUT σ σ p := fun _ _ _ _ _ => rfl
theorem OUT_st {p b q : Nat} (H : OUT σ0 σ p) (h2 : ∀ b' q', (b' ≠ b ∨ q' ≠ q) → (σ' b')[q']? = (σ b')[q']?) (h : p ≤ b ∧ b < p + 26) : OUT σ0 σ' p := fun b' q' h1 h3 h4 => by
  rw [h2 b' q' (by omega)]; exact H b' q' h1 h3 h4
theorem OUT_cp {p b : Nat} (H : OUT σ0 σ p) (h2 : ∀ b' q' : Nat, b' ≠ b → (σ' b')[q']? = (σ b')[q']?) (h : p ≤ b ∧ b < p + 26) : OUT σ0 σ' p := fun b' q' h1 h3 h4 => by
  rw [h2 b' q' (by omega)]; exact H b' q' h1 h3 h4
theorem OUT_tr {p : Nat} (H : OUT σ0 σ p) (H' : OUT σ σ' p) : OUT σ0 σ' p := fun b q h1 h3 h4 => by
  rw [H' b q h1 h3 h4]; exact H b q h1 h3 h4
def OTW (W : List (Nat × Nat)) : Bool := W.all (fun q => decide (q.1 < 18) || decide (31 < q.1))
theorem blk_tags : ∀ b : Fin 150, 18 ≤ b.val → 18 ≤ TG b.val ∧ TG b.val ≤ 31 := by decide +kernel
theorem OTW_n {b q : Nat} (hw : OTW W = true) (h1 : 18 ≤ b) (h3 : b < 150) : W.contains (TG b, SL (TG b) q) = false := by
  have k := blk_tags ⟨b, h3⟩ h1
  simp only at k
  unfold OTW at hw
  rw [List.all_eq_true] at hw
  rw [Bool.eq_false_iff]
  intro z
  have z2 := hw _ (List.elem_iff.mp z)
  simp only [Bool.or_eq_true, decide_eq_true_eq] at z2
  omega
theorem OUT_fr {p : Nat} (H : OUT σ0 σ p) (h : Fr W σ σ') (hw : OTW W = true) : OUT σ0 σ' p := fun b q h1 h3 h4 => by
  rw [h b q (OTW_n hw h1 h3)]; exact H b q h1 h3 h4
theorem OUT_add {p s kn op : Nat} {m x y : Int} (H : OUT σ0 σ p) (P : ADDp σ σ' s kn op m x y) (h1 : p ≤ s ∧ s < p + 26) (h2 : p ≤ kn ∧ kn < p + 26) (h3 : p ≤ op ∧ op < p + 26) : OUT σ0 σ' p := fun b q b0 b1 b2 => by
  rw [P.2.2.2 b q (by omega) (by omega) (by omega)]; exact H b q b0 b1 b2
theorem OUT_pn {p b q g : Nat} (H : OUT σ0 σ p) (h2 : ∀ b' q', (b' ≠ b ∨ q' ≠ q) → (σ' b')[q']? = (σ b')[q']?) (hb : TG b = g) (hg : (decide (g < 18) || decide (31 < g)) = true) : OUT σ0 σ' p := fun b' q' h1 h3 h4 => by
  have k := blk_tags ⟨b', h3⟩ h1
  simp only at k
  simp only [Bool.or_eq_true, decide_eq_true_eq] at hg
  have : b' ≠ b := fun e => by rw [e, hb] at k; omega
  rw [h2 b' q' (Or.inl this)]; exact H b' q' h1 h3 h4
theorem OUT_bgn {p s l : Nat} {x y : Int} (H : OUT σ0 σ p) (P : BGNp σ σ' s l x y) (h1 : p ≤ s ∧ s < p + 26) (h2 : p ≤ l ∧ l < p + 26) : OUT σ0 σ' p := fun b q b0 b1 b2 => by
  rw [P.2.2.2.2 b q (by omega) (by omega) (by omega) (by omega)]; exact H b q b0 b1 b2
theorem NE_s {a n : Nat} (H : ∀ b q : Nat, b ≠ a → (σ b)[q]? = (σ0 b)[q]?) (h2 : ∀ b q, (b ≠ a ∨ q ≠ n) → (σ' b)[q]? = (σ b)[q]?) : ∀ b q : Nat, b ≠ a → (σ' b)[q]? = (σ0 b)[q]? := fun b q h => (h2 b q (Or.inl h)).trans (H b q h)
theorem PL_sep {p k : Nat} (hp : PLA p) (hk : PLI k) : k + 26 ≤ p ∨ p + 26 ≤ k := by
  unfold PLA at hp
  unfold PLI at hk
  omega
theorem KN_out {p k : Nat} {A : Int → Prop} (hk : PLB k) (hs : k + 26 ≤ p ∨ p + 26 ≤ k) (H : KN σ0 k w A) (O : OUT σ0 σ p) : KN σ k w A := fun i i0 i1 x => by
  rw [← H i i0 i1 x]
  have l := lc_0 i0 i1
  unfold PLB at hk
  exact ci_eq (O _ _ (by omega) (by omega) (by omega))
/-! what counts, when numbers change -/
theorem act_le (h2 : w' 2 ≤ w 2) (h3 : w' 3 ≤ w 3) (h4 : w' 4 ≤ w 4) (h5 : w' 5 ≤ w 5) (h6 : w' 6 ≤ w 6) (hd : ∀ d : Int, 0 ≤ d → d < 4 → w' (12 + 4 * d) ≤ w (12 + 4 * d)) {i : Int} (h : act w' i) : act w i := by
  unfold act at h
  rcases h with h | h | h | h | h | h | h
  · exact Or.inl h
  · exact Or.inr (Or.inl (by omega))
  · have := hd ((i - 26) / 24) (by omega) (by omega)
    exact Or.inr (Or.inr (Or.inl ⟨h.1, h.2.1, by omega, by omega⟩))
  · exact Or.inr (Or.inr (Or.inr (Or.inl (by omega))))
  · exact Or.inr (Or.inr (Or.inr (Or.inr (Or.inl (by omega)))))
  · exact Or.inr (Or.inr (Or.inr (Or.inr (Or.inr (Or.inl (by omega))))))
  · exact Or.inr (Or.inr (Or.inr (Or.inr (Or.inr (Or.inr (by omega))))))
theorem act_cg (e : ∀ i : Int, 0 ≤ i → i < 226 → w' i = w i) {i : Int} (h : act w' i) : act w i :=
  act_le (by rw [e 2 (by omega) (by omega)]; exact Int.le_refl _) (by rw [e 3 (by omega) (by omega)]; exact Int.le_refl _) (by rw [e 4 (by omega) (by omega)]; exact Int.le_refl _) (by rw [e 5 (by omega) (by omega)]; exact Int.le_refl _) (by rw [e 6 (by omega) (by omega)]; exact Int.le_refl _) (fun d d0 d4 => by rw [e (12 + 4 * d) (by omega) (by omega)]; exact Int.le_refl _) h
theorem KN_cg {p : Nat} (H : KN σ p w (act w)) (e : ∀ i : Int, 0 ≤ i → i < 226 → w' i = w i) : KN σ p w' (act w') := fun i i0 i1 x => by
  rw [e i i0 i1]; exact H i i0 i1 (act_cg e x)
theorem act_n6 {w : Int → Int} {m v i : Int} (hm : w 6 = m) (hv : v = m + 1) (h : act (uPd w 6 v) i) : act w i ∨ i = 166 + m := by
  have e2 : uPd w 6 v 2 = w 2 := if_neg (by omega)
  have e3 : uPd w 6 v 3 = w 3 := if_neg (by omega)
  have e4 : uPd w 6 v 4 = w 4 := if_neg (by omega)
  have e5 : uPd w 6 v 5 = w 5 := if_neg (by omega)
  have e6 : uPd w 6 v 6 = v := if_pos rfl
  unfold act at h
  rw [e2, e3, e4, e5, e6] at h
  rcases h with h | h | h | h | h | h | h
  · exact Or.inl (Or.inl h)
  · exact Or.inl (Or.inr (Or.inl h))
  · have e : uPd w 6 v (12 + 4 * ((i - 26) / 24)) = w (12 + 4 * ((i - 26) / 24)) := if_neg (by omega)
    rw [e] at h
    exact Or.inl (Or.inr (Or.inr (Or.inl h)))
  · exact Or.inl (Or.inr (Or.inr (Or.inr (Or.inl h))))
  · exact Or.inl (Or.inr (Or.inr (Or.inr (Or.inr (Or.inl h)))))
  · exact Or.inl (Or.inr (Or.inr (Or.inr (Or.inr (Or.inr (Or.inl h))))))
  · by_cases y : i - 166 < m
    · exact Or.inl (Or.inr (Or.inr (Or.inr (Or.inr (Or.inr (Or.inr ⟨h.1, by omega⟩))))))
    · exact Or.inr (by omega)
/-! a lesson comes by teach(), and is taken back -/
def okL (w : Int → Int) (d k o : Int) : Prop := 0 ≤ d ∧ d < w 2 ∧ 0 < w 7 ∧ 0 ≤ k ∧ k < pI (w 0) ∧ 0 ≤ o ∧ o ≤ 1
noncomputable def tcR (w : Int → Int) (d k o : Int) : Int := @ite _ (okL w d k o) (Classical.propDecidable _) (if 12 ≤ w (12 + 4 * d) then -3 else if 60 ≤ w 6 then -5 else w (12 + 4 * d) + 1) (-2)
def tcU (w : Int → Int) (d k o : Int) : Int → Int := uPd (uPd (uPd (uPd (uPd w (26 + 24 * d + 2 * w (12 + 4 * d)) k) (26 + 24 * d + 2 * w (12 + 4 * d) + 1) o) (12 + 4 * d) (w (12 + 4 * d) + 1)) (166 + w 6) d) 6 (w 6 + 1)
noncomputable def tcW (w : Int → Int) (d k o : Int) : Int → Int := @ite _ (okL w d k o ∧ w (12 + 4 * d) < 12 ∧ w 6 < 60) (Classical.propDecidable _) (tcU w d k o) w
theorem tcR_2 {d k o r : Int} (h : ¬ okL w d k o) (hr : r = -2) : r = tcR w d k o := by unfold tcR; rw [if_neg h]; exact hr
theorem tcR_3 {d k o r : Int} (h : okL w d k o) (h2 : 12 ≤ w (12 + 4 * d)) (hr : r = -3) : r = tcR w d k o := by unfold tcR; rw [if_pos h, if_pos h2]; exact hr
theorem tcR_5 {d k o r : Int} (h : okL w d k o) (h2 : w (12 + 4 * d) < 12) (h3 : 60 ≤ w 6) (hr : r = -5) : r = tcR w d k o := by unfold tcR; rw [if_pos h, if_neg (by omega), if_pos h3]; exact hr
theorem tcR_y {d k o r : Int} (h : okL w d k o) (h2 : w (12 + 4 * d) < 12) (h3 : w 6 < 60) (hr : r = w (12 + 4 * d) + 1) : r = tcR w d k o := by unfold tcR; rw [if_pos h, if_neg (by omega), if_neg (by omega)]; exact hr
theorem tcW_n {d k o : Int} (h : ¬ (okL w d k o ∧ w (12 + 4 * d) < 12 ∧ w 6 < 60)) : tcW w d k o = w := by unfold tcW; rw [if_neg h]
theorem tcW_y {d k o : Int} (h : okL w d k o) (h2 : w (12 + 4 * d) < 12) (h3 : w 6 < 60) : tcW w d k o = tcU w d k o := by unfold tcW; rw [if_pos ⟨h, h2, h3⟩]
theorem act_tc {d k o i : Int} (d0 : 0 ≤ d) (d4 : d < 4) (m0 : 0 ≤ w (12 + 4 * d)) (m1 : w (12 + 4 * d) < 12) (n0 : 0 ≤ w 6) (h : act (tcU w d k o) i) : (((act w i ∨ i = 26 + 24 * d + 2 * w (12 + 4 * d)) ∨ i = 26 + 24 * d + 2 * w (12 + 4 * d) + 1) ∨ i = 12 + 4 * d) ∨ i = 166 + w 6 ∨ i = 6 := by
  unfold tcU at h
  have h := act_n6 (m := w 6) (by
    unfold uPd
    rw [if_neg (by omega), if_neg (by omega), if_neg (by omega), if_neg (by omega)]) rfl h
  rcases h with h | h
  · have h := act_in (by omega) (by omega) h
    have h := act_ls (m := w (12 + 4 * d)) d0 d4 (by
      unfold uPd
      rw [if_neg (by omega), if_neg (by omega)]) rfl h
    rcases h with h | h | h
    · exact Or.inl (Or.inl (Or.inl (Or.inl (act_in (by omega) (by omega) (act_in (by omega) (by omega) h)))))
    · exact Or.inl (Or.inl (Or.inl (Or.inr h)))
    · exact Or.inl (Or.inl (Or.inr h))
  · exact Or.inr (Or.inl h)
def utD (w : Int → Int) : Int := w (166 + (w 6 - 1))
noncomputable def utR (w : Int → Int) : Int := if w 7 ≤ 0 then -2 else if w 6 ≤ 0 then -5 else utD w
def utU (w : Int → Int) : Int → Int := uPd (uPd w 6 (w 6 - 1)) (12 + 4 * utD w) (w (12 + 4 * utD w) - 1)
noncomputable def utW (w : Int → Int) : Int → Int := if w 7 ≤ 0 then w else if w 6 ≤ 0 then w else utU w
theorem act_ut {i : Int} (d0 : 0 ≤ utD w) (d4 : utD w < 4) (h : act (utU w) i) : act w i := by
  have e : ∀ x : Int, utU w x = if x = 12 + 4 * utD w then w (12 + 4 * utD w) - 1 else if x = 6 then w 6 - 1 else w x := fun x => rfl
  refine act_le ?_ ?_ ?_ ?_ ?_ (fun d x0 x4 => ?_) h
  · rw [e, if_neg (by omega), if_neg (by omega)]; exact Int.le_refl _
  · rw [e, if_neg (by omega), if_neg (by omega)]; exact Int.le_refl _
  · rw [e, if_neg (by omega), if_neg (by omega)]; exact Int.le_refl _
  · rw [e, if_neg (by omega), if_neg (by omega)]; exact Int.le_refl _
  · rw [e, if_neg (by omega), if_pos rfl]; omega
  · rw [e]
    by_cases z : d = utD w
    · subst z; rw [if_pos rfl]; omega
    · rw [if_neg (by omega), if_neg (by omega)]; exact Int.le_refl _
end FUL
