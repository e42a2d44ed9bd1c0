section XX
/-! other plans' signs stay -/
def OTH (a : Nat) (σ σ' : SG) : Prop := ∀ b : Nat, TG b = 18 → b ≠ a → (σ' b)[1]? = (σ b)[1]?
theorem OTH_0 {a : Nat} {σ : SG} : OTH a σ σ := fun _ _ _ => rfl
theorem OTH_tr {a : Nat} {σ σ' σ'' : SG} (h : OTH a σ σ') (h' : OTH a σ' σ'') : OTH a σ σ'' := fun b hb hn => (h' b hb hn).trans (h b hb hn)
theorem OTH_fr {a : Nat} {W : List (Nat × Nat)} {σ σ' σ'' : SG} (h : OTH a σ σ') (h' : Fr W σ' σ'') (hw : W.contains (18, SL 18 1) = false) : OTH a σ σ'' := fun b hb hn => (h' b 1 (inW hb hw)).trans (h b hb hn)
theorem OTH_pt {a : Nat} {σ σ' σ'' : SG} (h : OTH a σ σ') (h2 : ∀ b i, (b ≠ a ∨ i ≠ 1) → (σ'' b)[i]? = (σ' b)[i]?) : OTH a σ σ'' := fun b hb hn => (h2 b 1 (Or.inl hn)).trans (h b hb hn)
theorem OTH_pj {a c j : Nat} {σ σ' σ'' : SG} (h : OTH a σ σ') (h2 : ∀ b i, (b ≠ c ∨ i ≠ j) → (σ'' b)[i]? = (σ' b)[i]?) (hj : 1 ≠ j) : OTH a σ σ'' := fun b hb hn => (h2 b 1 (Or.inr hj)).trans (h b hb hn)
theorem OTH_pn {a c g j : Nat} {σ σ' σ'' : SG} (h : OTH a σ σ') (h2 : ∀ b i, (b ≠ c ∨ i ≠ j) → (σ'' b)[i]? = (σ' b)[i]?) (hc : TG c = g) (hg : 18 ≠ g) : OTH a σ σ'' := fun b hb hn => (h2 b 1 (Or.inl (neTG hb hc hg))).trans (h b hb hn)
/-- the school's plan and the one to read into -/
def INVc (σ : SG) : Prop := ∃ (p p2 : Nat) (sg : Int32), TG p = 18 ∧ TG p2 = 18 ∧ (σ 0)[9]? = some (.ref p) ∧ (σ 0)[10]? = some (.ref p2) ∧ p ≠ p2 ∧ (σ p)[1]? = some (.int sg) ∧ 0 ≤ sg.toInt
theorem INVc_fr {W : List (Nat × Nat)} {σ σ' : SG} (h : Fr W σ σ') (hw : (!W.contains (0, 9) && !W.contains (0, 10) && !W.contains (18, 1)) = true) (H : INVc σ) : INVc σ' := by
  simp only [Bool.and_eq_true, Bool.not_eq_true'] at hw
  obtain ⟨p, p2, sg, h1, h2, h3, h4, h5, h6, h7⟩ := H
  have k0 : KD 0 = 0 := by decide +kernel
  have k18 : KD 18 = 0 := by decide +kernel
  have t0 : TG 0 = 0 := by decide +kernel
  refine ⟨p, p2, sg, h1, h2, ?_, ?_, h5, ?_, h7⟩
  · rw [h 0 9 (inW t0 (by unfold SL; rw [if_pos k0]; exact hw.1.1))]; exact h3
  · rw [h 0 10 (inW t0 (by unfold SL; rw [if_pos k0]; exact hw.1.2))]; exact h4
  · rw [h p 1 (inW h1 (by unfold SL; rw [if_pos k18]; exact hw.2))]; exact h6
end XX
