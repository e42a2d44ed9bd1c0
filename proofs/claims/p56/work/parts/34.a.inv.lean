theorem INVc0 : INVc sg0 := ⟨18, 44, 0, by decide +kernel, by decide +kernel, by decide +kernel, by decide +kernel, by decide, by decide +kernel, by decide⟩
theorem row_ci {σ : SG} {a n : Nat} (h : σ a = List.replicate n (.int 0)) (i : Int) : ci σ a i = 0 := by
  unfold ci
  rw [h, List.getElem?_replicate]
  by_cases z : i.toNat < n
  · rw [if_pos z] <;> exact (by decide : (0 : Int32).toInt = 0)
  · rw [if_neg z] <;> rfl
theorem z160 (i : Fin 226) : ci sg0 160 (i.val : Int) = 0 := row_ci (n := 226) (lsQ_ok (by decide +kernel)) _
theorem z161 (i : Fin 678) : ci sg0 161 (i.val : Int) = 0 := row_ci (n := 678) (lsQ_ok (by decide +kernel)) _
theorem WINV_0 {f : Int → Int} (h : ∀ i : Int, 0 ≤ i → i < 226 → f i = 0) : WINV f := by
  have e (i : Int) (a : 0 ≤ i) (b : i < 226) := h i a b
  refine ⟨?_, ?_, ?_, fun d d0 d4 => ?_⟩
  · rw [e 5 (by omega) (by omega), e 7 (by omega) (by omega)]; omega
  · rw [e 6 (by omega) (by omega)]; omega
  · rw [e 6 (by omega) (by omega)]; omega
  · rw [e 6 (by omega) (by omega), e (12 + 4 * d) (by omega) (by omega)]; exact Int.le_refl 0
theorem FX00 : FXP sg0 18 := by
  refine ⟨by decide +kernel, by decide +kernel, by decide +kernel, by decide +kernel, by decide +kernel, by decide +kernel, by decide +kernel, by decide +kernel, by decide +kernel, fun d d4 => ?_⟩
  rcases (show d = 0 ∨ d = 1 ∨ d = 2 ∨ d = 3 by omega) with z | z | z | z <;> subst z <;> exact ⟨by decide +kernel, by decide +kernel, by decide +kernel, by decide +kernel⟩
theorem FX01 : FXP sg0 44 := by
  refine ⟨by decide +kernel, by decide +kernel, by decide +kernel, by decide +kernel, by decide +kernel, by decide +kernel, by decide +kernel, by decide +kernel, by decide +kernel, fun d d4 => ?_⟩
  rcases (show d = 0 ∨ d = 1 ∨ d = 2 ∨ d = 3 by omega) with z | z | z | z <;> subst z <;> exact ⟨by decide +kernel, by decide +kernel, by decide +kernel, by decide +kernel⟩
theorem RDL0 : RDL sg0 := ⟨0, by decide +kernel, by decide +kernel, fun i i0 i1 => by have : (0 : Int32).toInt = 0 := (by decide); omega, by decide +kernel, by decide +kernel, FX00, FX01⟩
theorem FLG0 : FLGs sg0 := fun k k0 k3 => by
  rcases (show k = 0 ∨ k = 1 ∨ k = 2 by omega) with z | z | z <;> subst z <;> decide +kernel
theorem im0_all : ∀ k : Fin 3, (sg0 70)[k.val]? = some (.ref (72 + 26 * k.val)) := by decide +kernel
theorem FX0i (a : Nat) (h : a = 72 ∨ a = 98 ∨ a = 124) : FXP sg0 a := by
  rcases h with h | h | h <;> subst h <;>
  · refine ⟨by decide +kernel, by decide +kernel, by decide +kernel, by decide +kernel, by decide +kernel, by decide +kernel, by decide +kernel, by decide +kernel, by decide +kernel, fun d d4 => ?_⟩
    rcases (show d = 0 ∨ d = 1 ∨ d = 2 ∨ d = 3 by omega) with z | z | z | z <;> subst z <;> exact ⟨by decide +kernel, by decide +kernel, by decide +kernel, by decide +kernel⟩
theorem IMX0 : IMX sg0 := fun k k3 => ⟨im0_all ⟨k, k3⟩, FX0i _ (by omega)⟩
theorem wf0 (i : Int) (a : 0 ≤ i) (b : i < 226) : wf sg0 i = 0 := by
  have := z160 ⟨i.toNat, by omega⟩
  simp only at this
  rw [show ((i.toNat : Nat) : Int) = i by omega] at this; exact this
theorem kn0_all : ∀ i : Fin 226, (i.val < 10 ∨ (154 ≤ i.val ∧ i.val < 166 ∧ i.val % 2 = 1)) → ci sg0 (18 + lcO (i.val : Int)) (lcB (i.val : Int)) = 0 := by decide +kernel
theorem fl0_all : ∀ k : Fin 3, ci sg0 71 (k.val : Int) = 0 := by decide +kernel
theorem FUL0 : FUL sg0 := by
  have w2 := wf0 2 (by omega) (by omega)
  have w3 := wf0 3 (by omega) (by omega)
  have w4 := wf0 4 (by omega) (by omega)
  have w5 := wf0 5 (by omega) (by omega)
  have w6 := wf0 6 (by omega) (by omega)
  refine ⟨RDL0, FLG0, IMX0, fun p hp => ?_, ⟨fun d d0 d1 _ _ => by omega, fun d d0 d1 _ => by omega⟩, fun j j0 j1 => by omega, fun k k3 z => absurd (fl0_all ⟨k, k3⟩) z⟩
  have h9 : (sg0 0)[9]? = some (.ref 18) := by decide +kernel
  rw [h9] at hp
  injection hp with hp
  injection hp with hp
  subst hp
  refine ⟨Or.inl rfl, fun i i0 i1 x => ?_⟩
  rw [wf0 i i0 i1]
  have k := kn0_all ⟨i.toNat, by omega⟩
  simp only at k
  rw [show ((i.toNat : Nat) : Int) = i by omega] at k
  refine k ?_
  unfold act at x
  rw [w2, w3, w4, w5, w6] at x
  omega
theorem LEA0 : LEA sg0 := by
  have w2 := wf0 2 (by omega) (by omega)
  have w7 := wf0 7 (by omega) (by omega)
  exact ⟨FUL0, fun z => by omega, fun z => by omega, fun k k3 z => absurd (fl0_all ⟨k, k3⟩) z⟩
theorem WI0 : WI sg0 := by
  refine ⟨WINV_0 (fun i a b => ?_), fun k k0 k3 => WINV_0 (fun i a b => ?_)⟩
  · have := z160 ⟨i.toNat, by omega⟩
    simp only at this
    rw [show ((i.toNat : Nat) : Int) = i by omega] at this; exact this
  · have := z161 ⟨(226 * k + i).toNat, by omega⟩
    simp only at this
    rw [show (((226 * k + i).toNat : Nat) : Int) = 226 * k + i by omega] at this; exact this

