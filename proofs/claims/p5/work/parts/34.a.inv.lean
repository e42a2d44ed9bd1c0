theorem INVc0 : INVc sg0 := ⟨18, 44, 0, by decide +kernel, by decide +kernel, by decide +kernel, by decide +kernel, by decide, by decide +kernel, by decide⟩
theorem z160 : ∀ i : Fin 226, ci sg0 160 (i.val : Int) = 0 := by decide +kernel
theorem z161 : ∀ i : Fin 678, ci sg0 161 (i.val : Int) = 0 := by decide +kernel
theorem WINV_0 {f : Int → Int} (h : ∀ i : Int, 0 ≤ i → i < 226 → f i = 0) : WINV f := by
  have e (i : Int) (a : 0 ≤ i) (b : i < 226) := h i a b
  refine ⟨?_, ?_, ?_, fun d d0 d4 => ?_⟩
  · rw [e 5 (by omega) (by omega), e 7 (by omega) (by omega)]; omega
  · rw [e 6 (by omega) (by omega)]; omega
  · rw [e 6 (by omega) (by omega)]; omega
  · rw [e 6 (by omega) (by omega), e (12 + 4 * d) (by omega) (by omega)]; exact Int.le_refl 0
theorem FX00 : FXP sg0 18 := by
  refine ⟨by decide +kernel, by decide +kernel, by decide +kernel, by decide +kernel, by decide +kernel, by decide +kernel, by decide +kernel, by decide +kernel, by decide +kernel, fun d d4 => ?_⟩
  rcases (show d = 0 ∨ d = 1 ∨ d = 2 ∨ d = 3 by omega) with z | z | z | z <;> subst z <;> exact ⟨by decide +kernel, by decide +kernel, by decide +kernel, by decide +kernel⟩
theorem FX01 : FXP sg0 44 := by
  refine ⟨by decide +kernel, by decide +kernel, by decide +kernel, by decide +kernel, by decide +kernel, by decide +kernel, by decide +kernel, by decide +kernel, by decide +kernel, fun d d4 => ?_⟩
  rcases (show d = 0 ∨ d = 1 ∨ d = 2 ∨ d = 3 by omega) with z | z | z | z <;> subst z <;> exact ⟨by decide +kernel, by decide +kernel, by decide +kernel, by decide +kernel⟩
theorem RDL0 : RDL sg0 := ⟨0, by decide +kernel, by decide +kernel, fun i i0 i1 => by have : (0 : Int32).toInt = 0 := (by decide); omega, by decide +kernel, by decide +kernel, FX00, FX01⟩
theorem WI0 : WI sg0 := by
  refine ⟨WINV_0 (fun i a b => ?_), fun k k0 k3 => WINV_0 (fun i a b => ?_)⟩
  · have := z160 ⟨i.toNat, by omega⟩
    simp only at this
    rw [show ((i.toNat : Nat) : Int) = i by omega] at this; exact this
  · have := z161 ⟨(226 * k + i).toNat, by omega⟩
    simp only at this
    rw [show (((226 * k + i).toNat : Nat) : Int) = 226 * k + i by omega] at this; exact this

