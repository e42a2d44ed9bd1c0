section LAWA
variable {fr lo : Nat} {scr : AS} {F : MR} {P : PO} {pc pc' len tgt : Nat} {i : Instr} {lv lv' : ALv} {st st' r : List Value} {σ σ0 : SG} {W : List (Nat × Nat)}
theorem En_sld {L : Nat} {xs : Nat → Int32} {j : Int32} {J : Int} (hf : fc F pc = some (.iaload, len, tgt)) (hJ : j.toInt = J) (h0 : 0 ≤ J) (h1 : J < (L : Int)) (k : ∀ z : Int32, z = xs J.toNat → En fr lo (some (L, xs)) F P (pc + 1) lv (.int z :: r) σ) : En fr lo (some (L, xs)) F P pc lv (.int j :: .retAddr 0 :: r) σ := by
  have hj : (decide (¬ (j < 0 ∨ L ≤ j.toNatClampNeg))) = true := by
    rw [decide_eq_true_eq, toNat32 hJ]
    have := nonneg32 hJ h0
    intro z
    rcases z with z | z
    · exact this z
    · omega
  have hl : ldR (some (L, xs)) 1 0 0 (.int j :: .retAddr 0 :: r) (HP σ) = some (.int (xs j.toNatClampNeg), r) := by
    unfold ldR
    exact oB_mk rfl (oC_mk hj rfl)
  exact En_P1 hf rfl (oB_mk hl rfl) (k _ (by rw [toNat32 hJ]))
theorem law_L6 {L : Nat} (hL : L ≤ 3072) : (Int32.ofNat L - (Int8.ofInt 6).toInt32).toInt = (L : Int) - 6 :=
  subI (Int32.toInt_ofNat_of_lt (by omega)) (by decide) (by omega) (by omega)
end LAWA
