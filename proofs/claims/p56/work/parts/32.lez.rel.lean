/-! which images there are -/
def FLGs (σ : SG) : Prop := ∀ k : Int, 0 ≤ k → k < 3 → ci σ 71 k = ci σ 162 k
def BSET (σ0 σ : SG) (r : Nat) (a : Int) : Prop := ∀ k : Int, 0 ≤ k → k < 3 → ci σ r k = if k = a then 1 else ci σ0 r k
def SAMr (σ0 σ : SG) (r : Nat) : Prop := ∀ k : Int, ci σ r k = ci σ0 r k
theorem SAMr_0 {σ : SG} {r : Nat} : SAMr σ σ r := fun _ => rfl
theorem SAMr_st {σ0 σ σ' : SG} {r a n : Nat} (H : SAMr σ0 σ r) (h2 : ∀ b q, (b ≠ a ∨ q ≠ n) → (σ' b)[q]? = (σ b)[q]?) (h : r ≠ a) : SAMr σ0 σ' r := fun k => by rw [ci_ne h2 h]; exact H k
theorem BSET_no {σ0 σ : SG} {r : Nat} {a : Int} (H : SAMr σ0 σ r) (h : a < 0 ∨ 2 < a) : BSET σ0 σ r a := fun k k0 k3 => by rw [if_neg (by omega)]; exact H k
theorem BSET_st {σ0 σ σ' : SG} {r : Nat} {a : Int} {y : Int32} (H : SAMr σ0 σ r) (h1 : (σ' r)[a.toNat]? = some (.int y)) (h2 : ∀ b q, (b ≠ r ∨ q ≠ a.toNat) → (σ' b)[q]? = (σ b)[q]?) (hy : y.toInt = 1) (a0 : 0 ≤ a) : BSET σ0 σ' r a := fun k k0 k3 => by
  rw [ci_st h1 h2 a0 k k0]
  by_cases z : k = a
  · rw [if_pos z, if_pos z]; exact hy
  · rw [if_neg z, if_neg z]; exact H k
def BCK (f a r : Int) : Prop := (a < 0 ∨ 2 < a → r = -2) ∧ (0 ≤ a → a ≤ 2 → (f = 0 → r = -6) ∧ (f ≠ 0 → r = 0))
theorem FLG_fr {W W' : List (Nat × Nat)} {σ σ1 σ2 : SG} (H : FLGs σ) (h : Fr W σ σ1) (h' : Fr W' σ1 σ2) (hw : (decide (KD 30 ≠ 0) && !W.contains (30, 0)) = true) (hw2 : (decide (KD 38 ≠ 0) && !W.contains (38, 0)) = true) (hw' : (decide (KD 30 ≠ 0) && !W'.contains (30, 0)) = true) (hw2' : (decide (KD 38 ≠ 0) && !W'.contains (38, 0)) = true) : FLGs σ2 := fun k k0 k3 => by
  rw [ci_fr h' tgz_71 hw', ci_fr h tgz_71 hw, ci_fr h' tgz_162 hw2', ci_fr h tgz_162 hw2]
  exact H k k0 k3
theorem FLG_im {W W' : List (Nat × Nat)} {σ σ1 σ2 : SG} {a a' : Int} (H : FLGs σ) (h : Fr W σ σ1) (h' : Fr W' σ1 σ2) (hw2 : (decide (KD 38 ≠ 0) && !W.contains (38, 0)) = true) (hw' : (decide (KD 30 ≠ 0) && !W'.contains (30, 0)) = true) (B : BSET σ σ1 71 a) (B' : BSET σ1 σ2 162 a') (e : a' = a) : FLGs σ2 := fun k k0 k3 => by
  subst e
  rw [ci_fr h' tgz_71 hw', B k k0 k3, B' k k0 k3, ci_fr h tgz_162 hw2, H k k0 k3]
theorem BCK_eq {W : List (Nat × Nat)} {σ σ1 : SG} {a a' r r' : Int} (H : FLGs σ) (h : Fr W σ σ1) (hw2 : (decide (KD 38 ≠ 0) && !W.contains (38, 0)) = true) (B : BCK (ci σ 71 a) a r) (B' : BCK (ci σ1 162 a') a' r') (e : a' = a) : r' = r := by
  subst e
  rw [ci_fr h tgz_162 hw2] at B'
  obtain ⟨b1, b2⟩ := B
  obtain ⟨c1, c2⟩ := B'
  by_cases z : a' < 0 ∨ 2 < a'
  · rw [b1 z, c1 z]
  · obtain ⟨b3, b4⟩ := b2 (by omega) (by omega)
    obtain ⟨c3, c4⟩ := c2 (by omega) (by omega)
    have := H a' (by omega) (by omega)
    by_cases w : ci σ 71 a' = 0
    · rw [b3 w, c3 (by omega)]
    · rw [b4 w, c4 (by omega)]
theorem BCK_2 {f a r : Int} (h : a < 0 ∨ 2 < a) (hr : r = -2) : BCK f a r := ⟨fun _ => hr, fun a0 a2 => by omega⟩
theorem BCK_6 {f a r : Int} (a0 : 0 ≤ a) (a2 : a ≤ 2) (hf : f = 0) (hr : r = -6) : BCK f a r := ⟨fun z => by omega, fun _ _ => ⟨fun _ => hr, fun z => absurd hf z⟩⟩
theorem BCK_0 {f a r : Int} (a0 : 0 ≤ a) (a2 : a ≤ 2) (hf : f ≠ 0) (hr : r = 0) : BCK f a r := ⟨fun z => by omega, fun _ _ => ⟨fun z => absurd z hf, fun _ => hr⟩⟩

