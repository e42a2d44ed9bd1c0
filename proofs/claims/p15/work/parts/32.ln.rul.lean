/-! rules by what they do, and by what lessons say -/
section RUL
variable {w w' : Int → Int} {k o D : Int → Int} {σ : SG}
noncomputable def CNT (P : Int → Prop) : Nat → Int
  | 0 => 0
  | n + 1 => CNT P n + @ite _ (P (n : Int)) (Classical.propDecidable _) 1 0
theorem CNT_0 {P : Int → Prop} {x i : Int} (hx : x = 0) (hi : i = 0) : x = CNT P i.toNat := by subst hx hi; rfl
theorem CNT_y {P : Int → Prop} {x X i I : Int} (i0 : 0 ≤ i) (h : x = CNT P i.toNat) (e : P i) (hX : X = x + 1) (hI : I = i + 1) : X = CNT P I.toNat := by
  rw [tn_s i0 hI]
  show _ = CNT P i.toNat + @ite _ (P ((i.toNat : Nat) : Int)) (Classical.propDecidable _) 1 0
  rw [tn_c i0, if_pos e, ← h]; exact hX
theorem CNT_n {P : Int → Prop} {x X i I : Int} (i0 : 0 ≤ i) (h : x = CNT P i.toNat) (e : ¬ P i) (hX : X = x) (hI : I = i + 1) : X = CNT P I.toNat := by
  rw [tn_s i0 hI]
  show _ = CNT P i.toNat + @ite _ (P ((i.toNat : Nat) : Int)) (Classical.propDecidable _) 1 0
  rw [tn_c i0, if_neg e, ← h]; omega
theorem CNT_e {P : Int → Prop} {x i n X : Int} (h : x = CNT P i.toNat) (e : n.toNat = i.toNat) (hX : X = x) : X = CNT P n.toNat := by rw [e, hX]; exact h
theorem CNT_cg {P Q : Int → Prop} : ∀ n : Nat, (∀ i : Int, 0 ≤ i → i < (n : Int) → (P i ↔ Q i)) → CNT P n = CNT Q n := by
  intro n
  induction n with
  | zero => intro _; rfl
  | succ n ih =>
    intro h
    have e := h (n : Int) (by omega) (by omega)
    show CNT P n + @ite _ (P (n : Int)) (Classical.propDecidable _) 1 0 = CNT Q n + @ite _ (Q (n : Int)) (Classical.propDecidable _) 1 0
    rw [ih (fun i i0 i1 => h i i0 (by omega))]
    by_cases z : Q (n : Int)
    · rw [if_pos z, if_pos (e.mpr z)]
    · rw [if_neg z, if_neg (fun q => z (e.mp q))]
theorem CNT_ag {z n O S f : Int} (hD : ∀ i : Int, 0 ≤ i → i < z → 0 ≤ D i ∧ D i ≤ 65535) (n0 : 0 ≤ n) (hk : ∀ i : Int, 0 ≤ i → i < n → 0 ≤ k i ∧ k i ≤ 15) (ho : ∀ i : Int, 0 ≤ i → i < n → 0 ≤ o i ∧ o i ≤ 1) (hO : O = SAI k o 1 n.toNat) (hS : S = SAI k o 0 n.toNat) (h : f = CNT (fun i => AGP (D i) O S) z.toNat) : f = CNT (fun i => ASP (D i) k o n) z.toNat := by
  rw [h]
  refine CNT_cg z.toNat (fun i i0 i1 => ?_)
  rw [hO, hS]
  exact AG_AS (hD i i0 (by omega)).1 n0 (fun j j0 j1 => (hk j j0 j1).1) ho
/-- the rules that do as a door's own lessons say -/
def ruP (w : Int → Int) (d : Int) (i : Int) : Prop := ASP (ruD (pI (w 0)) i) (lkW w d) (loW w d) (w (12 + 4 * d))
noncomputable def fr1 (w : Int → Int) (d : Int) : Int := FIR (ruP w d) (nR (w 0)).toNat
noncomputable def fc1 (w : Int → Int) (d : Int) : Int := CNT (ruP w d) (nR (w 0)).toNat
theorem fc1_of {d n z r : Int} (e2 : w (12 + 4 * d) = n) (hz : z = nR (w 0)) (hk : ∀ i : Int, 0 ≤ i → i < n → k i = lkW w d i) (ho : ∀ i : Int, 0 ≤ i → i < n → o i = loW w d i) (hD : ∀ i : Int, 0 ≤ i → i < z → D i = ruD (pI (w 0)) i) (e : r = CNT (fun i => ASP (D i) k o n) z.toNat) : r = fc1 w d := by
  subst hz e2
  unfold fc1
  rw [e]
  exact CNT_cg _ (fun i i0 i1 => ASP_cg (hD i i0 (by omega)) rfl hk ho)
noncomputable def rsR (w : Int → Int) (d : Int) : Int := iR (0 ≤ d ∧ d < w 2) (fc1 w d)
theorem rsR_y {d r : Int} (h : 0 ≤ d ∧ d < w 2) (e : r = fc1 w d) : r = rsR w d := iR_y h e
theorem rsR_n {d r : Int} (h : ¬ (0 ≤ d ∧ d < w 2)) (e : r = -2) : r = rsR w d := iR_n h e
theorem rsR_cg {d d' : Int} (h : w' = w) (a : d' = d) : rsR w' d' = rsR w d := by subst h a; rfl
end RUL
