/-! rules by what they do, and by what lessons say -/
section RUL
variable {w w' : Int → Int} {k o D : Int → Int} {σ : SG}
noncomputable def CNT (P : Int → Prop) : Nat → Int
  | 0 => 0
  | n + 1 => CNT P n + @ite _ (P (n : Int)) (Classical.propDecidable _) 1 0
theorem CNT_0 {P : Int → Prop} {x i : Int} (hx : x = 0) (hi : i = 0) : x = CNT P i.toNat := by subst hx hi; rfl
theorem CNT_y {P : Int → Prop} {x X i I : Int} (i0 : 0 ≤ i) (h : x = CNT P i.toNat) (e : P i) (hX : X = x + 1) (hI : I = i + 1) : X = CNT P I.toNat := by
  rw [tn_s i0 hI]
  show _ = CNT P i.toNat + @ite _ (P ((i.toNat : Nat) : Int)) (Classical.propDecidable _) 1 0
  rw [tn_c i0, if_pos e, ← h]; exact hX
theorem CNT_n {P : Int → Prop} {x X i I : Int} (i0 : 0 ≤ i) (h : x = CNT P i.toNat) (e : ¬ P i) (hX : X = x) (hI : I = i + 1) : X = CNT P I.toNat := by
  rw [tn_s i0 hI]
  show _ = CNT P i.toNat + @ite _ (P ((i.toNat : Nat) : Int)) (Classical.propDecidable _) 1 0
  rw [tn_c i0, if_neg e, ← h]; omega
theorem CNT_e {P : Int → Prop} {x i n X : Int} (h : x = CNT P i.toNat) (e : n.toNat = i.toNat) (hX : X = x) : X = CNT P n.toNat := by rw [e, hX]; exact h
theorem CNT_cg {P Q : Int → Prop} : ∀ n : Nat, (∀ i : Int, 0 ≤ i → i < (n : Int) → (P i ↔ Q i)) → CNT P n = CNT Q n := by
  intro n
  induction n with
  | zero => intro _; rfl
  | succ n ih =>
    intro h
    have e := h (n : Int) (by omega) (by omega)
    show CNT P n + @ite _ (P (n : Int)) (Classical.propDecidable _) 1 0 = CNT Q n + @ite _ (Q (n : Int)) (Classical.propDecidable _) 1 0
    rw [ih (fun i i0 i1 => h i i0 (by omega))]
    by_cases z : Q (n : Int)
    · rw [if_pos z, if_pos (e.mpr z)]
    · rw [if_neg z, if_neg (fun q => z (e.mp q))]
theorem CNT_ag {z n O S f : Int} (hD : ∀ i : Int, 0 ≤ i → i < z → 0 ≤ D i ∧ D i ≤ 65535) (n0 : 0 ≤ n) (hk : ∀ i : Int, 0 ≤ i → i < n → 0 ≤ k i ∧ k i ≤ 15) (ho : ∀ i : Int, 0 ≤ i → i < n → 0 ≤ o i ∧ o i ≤ 1) (hO : O = SAI k o 1 n.toNat) (hS : S = SAI k o 0 n.toNat) (h : f = CNT (fun i => AGP (D i) O S) z.toNat) : f = CNT (fun i => ASP (D i) k o n) z.toNat := by
  rw [h]
  refine CNT_cg z.toNat (fun i i0 i1 => ?_)
  rw [hO, hS]
  exact AG_AS (hD i i0 (by omega)).1 n0 (fun j j0 j1 => (hk j j0 j1).1) ho
/-- the rules that do as a door's own lessons say -/
def ruP (w : Int → Int) (d : Int) (i : Int) : Prop := ASP (ruD (pI (w 0)) i) (lkW w d) (loW w d) (w (12 + 4 * d))
noncomputable def fr1 (w : Int → Int) (d : Int) : Int := FIR (ruP w d) (nR (w 0)).toNat
theorem fr1_of {d n z r : Int} (e2 : w (12 + 4 * d) = n) (hz : z = nR (w 0)) (hk : ∀ i : Int, 0 ≤ i → i < n → k i = lkW w d i) (ho : ∀ i : Int, 0 ≤ i → i < n → o i = loW w d i) (hD : ∀ i : Int, 0 ≤ i → i < z → D i = ruD (pI (w 0)) i) (e : r = FIR (fun i => ASP (D i) k o n) z.toNat) : r = fr1 w d := by
  subst hz e2
  unfold fr1
  rw [e]
  exact FIR_cg _ (fun i i0 i1 => ASP_cg (hD i i0 (by omega)) rfl hk ho)
noncomputable def fc1 (w : Int → Int) (d : Int) : Int := CNT (ruP w d) (nR (w 0)).toNat
theorem fc1_of {d n z r : Int} (e2 : w (12 + 4 * d) = n) (hz : z = nR (w 0)) (hk : ∀ i : Int, 0 ≤ i → i < n → k i = lkW w d i) (ho : ∀ i : Int, 0 ≤ i → i < n → o i = loW w d i) (hD : ∀ i : Int, 0 ≤ i → i < z → D i = ruD (pI (w 0)) i) (e : r = CNT (fun i => ASP (D i) k o n) z.toNat) : r = fc1 w d := by
  subst hz e2
  unfold fc1
  rw [e]
  exact CNT_cg _ (fun i i0 i1 => ASP_cg (hD i i0 (by omega)) rfl hk ho)
noncomputable def fr2 (w : Int → Int) (a : Int) : Int := FIR (fun i => ruD (pI (w 0)) i = a) (nR (w 0)).toNat
theorem fr2_of {a z r : Int} (hz : z = nR (w 0)) (hD : ∀ i : Int, 0 ≤ i → i < z → D i = ruD (pI (w 0)) i) (e : r = FIR (fun i => D i = a) z.toNat) : r = fr2 w a := by
  subst hz
  unfold fr2
  rw [e]
  refine FIR_cg _ (fun i i0 i1 => ?_)
  show D i = a ↔ ruD (pI (w 0)) i = a
  rw [hD i i0 (by omega)]
theorem fr1_rg {d : Int} : -1 ≤ fr1 w d ∧ fr1 w d < nR (w 0) := by
  have := FIR_rg (P := ruP w d) (nR (w 0)).toNat
  have : 0 ≤ nR (w 0) := Int.natCast_nonneg _
  unfold fr1; omega
theorem fr2_rg {a : Int} : -1 ≤ fr2 w a ∧ fr2 w a < nR (w 0) := by
  have := FIR_rg (P := fun i => ruD (pI (w 0)) i = a) (nR (w 0)).toNat
  have : 0 ≤ nR (w 0) := Int.natCast_nonneg _
  unfold fr2; omega
/-- of the rule at a place -/
def pkR (K f q : Int) : Int := if f = -1 ∨ q = 2 then f else if q = 0 then ruM K f else ruV K f
theorem pkR_1 {K f q r : Int} (h : f = -1 ∨ q = 2) (e : r = f) : r = pkR K f q := by unfold pkR; rw [if_pos h]; exact e
theorem pkR_M {K f q r : Int} (h : f ≠ -1) (hq : q = 0) (e : r = ruM K f) : r = pkR K f q := by unfold pkR; rw [if_neg (by omega), if_pos hq]; exact e
theorem pkR_V {K f q r : Int} (h : f ≠ -1) (hq : q ≠ 0) (h2 : q ≠ 2) (e : r = ruV K f) : r = pkR K f q := by unfold pkR; rw [if_neg (by omega), if_neg hq]; exact e
noncomputable def ruR (w : Int → Int) (d q : Int) : Int := iR (0 ≤ d ∧ d < w 2 ∧ 0 ≤ q ∧ q ≤ 2) (pkR (pI (w 0)) (fr1 w d) q)
theorem ruR_y {d q r f : Int} (h : 0 ≤ d ∧ d < w 2 ∧ 0 ≤ q ∧ q ≤ 2) (hf : f = fr1 w d) (e : r = pkR (pI (w 0)) f q) : r = ruR w d q := by subst hf; exact iR_y h e
theorem ruR_n {d q r : Int} (h : ¬ (0 ≤ d ∧ d < w 2 ∧ 0 ≤ q ∧ q ≤ 2)) (e : r = -2) : r = ruR w d q := iR_n h e
theorem ruR_cg {d d' q q' : Int} (h : w' = w) (a : d' = d) (b : q' = q) : ruR w' d' q' = ruR w d q := by subst h a b; rfl
noncomputable def rsR (w : Int → Int) (d : Int) : Int := iR (0 ≤ d ∧ d < w 2) (fc1 w d)
theorem rsR_y {d r : Int} (h : 0 ≤ d ∧ d < w 2) (e : r = fc1 w d) : r = rsR w d := iR_y h e
theorem rsR_n {d r : Int} (h : ¬ (0 ≤ d ∧ d < w 2)) (e : r = -2) : r = rsR w d := iR_n h e
theorem rsR_cg {d d' : Int} (h : w' = w) (a : d' = d) : rsR w' d' = rsR w d := by subst h a; rfl
abbrev tdC (w : Int → Int) (a q : Int) : Prop := 0 < w 7 ∧ 0 ≤ a ∧ a < pI (pI (w 0)) ∧ 0 ≤ q ∧ q ≤ 1
noncomputable def tdR (w : Int → Int) (a q : Int) : Int := iR (tdC w a q) (pkR (pI (w 0)) (fr2 w a) q)
theorem tdR_y {a q r f : Int} (h : tdC w a q) (hf : f = fr2 w a) (e : r = pkR (pI (w 0)) f q) : r = tdR w a q := by subst hf; exact iR_y h e
theorem tdR_n {a q r : Int} (h : ¬ tdC w a q) (e : r = -2) : r = tdR w a q := iR_n h e
theorem tdR_cg {a a' q q' : Int} (h : w' = w) (ha : a' = a) (b : q' = q) : tdR w' a' q' = tdR w a q := by subst h ha b; rfl
theorem TB_MV {a b c : Nat} {K r i : Int} (H : TB σ a b c K r) (i0 : 0 ≤ i) (i1 : i < r) : ci σ a i = ruM K i ∧ ci σ b i = ruV K i := ⟨(H i i0 i1).1, (H i i0 i1).2.1⟩
end RUL
