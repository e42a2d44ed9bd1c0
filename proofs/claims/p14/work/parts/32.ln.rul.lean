/-! rules by what they do, and by what lessons say -/
section RUL
variable {w w' : Int → Int} {k o D : Int → Int} {σ : SG}
noncomputable def CNT (P : Int → Prop) : Nat → Int
  | 0 => 0
  | n + 1 => CNT P n + @ite _ (P (n : Int)) (Classical.propDecidable _) 1 0
/-- the rules that do as a door's own lessons say -/
def ruP (w : Int → Int) (d : Int) (i : Int) : Prop := ASP (ruD (pI (w 0)) i) (lkW w d) (loW w d) (w (12 + 4 * d))
noncomputable def fr1 (w : Int → Int) (d : Int) : Int := FIR (ruP w d) (nR (w 0)).toNat
theorem fr1_of {d n z r : Int} (e2 : w (12 + 4 * d) = n) (hz : z = nR (w 0)) (hk : ∀ i : Int, 0 ≤ i → i < n → k i = lkW w d i) (ho : ∀ i : Int, 0 ≤ i → i < n → o i = loW w d i) (hD : ∀ i : Int, 0 ≤ i → i < z → D i = ruD (pI (w 0)) i) (e : r = FIR (fun i => ASP (D i) k o n) z.toNat) : r = fr1 w d := by
  subst hz e2
  unfold fr1
  rw [e]
  exact FIR_cg _ (fun i i0 i1 => ASP_cg (hD i i0 (by omega)) rfl hk ho)
theorem fr1_rg {d : Int} : -1 ≤ fr1 w d ∧ fr1 w d < nR (w 0) := by
  have := FIR_rg (P := ruP w d) (nR (w 0)).toNat
  have : 0 ≤ nR (w 0) := Int.natCast_nonneg _
  unfold fr1; omega
/-- of the rule at a place -/
def pkR (K f q : Int) : Int := if f = -1 ∨ q = 2 then f else if q = 0 then ruM K f else ruV K f
theorem pkR_1 {K f q r : Int} (h : f = -1 ∨ q = 2) (e : r = f) : r = pkR K f q := by unfold pkR; rw [if_pos h]; exact e
theorem pkR_M {K f q r : Int} (h : f ≠ -1) (hq : q = 0) (e : r = ruM K f) : r = pkR K f q := by unfold pkR; rw [if_neg (by omega), if_pos hq]; exact e
theorem pkR_V {K f q r : Int} (h : f ≠ -1) (hq : q ≠ 0) (h2 : q ≠ 2) (e : r = ruV K f) : r = pkR K f q := by unfold pkR; rw [if_neg (by omega), if_neg hq]; exact e
noncomputable def ruR (w : Int → Int) (d q : Int) : Int := iR (0 ≤ d ∧ d < w 2 ∧ 0 ≤ q ∧ q ≤ 2) (pkR (pI (w 0)) (fr1 w d) q)
theorem ruR_y {d q r f : Int} (h : 0 ≤ d ∧ d < w 2 ∧ 0 ≤ q ∧ q ≤ 2) (hf : f = fr1 w d) (e : r = pkR (pI (w 0)) f q) : r = ruR w d q := by subst hf; exact iR_y h e
theorem ruR_n {d q r : Int} (h : ¬ (0 ≤ d ∧ d < w 2 ∧ 0 ≤ q ∧ q ≤ 2)) (e : r = -2) : r = ruR w d q := iR_n h e
theorem ruR_cg {d d' q q' : Int} (h : w' = w) (a : d' = d) (b : q' = q) : ruR w' d' q' = ruR w d q := by subst h a b; rfl
theorem TB_MV {a b c : Nat} {K r i : Int} (H : TB σ a b c K r) (i0 : 0 ≤ i) (i1 : i < r) : ci σ a i = ruM K i ∧ ci σ b i = ruV K i := ⟨(H i i0 i1).1, (H i i0 i1).2.1⟩
end RUL
