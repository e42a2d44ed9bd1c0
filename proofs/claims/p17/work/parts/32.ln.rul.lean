/-! rules by what they do, and by what lessons say -/
section RUL
variable {w w' : Int → Int} {k o D : Int → Int} {σ : SG}
noncomputable def CNT (P : Int → Prop) : Nat → Int
  | 0 => 0
  | n + 1 => CNT P n + @ite _ (P (n : Int)) (Classical.propDecidable _) 1 0
/-- the rules that do as a door's own lessons say -/
def ruP (w : Int → Int) (d : Int) (i : Int) : Prop := ASP (ruD (pI (w 0)) i) (lkW w d) (loW w d) (w (12 + 4 * d))
noncomputable def fr1 (w : Int → Int) (d : Int) : Int := FIR (ruP w d) (nR (w 0)).toNat
noncomputable def fr2 (w : Int → Int) (a : Int) : Int := FIR (fun i => ruD (pI (w 0)) i = a) (nR (w 0)).toNat
theorem fr2_of {a z r : Int} (hz : z = nR (w 0)) (hD : ∀ i : Int, 0 ≤ i → i < z → D i = ruD (pI (w 0)) i) (e : r = FIR (fun i => D i = a) z.toNat) : r = fr2 w a := by
  subst hz
  unfold fr2
  rw [e]
  refine FIR_cg _ (fun i i0 i1 => ?_)
  show D i = a ↔ ruD (pI (w 0)) i = a
  rw [hD i i0 (by omega)]
theorem fr2_rg {a : Int} : -1 ≤ fr2 w a ∧ fr2 w a < nR (w 0) := by
  have := FIR_rg (P := fun i => ruD (pI (w 0)) i = a) (nR (w 0)).toNat
  have : 0 ≤ nR (w 0) := Int.natCast_nonneg _
  unfold fr2; omega
/-- of the rule at a place -/
def pkR (K f q : Int) : Int := if f = -1 ∨ q = 2 then f else if q = 0 then ruM K f else ruV K f
theorem pkR_1 {K f q r : Int} (h : f = -1 ∨ q = 2) (e : r = f) : r = pkR K f q := by unfold pkR; rw [if_pos h]; exact e
theorem pkR_M {K f q r : Int} (h : f ≠ -1) (hq : q = 0) (e : r = ruM K f) : r = pkR K f q := by unfold pkR; rw [if_neg (by omega), if_pos hq]; exact e
theorem pkR_V {K f q r : Int} (h : f ≠ -1) (hq : q ≠ 0) (h2 : q ≠ 2) (e : r = ruV K f) : r = pkR K f q := by unfold pkR; rw [if_neg (by omega), if_neg hq]; exact e
abbrev tdC (w : Int → Int) (a q : Int) : Prop := 0 < w 7 ∧ 0 ≤ a ∧ a < pI (pI (w 0)) ∧ 0 ≤ q ∧ q ≤ 1
noncomputable def tdR (w : Int → Int) (a q : Int) : Int := iR (tdC w a q) (pkR (pI (w 0)) (fr2 w a) q)
theorem tdR_y {a q r f : Int} (h : tdC w a q) (hf : f = fr2 w a) (e : r = pkR (pI (w 0)) f q) : r = tdR w a q := by subst hf; exact iR_y h e
theorem tdR_n {a q r : Int} (h : ¬ tdC w a q) (e : r = -2) : r = tdR w a q := iR_n h e
theorem tdR_cg {a a' q q' : Int} (h : w' = w) (ha : a' = a) (b : q' = q) : tdR w' a' q' = tdR w a q := by subst h ha b; rfl
theorem TB_MV {a b c : Nat} {K r i : Int} (H : TB σ a b c K r) (i0 : 0 ≤ i) (i1 : i < r) : ci σ a i = ruM K i ∧ ci σ b i = ruV K i := ⟨(H i i0 i1).1, (H i i0 i1).2.1⟩
end RUL
