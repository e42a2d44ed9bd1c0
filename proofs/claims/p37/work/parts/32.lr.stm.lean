/-! storms -/
section STM
variable {w w' : Int → Int} {P : Int → Prop}
def STX (s : Int) : Nat → Int
  | 0 => s
  | n + 1 => (1103515245 * STX s n + 12345) % 2147483648
theorem STX_0 {s x i : Int} (hx : x = s) (hi : i = 0) : x = STX s i.toNat := by subst hx hi; rfl
theorem STX_s {s x X i I : Int} (i0 : 0 ≤ i) (h : x = STX s i.toNat) (hX : X = (1103515245 * x + 12345) % 2147483648) (hI : I = i + 1) : X = STX s I.toNat := by
  rw [tn_s i0 hI]
  show X = (1103515245 * STX s i.toNat + 12345) % 2147483648
  rw [← h]; exact hX
def STQ (s l i : Int) : Prop := STX s (i.toNat + 1) / 65536 % 100 < l
theorem STQ_y {s l i x q y : Int} (i0 : 0 ≤ i) (h : x = STX s (i + 1).toNat) (hq : q = x / 65536 % 100) (hl : l = y) (lt : q < y) : STQ s l i := by
  rw [tn_s i0 rfl] at h
  unfold STQ
  rw [← h]; omega
theorem STQ_n {s l i x q y : Int} (i0 : 0 ≤ i) (h : x = STX s (i + 1).toNat) (hq : q = x / 65536 % 100) (hl : l = y) (ge : y ≤ q) : ¬ STQ s l i := by
  rw [tn_s i0 rfl] at h
  unfold STQ
  rw [← h]; omega
theorem wf_ne {σ σ1 : SG} {x n : Nat} (h : ∀ b' i', (b' ≠ x ∨ i' ≠ n) → (σ1 b')[i']? = (σ b')[i']?) (hx : 160 ≠ x) : wf σ1 = wf σ := by
  funext i
  exact ci_ne h hx i
theorem xor_or2 {d a n : Nat} (h : a.testBit n = false) : (d ^^^ a) ^^^ 2 ^ n = d ^^^ (a ||| 2 ^ n) := by
  apply Nat.eq_of_testBit_eq
  intro j
  rw [Nat.testBit_xor, Nat.testBit_xor, Nat.testBit_xor, Nat.testBit_or, Nat.testBit_two_pow]
  by_cases z : n = j
  · subst z; rw [h]; simp
  · rw [decide_eq_false z]; cases d.testBit j <;> cases a.testBit j <;> rfl
theorem xas_0 {D x i : Int} (h : x = D) (D0 : 0 ≤ D) (hi : i = 0) : x = xN D (AAS P i.toNat) := by
  subst h hi
  show x = ((x.toNat ^^^ 0 : Nat) : Int)
  rw [Nat.xor_zero]; omega
theorem AAS_s {i I : Int} (i0 : 0 ≤ i) (hI : I = i + 1) : AAS P I.toNat = @ite _ (P i) (Classical.propDecidable _) (oN (AAS P i.toNat) (pI i)) (AAS P i.toNat) := by
  rw [tn_s i0 hI]
  show @ite _ (P ((i.toNat : Nat) : Int)) (Classical.propDecidable _) (oN (AAS P i.toNat) (pI ((i.toNat : Nat) : Int))) (AAS P i.toNat) = _
  rw [tn_c i0]
theorem xas_y {D x q X i I : Int} (i0 : 0 ≤ i) (h : x = xN D (AAS P i.toNat)) (e : P i) (hq : q = pI i) (hX : X = xN x q) (hI : I = i + 1) : X = xN D (AAS P I.toNat) := by
  have b := AAS_bit (P := P) i.toNat
  have f : (AAS P i.toNat).toNat.testBit i.toNat = false := by
    cases y : (AAS P i.toNat).toNat.testBit i.toNat with
    | false => rfl
    | true => have := ((b.2 i.toNat).mp y).1; omega
  rw [AAS_s i0 hI, if_pos e, hX, hq, h]
  unfold xN oN pI
  simp only [Int.toNat_natCast]
  rw [xor_or2 f]
theorem xas_n {D x X i I : Int} (i0 : 0 ≤ i) (h : x = xN D (AAS P i.toNat)) (e : ¬ P i) (hX : X = x) (hI : I = i + 1) : X = xN D (AAS P I.toNat) := by
  rw [AAS_s i0 hI, if_neg e, hX]; exact h
theorem xas_pc {D n : Int} (h : n ≤ 16) : pcI (xN (xN D (AAS P n.toNat)) D) = CNT P n.toNat := by
  have b := AAS_bit (P := P) n.toNat
  have e : xN (xN D (AAS P n.toNat)) D = AAS P n.toNat := by
    unfold xN
    rw [Int.toNat_natCast, Nat.xor_comm (D.toNat ^^^ (AAS P n.toNat).toNat) D.toNat, ← Nat.xor_assoc, Nat.xor_self, Nat.zero_xor]
    omega
  rw [e]; exact AAS_pc _ (by omega)
/-- what a door does in a storm -/
noncomputable def STD (w : Int → Int) (s d : Int) : Int := xN (DDw w d) (AAS (STQ s (w (11 + 4 * d))) (pI (w 0)).toNat)
noncomputable def STN (w : Int → Int) (s d : Int) : Int := CNT (STQ s (w (11 + 4 * d))) (pI (w 0)).toNat
theorem STD_of {s d D x i : Int} (hD : D = DDw w d) (hi : i = pI (w 0)) (h : x = xN D (AAS (STQ s (w (11 + 4 * d))) i.toNat)) : x = STD w s d := by subst hD hi; exact h
theorem STN_of {s d x i : Int} (hi : i = pI (w 0)) (h : x = CNT (STQ s (w (11 + 4 * d))) i.toNat) : x = STN w s d := by subst hi; exact h
abbrev smC (w : Int → Int) (s d q : Int) : Prop := 0 ≤ s ∧ s ≤ 2000000000 ∧ 0 ≤ d ∧ d < w 2 ∧ 0 ≤ q ∧ q ≤ 2
noncomputable def smR (w : Int → Int) (s d q : Int) : Int := iR (smC w s d q) (if q = 0 then STD w s d else if q = 1 then mkN w (STD w s d) else STN w s d)
theorem smR_0 {s d q r : Int} (c : smC w s d q) (hq : q = 0) (e : r = STD w s d) : r = smR w s d q := iR_y c (by rw [if_pos hq]; exact e)
theorem smR_1 {s d q r D : Int} (c : smC w s d q) (hq : q = 1) (hD : D = STD w s d) (e : r = mkN w D) : r = smR w s d q := by
  subst hD
  exact iR_y c (by rw [if_neg (by omega), if_pos hq]; exact e)
theorem smR_2 {s d q r D D2 z : Int} (c : smC w s d q) (hq : q = 2) (h4 : pI (w 0) ≤ 16) (hD : D = STD w s d) (h2 : D2 = DDw w d) (hz : z = xN D D2) (e : r = pcI z) : r = smR w s d q := by
  subst hD h2 hz
  refine iR_y c (by rw [if_neg (by omega), if_neg (by omega), e]; exact xas_pc h4)
theorem smR_n {s d q r : Int} (c : ¬ smC w s d q) (e : r = -2) : r = smR w s d q := iR_n c e
theorem smR_c {s d q r : Int} (c : smC w s d q) (hq : q = 2) (e : r = STN w s d) : r = smR w s d q := iR_y c (by rw [if_neg (by omega), if_neg (by omega)]; exact e)
theorem smR_cg {s s' d d' q q' : Int} (h : w' = w) (a : s' = s) (b : d' = d) (c : q' = q) : smR w' s' d' q' = smR w s d q := by subst h a b c; rfl
/-- years -/
def yrP (w : Int → Int) (s d m i : Int) : Prop := m ≤ mkN w (STD w (s + i) d)
theorem yrP_y {s d m i S D v : Int} (hS : S = s + i) (hD : D = STD w S d) (hv : v = mkN w D) (g : m ≤ v) : yrP w s d m i := by subst hS hD hv; exact g
theorem yrP_n {s d m i S D v : Int} (hS : S = s + i) (hD : D = STD w S d) (hv : v = mkN w D) (g : v < m) : ¬ yrP w s d m i := by
  subst hS hD hv
  intro q
  unfold yrP at q; omega
abbrev yrC (w : Int → Int) (s n d : Int) : Prop := 0 ≤ s ∧ s ≤ 2000000000 ∧ 1 ≤ n ∧ n ≤ 20 ∧ 0 ≤ d ∧ d < w 2
noncomputable def yrR (w : Int → Int) (s n d m : Int) : Int := iR (yrC w s n d) (CNT (yrP w s d m) n.toNat)
theorem yrR_y {s n d m r i : Int} (c : yrC w s n d) (hi : n.toNat = i.toNat) (e : r = CNT (yrP w s d m) i.toNat) : r = yrR w s n d m := by rw [← hi] at e; exact iR_y c e
theorem yrR_n {s n d m r : Int} (c : ¬ yrC w s n d) (e : r = -2) : r = yrR w s n d m := iR_n c e
theorem yrR_cg {s s' n n' d d' m m' : Int} (h : w' = w) (a : s' = s) (b : n' = n) (c : d' = d) (e : m' = m) : yrR w' s' n' d' m' = yrR w s n d m := by subst h a b c e; rfl
end STM
