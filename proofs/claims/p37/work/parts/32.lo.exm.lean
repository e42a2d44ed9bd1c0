/-! exams, and how many signs -/
section EXM
variable {w w' : Int → Int} {σ : SG} {k o : Int → Int} {W : List (Nat × Nat)}
def pcW (x : Nat) : Nat := x % 2 + x / 2 % 2 + x / 4 % 2 + x / 8 % 2 + x / 16 % 2 + x / 32 % 2 + x / 64 % 2 + x / 128 % 2 + x / 256 % 2 + x / 512 % 2 + x / 1024 % 2 + x / 2048 % 2 + x / 4096 % 2 + x / 8192 % 2 + x / 16384 % 2 + x / 32768 % 2
def pcI (a : Int) : Int := ((pcW a.toNat : Nat) : Int)
abbrev QW (e : Int32 → Int32) (i : Nat) : Prop := ∀ j : Fin 16, ∀ l : Fin 256, (e (Int32.ofInt ((((i * 16 + j.val) * 256 + l.val : Nat)) : Int))).toInt = ((pcW ((i * 16 + j.val) * 256 + l.val) : Nat) : Int)
theorem bits_wide {z a : Int32} (e : Int32 → Int32) (hz : z = e a) (h0 : QW e 0) (h1 : QW e 1) (h2 : QW e 2) (h3 : QW e 3) (h4 : QW e 4) (h5 : QW e 5) (h6 : QW e 6) (h7 : QW e 7) (h8 : QW e 8) (h9 : QW e 9) (h10 : QW e 10) (h11 : QW e 11) (h12 : QW e 12) (h13 : QW e 13) (h14 : QW e 14) (h15 : QW e 15) (b0 : 0 ≤ a.toInt) (b1 : a.toInt ≤ 65535) : z.toInt = pcI a.toInt := by
  have h : a = Int32.ofInt ((a.toInt.toNat : Nat) : Int) := ofNat_of (by omega)
  have q : ∀ k : Nat, k < 16 → QW e k := fun k hk => match k, hk with
    | 0, _ => h0
    | 1, _ => h1
    | 2, _ => h2
    | 3, _ => h3
    | 4, _ => h4
    | 5, _ => h5
    | 6, _ => h6
    | 7, _ => h7
    | 8, _ => h8
    | 9, _ => h9
    | 10, _ => h10
    | 11, _ => h11
    | 12, _ => h12
    | 13, _ => h13
    | 14, _ => h14
    | 15, _ => h15
    | k + 16, hk => absurd hk (by omega)
  have h2 := q (a.toInt.toNat / 4096) (by omega) ⟨a.toInt.toNat / 256 % 16, by omega⟩ ⟨a.toInt.toNat % 256, by omega⟩
  have d : (a.toInt.toNat / 4096 * 16 + a.toInt.toNat / 256 % 16) * 256 + a.toInt.toNat % 256 = a.toInt.toNat := by omega
  simp only [d] at h2
  rw [← h] at h2; rw [hz, h2]; rfl
theorem pcI_rng (a : Int) : 0 ≤ pcI a ∧ pcI a ≤ 16 := by unfold pcI pcW; omega
def pcT (x : Nat) : Nat → Nat
  | 0 => 0
  | n + 1 => pcT x n + (if x.testBit n = true then 1 else 0)
theorem tb_mod (x n : Nat) : (if x.testBit n = true then 1 else 0) = x / 2 ^ n % 2 := by
  rw [Nat.testBit_eq_decide_div_mod_eq]
  by_cases z : x / 2 ^ n % 2 = 1
  · rw [if_pos (decide_eq_true z), z]
  · rw [if_neg (fun q => z (of_decide_eq_true q))]
    have := Nat.mod_lt (x / 2 ^ n) (show 0 < 2 by decide)
    omega
theorem pcW_T (x : Nat) : pcW x = pcT x 16 := by
  unfold pcW
  simp only [pcT, tb_mod]
  simp
theorem pcT_or {x n : Nat} (h : x.testBit n = false) : ∀ m : Nat, pcT (x ||| 2 ^ n) m = pcT x m + (if n < m then 1 else 0) := by
  intro m
  induction m with
  | zero => rw [if_neg (by omega)]; rfl
  | succ m ih =>
    show pcT (x ||| 2 ^ n) m + (if (x ||| 2 ^ n).testBit m = true then 1 else 0) = pcT x m + (if x.testBit m = true then 1 else 0) + _
    rw [ih, Nat.testBit_or, Nat.testBit_two_pow]
    by_cases z : n = m
    · subst z
      rw [h, if_neg (by omega : ¬ n < n), if_pos (by omega : n < n + 1)]
      simp
    · by_cases l : n < m
      · rw [if_pos l, if_pos (by omega : n < m + 1)]
        simp [z]; omega
      · rw [if_neg l, if_neg (by omega : ¬ n < m + 1)]
        simp [z]
/-- the exams of a world -/
def exK (w : Int → Int) (i : Int) : Int := w (122 + 2 * i)
def exO (w : Int → Int) (i : Int) : Int := w (122 + 2 * i + 1)
theorem KN_ek {p kn : Nat} {n : Int} (H : KN σ p w (act w)) (hn : n = w 3) (n12 : n ≤ 12) (e : kn = p + 3) : ∀ i : Int, 0 ≤ i → i < n → ci σ kn i = exK w i := fun i i0 i1 => by
  have l := lc_e (m := i) i0 (by omega)
  have x : act w (122 + 2 * i) := Or.inr (Or.inr (Or.inr (Or.inl ⟨by omega, by omega, by omega⟩)))
  have k := H (122 + 2 * i) (by omega) (by omega) x
  rw [l.1, l.2.2.1] at k
  rw [e]; exact k
theorem KN_eo {p op : Nat} {n : Int} (H : KN σ p w (act w)) (hn : n = w 3) (n12 : n ≤ 12) (e : op = p + 4) : ∀ i : Int, 0 ≤ i → i < n → ci σ op i = exO w i := fun i i0 i1 => by
  have l := lc_e (m := i) i0 (by omega)
  have x : act w (122 + 2 * i + 1) := Or.inr (Or.inr (Or.inr (Or.inl ⟨by omega, by omega, by omega⟩)))
  have k := H (122 + 2 * i + 1) (by omega) (by omega) x
  rw [l.2.1, l.2.2.2] at k
  rw [e]; exact k
theorem N23_w (hσ : WT σ) : (0 ≤ wf σ 2 ∧ wf σ 2 ≤ 4) ∧ 0 ≤ wf σ 3 ∧ wf σ 3 ≤ 12 := ⟨wf_ty (l := 0) (u := 4) (i := 2) hσ 2 rfl (by decide +kernel) (by decide +kernel), wf_ty (l := 0) (u := 12) (i := 3) hσ 3 rfl (by decide +kernel) (by decide +kernel)⟩
/-- an exam is done right -/
def RIG (D : Int) (k o : Int → Int) (i : Int) : Prop := btI D (k i) = o i
theorem RIG_y {D i b c : Int} (hk : k i = b) (ho : o i = c) (e : btI D b = c) : RIG D k o i := by unfold RIG; rw [hk, ho]; exact e
theorem RIG_n {D i b c : Int} (hk : k i = b) (ho : o i = c) (e : btI D b ≠ c) : ¬ RIG D k o i := by unfold RIG; rw [hk, ho]; exact e
theorem RIG_cg {D D' i : Int} {k' o' : Int → Int} (hD : D' = D) (hk : k' i = k i) (ho : o' i = o i) : RIG D' k' o' i ↔ RIG D k o i := by unfold RIG; rw [hD, hk, ho]
noncomputable def wrN (w : Int → Int) (D : Int) : Int := FIR (fun i => ¬ RIG D (exK w) (exO w) i) (w 3).toNat
theorem wrN_of {D n r : Int} (hn : n = w 3) (hk : ∀ i : Int, 0 ≤ i → i < n → k i = exK w i) (ho : ∀ i : Int, 0 ≤ i → i < n → o i = exO w i) (e : r = FIR (fun i => ¬ RIG D k o i) n.toNat) : r = wrN w D := by
  subst hn
  unfold wrN
  rw [e]
  exact FIR_cg _ (fun i i0 i1 => not_congr (RIG_cg rfl (hk i i0 (by omega)) (ho i i0 (by omega))))
noncomputable def wrR (w : Int → Int) (d : Int) : Int := iR (0 ≤ d ∧ d < w 2) (wrN w (DDw w d))
theorem wrR_y {d D r : Int} (h : 0 ≤ d ∧ d < w 2) (hD : D = DDw w d) (e : r = wrN w D) : r = wrR w d := by subst hD; exact iR_y h e
theorem wrR_n {d r : Int} (h : ¬ (0 ≤ d ∧ d < w 2)) (e : r = -2) : r = wrR w d := iR_n h e
theorem wrR_cg {d d' : Int} (h : w' = w) (a : d' = d) : wrR w' d' = wrR w d := by subst h a; rfl
/-- marks -/
noncomputable def mkN (w : Int → Int) (D : Int) : Int := CNT (RIG D (exK w) (exO w)) (w 3).toNat
noncomputable def mkR (w : Int → Int) (d : Int) : Int := iR (0 ≤ d ∧ d < w 2) (mkN w (DDw w d))
theorem mkR_y {d D r : Int} (h : 0 ≤ d ∧ d < w 2) (hD : D = DDw w d) (e : r = mkN w D) : r = mkR w d := by subst hD; exact iR_y h e
theorem mkR_n {d r : Int} (h : ¬ (0 ≤ d ∧ d < w 2)) (e : r = -2) : r = mkR w d := iR_n h e
theorem mkR_cg {d d' : Int} (h : w' = w) (a : d' = d) : mkR w' d' = mkR w d := by subst h a; rfl
/-- the exams that are done right, as bits -/
noncomputable def AAS (P : Int → Prop) : Nat → Int
  | 0 => 0
  | n + 1 => @ite _ (P (n : Int)) (Classical.propDecidable _) (oN (AAS P n) (pI (n : Int))) (AAS P n)
theorem AAS_0 {P : Int → Prop} {x i : Int} (hx : x = 0) (hi : i = 0) : x = AAS P i.toNat := by subst hx hi; rfl
theorem AAS_y {P : Int → Prop} {x q X i I : Int} (i0 : 0 ≤ i) (h : x = AAS P i.toNat) (e : P i) (hq : q = pI i) (hX : X = oN x q) (hI : I = i + 1) : X = AAS P I.toNat := by
  rw [tn_s i0 hI]
  show _ = @ite _ (P ((i.toNat : Nat) : Int)) (Classical.propDecidable _) _ _
  rw [tn_c i0, if_pos e, ← h, ← hq]; exact hX
theorem AAS_n {P : Int → Prop} {x X i I : Int} (i0 : 0 ≤ i) (h : x = AAS P i.toNat) (e : ¬ P i) (hX : X = x) (hI : I = i + 1) : X = AAS P I.toNat := by
  rw [tn_s i0 hI]
  show _ = @ite _ (P ((i.toNat : Nat) : Int)) (Classical.propDecidable _) _ _
  rw [tn_c i0, if_neg e, ← h]; exact hX
theorem AAS_e {P : Int → Prop} {x i n X : Int} (h : x = AAS P i.toNat) (e : n = i) (hX : X = x) : X = AAS P n.toNat := by subst e hX; exact h
theorem AAS_cg {P Q : Int → Prop} : ∀ n : Nat, (∀ i : Int, 0 ≤ i → i < (n : Int) → (P i ↔ Q i)) → AAS P n = AAS Q n := by
  intro n
  induction n with
  | zero => intro _; rfl
  | succ n ih =>
    intro h
    have e := h (n : Int) (by omega) (by omega)
    show @ite _ (P (n : Int)) (Classical.propDecidable _) (oN (AAS P n) (pI (n : Int))) (AAS P n) = @ite _ (Q (n : Int)) (Classical.propDecidable _) (oN (AAS Q n) (pI (n : Int))) (AAS Q n)
    rw [ih (fun i i0 i1 => h i i0 (by omega))]
    by_cases z : Q (n : Int)
    · rw [if_pos z, if_pos (e.mpr z)]
    · rw [if_neg z, if_neg (fun q => z (e.mp q))]
theorem AAS_bit {P : Int → Prop} : ∀ n : Nat, 0 ≤ AAS P n ∧ (∀ j : Nat, (AAS P n).toNat.testBit j = true ↔ j < n ∧ P (j : Int)) := by
  intro n
  induction n with
  | zero =>
    refine ⟨Int.le_refl 0, fun j => ⟨fun h => ?_, fun h => by omega⟩⟩
    have h : (0 : Nat).testBit j = true := h
    rw [Nat.zero_testBit] at h
    cases h
  | succ n ih =>
    obtain ⟨a, b⟩ := ih
    by_cases z : P (n : Int)
    · have e : AAS P (n + 1) = oN (AAS P n) (pI (n : Int)) := if_pos z
      have en : (pI (n : Int)).toNat = 2 ^ n := by unfold pI; rw [Int.toNat_natCast, Int.toNat_natCast]
      rw [e]
      refine ⟨Int.natCast_nonneg _, fun j => ?_⟩
      unfold oN
      rw [Int.toNat_natCast, en, Nat.testBit_or, Bool.or_eq_true, b j, Nat.testBit_two_pow, decide_eq_true_eq]
      constructor
      · rintro (h | h)
        · exact ⟨by omega, h.2⟩
        · subst h; exact ⟨by omega, z⟩
      · intro h
        by_cases q : n = j
        · exact Or.inr q
        · exact Or.inl ⟨by omega, h.2⟩
    · have e : AAS P (n + 1) = AAS P n := if_neg z
      rw [e]
      refine ⟨a, fun j => ?_⟩
      rw [b j]
      constructor
      · intro h; exact ⟨by omega, h.2⟩
      · intro h
        by_cases q : n = j
        · subst q; exact absurd h.2 z
        · exact ⟨by omega, h.2⟩
theorem AAS_pc {P : Int → Prop} : ∀ n : Nat, n ≤ 16 → pcI (AAS P n) = CNT P n := by
  intro n
  induction n with
  | zero =>
    intro _
    have a0 : AAS P 0 = 0 := rfl
    have c0 : CNT P 0 = 0 := rfl
    rw [a0, c0]; decide
  | succ n ih =>
    intro h
    have q := ih (by omega)
    have b := AAS_bit (P := P) n
    by_cases z : P (n : Int)
    · have e : AAS P (n + 1) = oN (AAS P n) (pI (n : Int)) := if_pos z
      have c : CNT P (n + 1) = CNT P n + 1 := by
        show CNT P n + @ite _ (P (n : Int)) (Classical.propDecidable _) 1 0 = _
        rw [if_pos z]
      have en : (pI (n : Int)).toNat = 2 ^ n := by unfold pI; rw [Int.toNat_natCast, Int.toNat_natCast]
      have f : (AAS P n).toNat.testBit n = false := by
        cases y : (AAS P n).toNat.testBit n with
        | false => rfl
        | true => have := ((b.2 n).mp y).1; omega
      have g := pcT_or f 16
      rw [if_pos (by omega)] at g
      rw [e, c, ← q]
      unfold pcI oN
      rw [Int.toNat_natCast, en, pcW_T, pcW_T, g]
      omega
    · have e : AAS P (n + 1) = AAS P n := if_neg z
      have c : CNT P (n + 1) = CNT P n := by
        show CNT P n + @ite _ (P (n : Int)) (Classical.propDecidable _) 1 0 = _
        rw [if_neg z]; omega
      rw [e, c, q]
theorem mkN_of {D n x r : Int} (hn : n = w 3) (n16 : n ≤ 16) (hk : ∀ i : Int, 0 ≤ i → i < n → k i = exK w i) (ho : ∀ i : Int, 0 ≤ i → i < n → o i = exO w i) (hx : x = AAS (RIG D k o) n.toNat) (e : r = pcI x) : r = mkN w D := by
  subst hn
  unfold mkN
  rw [e, hx, AAS_pc _ (by omega)]
  exact CNT_cg _ (fun i i0 i1 => RIG_cg rfl (hk i i0 (by omega)) (ho i i0 (by omega)))
theorem mkN_0 {D : Int} : 0 ≤ mkN w D := by
  have : ∀ n : Nat, 0 ≤ CNT (RIG D (exK w) (exO w)) n := by
    intro n
    induction n with
    | zero => exact Int.le_refl 0
    | succ n ih =>
      show 0 ≤ CNT (RIG D (exK w) (exO w)) n + @ite _ (RIG D (exK w) (exO w) (n : Int)) (Classical.propDecidable _) 1 0
      split <;> omega
  exact this _
/-- whose marks are most -/
noncomputable def BST (w : Int → Int) : Nat → Int
  | 0 => -1
  | n + 1 => if BST w n = -1 ∨ mkN w (DDw w (BST w n)) < mkN w (DDw w (n : Int)) then (n : Int) else BST w n
def BSI (w : Int → Int) (f m i : Int) : Prop := f = BST w i.toNat ∧ (f = -1 → m = -1) ∧ (f ≠ -1 → m = mkN w (DDw w f))
theorem BSI_0 {f m i : Int} (hf : f = -1) (hm : m = -1) (hi : i = 0) : BSI w f m i := by subst hf hm hi; exact ⟨rfl, fun _ => rfl, fun h => absurd rfl h⟩
theorem BST_s {i I : Int} (i0 : 0 ≤ i) (hI : I = i + 1) : BST w I.toNat = if BST w i.toNat = -1 ∨ mkN w (DDw w (BST w i.toNat)) < mkN w (DDw w i) then i else BST w i.toNat := by
  rw [tn_s i0 hI]
  show (if BST w i.toNat = -1 ∨ mkN w (DDw w (BST w i.toNat)) < mkN w (DDw w ((i.toNat : Nat) : Int)) then ((i.toNat : Nat) : Int) else BST w i.toNat) = _
  rw [tn_c i0]
theorem BSI_y {f m i F M I x : Int} (H : BSI w f m i) (i0 : 0 ≤ i) (hx : x = mkN w (DDw w i)) (l : m < x) (hF : F = i) (hM : M = x) (hI : I = i + 1) : BSI w F M I := by
  subst hF hM
  refine ⟨?_, fun h => by omega, fun _ => hx⟩
  rw [BST_s i0 hI, if_pos]
  by_cases z : f = -1
  · exact Or.inl (H.1 ▸ z)
  · have := H.2.2 z
    exact Or.inr (by rw [← H.1]; omega)
theorem BSI_n {f m i F M I x : Int} (H : BSI w f m i) (i0 : 0 ≤ i) (hx : x = mkN w (DDw w i)) (l : ¬ m < x) (hF : F = f) (hM : M = m) (hI : I = i + 1) : BSI w F M I := by
  subst hF hM
  refine ⟨?_, H.2⟩
  have := mkN_0 (w := w) (D := DDw w i)
  rw [BST_s i0 hI, if_neg, H.1]
  rintro (h | h)
  · have := H.2.1 (H.1.trans h); omega
  · by_cases z : F = -1
    · have := H.2.1 z; omega
    · have := H.2.2 z
      rw [← H.1] at h; omega
noncomputable def bsR (w : Int → Int) : Int := iR (0 < w 7) (BST w (w 2).toNat)
theorem bsR_y {r n i : Int} (h : 0 < w 7) (hn : n = w 2) (hi : n.toNat = i.toNat) (e : r = BST w i.toNat) : r = bsR w := by subst hn; rw [← hi] at e; exact iR_y h e
theorem bsR_n {r : Int} (h : ¬ 0 < w 7) (e : r = -2) : r = bsR w := iR_n h e
theorem bsR_cg (h : w' = w) : bsR w' = bsR w := by subst h; rfl
theorem BST_1 {f i F I : Int} (H : f = BST w i.toNat) (i0 : 0 ≤ i) (z : f = -1) (hF : F = i) (hI : I = i + 1) : F = BST w I.toNat := by
  rw [BST_s i0 hI, if_pos (Or.inl (H ▸ z))]; exact hF
theorem BST_y {f i F I x y : Int} (H : f = BST w i.toNat) (i0 : 0 ≤ i) (hx : x = mkN w (DDw w i)) (hy : y = mkN w (DDw w f)) (l : y < x) (hF : F = i) (hI : I = i + 1) : F = BST w I.toNat := by
  rw [BST_s i0 hI, ← H, ← hx, ← hy, if_pos (Or.inr l)]; exact hF
theorem BST_n {f i F I x y : Int} (H : f = BST w i.toNat) (i0 : 0 ≤ i) (z : f ≠ -1) (hx : x = mkN w (DDw w i)) (hy : y = mkN w (DDw w f)) (l : ¬ y < x) (hF : F = f) (hI : I = i + 1) : F = BST w I.toNat := by
  rw [BST_s i0 hI, ← H, ← hx, ← hy, if_neg (by omega)]; exact hF
/-- to how many it opens -/
noncomputable def ofR (w : Int → Int) (d : Int) : Int := iR (0 ≤ d ∧ d < w 2) (pcI (DDw w d))
theorem ofR_y {d D r : Int} (h : 0 ≤ d ∧ d < w 2) (hD : D = DDw w d) (e : r = pcI D) : r = ofR w d := by subst hD; exact iR_y h e
theorem ofR_n {d r : Int} (h : ¬ (0 ≤ d ∧ d < w 2)) (e : r = -2) : r = ofR w d := iR_n h e
theorem ofR_cg {d d' : Int} (h : w' = w) (a : d' = d) : ofR w' d' = ofR w d := by subst h a; rfl
end EXM
