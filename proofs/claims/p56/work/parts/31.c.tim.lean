section TIMC
/-! small sets in the machine -/
def bI (x k : Int) : Int := if x.toNat.testBit k.toNat = true then 1 else 0
theorem bI_rng (x k : Int) : 0 ≤ bI x k ∧ bI x k ≤ 1 := by unfold bI; split <;> omega
theorem bI_t {x k r : Int} (h : r = bI x k) (hr : r ≠ 0) : x.toNat.testBit k.toNat = true := by
  unfold bI at h
  by_cases z : x.toNat.testBit k.toNat = true
  · exact z
  · rw [if_neg z] at h; omega
theorem bI_f {x k r : Int} (h : r = bI x k) (hr : r = 0) : x.toNat.testBit k.toNat = false := by
  unfold bI at h
  by_cases z : x.toNat.testBit k.toNat = true
  · rw [if_pos z] at h; omega
  · exact Bool.eq_false_iff.mpr z
theorem bit_all : ∀ x : Fin 64, ∀ k : Fin 8, (((Int32.ofInt (x.val : Int)) >>> ((Int32.ofInt (k.val : Int)) &&& 31)) &&& (Int32.ofInt 1)).toInt = if x.val.testBit k.val = true then 1 else 0 := by decide +kernel
theorem bit_small {z a b : Int32} (hz : z = (a >>> (b &&& 31)) &&& (Int32.ofInt 1)) (h0 : 0 ≤ a.toInt) (h1 : a.toInt ≤ 63) (h2 : 0 ≤ b.toInt) (h3 : b.toInt ≤ 7) : z.toInt = bI a.toInt b.toInt := by
  have ea : a = Int32.ofInt ((a.toInt.toNat : Nat) : Int) := ofNat_of (by omega)
  have eb : b = Int32.ofInt ((b.toInt.toNat : Nat) : Int) := ofNat_of (by omega)
  have c := bit_all ⟨a.toInt.toNat, by omega⟩ ⟨b.toInt.toNat, by omega⟩
  simp only at c; rw [← ea, ← eb, ← hz] at c; exact c
theorem or_all : ∀ x : Fin 64, ∀ c : Fin 6, ((Int32.ofInt (x.val : Int)) ||| ((Int32.ofInt 1) <<< ((Int32.ofInt (c.val : Int)) &&& 31))).toInt = ((x.val ||| 2 ^ c.val : Nat) : Int) ∧ x.val ||| 2 ^ c.val ≤ 63 := by decide +kernel
theorem or_small {z a b : Int32} {A B : Int} (hz : z = a ||| ((Int32.ofInt 1) <<< (b &&& 31))) (hA : a.toInt = A) (hB : b.toInt = B) (h0 : 0 ≤ A) (h1 : A ≤ 63) (h2 : 0 ≤ B) (h3 : B ≤ 5) : z.toInt = ((A.toNat ||| 2 ^ B.toNat : Nat) : Int) ∧ 0 ≤ z.toInt ∧ z.toInt ≤ 63 := by
  have ea : a = Int32.ofInt ((A.toNat : Nat) : Int) := ofNat_of (by omega)
  have eb : b = Int32.ofInt ((B.toNat : Nat) : Int) := ofNat_of (by omega)
  have c := or_all ⟨A.toNat, by omega⟩ ⟨B.toNat, by omega⟩
  simp only at c; rw [← ea, ← eb, ← hz] at c
  exact ⟨c.1, by omega, by omega⟩
theorem andn_all : ∀ x : Fin 64, ∀ c : Fin 6, x.val.testBit c.val = true → ((Int32.ofInt (x.val : Int)) &&& (((Int32.ofInt 1) <<< ((Int32.ofInt (c.val : Int)) &&& 31)) ^^^ (Int32.ofInt (-1)))).toInt = ((x.val - 2 ^ c.val : Nat) : Int) := by decide +kernel
theorem andn_small {z a b : Int32} {A B : Int} (hz : z = a &&& (((Int32.ofInt 1) <<< (b &&& 31)) ^^^ (Int32.ofInt (-1)))) (hA : a.toInt = A) (hB : b.toInt = B) (h0 : 0 ≤ A) (h1 : A ≤ 63) (h2 : 0 ≤ B) (h3 : B ≤ 5) (ht : A.toNat.testBit B.toNat = true) : z.toInt = ((A.toNat - 2 ^ B.toNat : Nat) : Int) := by
  have ea : a = Int32.ofInt ((A.toNat : Nat) : Int) := ofNat_of (by omega)
  have eb : b = Int32.ofInt ((B.toNat : Nat) : Int) := ofNat_of (by omega)
  have c := andn_all ⟨A.toNat, by omega⟩ ⟨B.toNat, by omega⟩ ht
  simp only at c; rw [← ea, ← eb, ← hz] at c; exact c
theorem st_all : ∀ N : Fin 7, ∀ f : Fin 7, f.val ≤ N.val → ((((Int32.ofInt 1) <<< ((Int32.ofInt (N.val : Int)) &&& 31)) - (Int32.ofInt 1)) &&& ((Int32.ofInt (thP f.val : Int)) ^^^ (Int32.ofInt (-1)))).toInt = ((2 ^ N.val - 2 ^ f.val : Nat) : Int) := by decide +kernel
theorem thP_63 : ∀ f : Fin 7, thP f.val ≤ 63 := by decide +kernel
theorem st_small {z n t : Int32} {N : Int} {f : Nat} (hz : z = (((Int32.ofInt 1) <<< (n &&& 31)) - (Int32.ofInt 1)) &&& (t ^^^ (Int32.ofInt (-1)))) (hN : n.toInt = N) (ht : t.toInt = (thP f : Int)) (h0 : (f : Int) ≤ N) (h1 : N ≤ 6) : z.toInt = ((2 ^ N.toNat - 2 ^ f : Nat) : Int) := by
  have ea : n = Int32.ofInt ((N.toNat : Nat) : Int) := ofNat_of (by omega)
  have eb : t = Int32.ofInt (thP f : Int) := by rw [← ht]; exact (Int32.ofInt_toInt t).symm
  have c := st_all ⟨N.toNat, by omega⟩ ⟨f, by omega⟩ (by simp only; omega)
  simp only at c; rw [← ea, ← eb, ← hz] at c; exact c
theorem m1_all : ∀ c : Fin 6, (((Int32.ofInt 1) <<< ((Int32.ofInt (c.val : Int)) &&& 31)) - (Int32.ofInt 1)).toInt = (thP c.val : Int) := by decide +kernel
theorem m1_small {z c : Int32} {N : Int} (hz : z = ((Int32.ofInt 1) <<< (c &&& 31)) - (Int32.ofInt 1)) (hN : c.toInt = N) (h0 : 0 ≤ N) (h1 : N ≤ 5) : z.toInt = (thP N.toNat : Int) ∧ 0 ≤ z.toInt ∧ z.toInt ≤ 63 := by
  have ea : c = Int32.ofInt ((N.toNat : Nat) : Int) := ofNat_of (by omega)
  have c' := m1_all ⟨N.toNat, by omega⟩
  have := thP_63 ⟨N.toNat, by omega⟩
  simp only at c' this; rw [← ea, ← hz] at c'
  exact ⟨c', by omega, by omega⟩
/-- the bits of a small set, in their order -/
def bl (m : Nat) : List Nat := (List.range 6).filter (fun k => m.testBit k)
def cnt (m c : Nat) : Nat := ((List.range c).filter (fun k => m.testBit k)).length
theorem bl_all : ∀ m : Fin 64, ∀ c : Fin 6, m.val.testBit c.val = true → (bl m.val)[cnt m.val c.val]? = some c.val ∧ (bl m.val).eraseIdx (cnt m.val c.val) = bl (m.val - 2 ^ c.val) := by decide +kernel
theorem bl_st : ∀ N : Fin 7, ∀ f : Fin 7, f.val ≤ N.val → bl (2 ^ N.val - 2 ^ f.val) = List.range' f.val (N.val - f.val) ∧ 2 ^ N.val - 2 ^ f.val ≤ 63 := by decide +kernel
theorem bl_sub : ∀ m : Fin 64, ∀ c : Fin 6, m.val.testBit c.val = true → ∀ k : Fin 6, (m.val - 2 ^ c.val).testBit k.val = true → m.val.testBit k.val = true ∧ k.val ≠ c.val := by decide +kernel
theorem bl_6 : ∀ m : Fin 64, cnt m.val 6 = (bl m.val).length := by decide +kernel
theorem cnt_s (m c : Nat) : cnt m (c + 1) = cnt m c + (if m.testBit c = true then 1 else 0) := by
  unfold cnt; rw [List.range_succ, List.filter_append, List.length_append]
  by_cases h : m.testBit c = true
  · rw [if_pos h]; simp [h]
  · rw [if_neg h]; simp [h]
theorem cnt_low {m : Nat} : ∀ c : Nat, (∀ k, k < c → m.testBit k = false) → cnt m c = 0 := by
  intro c
  induction c with
  | zero => intro _; rfl
  | succ c ih => intro h; rw [cnt_s, ih (fun k hk => h k (by omega)), h c (by omega)]; rfl
theorem bl_len {m : Nat} (h : m ≤ 63) (f n : Nat) (hn : (bl m).length = n) (hf : ∀ c, c < 6 → m.testBit c = true → f ≤ c) : cnt m f = 0 := by
  refine cnt_low f (fun k hk => ?_)
  by_cases z : m.testBit k = true
  · rcases Nat.lt_or_ge k 6 with q | q
    · have := hf k q z; omega
    · exact absurd z (by rw [Nat.testBit_lt_two_pow (Nat.lt_of_lt_of_le (by omega : m < 2 ^ 6) (Nat.pow_le_pow_right (by decide) q))]; intro e; cases e)
  · exact Bool.eq_false_iff.mpr z
/-! the world's numbers -/
theorem ci_rng {σ : SG} {a g : Nat} {J l u : Int} (hσ : WT σ) (ha : TG a = g) (hg : g < 900) (h0 : 0 ≤ J) (h1 : J < (LN g : Int)) (ht : FT g J.toNat = (0, l, u)) : l ≤ ci σ a J ∧ ci σ a J ≤ u := by
  obtain ⟨y, h, h2, h3⟩ := WT_peekJ hσ ha hg h0 h1 ht
  rw [ci_at h rfl]; exact ⟨h2, h3⟩
def tkN (σ : SG) (c : Nat) : Nat := if c < 6 then (ci σ 160 (154 + 2 * (c : Int))).toNat else 0
def ahN (σ : SG) (c : Nat) : Nat := (ci σ 160 (155 + 2 * (c : Int))).toNat
def fxN (σ : SG) (c : Nat) : Nat := if c < 6 then (ci σ 175 (c : Int)).toNat else 0
theorem tk_ci {σ : SG} (hσ : WT σ) {a : Int} (h0 : 0 ≤ a) (h1 : a ≤ 5) : (tkN σ a.toNat : Int) = ci σ 160 (154 + 2 * a) ∧ 0 ≤ ci σ 160 (154 + 2 * a) ∧ ci σ 160 (154 + 2 * a) ≤ 9 := by
  have h := ci_rng (J := 154 + 2 * a) (l := 0) (u := 9) hσ tgz_160 (by decide) (by omega) (lnI (by decide +kernel : LN _ = 226) (by omega)) (FTrow 36 154 2 6 (by decide +kernel) (by omega) (by omega) (by omega))
  refine ⟨?_, h.1, h.2⟩
  unfold tkN
  rw [if_pos (by omega), show ((a.toNat : Nat) : Int) = a by omega]
  omega
theorem tk9 {σ : SG} (hσ : WT σ) (c : Nat) : tkN σ c ≤ 9 := by
  by_cases z : c < 6
  · have := tk_ci hσ (a := c) (by omega) (by omega)
    rw [Int.toNat_natCast] at this; omega
  · unfold tkN; rw [if_neg z]; omega
theorem ah_ci {σ : SG} (hσ : WT σ) {a : Int} (h0 : 0 ≤ a) (h1 : a ≤ 5) : (ahN σ a.toNat : Int) = ci σ 160 (155 + 2 * a) ∧ 0 ≤ ci σ 160 (155 + 2 * a) ∧ ci σ 160 (155 + 2 * a) ≤ 63 := by
  have h := ci_rng (J := 155 + 2 * a) (l := 0) (u := 63) hσ tgz_160 (by decide) (by omega) (lnI (by decide +kernel : LN _ = 226) (by omega)) (FTrow 36 155 2 6 (by decide +kernel) (by omega) (by omega) (by omega))
  refine ⟨?_, h.1, h.2⟩
  unfold ahN
  rw [show ((a.toNat : Nat) : Int) = a by omega]
  omega
theorem fx_ci {σ : SG} (hσ : WT σ) {a : Int} (h0 : 0 ≤ a) (h1 : a ≤ 5) : (fxN σ a.toNat : Int) = ci σ 175 a ∧ 0 ≤ ci σ 175 a ∧ ci σ 175 a ≤ 54 := by
  have h := ci_rng (J := a) (l := 0) (u := 54) hσ tgz_175 (by decide) (by omega) (lnI (by decide +kernel : LN _ = 6) (by omega)) (FTsgl (by decide +kernel))
  refine ⟨?_, h.1, h.2⟩
  unfold fxN
  rw [if_pos (by omega), show ((a.toNat : Nat) : Int) = a by omega]
  omega
theorem fx54 {σ : SG} (hσ : WT σ) (c : Nat) : fxN σ c ≤ 54 := by
  by_cases z : c < 6
  · have := fx_ci hσ (a := c) (by omega) (by omega)
    rw [Int.toNat_natCast] at this; omega
  · unfold fxN; rw [if_neg z]; omega
theorem n6 {σ : SG} (hσ : WT σ) : 0 ≤ ci σ 160 5 ∧ ci σ 160 5 ≤ 6 := ci_rng hσ tgz_160 (by decide) (by omega) (lnI (by decide +kernel : LN _ = 226) (by omega)) (by decide +kernel)
theorem t3 {σ : SG} (hσ : WT σ) : 0 ≤ ci σ 160 1 ∧ ci σ 160 1 ≤ 3 := ci_rng hσ tgz_160 (by decide) (by omega) (lnI (by decide +kernel : LN _ = 226) (by omega)) (by decide +kernel)
theorem bg_rng {σ : SG} (hσ : WT σ) {a : Int} (h0 : 0 ≤ a) (h1 : a ≤ 5) : 0 ≤ ci σ 173 a ∧ ci σ 173 a ≤ 111 := ci_rng hσ tgz_173 (by decide) h0 (lnI (by decide +kernel : LN _ = 6) (by omega)) (FTsgl (by decide +kernel))
/-- the same world -/
def SWd (σ σ' : SG) : Prop := ∀ i, ci σ' 160 i = ci σ 160 i
def SXd (σ σ' : SG) : Prop := ∀ i, ci σ' 175 i = ci σ 175 i
theorem SWd_fr {W : List (Nat × Nat)} {σ σ' : SG} (h : Fr W σ σ') (hw : (decide (KD 36 ≠ 0) && !W.contains (36, 0)) = true) : SWd σ σ' := fun i => ci_fr h tgz_160 hw i
theorem SXd_fr {W : List (Nat × Nat)} {σ σ' : SG} (h : Fr W σ σ') (hw : (decide (KD 51 ≠ 0) && !W.contains (51, 0)) = true) : SXd σ σ' := fun i => ci_fr h tgz_175 hw i
theorem SWd_tk {σ σ' : SG} (h : SWd σ σ') : tkN σ' = tkN σ := by funext c; unfold tkN; rw [h]
theorem SWd_ah {σ σ' : SG} (h : SWd σ σ') : ahN σ' = ahN σ := by funext c; unfold ahN; rw [h]
theorem SXd_fx {σ σ' : SG} (h : SXd σ σ') : fxN σ' = fxN σ := by funext c; unfold fxN; rw [h]
/-! isFree -/
def FRr (σ : SG) (c T : Int) (u : Nat) : Prop := ∀ h : Nat, u ≤ h → h < u + tkN σ c.toNat → ci σ 174 h < T
def FREEs (σ : SG) (a b c r : Int) : Prop := (r = 1 ∧ FRr σ b c a.toNat) ∨ (r = 0 ∧ ¬ FRr σ b c a.toNat)
def FRL (σ : SG) (a T h : Int) : Prop := ∀ x : Nat, a.toNat ≤ x → x < h.toNat → ci σ 174 x < T
theorem FRL_0 {σ : SG} {a T h : Int} (e : h = a) : FRL σ a T h := fun x h1 h2 => absurd h1 (by omega)
theorem FRL_s {σ : SG} {a T h h' : Int} {z : Int32} (H : FRL σ a T h) (hz : (σ 174)[h.toNat]? = some (.int z)) (hT : z.toInt < T) (h0 : 0 ≤ h) (e : h' = h + 1) : FRL σ a T h' := by
  intro x h1 h2
  by_cases q : x < h.toNat
  · exact H x h1 q
  · rw [ci_at hz (by omega : (x : Int) = h)]; exact hT
theorem FR_no {σ : SG} {a b c T h r : Int} {z : Int32} (hσ : WT σ) (hz : (σ 174)[h.toNat]? = some (.int z)) (hT : T ≤ z.toInt) (h0 : 0 ≤ a) (h1 : a ≤ h) (hr : h < a + r) (E : r = ci σ 160 (154 + 2 * b)) (b0 : 0 ≤ b) (b5 : b ≤ 5) (e : c = 0) : FREEs σ a b T c := by
  refine Or.inr ⟨e, fun H => ?_⟩
  have := tk_ci hσ b0 b5
  have := H h.toNat (by omega) (by omega)
  rw [ci_at hz (by omega : ((h.toNat : Nat) : Int) = h)] at this
  omega
theorem FR_yes {σ : SG} {a b c T h r : Int} (hσ : WT σ) (H : FRL σ a T h) (h0 : 0 ≤ a) (hr : a + r ≤ h) (E : r = ci σ 160 (154 + 2 * b)) (b0 : 0 ≤ b) (b5 : b ≤ 5) (e : c = 1) : FREEs σ a b T c := by
  have := tk_ci hσ b0 b5
  exact Or.inl ⟨e, fun x h1 h2 => H x h1 (by omega)⟩
/-! put -/
def HB (σ : SG) : Prop := ∀ x : Nat, x < 120 → 0 ≤ ci σ 174 x ∧ ci σ 174 x ≤ 100
def PUTL (σ0 σ : SG) (a b h : Int) : Prop := (∀ x : Nat, x < 120 → ci σ 174 x = ci σ0 174 x + (if b.toNat ≤ x ∧ x < h.toNat then 1 else 0)) ∧ ci σ 173 a = b ∧ ∀ x : Int, 0 ≤ x → x ≠ a → ci σ 173 x = ci σ0 173 x
theorem PUTL_0 {σ0 σ' : SG} {a b h : Int} {y : Int32} (h1 : (σ' 173)[a.toNat]? = some (.int y)) (h2 : ∀ q i, (q ≠ 173 ∨ i ≠ a.toNat) → (σ' q)[i]? = (σ0 q)[i]?) (ha : 0 ≤ a) (hb : y.toInt = b) (e : h = b) : PUTL σ0 σ' a b h := by
  refine ⟨fun x hx => ?_, ?_, fun x h0 hx => ?_⟩
  · rw [ci_ne h2 (by decide), if_neg (by omega), Int.add_zero]
  · rw [ci_at h1 rfl]; exact hb
  · rw [ci_st h1 h2 ha x h0, if_neg hx]
theorem PUTL_b {σ0 σ : SG} {a b h : Int} {z : Int32} (hB : HB σ0) (H : PUTL σ0 σ a b h) (hz : (σ 174)[h.toNat]? = some (.int z)) (h0 : 0 ≤ h) (h1 : h < 120) : 0 ≤ z.toInt ∧ z.toInt ≤ 100 := by
  have e := H.1 h.toNat (by omega)
  have b := hB h.toNat (by omega)
  rw [ci_at hz (by omega : ((h.toNat : Nat) : Int) = h), if_neg (by omega)] at e
  omega
theorem PUTL_s {σ0 σ σ' : SG} {a b h h' : Int} {y z : Int32} (H : PUTL σ0 σ a b h) (hz : (σ 174)[h.toNat]? = some (.int z)) (h1 : (σ' 174)[h.toNat]? = some (.int y)) (h2 : ∀ q i, (q ≠ 174 ∨ i ≠ h.toNat) → (σ' q)[i]? = (σ q)[i]?) (hy : y.toInt = z.toInt + 1) (h0 : 0 ≤ b) (hb : b ≤ h) (e : h' = h + 1) : PUTL σ0 σ' a b h' := by
  refine ⟨fun x hx => ?_, ?_, fun x x0 hx => ?_⟩
  · have := H.1 x hx
    rw [ci_st h1 h2 (by omega) x (by omega)]
    by_cases q : (x : Int) = h
    · rw [if_pos q, if_pos (by omega)]
      rw [ci_at hz q, if_neg (by omega)] at this
      omega
    · rw [if_neg q, this]
      by_cases w : b.toNat ≤ x ∧ x < h.toNat
      · rw [if_pos w, if_pos (by omega)]
      · rw [if_neg w, if_neg (by omega)]
  · rw [ci_ne h2 (by decide)]; exact H.2.1
  · rw [ci_ne h2 (by decide)]; exact H.2.2 x x0 hx
theorem PUTL_x {σ0 σ : SG} {a b h r : Int} (hσ0 : WT σ0) (H : PUTL σ0 σ a b h) (hr : b + r ≤ h) (hl : h ≤ b + r) (hF : SWd σ0 σ) (E : r = ci σ 160 (154 + 2 * a)) (a0 : 0 ≤ a) (a5 : a ≤ 5) : PUTL σ0 σ a b (b + (tkN σ0 a.toNat : Int)) := by
  have := tk_ci hσ0 a0 a5
  rw [hF] at E
  rw [show b + (tkN σ0 a.toNat : Int) = h by omega]; exact H
/-! afterAll -/
def bgN (σ : SG) (c : Nat) : Nat := (ci σ 173 (c : Int)).toNat
def AFL (σ : SG) (c th x hour : Int) : Prop := (∀ a, a < x.toNat → (ahN σ c.toNat).testBit a = true → th.toNat.testBit a = true ∧ bgN σ a + tkN σ a ≤ hour.toNat) ∧ (hour = 0 ∨ ∃ a, a < x.toNat ∧ (ahN σ c.toNat).testBit a = true ∧ hour.toNat = bgN σ a + tkN σ a)
def AFTs (σ : SG) (c th r : Int) : Prop := (r = -1 ∧ ¬ Rdy (ahN σ) th.toNat c.toNat) ∨ (0 ≤ r ∧ Rdy (ahN σ) th.toNat c.toNat ∧ Aft (tkN σ) (ahN σ) (bgN σ) c.toNat r.toNat)
theorem AFL_0 {σ : SG} {c th x hour : Int} (h0 : x = 0) (h1 : hour = 0) : AFL σ c th x hour := ⟨fun a ha => absurd ha (by omega), Or.inl h1⟩
theorem ah_w {σ : SG} {c j : Int} {w : Int32} (hσ : WT σ) (hz : (σ 160)[j.toNat]? = some (.int w)) (hj : j = 155 + 2 * c) (c0 : 0 ≤ c) (c5 : c ≤ 5) : ahN σ c.toNat = w.toInt.toNat := by
  have := ah_ci hσ c0 c5
  rw [ci_at hz hj.symm] at this; omega
theorem AFL_n {σ : SG} {c th x hour j r x' : Int} {w : Int32} (hσ : WT σ) (H : AFL σ c th x hour) (hz : (σ 160)[j.toNat]? = some (.int w)) (hj : j = 155 + 2 * c) (E : r = bI w.toInt x) (hr : r = 0) (c0 : 0 ≤ c) (c5 : c ≤ 5) (x0 : 0 ≤ x) (e : x' = x + 1) : AFL σ c th x' hour := by
  have hb := bI_f E hr
  rw [← ah_w hσ hz hj c0 c5] at hb
  refine ⟨fun a ha hA => ?_, ?_⟩
  · by_cases q : a < x.toNat
    · exact H.1 a q hA
    · rw [show a = x.toNat by omega, hb] at hA; cases hA
  · rcases H.2 with z | ⟨a, z1, z2⟩
    · exact Or.inl z
    · exact Or.inr ⟨a, by omega, z2⟩
theorem AFL_y {σ : SG} {c th x hour j r r2 ov hour' x' : Int} {w : Int32} (hσ : WT σ) (H : AFL σ c th x hour) (hz : (σ 160)[j.toNat]? = some (.int w)) (hj : j = 155 + 2 * c) (E : r = bI w.toInt x) (hr : r ≠ 0) (E2 : r2 = bI th x) (hr2 : r2 ≠ 0) (E3 : ov = ci σ 173 x + ci σ 160 (154 + 2 * x)) (m1 : hour ≤ hour') (m2 : ov ≤ hour') (m3 : hour' = hour ∨ hour' = ov) (hh : 0 ≤ hour) (c0 : 0 ≤ c) (c5 : c ≤ 5) (x0 : 0 ≤ x) (x5 : x ≤ 5) (e : x' = x + 1) : AFL σ c th x' hour' := by
  have hb := bI_t E hr
  rw [← ah_w hσ hz hj c0 c5] at hb
  have hb2 := bI_t E2 hr2
  have t := tk_ci hσ x0 x5
  have g := bg_rng hσ x0 x5
  have eg : bgN σ x.toNat = (ci σ 173 x).toNat := by unfold bgN; rw [show ((x.toNat : Nat) : Int) = x by omega]
  refine ⟨fun a ha hA => ?_, ?_⟩
  · by_cases q : a < x.toNat
    · have := H.1 a q hA
      exact ⟨this.1, by omega⟩
    · have q2 : a = x.toNat := by omega
      subst q2
      exact ⟨hb2, by omega⟩
  · rcases m3 with z | z
    · rcases H.2 with w | ⟨a, w1, w2, w3⟩
      · exact Or.inl (by omega)
      · exact Or.inr ⟨a, by omega, w2, by omega⟩
    · exact Or.inr ⟨x.toNat, by omega, hb, by omega⟩
theorem AFT_no {σ : SG} {c th x j r r2 R : Int} {w : Int32} (hσ : WT σ) (hz : (σ 160)[j.toNat]? = some (.int w)) (hj : j = 155 + 2 * c) (E : r = bI w.toInt x) (hr : r ≠ 0) (E2 : r2 = bI th x) (hr2 : r2 = 0) (c0 : 0 ≤ c) (c5 : c ≤ 5) (x0 : 0 ≤ x) (xc : x < c) (e : R = -1) : AFTs σ c th R := by
  have hb := bI_t E hr
  rw [← ah_w hσ hz hj c0 c5] at hb
  have hb2 := bI_f E2 hr2
  refine Or.inl ⟨e, fun H => ?_⟩
  have := H x.toNat (by omega) hb
  rw [hb2] at this; cases this
theorem AFT_yes {σ : SG} {c th x hour : Int} (H : AFL σ c th x hour) (h0 : 0 ≤ hour) (hx : x = c) : AFTs σ c th hour := by
  subst hx
  exact Or.inr ⟨h0, fun a ha hb => (H.1 a ha hb).1, fun a ha hb => (H.1 a ha hb).2, by
    rcases H.2 with z | z
    · exact Or.inl (by omega)
    · exact Or.inr z⟩
/-! the first courses -/
def BZ (σ : SG) (bz : Nat → Nat) : Prop := ∀ x : Nat, x < 120 → ci σ 174 x = (bz x : Int)
def BG (σ : SG) (bg : Nat → Nat) (th : Nat) : Prop := ∀ a : Nat, a < 6 → th.testBit a = true → ci σ 173 a = (bg a : Int)
theorem BZ_put {σ σ' : SG} {bz : Nat → Nat} {c f : Int} {tk : Nat} (h : BZ σ bz) (H : PUTL σ σ' c f (f + (tk : Int))) (f0 : 0 ≤ f) : BZ σ' (addB bz f.toNat tk) := by
  intro x hx
  rw [H.1 x hx, h x hx]
  unfold addB
  by_cases q : f.toNat ≤ x ∧ x < f.toNat + tk
  · rw [if_pos q, if_pos (by omega)]; omega
  · rw [if_neg q, if_neg (by omega)]; omega
theorem BG_put {σ σ' : SG} {bg : Nat → Nat} {th : Nat} {c f k : Int} (h : BG σ bg th) (H : PUTL σ σ' c f k) (f0 : 0 ≤ f) (c0 : 0 ≤ c) : BG σ' (updN bg c.toNat f.toNat) (th ||| 2 ^ c.toNat) := by
  intro a ha hb
  unfold updN
  by_cases q : a = c.toNat
  · rw [if_pos q, show (a : Int) = c by omega, H.2.1]; omega
  · rw [if_neg q, H.2.2 a (by omega) (by omega)]
    rw [tb_or] at hb
    refine h a ha ?_
    rcases Bool.or_eq_true_iff.mp hb with z | z
    · exact z
    · exact absurd (of_decide_eq_true z).symm q
def CLR (σ : SG) (h : Int) : Prop := ∀ x : Nat, x < h.toNat → ci σ 174 x = 0
theorem CLR_0 {σ : SG} {h : Int} (e : h = 0) : CLR σ h := fun x hx => absurd hx (by omega)
theorem CLR_s {σ σ' : SG} {h h' : Int} {y : Int32} (H : CLR σ h) (h1 : (σ' 174)[h.toNat]? = some (.int y)) (h2 : ∀ q i, (q ≠ 174 ∨ i ≠ h.toNat) → (σ' q)[i]? = (σ q)[i]?) (hy : y.toInt = 0) (h0 : 0 ≤ h) (e : h' = h + 1) : CLR σ' h' := by
  intro x hx
  rw [ci_st h1 h2 h0 x (by omega)]
  by_cases q : (x : Int) = h
  · rw [if_pos q, hy]
  · rw [if_neg q]; exact H x (by omega)
def PRE0 (σ0 σ : SG) (fm c : Int) : Prop := 0 ≤ c ∧ c ≤ fm ∧ fm ≤ 6 ∧ BZ σ (bzP (tkN σ0) (fxN σ0) c.toNat) ∧ BG σ (bgP (fxN σ0) c.toNat) (thP c.toNat)
def PREF (σ0 σ : SG) (fm c th la : Int) : Prop := PRE0 σ0 σ fm c ∧ th = (thP c.toNat : Int) ∧ la = (laP (tkN σ0) (fxN σ0) c.toNat : Int)
theorem PRE0_0 {σ0 σ : SG} {fm c h : Int} (H : CLR σ h) (hh : 120 ≤ h) (f0 : 0 ≤ fm) (f6 : fm ≤ 6) (e : c = 0) : PRE0 σ0 σ fm c := by
  subst e
  exact ⟨by omega, f0, f6, fun x hx => H x (by omega), fun a _ hb => by
    have : thP (0 : Int).toNat = 0 := rfl
    rw [this, Nat.zero_testBit] at hb; cases hb⟩
theorem PREF_0 {σ0 σ : SG} {fm c th la h : Int} (H : CLR σ h) (hh : 120 ≤ h) (f0 : 0 ≤ fm) (f6 : fm ≤ 6) (e : c = 0) (e1 : th = 0) (e2 : la = 0) : PREF σ0 σ fm c th la := ⟨PRE0_0 H hh f0 f6 e, by subst e; exact e1, by subst e; exact e2⟩
theorem PRE0_HB {σ0 σ : SG} {fm c : Int} (H : PRE0 σ0 σ fm c) : HB σ := by
  obtain ⟨h0, h1, h2, h3, h4⟩ := H
  intro x hx
  have := bzP_le (tkN σ0) (fxN σ0) x c.toNat
  rw [h3 x hx]; omega
theorem PRE0_s {σ0 σ σ' : SG} {fm c f c' : Int} (hσ0 : WT σ0) (H : PRE0 σ0 σ fm c) (hw : SWd σ0 σ) (hx : SXd σ0 σ) (hc : c < fm) (hf : f = ci σ 175 c) (P : PUTL σ σ' c f (f + (tkN σ c.toNat : Int))) (e : c' = c + 1) : PRE0 σ0 σ' fm c' := by
  obtain ⟨h0, h1, h2, h3, h4⟩ := H
  rw [hx] at hf
  have fe := fx_ci hσ0 (a := c) h0 (by omega)
  rw [SWd_tk hw] at P
  rw [e]
  unfold PRE0
  rw [show (c + 1).toNat = c.toNat + 1 by omega]
  refine ⟨by omega, by omega, h2, ?_, ?_⟩
  · unfold bzP
    rw [show fxN σ0 c.toNat = f.toNat by omega]
    exact BZ_put h3 P (by omega)
  · unfold bgP thP
    rw [show fxN σ0 c.toNat = f.toNat by omega]
    exact BG_put h4 P (by omega) h0
theorem PREF_lin {σ0 σ : SG} {fm c th la : Int} (hσ0 : WT σ0) (H : PREF σ0 σ fm c th la) : 0 ≤ c ∧ c ≤ fm ∧ fm ≤ 6 ∧ 0 ≤ th ∧ th ≤ 63 ∧ 0 ≤ la ∧ la ≤ 63 ∧ (c = 0 → la = 0) := by
  obtain ⟨⟨h0, h1, h2, h3, h4⟩, h5, h6⟩ := H
  have := thP_63 ⟨c.toNat, by omega⟩
  have := laP_le (tk9 hσ0) c.toNat (fun a _ => fx54 hσ0 a)
  simp only at *
  refine ⟨h0, h1, h2, by omega, by omega, by omega, by omega, fun z => ?_⟩
  have := this.2 (by omega); omega
theorem PREF_s {σ0 σ σ' : SG} {fm c th la f c' th' la' ov : Int} (hσ0 : WT σ0) (H : PREF σ0 σ fm c th la) (hw : SWd σ0 σ) (hx : SXd σ0 σ) (hc : c < fm) (hf : f = ci σ 175 c) (P : PUTL σ σ' c f (f + (tkN σ c.toNat : Int))) (e : c' = c + 1) (et : th' = ((th.toNat ||| 2 ^ c.toNat : Nat) : Int)) (hw' : SWd σ0 σ') (eo : ov = ci σ' 173 c + ci σ' 160 (154 + 2 * c)) (m1 : la ≤ la') (m2 : ov ≤ la') (m3 : la' = la ∨ la' = ov) : PREF σ0 σ' fm c' th' la' := by
  refine ⟨PRE0_s hσ0 H.1 hw hx hc hf P e, ?_, ?_⟩
  · rw [et, H.2.1, e, Int.toNat_natCast, show (c + 1).toNat = c.toNat + 1 by have := H.1.1; omega]; rfl
  · have h0 := H.1.1
    have h1 := H.1.2.1
    have h2 := H.1.2.2.1
    have fe := fx_ci hσ0 (a := c) h0 (by omega)
    have te := tk_ci hσ0 (a := c) h0 (by omega)
    rw [P.2.1, hw'] at eo
    rw [hx] at hf
    have := H.2.2
    rw [e, show (c + 1).toNat = c.toNat + 1 by omega]
    unfold laP
    omega
end TIMC
