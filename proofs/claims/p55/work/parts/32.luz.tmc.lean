/-! 32.luz.tmc -/
section
/-! the class's table of hours: cells, calls -/
section TMC
variable {σ σ0 σ1 σ2 σ3 σ4 : SG} {w : Int → Int} {W : List (Nat × Nat)} {te b c x y h fr r t v z so s : Int}
def tkW (w : Int → Int) (c : Nat) : Nat := if c < 6 then (w (154 + 2 * (c : Int))).toNat else 0
def ahW (w : Int → Int) (c : Nat) : Nat := (w (155 + 2 * (c : Int))).toNat
def bgC (σ : SG) (a : Nat) : Nat := (ci σ 16 (a : Int)).toNat
def bzC (σ : SG) (x : Nat) : Nat := if x < 54 then (ci σ 15 (x : Int)).toNat else 0
theorem tk_of (c0 : 0 ≤ c) (c6 : c < 6) (hv : w (154 + 2 * c) = v) : tkW w c.toNat = v.toNat := by
  unfold tkW
  rw [if_pos (by omega), show (154 + 2 * ((c.toNat : Nat) : Int)) = 154 + 2 * c by omega, hv]
theorem ah_of (c0 : 0 ≤ c) (hv : w (155 + 2 * c) = v) : ahW w c.toNat = v.toNat := by
  unfold ahW
  rw [show (155 + 2 * ((c.toNat : Nat) : Int)) = 155 + 2 * c by omega, hv]
theorem bgc_of (x0 : 0 ≤ x) (hv : ci σ 16 x = v) : bgC σ x.toNat = v.toNat := by
  unfold bgC
  rw [show ((x.toNat : Nat) : Int) = x by omega, hv]
theorem bzc_of (x0 : 0 ≤ x) (x54 : x < 54) (hv : ci σ 15 x = v) : bzC σ x.toNat = v.toNat := by
  unfold bzC
  rw [if_pos (by omega), show ((x.toNat : Nat) : Int) = x by omega, hv]
theorem btI_y (h0 : 0 ≤ v) (hr : r = btI v x) (h1 : r ≠ 0) : v.toNat.testBit x.toNat = true := by
  rw [btI_tb h0] at hr
  cases e : v.toNat.testBit x.toNat with
  | true => rfl
  | false => rw [e, if_neg (by decide)] at hr; exact absurd hr h1
theorem btI_n (h0 : 0 ≤ v) (hr : r = btI v x) (h1 : r ≠ 1) : v.toNat.testBit x.toNat = false := by
  rw [btI_tb h0] at hr
  cases e : v.toNat.testBit x.toNat with
  | true => rw [e, if_pos rfl] at hr; exact absurd hr h1
  | false => rfl
/-! when a course may begin -/
def AFW (w : Int → Int) (σ : SG) (c x h : Int) : Prop := 0 ≤ h ∧ (∀ a : Nat, a < x.toNat → (ahW w c.toNat).testBit a = true → bgC σ a + tkW w a ≤ h.toNat) ∧ (h.toNat = 0 ∨ ∃ a : Nat, a < x.toNat ∧ (ahW w c.toNat).testBit a = true ∧ h.toNat = bgC σ a + tkW w a)
theorem AFW_0 (e : h = 0) (ex : x = 0) : AFW w σ c x h := ⟨by omega, fun a ha => absurd ha (by omega), Or.inl (by omega)⟩
theorem AFW_n {x' : Int} (H : AFW w σ c x h) (c0 : 0 ≤ c) (x0 : 0 ≤ x) (hv : w (155 + 2 * c) = v) (v0 : 0 ≤ v) (hr : r = btI v x) (h1 : r ≠ 1) (e : x' = x + 1) : AFW w σ c x' h := by
  have nb := btI_n v0 hr h1
  rw [← ah_of c0 hv] at nb
  refine ⟨H.1, fun a ha hb => ?_, ?_⟩
  · by_cases q : a = x.toNat
    · rw [q, nb] at hb; exact absurd hb (by decide)
    · exact H.2.1 a (by omega) hb
  · rcases H.2.2 with q | ⟨a, a1, a2, a3⟩
    · exact Or.inl q
    · exact Or.inr ⟨a, by omega, a2, a3⟩
theorem AFW_y {x' h' bb : Int} (H : AFW w σ c x h) (c0 : 0 ≤ c) (x0 : 0 ≤ x) (x6 : x < 6) (hv : w (155 + 2 * c) = v) (v0 : 0 ≤ v) (hr : r = btI v x) (h1 : r = 1) (hb : ci σ 16 x = bb) (b0 : 0 ≤ bb) (ht : w (154 + 2 * x) = t) (t0 : 0 ≤ t) (m1 : h ≤ h') (m2 : bb + t ≤ h') (m3 : h' = h ∨ h' = bb + t) (e : x' = x + 1) : AFW w σ c x' h' := by
  have yb := btI_y v0 hr (by omega)
  rw [← ah_of c0 hv] at yb
  have e1 : bgC σ x.toNat + tkW w x.toNat = (bb + t).toNat := by rw [bgc_of x0 hb, tk_of x0 x6 ht]; omega
  have h0 := H.1
  refine ⟨by omega, fun a ha hb => ?_, ?_⟩
  · by_cases q : a = x.toNat
    · rw [q, e1]; omega
    · have := H.2.1 a (by omega) hb
      omega
  · rcases m3 with m3 | m3
    · rw [m3]
      rcases H.2.2 with q | ⟨a, a1, a2, a3⟩
      · exact Or.inl q
      · exact Or.inr ⟨a, by omega, a2, a3⟩
    · exact Or.inr ⟨x.toNat, by omega, yb, by rw [e1, m3]⟩
theorem AFW_x (H : AFW w σ c x h) (e : x = c) : Aft (tkW w) (ahW w) (bgC σ) c.toNat h.toNat := by subst e; exact ⟨H.2.1, H.2.2⟩
/-! the first hours that are free -/
def EAL (bz : Nat → Nat) (T d f H F : Nat) : Prop := f + F ≤ H ∧ F < d ∧ (∀ x, H ≤ x + F → x < H → bz x < T) ∧ (H = f + F ∨ ∃ y, f ≤ y ∧ y + F + 1 = H ∧ T ≤ bz y) ∧ ∀ u, f ≤ u → u + d ≤ H → ¬ frees bz T d u
theorem EAL_0 {bz : Nat → Nat} {T d f : Nat} (d1 : 1 ≤ d) : EAL bz T d f f 0 := ⟨by omega, by omega, fun x a b => by omega, Or.inl rfl, fun u a b => by omega⟩
theorem EAL_b {bz : Nat → Nat} {T d f H F : Nat} (E : EAL bz T d f H F) (h : T ≤ bz H) : EAL bz T d f (H + 1) 0 := by
  obtain ⟨e1, e2, e3, e4, e5⟩ := E
  refine ⟨by omega, by omega, fun x a b => by omega, Or.inr ⟨H, by omega, by omega, h⟩, fun u a b z => ?_⟩
  by_cases q : u + d ≤ H
  · exact e5 u a q z
  · have := z H (by omega) (by omega)
    omega
theorem EAL_f {bz : Nat → Nat} {T d f H F : Nat} (E : EAL bz T d f H F) (h : bz H < T) (hd : F + 1 < d) : EAL bz T d f (H + 1) (F + 1) := by
  obtain ⟨e1, e2, e3, e4, e5⟩ := E
  refine ⟨by omega, hd, fun x a b => ?_, ?_, fun u a b z => ?_⟩
  · by_cases q : x = H
    · rw [q]; exact h
    · exact e3 x (by omega) (by omega)
  · rcases e4 with q | ⟨y, y1, y2, y3⟩
    · exact Or.inl (by omega)
    · exact Or.inr ⟨y, y1, by omega, y3⟩
  · by_cases q : u + d ≤ H
    · exact e5 u a q z
    · rcases e4 with p | ⟨y, y1, y2, y3⟩
      · omega
      · have := z y (by omega) (by omega)
        omega
theorem EAL_y {bz : Nat → Nat} {T d f H F : Nat} (E : EAL bz T d f H F) (h : bz H < T) (hd : F + 1 = d) : First bz T d f (H + 1 - d) := by
  obtain ⟨e1, e2, e3, e4, e5⟩ := E
  refine ⟨by omega, fun x a b => ?_, fun u a b => e5 u a (by omega)⟩
  by_cases q : x = H
  · rw [q]; exact h
  · exact e3 x (by omega) (by omega)
theorem EAL_e {bz : Nat → Nat} {T d f H F : Nat} (E : EAL bz T d f H F) (h : 54 ≤ H) : ∀ t, First bz T d f t → 54 < t + d := fun t ht => by
  rcases Nat.lt_or_ge 54 (t + d) with q | q
  · exact q
  · exact absurd ht.2.1 (E.2.2.2.2 t ht.1 (by omega))
def EAI (w : Int → Int) (σ : SG) (c h fr : Int) : Prop := 0 ≤ fr ∧ 0 ≤ h ∧ ∃ f, Aft (tkW w) (ahW w) (bgC σ) c.toNat f ∧ EAL (bzC σ) (ci σ 14 3).toNat (tkW w c.toNat) f h.toNat fr.toNat
def EAR (w : Int → Int) (σ : SG) (c r : Int) : Prop := 0 ≤ r ∧ r ≤ 54 ∧ ∃ f, Aft (tkW w) (ahW w) (bgC σ) c.toNat f ∧ ((r.toNat + tkW w c.toNat ≤ 54 ∧ First (bzC σ) (ci σ 14 3).toNat (tkW w c.toNat) f r.toNat) ∨ (r = 54 ∧ ∀ t, First (bzC σ) (ci σ 14 3).toNat (tkW w c.toNat) f t → 54 < t + tkW w c.toNat))
theorem EAI_0 {q : Int} (A : Aft (tkW w) (ahW w) (bgC σ) c.toNat q.toNat) (q0 : 0 ≤ q) (c0 : 0 ≤ c) (c6 : c < 6) (d1 : 1 ≤ w (154 + 2 * c)) (e : h = q) (e2 : fr = 0) : EAI w σ c h fr := by
  subst e e2
  refine ⟨Int.le_refl 0, q0, h.toNat, A, EAL_0 ?_⟩
  rw [tk_of c0 c6 rfl]; omega
theorem EAI_b {h' fr' : Int} (H : EAI w σ c h fr) (h54 : h < 54) (hz : ci σ 15 h = z) (ht : ci σ 14 3 = t) (z0 : 0 ≤ z) (b : t ≤ z) (e : h' = h + 1) (e2 : fr' = 0) : EAI w σ c h' fr' := by
  obtain ⟨f0, h0, f, A, E⟩ := H
  subst e e2
  refine ⟨Int.le_refl 0, by omega, f, A, ?_⟩
  rw [show (h + 1).toNat = h.toNat + 1 by omega]
  exact EAL_b E (by rw [bzc_of h0 h54 hz, ht]; omega)
theorem EAI_f {h' fr' d : Int} (H : EAI w σ c h fr) (h54 : h < 54) (c0 : 0 ≤ c) (c6 : c < 6) (hz : ci σ 15 h = z) (ht : ci σ 14 3 = t) (z0 : 0 ≤ z) (b : z < t) (hd : w (154 + 2 * c) = d) (nd : fr + 1 ≠ d) (e : h' = h + 1) (e2 : fr' = fr + 1) : EAI w σ c h' fr' := by
  obtain ⟨f0, h0, f, A, E⟩ := H
  subst e e2
  refine ⟨by omega, by omega, f, A, ?_⟩
  rw [show (h + 1).toNat = h.toNat + 1 by omega, show (fr + 1).toNat = fr.toNat + 1 by omega]
  have e2 := E.2.1
  rw [tk_of c0 c6 hd] at e2
  exact EAL_f E (by rw [bzc_of h0 h54 hz, ht]; omega) (by rw [tk_of c0 c6 hd]; omega)
theorem EAI_y {d : Int} (H : EAI w σ c h fr) (h54 : h < 54) (c0 : 0 ≤ c) (c6 : c < 6) (hz : ci σ 15 h = z) (ht : ci σ 14 3 = t) (z0 : 0 ≤ z) (b : z < t) (hd : w (154 + 2 * c) = d) (nd : fr + 1 = d) (e : r = h + 1 - d) : EAR w σ c r := by
  obtain ⟨f0, h0, f, A, E⟩ := H
  have e1 := E.1
  refine ⟨by omega, by omega, f, A, Or.inl ⟨by rw [tk_of c0 c6 hd]; omega, ?_⟩⟩
  have k := EAL_y E (by rw [bzc_of h0 h54 hz, ht]; omega) (by rw [tk_of c0 c6 hd]; omega)
  rw [show r.toNat = h.toNat + 1 - tkW w c.toNat by rw [tk_of c0 c6 hd]; omega]
  exact k
theorem EAI_e (H : EAI w σ c h fr) (h54 : 54 ≤ h) (e : r = 54) : EAR w σ c r := by
  obtain ⟨f0, h0, f, A, E⟩ := H
  exact ⟨by omega, by omega, f, A, Or.inr ⟨e, EAL_e E (by omega)⟩⟩
/-! teachers at work -/
def BSB (σ : SG) (n : Int) : Prop := ∀ x : Nat, x < 54 → 0 ≤ ci σ 15 (x : Int) ∧ ci σ 15 (x : Int) ≤ n
def WRK (σ0 σ : SG) (a b c : Int) : Prop := ∀ x : Nat, x < 54 → ci σ 15 (x : Int) = ci σ0 15 (x : Int) + (if a ≤ (x : Int) ∧ (x : Int) < b then c else 0)
theorem WRK_0 {a : Int} (e : h = a) : WRK σ σ a h c := fun x _ => by rw [if_neg (by omega)]; omega
theorem WRK_z {a : Int} (H : WRK σ0 σ a h c) (B : BSB σ0 100) (h0 : 0 ≤ h) (h54 : h < 54) (hz : ci σ 15 h = z) : 0 ≤ z ∧ z ≤ 100 := by
  have e := H h.toNat (by omega)
  have q := B h.toNat (by omega)
  rw [show ((h.toNat : Nat) : Int) = h by omega, hz, if_neg (by omega)] at e
  rw [show ((h.toNat : Nat) : Int) = h by omega] at q
  omega
theorem WRK_s {a h' : Int} {y : Int32} (H : WRK σ0 σ a h c) (ah : a ≤ h) (h0 : 0 ≤ h) (hz : ci σ 15 h = z) (h1 : (σ1 15)[h.toNat]? = some (Value.int y)) (h2 : ∀ b' i', (b' ≠ 15 ∨ i' ≠ h.toNat) → (σ1 b')[i']? = (σ b')[i']?) (hy : y.toInt = z + c) (e : h' = h + 1) : WRK σ0 σ1 a h' c := fun x hx => by
  have k := H x hx
  rw [ci_st h1 h2 h0 (x : Int) (by omega)]
  by_cases q : (x : Int) = h
  · rw [if_pos q, if_pos (by omega), hy, ← hz]
    rw [q, if_neg (by omega)] at k
    rw [q, k]; omega
  · rw [if_neg q, k]
    by_cases p : a ≤ (x : Int) ∧ (x : Int) < h
    · rw [if_pos p, if_pos (by omega)]
    · rw [if_neg p, if_neg (by omega)]
theorem WRK_x {a : Int} (H : WRK σ0 σ a h c) (ah : a ≤ h) (hb : b ≤ h ∨ 54 ≤ h) (hh : h ≤ b ∨ h = a) : WRK σ0 σ a b c := fun x hx => by
  rw [H x hx]
  by_cases p : a ≤ (x : Int) ∧ (x : Int) < h
  · rw [if_pos p, if_pos (by omega)]
  · rw [if_neg p, if_neg (by omega)]
theorem BSB_v {n : Int} (B : BSB σ n) (h0 : 0 ≤ h) (h54 : h < 54) (hz : ci σ 15 h = z) : 0 ≤ z ∧ z ≤ n := by
  have q := B h.toNat (by omega)
  rw [show ((h.toNat : Nat) : Int) = h by omega, hz] at q
  exact q
theorem BSZ_b (H : BSZ σ) (h : BSS σ σ1) : BSZ σ1 := fun x hx => (h x hx).trans (H x hx)
theorem BSZ_B {n : Int} (H : BSZ σ) (h : 0 ≤ n) : BSB σ n := fun x hx => by rw [H x hx]; exact ⟨Int.le_refl 0, h⟩
theorem PF_cnt0 {a n : Int} (hb : b = 0) (ha : a = 0) : cnt b.toNat n.toNat = a.toNat := by
  subst hb ha
  exact cnt_low _ (fun k _ => Nat.zero_testBit k)
theorem PF_cnt {a a' th n : Int} (hn : cnt b.toNat n.toNat = a.toNat) (b0 : 0 ≤ b) (y0 : 0 ≤ y) (hr : r = btI b y) (h1 : r ≠ 1) (yn : y < n) (hth : th = ((b.toNat ||| 2 ^ y.toNat : Nat) : Int)) (ha : 0 ≤ a ∧ a' = a + 1) : cnt th.toNat n.toNat = a'.toNat := by
  rw [hth, Int.toNat_natCast, cnt_or (btI_n b0 hr h1), if_pos (by omega), hn]
  omega
/-! the search -/
def BGS (σ0 σ : SG) (b : Int) : Prop := ∀ a : Nat, a < 6 → b.toNat.testBit a = true → ci σ 16 (a : Int) = ci σ0 16 (a : Int)
def PFI (w : Int → Int) (te : Int) (σ0 σ : SG) (b c y so s : Int) : Prop := SRI (tkW w) (ahW w) (w 5).toNat te.toNat (bzC σ0) (bgC σ0) b.toNat c.toNat y.toNat so.toNat s.toNat ∧ BSS σ0 σ ∧ BGS σ0 σ b
def PFR (w : Int → Int) (te : Int) (σ0 σ : SG) (b c so s : Int) : Prop := SRC (tkW w) (ahW w) (w 5).toNat te.toNat (bzC σ0) (bgC σ0) b.toNat c.toNat so.toNat s.toNat ∧ BSS σ0 σ ∧ BGS σ0 σ b
theorem BGS_fr (h : Fr W σ σ1) (hw : (!W.contains (16, 0)) = true) : BGS σ σ1 b := fun a _ _ => ci_fr h tgz_16 (by rw [Bool.and_eq_true]; exact ⟨by decide +kernel, hw⟩) _
theorem bzC_e (h : BSS σ σ1) : bzC σ1 = bzC σ := by
  funext x
  unfold bzC
  by_cases q : x < 54
  · rw [if_pos q, if_pos q, h x q]
  · rw [if_neg q, if_neg q]
theorem BSB_e {n : Int} (B : BSB σ n) (h : BSS σ σ1) : BSB σ1 n := fun x hx => by rw [h x hx]; exact B x hx
theorem BSB_m {n m : Int} (B : BSB σ n) (h : n ≤ m) : BSB σ m := fun x hx => by have := B x hx; omega
theorem BSB_w {n m a : Int} (B : BSB σ n) (H : WRK σ σ1 a b 1) (h : n + 1 ≤ m) : BSB σ1 m := fun x hx => by
  have q := B x hx
  have k := H x hx
  by_cases p : a ≤ (x : Int) ∧ (x : Int) < b
  · rw [if_pos p] at k; omega
  · rw [if_neg p] at k; omega
theorem PFI_0 (e : y = 0) (es : s = so) : PFI w te σ σ b c y so s := by
  subst e es
  exact ⟨SRI_0, BSS_0, fun _ _ _ => rfl⟩
theorem PFR_end {a : Int} (hn : cnt b.toNat (w 5).toNat = a.toNat) (ha : w 5 ≤ a) (B : BSS σ σ1) (G : BGS σ σ1 b) (m1 : s ≤ so) (m2 : s ≤ c) (m3 : s = so ∨ s = c) : PFR w te σ σ1 b c so s := ⟨SRC_end (fun x hx => cnt_fl (by omega) x hx) (by omega), B, G⟩
theorem PFR_of {a : Int} (H : PFI w te σ0 σ b c y so s) (hn : cnt b.toNat (w 5).toNat = a.toNat) (ha : a < w 5) (a0 : 0 ≤ a) (e : w 5 = y) : PFR w te σ0 σ b c so s := by
  refine ⟨SRC_of ?_ (cnt_ex (by omega)), H.2⟩
  have k := H.1
  rw [← e] at k
  exact k
theorem PFI_b {y' : Int} (H : PFI w te σ0 σ b c y so s) (y0 : 0 ≤ y) (b0 : 0 ≤ b) (hr : r = btI b y) (h1 : r ≠ 0) (e : y' = y + 1) : PFI w te σ0 σ b c y' so s := by
  refine ⟨?_, H.2⟩
  rw [show y'.toNat = y.toNat + 1 by omega]
  exact SRI_bit H.1 (btI_y b0 hr h1)
theorem rdy_iff (y0 : 0 ≤ y) (hv : w (155 + 2 * y) = v) (v0 : 0 ≤ v) (vy : v < pI y) (b0 : 0 ≤ b) (hz : z = v - aN v b) : z = 0 ↔ Rdy (ahW w) b.toNat y.toNat := by
  rw [hz, sub_tb v0 b0]
  constructor
  · intro h a _ hb
    rw [ah_of y0 hv] at hb
    exact h a hb
  · intro h j hj
    have hj2 := hj
    rw [← ah_of y0 hv] at hj2
    refine h j ?_ hj2
    rcases Nat.lt_or_ge j y.toNat with q | q
    · exact q
    · have l : v.toNat < 2 ^ y.toNat := by unfold pI at vy; omega
      have l2 : (2 : Nat) ^ y.toNat ≤ 2 ^ j := Nat.pow_le_pow_right (by decide) q
      rw [Nat.testBit_lt_two_pow (by omega)] at hj
      exact absurd hj (by decide)
theorem PFI_n {y' : Int} (H : PFI w te σ0 σ b c y so s) (y0 : 0 ≤ y) (b0 : 0 ≤ b) (hv : w (155 + 2 * y) = v) (v0 : 0 ≤ v) (vy : v < pI y) (hz : z = v - aN v b) (h1 : z ≠ 0) (e : y' = y + 1) : PFI w te σ0 σ b c y' so s := by
  refine ⟨?_, H.2⟩
  rw [show y'.toNat = y.toNat + 1 by omega]
  exact SRI_nr H.1 (fun q => h1 ((rdy_iff y0 hv v0 vy b0 hz).mpr q))
theorem Aft_bg {tk ah bg bg' : Nat → Nat} {c f : Nat} (h : Aft tk ah bg c f) (e : ∀ a, a < c → (ah c).testBit a = true → bg a = bg' a) : Aft tk ah bg' c f := by
  refine ⟨fun a ha hb => ?_, ?_⟩
  · rw [← e a ha hb]; exact h.1 a ha hb
  · rcases h.2 with q | ⟨a, a1, a2, a3⟩
    · exact Or.inl q
    · exact Or.inr ⟨a, a1, a2, by rw [← e a a1 a2]; exact a3⟩
theorem BGS_bg (G : BGS σ0 σ b) (y6 : y < 6) (hr : Rdy (ahW w) b.toNat y.toNat) : ∀ a, a < y.toNat → (ahW w y.toNat).testBit a = true → bgC σ a = bgC σ0 a := fun a ha hb => by
  unfold bgC
  rw [G a (by omega) (hr a ha hb)]
theorem PFI_l {y' en d : Int} (H : PFI w te σ0 σ b c y so s) (E : EAR w σ y r) (ht : ci σ 14 3 = te) (y0 : 0 ≤ y) (y6 : y < 6) (hd : w (154 + 2 * y) = d) (d0 : 0 ≤ d) (hen : en = r + d) (s0 : 0 ≤ s) (hs : s < en ∨ 54 < en) (e : y' = y + 1) : PFI w te σ0 σ b c y' so s := by
  refine ⟨?_, H.2⟩
  rw [show y'.toNat = y.toNat + 1 by omega]
  refine SRI_lt H.1 (fun f t h1 h2 h3 => ?_)
  obtain ⟨r0, r54, f', A, E⟩ := E
  rw [ht, bzC_e H.2.1] at E
  have ef := Aft_uniq h2 A (fun a ha hb => (BGS_bg H.2.2 y6 h1 a ha hb).symm)
  subst ef
  rcases E with ⟨E1, E2⟩ | ⟨E1, E2⟩
  · have et := First_uniq h3 E2
    rw [et, tk_of y0 y6 hd]
    omega
  · exact Or.inr (E2 t h3)
theorem PFI_i {y' en d th la s' : Int} {q : Int32} (H : PFI w te σ0 σ b c y so s) (E : EAR w σ y r) (ht : ci σ 14 3 = te) (y0 : 0 ≤ y) (y6 : y < 6) (y5 : y < w 5) (hd : w (154 + 2 * y) = d) (d1 : 1 ≤ d) (hen : en = r + d) (en54 : en ≤ 54) (b0 : 0 ≤ b) (b63 : b ≤ 63) {rb : Int} (hrb : rb = btI b y) (rb0 : rb ≠ 1) (hv : w (155 + 2 * y) = v) (v0 : 0 ≤ v) (vy : v < pI y) (hz : z = v - aN v b) (z0 : z = 0) {n : Int} (B : BSB σ0 n)
    (q1 : (σ1 16)[y.toNat]? = some (Value.int q)) (q2 : ∀ b' i', (b' ≠ 16 ∨ i' ≠ y.toNat) → (σ1 b')[i']? = (σ b')[i']?) (hq : q.toInt = r) (W1 : WRK σ1 σ2 r en 1) (F1 : Fr W σ1 σ2) (w1 : (!W.contains (16, 0)) = true)
    (hth : th = ((b.toNat ||| 2 ^ y.toNat : Nat) : Int)) (hla : la = max c en) (c0 : 0 ≤ c) (K : PFR w te σ2 σ3 th la s s') (W2 : WRK σ3 σ4 r en (-1)) {W' : List (Nat × Nat)} (F2 : Fr W' σ3 σ4) (w2 : (!W'.contains (16, 0)) = true) (e : y' = y + 1) : PFI w te σ0 σ4 b c y' so s' := by
  obtain ⟨S, BS, G⟩ := H
  obtain ⟨KS, KB, KG⟩ := K
  obtain ⟨r0, r54, f, A, E⟩ := E
  have nb := btI_n b0 hrb rb0
  have rd := (rdy_iff y0 hv v0 vy b0 hz).mp z0
  have tk := tk_of y0 y6 hd
  have F : First (bzC σ0) te.toNat (tkW w y.toNat) f r.toNat := by
    rw [ht, bzC_e BS] at E
    rcases E with ⟨-, E2⟩ | ⟨E1, -⟩
    · exact E2
    · omega
  have A0 : Aft (tkW w) (ahW w) (bgC σ0) y.toNat f := Aft_bg A (BGS_bg G y6 rd)
  have e16 : ∀ a : Nat, ci σ2 16 (a : Int) = if a = y.toNat then r else ci σ 16 (a : Int) := fun a => by
    have h1 : ci σ2 16 (a : Int) = ci σ1 16 (a : Int) := ci_fr F1 tgz_16 (by rw [Bool.and_eq_true]; exact ⟨by decide +kernel, w1⟩) _
    rw [h1, ci_st q1 q2 y0 (a : Int) (by omega), hq]
    by_cases k : a = y.toNat
    · rw [if_pos k, if_pos (by omega)]
    · rw [if_neg k, if_neg (by omega)]
  have e15 : ∀ x : Nat, x < 54 → ci σ2 15 (x : Int) = ci σ0 15 (x : Int) + (if r ≤ (x : Int) ∧ (x : Int) < en then 1 else 0) := fun x hx => by
    rw [W1 x hx, ci_ne q2 (by decide) (x : Int), BS x hx]
  have thb : ∀ a : Nat, th.toNat.testBit a = true → a = y.toNat ∨ (a ≠ y.toNat ∧ b.toNat.testBit a = true) := fun a ha => by
    rw [hth, Int.toNat_natCast, tb_or] at ha
    by_cases k : a = y.toNat
    · exact Or.inl k
    · refine Or.inr ⟨k, ?_⟩
      rcases Bool.or_eq_true_iff.mp ha with p | p
      · exact p
      · exact absurd (of_decide_eq_true p).symm k
  have tht : ∀ a : Nat, b.toNat.testBit a = true → th.toNat.testBit a = true ∧ a ≠ y.toNat := fun a ha => by
    refine ⟨by rw [hth, Int.toNat_natCast, tb_or, ha]; rfl, fun k => ?_⟩
    rw [k, nb] at ha
    exact absurd ha (by decide)
  have bz : bzC σ2 = addB (bzC σ0) r.toNat (tkW w y.toNat) := by
    funext x
    unfold bzC addB
    rw [tk]
    show (if x < 54 then (ci σ2 15 (x : Int)).toNat else 0) = (if x < 54 then (ci σ0 15 (x : Int)).toNat else 0) + (if r.toNat ≤ x ∧ x < r.toNat + d.toNat then 1 else 0)
    by_cases k : x < 54
    · have b9 := (B x k).1
      rw [if_pos k, if_pos k, e15 x k]
      by_cases p : r ≤ (x : Int) ∧ (x : Int) < en
      · rw [if_pos p, if_pos (by omega)]; omega
      · rw [if_neg p, if_neg (by omega)]; omega
    · rw [if_neg k, if_neg k, if_neg (by omega), Nat.zero_add]
  have KS2 : SRC (tkW w) (ahW w) (w 5).toNat te.toNat (addB (bzC σ0) r.toNat (tkW w y.toNat)) (updN (bgC σ0) y.toNat r.toNat) (b.toNat ||| 2 ^ y.toNat) (max c.toNat (r.toNat + tkW w y.toNat)) s.toNat s'.toNat := by
    rw [bz] at KS
    have k := SRC_bg (bg' := updN (bgC σ0) y.toNat r.toNat) (fun a ha => by
      unfold bgC updN
      rw [e16 a]
      rcases thb a ha with p | ⟨p, p2⟩
      · rw [if_pos p, if_pos p]
      · rw [if_neg p, if_neg p]
        rcases Nat.lt_or_ge a 6 with a6 | a6
        · rw [G a a6 p2]
        · have l2 : (2 : Nat) ^ 6 ≤ 2 ^ a := Nat.pow_le_pow_right (by decide) a6
          rw [Nat.testBit_lt_two_pow (by omega)] at p2
          exact absurd p2 (by decide)) KS
    rw [hth, Int.toNat_natCast, show la.toNat = max c.toNat (r.toNat + tkW w y.toNat) by rw [tk]; omega] at k
    exact k
  refine ⟨?_, fun x hx => ?_, fun a a6 ha => ?_⟩
  · rw [show y'.toNat = y.toNat + 1 by omega]
    exact SRI_in S (by omega) nb rd A0 F KS2
  · have k1 := W2 x hx
    have k2 := KB x hx
    have k3 := e15 x hx
    by_cases p : r ≤ (x : Int) ∧ (x : Int) < en
    · rw [if_pos p] at k1 k3; omega
    · rw [if_neg p] at k1 k3; omega
  · obtain ⟨t1, t2⟩ := tht a ha
    rw [ci_fr F2 tgz_16 (by rw [Bool.and_eq_true]; exact ⟨by decide +kernel, w2⟩) (a : Int), KG a a6 t1, e16 a, if_neg t2, G a a6 ha]
def LSW (w : Int → Int) (T r : Int) : Prop := LEAST (tkW w) (ahW w) (fun _ => 0) (w 5).toNat T.toNat 0 r.toNat ∧ 0 ≤ r ∧ r ≤ 54
theorem LSW_uq {T r' : Int} (h : LSW w T r) (h' : LSW w T r') : r = r' := by
  have k := LEAST_uniq (Or.inl (by have := h.2.2; omega)) h.1 h'.1
  have := h.2.1
  have := h'.2.1
  omega
noncomputable def LSf (w : Int → Int) (T : Int) : Int := @dite _ (∃ r, LSW w T r) (Classical.propDecidable _) (fun h => Classical.choose h) (fun _ => 0)
theorem LSf_e {T : Int} (h : LSW w T r) : r = LSf w T := by
  have e : ∃ r, LSW w T r := ⟨r, h⟩
  unfold LSf
  rw [dif_pos e]
  exact LSW_uq h (Classical.choose_spec e)
noncomputable def hoR (w : Int → Int) : Int := if 0 < w 7 then LSf w (w 1) else -2
noncomputable def thR (w : Int → Int) : Int := if 0 < w 7 then LSf w (w 1) - LSf w (w 1 + 1) else -2
theorem PFR_slv {T s' : Int} (K : PFR w T σ1 σ2 b c so s) (Z : BSZ σ1) (hb : b = 0) (hc : c = 0) (hs : so = 55) (T1 : 1 ≤ T) (n0 : 0 ≤ w 5) (n6 : w 5 ≤ 6) (h9 : ∀ c, tkW w c ≤ 9) (s0 : 0 ≤ s) (e : s' = s) : LSW w T s' := by
  subst e
  have k := K.1
  have z : bzC σ1 = fun _ => 0 := by
    funext x
    unfold bzC
    by_cases q : x < 54
    · rw [if_pos q, Z x q] <;> rfl
    · rw [if_neg q]
  rw [z, hb, hc, hs] at k
  obtain ⟨a, d⟩ := SRC_least (fx := fun _ => 0) (by omega) (by omega) h9 k
  exact ⟨a, s0, by omega⟩
theorem tkW_wf : tkN σ = tkW (wf σ) := rfl
theorem LSW_m {T fm : Int} (L : LEASTs σ fm T r.toNat) (hf : fm = 0) (T1 : 1 ≤ T) (r0 : 0 ≤ r) (hσ : WT σ) : LSW (wf σ) T r := by
  subst hf
  have L : LEAST (tkW (wf σ)) (ahW (wf σ)) (fxN σ) (wf σ 5).toNat T.toNat 0 r.toNat := L
  have n := n6 hσ
  have n5 : wf σ 5 = ci σ 160 5 := rfl
  have cg : ∀ q x, OVER (tkW (wf σ)) (ahW (wf σ)) (fxN σ) (wf σ 5).toNat T.toNat 0 q x → OVER (tkW (wf σ)) (ahW (wf σ)) (fun _ => 0) (wf σ 5).toNat T.toNat 0 q x := fun q x h => OVER_congr h (fun a ha => absurd ha (Nat.not_lt_zero _))
  refine ⟨⟨fun q hq => ?_, ?_⟩, r0, ?_⟩
  · obtain ⟨x, x1, x2⟩ := L.1 q hq
    exact ⟨x, cg q x x1, x2⟩
  · rcases L.2 with z | ⟨q, q1, q2⟩
    · exact Or.inl z
    · exact Or.inr ⟨q, q1, cg q _ q2⟩
  · obtain ⟨x, x1, x2⟩ := L.1 0 (fct_pos _)
    have y := OVER_id (by omega) (fun c => by rw [← tkW_wf]; exact tk9 hσ c) x1
    omega
theorem thR_cg {w' : Int → Int} (h : w' = w) : thR w' = thR w := by subst h; rfl
theorem hoR_0 (h : w 7 ≤ 0) (e : r = -2) : r = hoR w := by
  unfold hoR
  rw [if_neg (by omega)]; exact e
theorem hoR_1 {T : Int} (h : 0 < w 7) (L : LSW w T r) (e : T = w 1) : r = hoR w := by
  subst e
  unfold hoR
  rw [if_pos h]; exact LSf_e L
theorem thR_0 (h : w 7 ≤ 0) (e : r = -2) : r = thR w := by
  unfold thR
  rw [if_neg (by omega)]; exact e
theorem thR_1 {T T' r1 r2 : Int} (h : 0 < w 7) (L : LSW w T r1) (L' : LSW w T' r2) (e : T = w 1) (e' : T' = w 1 + 1) (hr : r = r1 - r2) : r = thR w := by
  subst e e'
  unfold thR
  rw [if_pos h, ← LSf_e L, ← LSf_e L']; exact hr
end TMC
end
/-! 32.lwy.una -/
section
section
def INVT : List Nat := [999, 1, 2, 3, 4, 5, 6, 7, 8, 9, 10, 11, 12, 13, 14, 15, 16, 17, 999, 999, 999, 999, 999, 999, 999, 999, 999, 999, 999, 70, 71, 999, 150, 999, 999, 999, 160, 161, 162, 163, 164, 165, 166, 167, 168, 169, 170, 171, 172, 173, 174, 175, 999, 177, 178, 179, 180]
theorem inv_all : ((List.range NCEL).all fun b => decide (INVT.getD (TG b) 999 = 999) || decide (INVT.getD (TG b) 999 = b)) = true := by decide +kernel
theorem un_of {g u : Nat} (h : INVT.getD g 999 = u) (hg : g < 900) (hu : u ≠ 999) : (decide (g < 900) && (List.range NCEL).all (fun b => decide (TG b = g → b = u))) = true := by
  rw [Bool.and_eq_true]
  refine ⟨decide_eq_true hg, List.all_eq_true.mpr fun b hb => decide_eq_true fun e => ?_⟩
  have q := List.all_eq_true.mp inv_all b hb
  rw [Bool.or_eq_true, decide_eq_true_eq, decide_eq_true_eq, e, h] at q
  exact q.elim (fun c => absurd c hu) Eq.symm
theorem un_1_1 : (decide (1 < 900) && (List.range NCEL).all (fun b => decide (TG b = 1 → b = 1))) = true := un_of rfl (by decide) (by decide)
theorem un_2_2 : (decide (2 < 900) && (List.range NCEL).all (fun b => decide (TG b = 2 → b = 2))) = true := un_of rfl (by decide) (by decide)
theorem un_3_3 : (decide (3 < 900) && (List.range NCEL).all (fun b => decide (TG b = 3 → b = 3))) = true := un_of rfl (by decide) (by decide)
theorem un_4_4 : (decide (4 < 900) && (List.range NCEL).all (fun b => decide (TG b = 4 → b = 4))) = true := un_of rfl (by decide) (by decide)
theorem un_5_5 : (decide (5 < 900) && (List.range NCEL).all (fun b => decide (TG b = 5 → b = 5))) = true := un_of rfl (by decide) (by decide)
theorem un_6_6 : (decide (6 < 900) && (List.range NCEL).all (fun b => decide (TG b = 6 → b = 6))) = true := un_of rfl (by decide) (by decide)
theorem un_7_7 : (decide (7 < 900) && (List.range NCEL).all (fun b => decide (TG b = 7 → b = 7))) = true := un_of rfl (by decide) (by decide)
theorem un_8_8 : (decide (8 < 900) && (List.range NCEL).all (fun b => decide (TG b = 8 → b = 8))) = true := un_of rfl (by decide) (by decide)
theorem un_9_9 : (decide (9 < 900) && (List.range NCEL).all (fun b => decide (TG b = 9 → b = 9))) = true := un_of rfl (by decide) (by decide)
theorem un_10_10 : (decide (10 < 900) && (List.range NCEL).all (fun b => decide (TG b = 10 → b = 10))) = true := un_of rfl (by decide) (by decide)
theorem un_11_11 : (decide (11 < 900) && (List.range NCEL).all (fun b => decide (TG b = 11 → b = 11))) = true := un_of rfl (by decide) (by decide)
theorem un_12_12 : (decide (12 < 900) && (List.range NCEL).all (fun b => decide (TG b = 12 → b = 12))) = true := un_of rfl (by decide) (by decide)
theorem un_13_13 : (decide (13 < 900) && (List.range NCEL).all (fun b => decide (TG b = 13 → b = 13))) = true := un_of rfl (by decide) (by decide)
theorem un_14_14 : (decide (14 < 900) && (List.range NCEL).all (fun b => decide (TG b = 14 → b = 14))) = true := un_of rfl (by decide) (by decide)
theorem un_15_15 : (decide (15 < 900) && (List.range NCEL).all (fun b => decide (TG b = 15 → b = 15))) = true := un_of rfl (by decide) (by decide)
theorem un_16_16 : (decide (16 < 900) && (List.range NCEL).all (fun b => decide (TG b = 16 → b = 16))) = true := un_of rfl (by decide) (by decide)
theorem un_17_17 : (decide (17 < 900) && (List.range NCEL).all (fun b => decide (TG b = 17 → b = 17))) = true := un_of rfl (by decide) (by decide)
theorem un_29_70 : (decide (29 < 900) && (List.range NCEL).all (fun b => decide (TG b = 29 → b = 70))) = true := un_of rfl (by decide) (by decide)
theorem un_30_71 : (decide (30 < 900) && (List.range NCEL).all (fun b => decide (TG b = 30 → b = 71))) = true := un_of rfl (by decide) (by decide)
theorem un_32_150 : (decide (32 < 900) && (List.range NCEL).all (fun b => decide (TG b = 32 → b = 150))) = true := un_of rfl (by decide) (by decide)
theorem un_36_160 : (decide (36 < 900) && (List.range NCEL).all (fun b => decide (TG b = 36 → b = 160))) = true := un_of rfl (by decide) (by decide)
theorem un_37_161 : (decide (37 < 900) && (List.range NCEL).all (fun b => decide (TG b = 37 → b = 161))) = true := un_of rfl (by decide) (by decide)
theorem un_38_162 : (decide (38 < 900) && (List.range NCEL).all (fun b => decide (TG b = 38 → b = 162))) = true := un_of rfl (by decide) (by decide)
theorem un_39_163 : (decide (39 < 900) && (List.range NCEL).all (fun b => decide (TG b = 39 → b = 163))) = true := un_of rfl (by decide) (by decide)
theorem un_40_164 : (decide (40 < 900) && (List.range NCEL).all (fun b => decide (TG b = 40 → b = 164))) = true := un_of rfl (by decide) (by decide)
theorem un_41_165 : (decide (41 < 900) && (List.range NCEL).all (fun b => decide (TG b = 41 → b = 165))) = true := un_of rfl (by decide) (by decide)
theorem un_42_166 : (decide (42 < 900) && (List.range NCEL).all (fun b => decide (TG b = 42 → b = 166))) = true := un_of rfl (by decide) (by decide)
theorem un_43_167 : (decide (43 < 900) && (List.range NCEL).all (fun b => decide (TG b = 43 → b = 167))) = true := un_of rfl (by decide) (by decide)
theorem un_44_168 : (decide (44 < 900) && (List.range NCEL).all (fun b => decide (TG b = 44 → b = 168))) = true := un_of rfl (by decide) (by decide)
theorem un_45_169 : (decide (45 < 900) && (List.range NCEL).all (fun b => decide (TG b = 45 → b = 169))) = true := un_of rfl (by decide) (by decide)
theorem un_46_170 : (decide (46 < 900) && (List.range NCEL).all (fun b => decide (TG b = 46 → b = 170))) = true := un_of rfl (by decide) (by decide)
theorem un_47_171 : (decide (47 < 900) && (List.range NCEL).all (fun b => decide (TG b = 47 → b = 171))) = true := un_of rfl (by decide) (by decide)
theorem un_48_172 : (decide (48 < 900) && (List.range NCEL).all (fun b => decide (TG b = 48 → b = 172))) = true := un_of rfl (by decide) (by decide)
theorem un_49_173 : (decide (49 < 900) && (List.range NCEL).all (fun b => decide (TG b = 49 → b = 173))) = true := un_of rfl (by decide) (by decide)
theorem un_50_174 : (decide (50 < 900) && (List.range NCEL).all (fun b => decide (TG b = 50 → b = 174))) = true := un_of rfl (by decide) (by decide)
theorem un_51_175 : (decide (51 < 900) && (List.range NCEL).all (fun b => decide (TG b = 51 → b = 175))) = true := un_of rfl (by decide) (by decide)
theorem un_53_177 : (decide (53 < 900) && (List.range NCEL).all (fun b => decide (TG b = 53 → b = 177))) = true := un_of rfl (by decide) (by decide)
theorem un_54_178 : (decide (54 < 900) && (List.range NCEL).all (fun b => decide (TG b = 54 → b = 178))) = true := un_of rfl (by decide) (by decide)
theorem un_55_179 : (decide (55 < 900) && (List.range NCEL).all (fun b => decide (TG b = 55 → b = 179))) = true := un_of rfl (by decide) (by decide)
theorem un_56_180 : (decide (56 < 900) && (List.range NCEL).all (fun b => decide (TG b = 56 → b = 180))) = true := un_of rfl (by decide) (by decide)
theorem awl : (TY 36).2.2.2.all (fun x => decide (x.1 = 0)) = true := by decide +kernel
theorem aw_of {g n : Nat} {L : List (Nat × Int × Int)} (h : L.all (fun x => decide (x.1 = 0)) = true) (hl : n ≤ L.length) (hf : ∀ q, FT g q = L.getD q (9, 0, 0)) : (List.range n).all (fun q => decide ((FT g q).1 = 0)) = true :=
  List.all_eq_true.mpr fun q hq => decide_eq_true (by
    have hq2 := List.mem_range.mp hq
    rw [hf q, List.getD_eq_getElem?_getD, List.getElem?_eq_getElem (by omega)]
    exact of_decide_eq_true (List.all_eq_true.mp h _ (List.getElem_mem _)))
theorem aw_36 : (List.range 226).all (fun q => decide ((FT 36 q).1 = 0)) = true := aw_of awl (by have := tyW.2.2.1; omega) (fun _ => ft_36)
theorem aw_41 : (List.range 226).all (fun q => decide ((FT 41 q).1 = 0)) = true := aw_of awl (by have := tyW.2.2.1; omega) (fun _ => ft_41)
theorem aw_37 : (List.range 678).all (fun q => decide ((FT 37 q).1 = 0)) = true := aw_of (L := (TY 36).2.2.2 ++ ((TY 36).2.2.2 ++ (TY 36).2.2.2)) (by rw [List.all_append, List.all_append, awl]; rfl) (by have := tyW.2.2.1; rw [List.length_append, List.length_append]; omega) (fun _ => ft_37)
theorem bd_280 {J : Int} {y : Int32} (h0 : 26 ≤ J) (h1 : J ≤ 121) (h : vOK (FT 36 J.toNat) (.int y)) : 0 ≤ y.toInt ∧ y.toInt ≤ 15 := by
  have q : (List.range 96).all (fun k => decide (0 ≤ (FT 36 (26 + k)).2.1 ∧ (FT 36 (26 + k)).2.2 ≤ 15)) = true := by decide +kernel
  have w := of_decide_eq_true (List.all_eq_true.mp q (J.toNat - 26) (List.mem_range.mpr (by omega)))
  rw [show 26 + (J.toNat - 26) = J.toNat by omega] at w
  have h2 := h.2
  omega
end
end
/-! 32.lwz.lin -/
section
theorem toN_lt (m : Int) : m < ((Int.toNat m + 1 : Nat) : Int) := by omega
theorem q_3bb374bebc {x1 x2 : Int} (h0 : 0 ≤ x1) (h1 : 0 ≤ x2) : -2147483648 ≤ x1 + x2 := by omega
theorem q_ce39e5e0e0 {x1 x2 : Int} (h0 : x1 ≤ 858993459) (h1 : x2 ≤ 858993459) : x1 + x2 ≤ 2147483647 := by omega
theorem q_c803b490ef {x1 : Int} (h0 : 0 ≤ x1) : -x1 ≤ 0 := by omega
theorem q_ac3306975b {x1 : Int} (h0 : x1 ≤ 63) : x1 - 63 ≤ 0 := by omega
theorem q_1c67ffb2e6 {x1 : Int} (h0 : -x1 + 6 < ((0 : Nat) : Int)) (h1 : x1 ≤ 6) : False := by omega
theorem q_58e6e51dcc {x1 : Int} (h0 : 0 ≤ x1) : 0 ≤ x1 := by omega
theorem q_ab9991d2ad {x1 : Int} (h0 : x1 < 6) : x1 < ((6 : Nat) : Int) := by omega
theorem q_6903924f0e {x1 : Int} (h0 : x1 ≤ 0) : x1 ≤ 63 := by omega
theorem q_465ab79ac1 {x1 : Int} (h0 : 0 ≤ x1) : -2147483648 ≤ x1 + 1 := by omega
theorem q_2918abfa70 {x1 : Int} (h0 : x1 < 6) : x1 + 1 ≤ 2147483647 := by omega
theorem q_35104ce9d3 {x1 x2 : Int} (h0 : x1 = x2 + 1) (h1 : 0 ≤ x2) : 0 ≤ x1 := by omega
theorem q_13d1e79bb8 {x1 x2 : Int} (h0 : x1 = x2 + 1) (h1 : x2 < 6) : x1 ≤ 6 := by omega
theorem q_18a3ecfd63 {x1 x2 : Int} {n1 : Nat} (h0 : x1 = x2 + 1) (h1 : -x2 + 6 < ((n1 + 1 : Nat) : Int)) : -x1 + 6 < (n1 : Int) := by omega
theorem q_cad496af17 {x1 : Int} (h0 : x1 ≤ 0) : x1 ≤ 54 := by omega
theorem q_98ae87e5bf {x1 : Int} (h0 : -x1 + 60 < ((0 : Nat) : Int)) (h1 : x1 ≤ 60) : False := by omega
theorem q_8b56808a55 {x1 : Int} (h0 : x1 < 60) : x1 < ((60 : Nat) : Int) := by omega
theorem q_5aee3ad0d6 {x1 : Int} (h0 : x1 < 60) : x1 + 1 ≤ 2147483647 := by omega
theorem q_7e37767ea5 {x1 x2 : Int} (h0 : x1 = x2 + 1) (h1 : x2 < 60) : x1 ≤ 60 := by omega
theorem q_45947d8f83 {x1 x2 : Int} {n1 : Nat} (h0 : x1 = x2 + 1) (h1 : -x2 + 60 < ((n1 + 1 : Nat) : Int)) : -x1 + 60 < (n1 : Int) := by omega
theorem q_74322ff71d {x1 x2 : Int} (h0 : x1 < x2) : x1 - x2 ≤ 0 := by omega
theorem q_1bb76abeaf {x1 : Int} : x1 - x1 ≤ 0 := by omega
theorem q_15b82e7ad8 {x1 x2 : Int} (h0 : x1 ≤ x2) : x1 - x2 ≤ 0 := by omega
theorem q_6f36bfba61 {x1 x2 : Int} (h0 : x1 < x2) : -x2 + x1 ≤ 0 := by omega
theorem q_857069189f {x1 : Int} : -x1 + x1 ≤ 0 := by omega
theorem q_f39dd4c9c2 {x1 x2 : Int} (h0 : x1 ≤ x2) : -x2 + x1 ≤ 0 := by omega
theorem q_a85463bd0d {x1 : Int} (h0 : x1 ≤ 2) : x1 ≤ 2 := by omega
theorem q_2eaa18fab1 {x1 : Int} (h0 : x1 ≤ 50) : x1 ≤ 50 := by omega
theorem q_7991346fe8 {x1 : Int} (h0 : x1 ≤ 13) : x1 ≤ 13 := by omega
theorem q_77b189e83d {x1 : Int} (h0 : (-1) ≤ x1) : (-1) ≤ x1 := by omega
theorem q_da5e9b976f {x1 : Int} (h0 : x1 ≤ 3) : x1 ≤ 3 := by omega
theorem q_a83e15e6ad {x1 : Int} (h0 : x1 ≤ 1) : x1 - 1 ≤ 0 := by omega
theorem q_be7bb035e7 {x1 x2 : Int} (h0 : 4 ≤ x1) (h1 : x2 ≤ 4) (h2 : x1 < x2) : False := by omega
theorem q_010b8db2fc {x1 x2 x3 : Int} (h0 : 3 ≤ x1) (h1 : x1 < x2) (h2 : x3 ≤ 4) (h3 : x2 - x3 < ((0 : Nat) : Int)) : False := by omega
theorem q_f7282962fd {x1 : Int} (h0 : x1 ≤ 4) : x1 + 1 ≤ 2147483647 := by omega
theorem q_de42116b63 {x1 x2 x3 : Int} (h0 : x1 = x2 + 1) (h1 : x2 < x3) (h2 : x3 ≤ 4) : x1 ≤ 4 := by omega
theorem q_8d03a5a7cb {x1 x2 x3 : Int} {n1 : Nat} (h0 : x1 = x2 + 1) (h1 : x3 - x2 < ((n1 + 1 : Nat) : Int)) : x3 - x1 < (n1 : Int) := by omega
theorem q_6da2027052 {x1 : Int} (h0 : 3 ≤ x1) : 0 ≤ x1 := by omega
theorem q_074a8b422d {x1 : Int} (h0 : x1 < 4) : x1 < ((4 : Nat) : Int) := by omega
theorem q_5ab2e90ecc {x1 x2 : Int} (h0 : x1 < x2) (h1 : x2 ≤ 4) : x1 ≤ 3 := by omega
theorem q_d115ba6b9f {x1 : Int} (h0 : 3 ≤ x1) : -2147483648 ≤ x1 + 1 := by omega
theorem q_d8bf7f475a {x1 : Int} (h0 : x1 < 4) : x1 + 1 ≤ 2147483647 := by omega
theorem q_37bd5d571c {x1 : Int} : x1 * 4 = 4 * x1 := by omega
theorem q_7399fec830 {x1 : Int} (h0 : 3 ≤ x1) : -2147483648 ≤ 4 * x1 := by omega
theorem q_2f65254717 {x1 : Int} (h0 : x1 < 4) : 4 * x1 ≤ 2147483647 := by omega
theorem q_9c3be65b1d {x1 x2 x3 : Int} (h0 : 0 ≤ x1) (h1 : x2 = 4 * x3) (h2 : 3 ≤ x3) : -2147483648 ≤ x2 + x1 := by omega
theorem q_fae0873b70 {x1 x2 x3 x4 : Int} (h0 : x1 < x2) (h1 : x3 = 4 * x4) (h2 : x4 < 4) (h3 : x2 ≤ 4) : x3 + x1 ≤ 2147483647 := by omega
theorem q_becf22fb84 {x1 x2 x3 x4 : Int} (h0 : x1 = x2 + x3) (h1 : 0 ≤ x3) (h2 : x2 = 4 * x4) (h3 : 3 ≤ x4) : 0 ≤ x1 := by omega
theorem q_7d9dd94cfa {x1 x2 x3 x4 x5 : Int} (h0 : x1 = x2 + x3) (h1 : x3 < x4) (h2 : x2 = 4 * x5) (h3 : x5 < 4) (h4 : x4 ≤ 4) : x1 < ((16 : Nat) : Int) := by omega
theorem q_aa5623a688 {x1 x2 : Int} (h0 : x1 = x2 + 1) (h1 : 3 ≤ x2) : 4 ≤ x1 := by omega
theorem q_ddc5c16a68 {x1 x2 : Int} (h0 : x1 = x2 + 1) (h1 : x2 < 4) : x1 ≤ 4 := by omega
theorem q_20d6385c6f {x1 : Int} (h0 : -x1 + 4 < ((0 : Nat) : Int)) (h1 : x1 ≤ 4) : False := by omega
theorem q_3d8d70ace2 {x1 x2 : Int} {n1 : Nat} (h0 : x1 = x2 + 1) (h1 : -x2 + 4 < ((n1 + 1 : Nat) : Int)) : -x1 + 4 < (n1 : Int) := by omega
theorem q_1cd795acf6 {x1 : Int} (h0 : 2 ≤ x1) : 0 ≤ x1 := by omega
theorem q_b7dadf652e {x1 : Int} (h0 : 2 ≤ x1) : -2147483648 ≤ x1 + 1 := by omega
theorem q_ff18b78017 {x1 : Int} (h0 : 2 ≤ x1) : -2147483648 ≤ 4 * x1 := by omega
theorem q_5caeb10db2 {x1 x2 x3 : Int} (h0 : 0 ≤ x1) (h1 : x2 = 4 * x3) (h2 : 2 ≤ x3) : -2147483648 ≤ x2 + x1 := by omega
theorem q_06d21eb787 {x1 x2 x3 x4 : Int} (h0 : x1 = x2 + x3) (h1 : 0 ≤ x3) (h2 : x2 = 4 * x4) (h3 : 2 ≤ x4) : 0 ≤ x1 := by omega
theorem q_ee554783ee {x1 x2 : Int} (h0 : x1 = x2 + 1) (h1 : 2 ≤ x2) : 3 ≤ x1 := by omega
theorem q_337a85e294 {x1 : Int} (h0 : 1 ≤ x1) : 0 ≤ x1 := by omega
theorem q_e6d8d315b7 {x1 : Int} (h0 : 1 ≤ x1) : -2147483648 ≤ x1 + 1 := by omega
theorem q_e5ff8c33b5 {x1 : Int} (h0 : 1 ≤ x1) : -2147483648 ≤ 4 * x1 := by omega
theorem q_33b0912b18 {x1 x2 x3 : Int} (h0 : 0 ≤ x1) (h1 : x2 = 4 * x3) (h2 : 1 ≤ x3) : -2147483648 ≤ x2 + x1 := by omega
theorem q_af485880f1 {x1 x2 x3 x4 : Int} (h0 : x1 = x2 + x3) (h1 : 0 ≤ x3) (h2 : x2 = 4 * x4) (h3 : 1 ≤ x4) : 0 ≤ x1 := by omega
theorem q_06a5bb0b7c {x1 x2 : Int} (h0 : x1 = x2 + 1) (h1 : 1 ≤ x2) : 2 ≤ x1 := by omega
theorem q_be45967ac2 {x1 : Int} (h0 : 0 ≤ x1) : -2147483648 ≤ 4 * x1 := by omega
theorem q_1dc55d4c5f {x1 x2 x3 : Int} (h0 : 0 ≤ x1) (h1 : x2 = 4 * x3) (h2 : 0 ≤ x3) : -2147483648 ≤ x2 + x1 := by omega
theorem q_5eeacb4bec {x1 x2 x3 x4 : Int} (h0 : x1 = x2 + x3) (h1 : 0 ≤ x3) (h2 : x2 = 4 * x4) (h3 : 0 ≤ x4) : 0 ≤ x1 := by omega
theorem q_246139cee3 {x1 x2 : Int} (h0 : x1 = x2 + 1) (h1 : 0 ≤ x2) : 1 ≤ x1 := by omega
theorem q_c82ed93a8c {x1 : Int} (h0 : x1 ≤ 4) : x1 ≤ 4 := by omega
theorem q_96dadfce4b {x1 : Int} (h0 : 1 ≤ x1) : -2147483648 ≤ x1 - 1 := by omega
theorem q_8661d4233b {x1 : Int} (h0 : x1 ≤ 65536) : x1 - 1 ≤ 2147483647 := by omega
theorem q_a36023f969 {x1 x2 : Int} (h0 : x1 = x2 - 1) (h1 : 1 ≤ x2) : -x1 ≤ 0 := by omega
theorem q_3bae1d5aac {x1 x2 : Int} (h0 : x1 = x2 - 1) (h1 : x2 ≤ 65536) : x1 - 65535 ≤ 0 := by omega
theorem q_097a37c2ae {x1 : Int} (h0 : x1 = 0) : -x1 ≤ 0 := by omega
theorem q_e269517bee {x1 : Int} (h0 : x1 = 0) : x1 - 1 ≤ 0 := by omega
theorem q_55451d0a83 {x1 : Int} (h0 : x1 = 0) : 0 ≤ x1 := by omega
theorem q_87849c3859 {x1 : Int} (h0 : x1 = 0) : x1 ≤ 1 := by omega
theorem q_ad3eee31ca {x1 : Int} (h0 : x1 = 1) : -x1 ≤ 0 := by omega
theorem q_81cf297dc4 {x1 : Int} (h0 : x1 = 1) : x1 - 1 ≤ 0 := by omega
theorem q_2b07c97645 {x1 : Int} (h0 : x1 = 1) : 0 ≤ x1 := by omega
theorem q_d9e7cbb253 {x1 : Int} (h0 : x1 = 1) : x1 ≤ 1 := by omega
theorem q_ffef14d449 {x1 : Int} (h0 : -x1 + 81 < ((0 : Nat) : Int)) (h1 : x1 ≤ 81) : False := by omega
theorem q_6ba54b61e9 {x1 : Int} (h0 : x1 = (-1)) : -x1 - 1 ≤ 0 := by omega
theorem q_ed1bd306dd {x1 : Int} (h0 : x1 = (-1)) : x1 - 80 ≤ 0 := by omega
theorem q_a0e855914a {x1 x2 : Int} (h0 : x1 < x2) (h1 : x2 ≤ 81) : x1 < ((81 : Nat) : Int) := by omega
theorem q_d778ff18c8 {x1 : Int} (h0 : x1 ≤ 81) : x1 + 1 ≤ 2147483647 := by omega
theorem q_798b104d48 {x1 x2 x3 : Int} (h0 : x1 = x2 + 1) (h1 : x2 < x3) (h2 : x3 ≤ 81) : x1 ≤ 81 := by omega
theorem q_4ff790945b {x1 x2 : Int} {n1 : Nat} (h0 : x1 = x2 + 1) (h1 : -x2 + 81 < ((n1 + 1 : Nat) : Int)) : -x1 + 81 < (n1 : Int) := by omega
theorem q_565e7b05df {x1 : Int} (h0 : 0 ≤ x1) : -x1 - 1 ≤ 0 := by omega
theorem q_6b56ae27a7 {x1 x2 : Int} (h0 : x1 < x2) (h1 : x2 ≤ 81) : x1 - 80 ≤ 0 := by omega
theorem q_94ef5d5129 {x1 : Int} (h0 : -x1 + 5 < ((0 : Nat) : Int)) (h1 : x1 ≤ 5) : False := by omega
theorem q_361874dae7 {x1 : Int} : x1 * 5 = 5 * x1 := by omega
theorem q_c9e2f3c4aa {x1 : Int} (h0 : 0 ≤ x1) : -2147483648 ≤ 5 * x1 := by omega
theorem q_082e7e3e85 {x1 : Int} (h0 : x1 ≤ 15) : 5 * x1 ≤ 2147483647 := by omega
theorem q_89b509762f {x1 x2 x3 : Int} (h0 : 0 ≤ x1) (h1 : x2 = 5 * x3) (h2 : 0 ≤ x3) : -2147483648 ≤ x2 + x1 := by omega
theorem q_a819299aea {x1 x2 x3 : Int} (h0 : x1 < 5) (h1 : x2 = 5 * x3) (h2 : x3 ≤ 15) : x2 + x1 ≤ 2147483647 := by omega
theorem q_570e2d6fd6 {x1 x2 x3 x4 : Int} (h0 : x1 = x2 + x3) (h1 : 0 ≤ x3) (h2 : x2 = 5 * x4) (h3 : 0 ≤ x4) : 0 ≤ x1 := by omega
theorem q_06c6e7265f {x1 x2 x3 x4 : Int} (h0 : x1 = x2 + x3) (h1 : x3 < 5) (h2 : x2 = 5 * x4) (h3 : x4 ≤ 15) : x1 < ((80 : Nat) : Int) := by omega
theorem q_829a0b1079 {x1 : Int} (h0 : x1 < 5) : x1 + 1 ≤ 2147483647 := by omega
theorem q_8f49ecd163 {x1 x2 : Int} (h0 : x1 = x2 + 1) (h1 : x2 < 5) : x1 ≤ 5 := by omega
theorem q_4f8c136792 {x1 x2 : Int} {n1 : Nat} (h0 : x1 = x2 + 1) (h1 : -x2 + 5 < ((n1 + 1 : Nat) : Int)) : -x1 + 5 < (n1 : Int) := by omega
theorem q_511f6d33ac {x1 : Int} (h0 : -x1 + 16 < ((0 : Nat) : Int)) (h1 : x1 ≤ 16) : False := by omega
theorem q_3f0e495169 {x1 x2 : Int} (h0 : x1 < x2) (h1 : x2 ≤ 16) : x1 ≤ 15 := by omega
theorem q_f3f8e04381 {x1 : Int} (h0 : x1 ≤ 16) : x1 + 1 ≤ 2147483647 := by omega
theorem q_36eb0a70bf {x1 : Int} (h0 : x1 ≤ 65535) : x1 ≤ 65535 := by omega
theorem q_eba8fd3b5f {x1 x2 x3 : Int} (h0 : x1 = x2 + 1) (h1 : x2 < x3) (h2 : x3 ≤ 16) : x1 ≤ 16 := by omega
theorem q_c5d740bdff {x1 x2 : Int} {n1 : Nat} (h0 : x1 = x2 + 1) (h1 : -x2 + 16 < ((n1 + 1 : Nat) : Int)) : -x1 + 16 < (n1 : Int) := by omega
theorem q_b1cade0df5 {x1 : Int} (h0 : x1 ≠ (-1)) (h1 : -x1 - 1 ≤ 0) : 0 ≤ x1 := by omega
theorem q_3ac9ed8367 {x1 : Int} (h0 : x1 - 80 ≤ 0) : x1 < ((81 : Nat) : Int) := by omega
theorem q_5583ec5aac {x1 : Int} (h0 : -x1 + 13 < ((0 : Nat) : Int)) (h1 : x1 ≤ 13) : False := by omega
theorem q_e7edf0f95a {x1 : Int} (h0 : x1 ≤ 65535) : x1 - 65535 ≤ 0 := by omega
theorem q_314deb8953 {x1 x2 : Int} (h0 : x1 < x2) (h1 : x2 ≤ 13) : x1 < ((13 : Nat) : Int) := by omega
theorem q_d22f73d43b {x1 : Int} (h0 : x1 ≤ 13) : x1 + 1 ≤ 2147483647 := by omega
theorem q_96e029a9d9 {x1 x2 x3 : Int} (h0 : x1 = x2 + 1) (h1 : x2 < x3) (h2 : x3 ≤ 13) : x1 ≤ 13 := by omega
theorem q_20fedeb4b2 {x1 x2 : Int} {n1 : Nat} (h0 : x1 = x2 + 1) (h1 : -x2 + 13 < ((n1 + 1 : Nat) : Int)) : -x1 + 13 < (n1 : Int) := by omega
theorem q_93f9478bef {x1 : Int} (h0 : 0 ≤ x1) : -2147483648 ≤ x1 - 1 := by omega
theorem q_36ce509e97 {x1 : Int} (h0 : x1 ≤ 13) : x1 - 1 ≤ 2147483647 := by omega
theorem q_d30ca37d8c {x1 : Int} (h0 : (-1) ≤ x1) (h1 : x1 + 1 < ((0 : Nat) : Int)) : False := by omega
theorem q_af8bea0708 {x1 : Int} (h0 : x1 = (-1)) : x1 - 12 ≤ 0 := by omega
theorem q_eca5b91a1e {x1 : Int} (h0 : x1 ≤ 12) : x1 < ((13 : Nat) : Int) := by omega
theorem q_069e58d060 {x1 : Int} (h0 : 0 ≤ x1) : -2147483648 ≤ x1 + (-1) := by omega
theorem q_22df3f42b4 {x1 : Int} (h0 : x1 ≤ 12) : x1 + (-1) ≤ 2147483647 := by omega
theorem q_1dc8c15c2b {x1 x2 : Int} (h0 : x1 = x2 + (-1)) (h1 : 0 ≤ x2) : (-1) ≤ x1 := by omega
theorem q_bf87cd541d {x1 x2 : Int} (h0 : x1 = x2 + (-1)) (h1 : x2 ≤ 12) : x1 ≤ 12 := by omega
theorem q_ad24c9502e {x1 x2 x3 : Int} (h0 : x1 - x2 + 1 ≤ 0) (h1 : x3 = x1 + (-1)) : x3 - x2 + 1 ≤ 0 := by omega
theorem q_03fcbe2dc3 {x1 x2 : Int} {n1 : Nat} (h0 : x1 = x2 + (-1)) (h1 : x2 + 1 < ((n1 + 1 : Nat) : Int)) : x1 + 1 < (n1 : Int) := by omega
theorem q_16c941e15c {x1 : Int} (h0 : x1 ≤ 12) : x1 - 12 ≤ 0 := by omega
theorem q_e2c277696c {x1 x2 : Int} (h0 : x1 = x2 - 1) (h1 : 0 ≤ x2) : (-1) ≤ x1 := by omega
theorem q_c1a695b5f4 {x1 x2 : Int} (h0 : x1 = x2 - 1) (h1 : x2 ≤ 13) : x1 ≤ 12 := by omega
theorem q_8e6f8e4fd9 {x1 x2 : Int} (h0 : x1 = x2 - 1) : x1 - x2 + 1 ≤ 0 := by omega
theorem q_909eef6c0e {x1 : Int} (h0 : (-1) ≤ x1) : -x1 - 1 ≤ 0 := by omega
theorem q_e00fafdd26 {x1 x2 : Int} (h0 : x1 - x2 + 1 ≤ 0) (h1 : x2 ≤ 13) : x1 - 12 ≤ 0 := by omega
theorem q_d9092b5ca1 {x1 : Int} (h0 : x1 ≤ 5) : x1 ≤ 5 := by omega
theorem q_6591527e3e {x1 x2 x3 : Int} (h0 : x1 - x2 + 1 ≤ 0) (h1 : x3 = x2 + 1) : x1 - x3 + 1 ≤ 0 := by omega
theorem q_5b439548fc {x1 : Int} (h0 : 0 ≤ x1) : (-1) ≤ x1 := by omega
theorem q_ef1e8e38bf {x1 : Int} (h0 : -x1 ≤ 0) : 0 ≤ x1 := by omega
theorem q_126a3d8de2 {x1 x2 : Int} (h0 : x1 < x2) (h1 : x2 ≤ 5) : x1 ≤ 5 := by omega
theorem q_2fedec469a {x1 x2 : Int} (h0 : x1 = x2 + 1) : x2 - x1 + 1 ≤ 0 := by omega
theorem q_f3cf35f0f9 {x1 : Int} (h0 : x1 - 12 ≤ 0) : x1 < ((13 : Nat) : Int) := by omega
theorem q_96a57adcaf {x1 : Int} (h0 : x1 ≤ 81) : x1 - 81 ≤ 0 := by omega
theorem q_938d18a0b8 {x1 : Int} (h0 : x1 ≤ 81) : x1 ≤ 81 := by omega
theorem q_3a5e225620 {x1 x2 x3 : Int} (h0 : x1 - x2 ≤ 0) (h1 : x3 = x2 + 1) : x1 - x3 ≤ 0 := by omega
theorem q_d53ed2728c {x1 x2 x3 x4 : Int} (h0 : x1 = x2 + 1) (h1 : x2 - x3 ≤ 0) (h2 : x3 < x4) (h3 : x4 ≤ 81) : x1 ≤ 81 := by omega
theorem q_1ff421e7a2 {x1 x2 x3 x4 : Int} (h0 : x1 = x2 + 1) (h1 : x3 = x4 + 1) (h2 : x2 - x4 ≤ 0) : x1 - x3 ≤ 0 := by omega
theorem q_4a39151843 (h0 : (0 : Int) ≠ 0) : False := by omega
theorem q_8c5bc2806d (h0 : (0 : Int) = 1) : False := by omega
theorem q_0561915bfe (h0 : (1 : Int) = 0) : False := by omega
theorem q_e060c7ff4b (h0 : (1 : Int) ≠ 1) : False := by omega
theorem q_494a6d6cbd {x1 : Int} (h0 : -x1 ≤ 0) : -2147483648 ≤ x1 - 2 := by omega
theorem q_1a85466cfe {x1 : Int} (h0 : x1 - 63 ≤ 0) : x1 - 2 ≤ 2147483647 := by omega
theorem q_a146501c70 {x1 : Int} (h0 : -x1 + 63 < ((0 : Nat) : Int)) (h1 : x1 ≤ 63) : False := by omega
theorem q_79866c756a {x1 : Int} (h0 : x1 = (-1)) : x1 - 65535 ≤ 0 := by omega
theorem q_ec59fb8a68 {x1 : Int} (h0 : -x1 + 65536 < ((0 : Nat) : Int)) (h1 : x1 ≤ 65536) : False := by omega
theorem q_d7c9db3423 {x1 : Int} (h0 : x1 ≤ 63) : x1 + 1 ≤ 2147483647 := by omega
theorem q_13f3a24566 {x1 x2 x3 : Int} (h0 : x1 = x2 + 1) (h1 : x2 ≤ x3) (h2 : x3 ≤ 16) : x1 ≤ 63 := by omega
theorem q_46521c46ca {x1 x2 : Int} {n1 : Nat} (h0 : x1 = x2 + 1) (h1 : -x2 + 63 < ((n1 + 1 : Nat) : Int)) : -x1 + 63 < (n1 : Int) := by omega
theorem q_1d2cffc2f0 {x1 : Int} (h0 : x1 ≤ 65536) : x1 + 1 ≤ 2147483647 := by omega
theorem q_14f3993466 {x1 x2 x3 : Int} (h0 : x1 = x2 + 1) (h1 : x2 ≤ x3) (h2 : x3 - 65535 ≤ 0) : x1 ≤ 65536 := by omega
theorem q_baf82f6f45 {x1 x2 : Int} {n1 : Nat} (h0 : x1 = x2 + 1) (h1 : -x2 + 65536 < ((n1 + 1 : Nat) : Int)) : -x1 + 65536 < (n1 : Int) := by omega
theorem q_71cd3a7d22 {x1 x2 : Int} (h0 : x1 ≤ x2) (h1 : x2 - 65535 ≤ 0) : x1 - 65535 ≤ 0 := by omega
theorem q_3ea7e55eca {x1 : Int} (h0 : x1 - 63 ≤ 0) : x1 ≤ 63 := by omega
theorem q_9e830a46d8 {x1 : Int} (h0 : x1 ≤ 65536) : x1 - 65536 ≤ 0 := by omega
theorem q_85cee82ad3 {x1 : Int} (h0 : x1 ≤ 65536) : x1 ≤ 65536 := by omega
theorem q_9fadb21f72 {x1 x2 x3 x4 : Int} (h0 : x1 = x2 + 1) (h1 : x2 - x3 ≤ 0) (h2 : x3 ≤ x4) (h3 : x4 - 65535 ≤ 0) : x1 ≤ 65536 := by omega
theorem q_7cc8f582df {x1 : Int} (h0 : x1 = 0) : x1 - 65536 ≤ 0 := by omega
theorem q_14257feae7 {x1 x2 : Int} (h0 : x1 - x2 ≤ 0) (h1 : x2 - x1 < ((0 : Nat) : Int)) : False := by omega
theorem q_5a4d8a7e08 {x1 : Int} (h0 : x1 ≤ 15) : x1 ≤ 15 := by omega
theorem q_9d0c30f9c5 {x1 : Int} (h0 : x1 ≤ 1) : x1 ≤ 1 := by omega
theorem q_5f4a85dce3 {x1 : Int} (h0 : x1 ≤ 12) : x1 - 1 ≤ 2147483647 := by omega
theorem q_33d4421f1e {x1 x2 x3 : Int} (h0 : x1 = x2 - 1) (h1 : x3 < x2) (h2 : 0 ≤ x3) : 0 ≤ x1 := by omega
theorem q_5fc37093b9 {x1 x2 : Int} (h0 : x1 = x2 - 1) (h1 : x2 ≤ 12) : x1 < ((13 : Nat) : Int) := by omega
theorem q_f5ee678ee2 {x1 x2 x3 : Int} (h0 : x1 = x2 + (-1)) (h1 : x3 < x2) (h2 : 0 ≤ x3) : 0 ≤ x1 := by omega
theorem q_4fa3e3f0d6 {x1 x2 x3 : Int} (h0 : x1 < x2) (h1 : x3 = x2 + (-1)) : x1 - x3 ≤ 0 := by omega
theorem q_fbcec499c6 {x1 x2 x3 : Int} (h0 : x1 - x2 ≤ 0) (h1 : x3 = x1 + (-1)) : x3 - x2 ≤ 0 := by omega
theorem q_60d27c56d4 {x1 x2 x3 : Int} {n1 : Nat} (h0 : x1 = x2 + (-1)) (h1 : x2 - x3 < ((n1 + 1 : Nat) : Int)) : x1 - x3 < (n1 : Int) := by omega
theorem q_33086d7645 {x1 x2 : Int} (h0 : x1 - x2 + 1 ≤ 0) (h1 : x2 - x1 < ((0 : Nat) : Int)) : False := by omega
theorem q_1fdc13c345 {x1 : Int} (h0 : x1 ≤ 12) : x1 + 1 ≤ 2147483647 := by omega
theorem q_7aac38d150 {x1 x2 x3 : Int} (h0 : x1 = x2 - 1) (h1 : x3 - x2 + 1 ≤ 0) (h2 : 0 ≤ x3) : 0 ≤ x1 := by omega
theorem q_6c9ce9e948 {x1 x2 : Int} (h0 : x1 = x2 - 1) (h1 : x2 ≤ 13) : x1 ≤ 13 := by omega
theorem q_5d2c583439 {x1 x2 x3 x4 : Int} (h0 : x1 = x2 + 1) (h1 : x3 = x2 + 1) (h2 : x3 < x4) (h3 : x4 ≤ 13) : x1 < ((13 : Nat) : Int) := by omega
theorem q_aa13a08d74 {x1 x2 x3 x4 : Int} (h0 : x1 = x2 + 1) (h1 : x3 = x2 + 1) (h2 : x3 < x4) (h3 : x4 ≤ 13) : x1 ≤ 12 := by omega
theorem q_7c639a0963 {x1 x2 x3 x4 : Int} (h0 : x1 = x2 + 1) (h1 : x1 < x3) (h2 : x4 = x2 + 1) : x4 - x3 + 1 ≤ 0 := by omega
theorem q_1be5a5166e {x1 x2 : Int} (h0 : x1 < x2) : x1 - x2 + 1 ≤ 0 := by omega
theorem q_8ee767184a {x1 x2 : Int} (h0 : x1 < x2) (h1 : x2 ≤ 13) : x1 - 12 ≤ 0 := by omega
theorem q_1a45a931b1 {x1 x2 : Int} (h0 : x1 < x2) (h1 : x2 ≤ 4) : x1 < ((4 : Nat) : Int) := by omega
theorem q_996bab80f3 {x1 : Int} (h0 : 1 ≤ x1) : -x1 + 1 ≤ 0 := by omega
theorem q_774c92aa9b {x1 : Int} (h0 : x1 ≤ 16) : x1 - 16 ≤ 0 := by omega
theorem q_a555021d16 {x1 : Int} (h0 : -x1 ≤ 0) : -x1 ≤ 0 := by omega
theorem q_f3bb6f88f7 {x1 : Int} (h0 : x1 ≤ 3) : x1 < ((4 : Nat) : Int) := by omega
theorem q_eab05c2344 {x1 : Int} (h0 : x1 ≠ (-1)) (h1 : (-1) ≤ x1) : 0 ≤ x1 := by omega
theorem q_3232882bcd {x1 : Int} (h0 : x1 ≤ 1601) : x1 ≤ 1601 := by omega
theorem q_615333d33f {x1 : Int} (h0 : x1 ≤ 6) : x1 ≤ 6 := by omega
theorem q_d3912a5755 {x1 : Int} (h0 : x1 ≤ 60) : x1 ≤ 60 := by omega
theorem q_3919a0a4ce {x1 : Int} (h0 : x1 ≤ 4) : x1 - 4 ≤ 0 := by omega
theorem q_e74c65d0a8 {x1 : Int} (h0 : x1 ≠ 0) (h1 : 0 ≤ x1) : -x1 + 1 ≤ 0 := by omega
theorem q_e9a8eec0c4 {x1 : Int} (h0 : x1 ≤ 3) : x1 - 3 ≤ 0 := by omega
theorem q_246f9048f8 {x1 : Int} (h0 : x1 ≤ 1600) : x1 ≤ 1600 := by omega
theorem q_6caa29d3e5 {x1 x2 : Int} (h0 : 1 ≤ x1) (h1 : x2 = 0) : -x1 + x2 ≤ 0 := by omega
theorem q_dde7d71509 {x1 x2 : Int} (h0 : x1 < x2) (h1 : x2 ≤ 1600) : x1 < ((1600 : Nat) : Int) := by omega
theorem q_fbe680e378 {x1 : Int} (h0 : x1 = 59) (h1 : x1 < 48) : False := by omega
theorem q_405755f924 {x1 : Int} (h0 : x1 = 4) : -x1 ≤ 0 := by omega
theorem q_ddd5c72b0d {x1 : Int} (h0 : x1 = 4) : x1 - 4 ≤ 0 := by omega
theorem q_8a7bb54a7c {x1 : Int} (h0 : x1 = 3) : -x1 ≤ 0 := by omega
theorem q_3c1765b54d {x1 : Int} (h0 : x1 = 3) : x1 - 4 ≤ 0 := by omega
theorem q_1984c8b6d4 {x1 : Int} (h0 : x1 = 2) : -x1 ≤ 0 := by omega
theorem q_6a1f4978ed {x1 : Int} (h0 : x1 = 2) : x1 - 4 ≤ 0 := by omega
theorem q_c3c8561073 {x1 : Int} (h0 : 122 < x1) (h1 : x1 < 48) : False := by omega
theorem q_97de91e8fb {x1 : Int} (h0 : 122 < x1) (h1 : x1 ≤ 57) : False := by omega
theorem q_8f7866e711 {x1 : Int} (h0 : 122 < x1) (h1 : x1 = 59) : False := by omega
theorem q_494aa80098 {x1 : Int} (h0 : x1 = 1) : x1 - 4 ≤ 0 := by omega
theorem q_d4b5472250 {x1 : Int} (h0 : x1 = 0) : x1 - 4 ≤ 0 := by omega
theorem q_fa25b07a5c {x1 : Int} (h0 : x1 = (-1)) : x1 - 1000000 ≤ 0 := by omega
theorem q_1a6ee862c1 {x1 : Int} (h0 : -x1 + 1 ≤ 0) : -x1 ≤ 0 := by omega
theorem q_c733b715bf {x1 : Int} (h0 : x1 - 3 ≤ 0) : x1 - 3 ≤ 0 := by omega
theorem q_d22b102a8e {x1 x2 : Int} (h0 : -x1 + x2 ≤ 0) : -x1 + x2 ≤ 0 := by omega
theorem q_83f4b1e050 {x1 x2 : Int} (h0 : -x1 + x2 ≤ 0) : x2 - x1 ≤ 0 := by omega
theorem q_787f1164f6 {x1 : Int} (h0 : x1 ≠ 0) (h1 : 0 ≤ x1) : -x1 ≤ 0 := by omega
theorem q_b319b3558a {x1 : Int} (h0 : x1 ≤ 1000000) : x1 - 1000000 ≤ 0 := by omega
theorem q_bd3fa30443 {x1 : Int} (h0 : x1 = 0) : x1 - 3 ≤ 0 := by omega
theorem q_46bc035002 {x1 : Int} (h0 : -x1 + 1600 < ((0 : Nat) : Int)) (h1 : x1 ≤ 1600) : False := by omega
theorem q_3b0dd79e8e {x1 : Int} (h0 : x1 - 4 ≤ 0) : x1 ≤ 4 := by omega
theorem q_2d836ce3e1 {x1 : Int} (h0 : (-128) ≤ x1) : (-128) ≤ x1 := by omega
theorem q_a18ee2e349 {x1 : Int} (h0 : x1 ≤ 127) : x1 ≤ 127 := by omega
theorem q_1c9c6c18a7 {x1 : Int} (h0 : x1 ≤ 1600) : x1 + 1 ≤ 2147483647 := by omega
theorem q_ad9a5f3bc2 {x1 x2 x3 : Int} (h0 : x1 = x2 + 1) (h1 : x2 < x3) (h2 : x3 ≤ 1600) : x1 ≤ 1600 := by omega
theorem q_5098fe9510 {x1 : Int} (h0 : x1 = 3) (h1 : x1 = 1) : False := by omega
theorem q_fcd27edbae {x1 : Int} (h0 : x1 = 3) (h1 : x1 = 2) : False := by omega
theorem q_9a409ce733 {x1 x2 : Int} (h0 : x1 = x2 + 1) : x1 - x2 - 1 ≤ 0 := by omega
theorem q_561217d961 {x1 : Int} (h0 : x1 = 2) (h1 : x1 = 1) : False := by omega
theorem q_2507c1a77a {x1 : Int} (h0 : x1 ≤ 1000000) : x1 ≤ 1000000 := by omega
theorem q_ae2dbf4292 {x1 x2 x3 : Int} (h0 : x1 < x2) (h1 : x3 = x1 + 1) : x3 - x2 ≤ 0 := by omega
theorem q_d5d2ccb19c {x1 : Int} (h0 : x1 = 2) (h1 : x1 ≠ 2) : False := by omega
theorem q_976dd12763 {x1 : Int} (h0 : x1 = 4) (h1 : x1 = 1) : False := by omega
theorem q_683ea544d9 {x1 : Int} (h0 : x1 = 4) (h1 : x1 = 2) : False := by omega
theorem q_98eaa778fc {x1 x2 : Int} {n1 : Nat} (h0 : x1 = x2 + 1) (h1 : -x2 + 1600 < ((n1 + 1 : Nat) : Int)) : -x1 + 1600 < (n1 : Int) := by omega
theorem q_1c284fde89 {x1 : Int} (h0 : x1 - 1000000 ≤ 0) : x1 - 1000000 ≤ 0 := by omega
theorem q_bc42505ae9 {x1 : Int} (h0 : x1 ≠ 0) (h1 : -x1 ≤ 0) : -x1 ≤ 0 := by omega
theorem q_733c8bfbae {x1 : Int} (h0 : x1 - 1 ≤ 0) : x1 ≤ 1 := by omega
theorem q_6e734f6d2e {x1 x2 x3 x4 x5 x6 : Int} (h0 : -x1 + x2 ≤ 0) (h1 : -x3 + x1 ≤ 0) (h2 : -x4 + x3 ≤ 0) (h3 : -x5 + x4 ≤ 0) (h4 : -x6 + x5 ≤ 0) : -x6 + x2 ≤ 0 := by omega
theorem q_cf30ef85c0 {x1 x2 x3 x4 x5 x6 : Int} (h0 : -x1 + x2 ≤ 0) (h1 : -x3 + x1 ≤ 0) (h2 : -x4 + x3 ≤ 0) (h3 : -x5 + x4 ≤ 0) (h4 : -x6 + x5 ≤ 0) : x2 - x6 ≤ 0 := by omega
theorem q_9e6e7ac5cc (h0 : (-1 : Int) ≠ (-1)) : False := by omega
theorem q_0409e03873 {x1 : Int} (h0 : x1 = (-1)) : x1 - 2 ≤ 0 := by omega
theorem q_66a4aabbf3 (h0 : (2 : Int) = (-1)) : False := by omega
theorem q_3eaee27298 {x1 : Int} (h0 : x1 = 2) : -x1 - 1 ≤ 0 := by omega
theorem q_e932286a6d {x1 : Int} (h0 : x1 = 2) : x1 - 2 ≤ 0 := by omega
theorem q_38251b0c5f (h0 : (1 : Int) = (-1)) : False := by omega
theorem q_4dd9459605 {x1 : Int} (h0 : x1 = 1) : -x1 - 1 ≤ 0 := by omega
theorem q_a726a5ea71 {x1 : Int} (h0 : x1 = 1) : x1 - 2 ≤ 0 := by omega
theorem q_29857eacf7 (h0 : (0 : Int) = (-1)) : False := by omega
theorem q_83da3d7e14 {x1 : Int} (h0 : x1 = 0) : -x1 - 1 ≤ 0 := by omega
theorem q_c4a7b98196 {x1 : Int} (h0 : x1 = 0) : x1 - 2 ≤ 0 := by omega
theorem q_06e02fd287 {x1 x2 x3 x4 : Int} (h0 : -x1 + x2 ≤ 0) (h1 : -x3 + x1 ≤ 0) (h2 : -x4 + x3 ≤ 0) : -x4 + x2 ≤ 0 := by omega
theorem q_5ee31f9195 {x1 x2 x3 x4 : Int} (h0 : -x1 + x2 ≤ 0) (h1 : -x3 + x1 ≤ 0) (h2 : -x4 + x3 ≤ 0) : x2 - x4 ≤ 0 := by omega
theorem q_2b081929f3 {x1 : Int} (h0 : x1 - 2 ≤ 0) : x1 ≤ 2 := by omega
theorem q_ead043ab48 {x1 : Int} (h0 : -x1 + 1 ≤ 0) : -2147483648 ≤ x1 - 1 := by omega
theorem q_9b40fa289d {x1 : Int} (h0 : x1 - 16 ≤ 0) : x1 - 1 ≤ 2147483647 := by omega
theorem q_ccc3bb8fc9 {x1 x2 x3 : Int} (h0 : -x1 + x2 ≤ 0) (h1 : -x3 + x1 ≤ 0) : -x3 + x2 ≤ 0 := by omega
theorem q_28bfca2c13 {x1 x2 x3 : Int} (h0 : -x1 + x2 ≤ 0) (h1 : -x3 + x1 ≤ 0) : x2 - x3 ≤ 0 := by omega
theorem q_cc3cee8591 {x1 : Int} (h0 : x1 ≤ 4) : x1 - 1 ≤ 2147483647 := by omega
theorem q_967777951c {x1 x2 x3 : Int} (h0 : -x1 + x2 ≤ 0) (h1 : -x3 + 1 ≤ 0) (h2 : x1 = 0) : -x3 + x2 ≤ 0 := by omega
theorem q_366671f89f {x1 x2 x3 : Int} (h0 : -x1 + x2 ≤ 0) (h1 : -x3 + 1 ≤ 0) (h2 : x1 = 0) : x2 - x3 ≤ 0 := by omega
theorem q_5a5f544404 {x1 : Int} (h0 : x1 - 15 ≤ 0) : x1 ≤ 15 := by omega
theorem q_9320ba2c05 {x1 : Int} (h0 : x1 ≤ 6) : x1 - 1 ≤ 2147483647 := by omega
theorem q_d957616b8b {x1 : Int} (h0 : x1 - 1000000 ≤ 0) : x1 + 1 ≤ 2147483647 := by omega
theorem q_8bf848900a {x1 : Int} (h0 : x1 ≤ 63) : x1 ≤ 63 := by omega
theorem q_313acc1a51 {x1 : Int} (h0 : -x1 + 1601 < ((0 : Nat) : Int)) (h1 : x1 ≤ 1601) : False := by omega
theorem q_aa456fd6fe {x1 x2 : Int} (h0 : -x1 - x2 ≤ 0) : -x1 - x2 ≤ 0 := by omega
theorem q_3f2a934ec4 {x1 : Int} (h0 : x1 ≤ 1601) : x1 + 1 ≤ 2147483647 := by omega
theorem q_cac708c19b {x1 x2 : Int} (h0 : x1 = x2 + 1) (h1 : x2 ≤ 1600) : x1 ≤ 1601 := by omega
theorem q_87d9217d84 {x1 : Int} (h0 : x1 - 3 ≤ 0) : x1 ≤ 3 := by omega
theorem q_1ead1c75dd {x1 x2 x3 x4 x5 : Int} (h0 : -x1 - x2 + x3 ≤ 0) (h1 : x4 = x3 + 1) (h2 : x5 = x2 + 1) : -x1 - x5 + x4 ≤ 0 := by omega
theorem q_1df1dba3ad {x1 x2 : Int} {n1 : Nat} (h0 : x1 = x2 + 1) (h1 : -x2 + 1601 < ((n1 + 1 : Nat) : Int)) : -x1 + 1601 < (n1 : Int) := by omega
theorem q_8ecf8a2bf8 {x1 x2 : Int} (h0 : -x1 - x2 ≤ 0) (h1 : x2 = 0) : -x1 ≤ 0 := by omega
theorem q_12b1326583 {x1 : Int} (h0 : x1 = 0) : x1 + 1 ≤ 2147483647 := by omega
theorem q_ce01e7a6da {x1 : Int} (h0 : -x1 - 1 ≤ 0) : (-1) ≤ x1 := by omega
theorem q_319b9e2471 {x1 : Int} (h0 : x1 ≤ 0) : x1 ≤ 1601 := by omega
theorem q_1ab37740a2 {x1 : Int} (h0 : -x1 ≤ 0) : (-1) ≤ x1 := by omega
theorem q_6b679f4e4f {x1 : Int} (h0 : x1 ≤ 0) : x1 ≤ 4 := by omega
theorem q_af949619b4 {x1 x2 : Int} (h0 : -x1 ≤ 0) (h1 : -x2 ≤ 0) : -x2 - x1 ≤ 0 := by omega
theorem q_3d3df992fe {x1 x2 x3 : Int} (h0 : x1 = x2 + 1) (h1 : x2 ≤ x3) (h2 : x3 ≤ 15) : x1 ≤ 16 := by omega
theorem q_521b808ea1 {x1 x2 x3 : Int} (h0 : x1 ≤ x2) (h1 : x3 = x1 + 1) : x3 - x2 - 1 ≤ 0 := by omega
theorem q_3c107d4d4e {x1 : Int} (h0 : x1 < 81) : x1 < ((81 : Nat) : Int) := by omega
theorem q_c91fdb11f1 {x1 x2 : Int} (h0 : x1 ≤ x2) (h1 : x2 ≤ 15) : x1 ≤ 15 := by omega
theorem q_3491810b60 {x1 : Int} (h0 : x1 < 81) : x1 + 1 ≤ 2147483647 := by omega
theorem q_47b60a236e {x1 x2 : Int} (h0 : x1 = x2 + 1) (h1 : x2 < 81) : x1 ≤ 81 := by omega
theorem q_60616f21a7 {x1 : Int} (h0 : x1 ≤ 16) : x1 ≤ 16 := by omega
theorem q_aeda34609f {x1 : Int} (h0 : x1 ≤ 5) : x1 + 1 ≤ 2147483647 := by omega
theorem q_45f670d5d5 {x1 x2 x3 : Int} (h0 : x1 = x2 + 1) (h1 : x2 ≤ x3) (h2 : x3 ≤ 4) : x1 ≤ 5 := by omega
theorem q_00529e3716 {x1 x2 : Int} (h0 : x1 = x2 - 1) (h1 : 1 ≤ x2) : 0 ≤ x1 := by omega
theorem q_4255f5efe7 {x1 x2 : Int} (h0 : x1 = x2 - 1) (h1 : x2 ≤ 65536) : x1 ≤ 65535 := by omega
theorem q_335971d0af {x1 x2 : Int} (h0 : x1 ≤ 60) (h1 : 0 ≤ x2) : x1 - x2 ≤ 2147483647 := by omega
theorem q_232407ab69 {x1 : Int} (h0 : x1 ≤ 60) : x1 + 1 ≤ 2147483647 := by omega
theorem q_1f992a1ee2 {x1 x2 x3 : Int} (h0 : x1 = x2 + 1) (h1 : x1 < x3) (h2 : x3 ≤ 60) : x2 < ((60 : Nat) : Int) := by omega
theorem q_5b68d032b0 {x1 x2 x3 x4 : Int} (h0 : x1 = x2 + 1) (h1 : x3 = x2 + 1) (h2 : x3 < x4) (h3 : x4 ≤ 60) : x1 < ((60 : Nat) : Int) := by omega
theorem q_f7bbb7a326 {x1 : Int} (h0 : 0 ≤ x1) : -2147483648 ≤ x1 + 2 := by omega
theorem q_f6c848b1e9 {x1 : Int} (h0 : x1 ≤ 60) : x1 + 2 ≤ 2147483647 := by omega
theorem q_8f6627763a {x1 x2 : Int} (h0 : x1 = x2 + 2) (h1 : 0 ≤ x2) : 0 ≤ x1 := by omega
theorem q_1b7405be80 {x1 x2 x3 x4 : Int} (h0 : x1 = x2 + 2) (h1 : x3 = x2 + 1) (h2 : x3 < x4) (h3 : x4 ≤ 60) : x1 ≤ 60 := by omega
theorem q_84b996d9f0 {x1 x2 : Int} {n1 : Nat} (h0 : x1 = x2 + 2) (h1 : -x2 + 60 < ((n1 + 1 : Nat) : Int)) : -x1 + 60 < (n1 : Int) := by omega
theorem q_060ff3ca01 {x1 : Int} (h0 : x1 ≤ 59) : x1 < ((60 : Nat) : Int) := by omega
theorem q_aaa8ec4ef7 {x1 : Int} (h0 : (-8) ≤ x1) (h1 : x1 + 8 < ((0 : Nat) : Int)) : False := by omega
theorem q_91d929c3b7 {x1 : Int} (h0 : x1 < 1600) : x1 < ((1600 : Nat) : Int) := by omega
theorem q_65d0e719f1 {x1 : Int} (h0 : x1 < 1600) : x1 + 1 ≤ 2147483647 := by omega
theorem q_bd0a0ef61b {x1 x2 : Int} (h0 : x1 = x2 + 1) (h1 : x2 < 1600) : x1 ≤ 1600 := by omega
theorem q_ec6288e748 {x1 : Int} (h0 : 0 ≤ x1) : -2147483648 ≤ x1 + (-8) := by omega
theorem q_42504f709a {x1 : Int} (h0 : x1 ≤ 24) : x1 + (-8) ≤ 2147483647 := by omega
theorem q_f421fefebe {x1 x2 : Int} (h0 : x1 = x2 + (-8)) (h1 : 0 ≤ x2) : (-8) ≤ x1 := by omega
theorem q_23be4890e8 {x1 x2 : Int} (h0 : x1 = x2 + (-8)) (h1 : x2 ≤ 24) : x1 ≤ 24 := by omega
theorem q_c7d998f5aa {x1 x2 : Int} {n1 : Nat} (h0 : x1 = x2 + (-8)) (h1 : x2 + 8 < ((n1 + 1 : Nat) : Int)) : x1 + 8 < (n1 : Int) := by omega
theorem q_f6226e27c9 {x1 : Int} (h0 : x1 ≤ 5) : x1 < ((6 : Nat) : Int) := by omega
theorem q_b880857b86 {x1 x2 x3 : Int} (h0 : x1 = x2 + 1) (h1 : x2 < x3) (h2 : x3 ≤ 5) : x1 ≤ 5 := by omega
theorem q_3df52fe59d {x1 x2 : Int} (h0 : x1 ≤ 54) (h1 : x2 ≤ 9) : x1 + x2 ≤ 2147483647 := by omega
theorem q_f062bc8aa8 {x1 x2 : Int} (h0 : x1 - x2 ≤ 0) (h1 : 0 ≤ x1) : 0 ≤ x2 := by omega
theorem q_2edcb5af22 {x1 : Int} (h0 : x1 = 54) : -x1 ≤ 0 := by omega
theorem q_3ab2471794 {x1 : Int} (h0 : x1 = 54) : x1 - 54 ≤ 0 := by omega
theorem q_0242c386f2 {x1 : Int} (h0 : x1 < 54) : x1 < ((54 : Nat) : Int) := by omega
theorem q_e95318b4b5 {x1 : Int} (h0 : x1 < 54) : x1 + 1 ≤ 2147483647 := by omega
theorem q_0165bec008 {x1 x2 : Int} (h0 : x1 = x2 + 1) (h1 : x2 < 54) : x1 ≤ 63 := by omega
theorem q_6f39cb8ea5 {x1 : Int} (h0 : x1 ≤ 54) : x1 + 1 ≤ 2147483647 := by omega
theorem q_f6ca810411 {x1 x2 x3 : Int} (h0 : x1 = x2 + 1) (h1 : x2 - x3 ≤ 0) (h2 : x3 < 54) : x1 ≤ 54 := by omega
theorem q_ab015180c8 {x1 x2 x3 x4 : Int} (h0 : x1 = x2 + 1) (h1 : x3 = x4 + 1) (h2 : x2 - x4 ≤ 0) : -2147483648 ≤ x3 - x1 := by omega
theorem q_916b6f8bc5 {x1 x2 x3 x4 : Int} (h0 : x1 = x2 + 1) (h1 : x3 = x4 + 1) (h2 : 0 ≤ x2) (h3 : x4 < 54) : x3 - x1 ≤ 2147483647 := by omega
theorem q_7fc46aa87a {x1 x2 x3 x4 x5 : Int} (h0 : x1 = x2 - x3) (h1 : x3 = x4 + 1) (h2 : x2 = x5 + 1) (h3 : x4 - x5 ≤ 0) : -x1 ≤ 0 := by omega
theorem q_8b0265cdc1 {x1 x2 x3 x4 x5 : Int} (h0 : x1 = x2 - x3) (h1 : x3 = x4 + 1) (h2 : x2 = x5 + 1) (h3 : 0 ≤ x4) (h4 : x5 < 54) : x1 - 54 ≤ 0 := by omega
theorem q_2a7c2c8d7c {x1 : Int} (h0 : x1 ≤ 1000) : x1 ≤ 1000 := by omega
theorem q_73036d2669 {x1 : Int} (h0 : -x1 + 54 < ((0 : Nat) : Int)) (h1 : x1 ≤ 54) : False := by omega
theorem q_d421e1eb08 {x1 x2 : Int} (h0 : x1 = x2 + 1) (h1 : x2 < 54) : x1 ≤ 54 := by omega
theorem q_356d0c0a02 {x1 x2 : Int} {n1 : Nat} (h0 : x1 = x2 + 1) (h1 : -x2 + 54 < ((n1 + 1 : Nat) : Int)) : -x1 + 54 < (n1 : Int) := by omega
theorem q_badf304c6d {x1 : Int} (h0 : x1 ≤ 54) : x1 ≤ 54 := by omega
theorem q_071bc28013 {x1 x2 : Int} (h0 : 6 ≤ x1) (h1 : x2 ≤ 6) (h2 : x1 < x2) : False := by omega
theorem q_8174e62746 {x1 x2 x3 : Int} (h0 : 5 ≤ x1) (h1 : x1 < x2) (h2 : x3 ≤ 6) (h3 : x2 - x3 < ((0 : Nat) : Int)) : False := by omega
theorem q_9a865ca0e4 {x1 : Int} (h0 : x1 ≤ 6) : x1 + 1 ≤ 2147483647 := by omega
theorem q_c76cfd8d15 {x1 x2 x3 : Int} (h0 : x1 = x2 + 1) (h1 : x2 < x3) (h2 : x3 ≤ 6) : x1 ≤ 6 := by omega
theorem q_f252e21553 {x1 x2 : Int} (h0 : x1 < x2) (h1 : x2 ≤ 6) : x1 < ((6 : Nat) : Int) := by omega
theorem q_2c6b8d4bd3 {x1 x2 : Int} (h0 : x1 < x2) (h1 : x2 ≤ 6) : x1 ≤ 5 := by omega
theorem q_2027e39019 {x1 x2 : Int} (h0 : -x1 ≤ 0) (h1 : 0 ≤ x2) : -2147483648 ≤ x1 + x2 := by omega
theorem q_66d03a076a {x1 x2 : Int} (h0 : x1 - 54 ≤ 0) (h1 : x2 ≤ 9) : x1 + x2 ≤ 2147483647 := by omega
theorem q_f1c8c7c399 {x1 : Int} (h0 : x1 - 54 ≤ 0) : x1 ≤ 54 := by omega
theorem q_4737848389 {x1 : Int} (h0 : 5 ≤ x1) : -2147483648 ≤ x1 + 1 := by omega
theorem q_dd9d8c1961 {x1 x2 : Int} (h0 : x1 = x2 + 1) (h1 : 5 ≤ x2) : 6 ≤ x1 := by omega
theorem q_85d77b4496 {x1 : Int} (h0 : 4 ≤ x1) : -2147483648 ≤ x1 + 1 := by omega
theorem q_c90b6e32f1 {x1 x2 : Int} (h0 : x1 = x2 + 1) (h1 : 4 ≤ x2) : 5 ≤ x1 := by omega
theorem q_4e46b9e1ab {x1 : Int} (h0 : x1 ≤ 1000) : x1 - 1000 ≤ 0 := by omega
theorem q_ea7f0ffdb1 {x1 : Int} (h0 : 0 ≤ x1) : -x1 - 2 ≤ 0 := by omega
theorem q_867a9ac627 {x1 : Int} (h0 : x1 ≤ 15) : x1 - 15 ≤ 0 := by omega
theorem q_f35c5d346c {x1 : Int} (h0 : x1 = (-2)) : -x1 - 2 ≤ 0 := by omega
theorem q_12a74e12a3 {x1 : Int} (h0 : x1 = (-2)) : x1 - 15 ≤ 0 := by omega
theorem q_ef123ba13c {x1 : Int} (h0 : x1 - 65535 ≤ 0) : x1 - 65535 ≤ 0 := by omega
theorem q_443ead751f {x1 : Int} (h0 : x1 = (-2)) : x1 - 63 ≤ 0 := by omega
theorem q_70a249c7f8 {x1 : Int} (h0 : -x1 ≤ 0) : -x1 - 2 ≤ 0 := by omega
theorem q_4b9206e141 {x1 : Int} (h0 : x1 - 63 ≤ 0) : x1 - 63 ≤ 0 := by omega
theorem q_2583522324 {x1 : Int} (h0 : x1 = (-2)) : -x1 - 6 ≤ 0 := by omega
theorem q_bbb39ffa1e {x1 : Int} (h0 : x1 = (-2)) : x1 ≤ 0 := by omega
theorem q_49fb6350c2 {x1 : Int} (h0 : x1 = 0) : -x1 - 6 ≤ 0 := by omega
theorem q_c5d285f1b9 {x1 : Int} (h0 : x1 = 0) : x1 ≤ 0 := by omega
theorem q_597c727cce {x1 : Int} (h0 : x1 = (-6)) : -x1 - 6 ≤ 0 := by omega
theorem q_9bcb887de1 {x1 : Int} (h0 : x1 = (-6)) : x1 ≤ 0 := by omega
theorem q_817530b61c {x1 x2 : Int} (h0 : x1 - x2 ≤ 0) (h1 : -x1 ≤ 0) : -x2 ≤ 0 := by omega
theorem q_34dc714687 {x1 x2 x3 : Int} (h0 : x1 = x2 + 1) (h1 : x2 < x3) (h2 : x3 - 16 ≤ 0) : x1 ≤ 16 := by omega
theorem q_c15b485600 {x1 x2 : Int} (h0 : x1 < x2) (h1 : x2 - 16 ≤ 0) : x1 ≤ 15 := by omega
theorem q_e0af57759e {x1 : Int} (h0 : x1 - 81 ≤ 0) : x1 ≤ 81 := by omega
theorem q_1d41d4b205 {x1 : Int} (h0 : -x1 - 1 ≤ 0) : -x1 - 6 ≤ 0 := by omega
theorem q_cc7dfeacf0 {x1 : Int} (h0 : x1 - 15 ≤ 0) : x1 - 15 ≤ 0 := by omega
theorem q_629d629181 {x1 : Int} (h0 : -x1 - 6 ≤ 0) : -x1 - 6 ≤ 0 := by omega
theorem q_c633bca181 {x1 : Int} (h0 : x1 ≠ 0) (h1 : x1 ≤ 0) : x1 - 15 ≤ 0 := by omega
theorem q_59613c85e7 {x1 : Int} (h0 : x1 < 3) : x1 < ((3 : Nat) : Int) := by omega
theorem q_18dc70cc6b {x1 : Int} (h0 : x1 = (-2)) : x1 - 54 ≤ 0 := by omega
theorem q_571ae29550 {x1 : Int} (h0 : x1 ≤ 3) : x1 ≤ 4 := by omega
theorem q_5cfa27335b {x1 : Int} (h0 : x1 ≤ 54) : x1 - 54 ≤ 0 := by omega
theorem q_fe58cd40d0 {x1 : Int} (h0 : (-1) ≤ x1) : -x1 - 2 ≤ 0 := by omega
theorem q_09eb541a79 {x1 : Int} (h0 : x1 = (-2)) : x1 - 3 ≤ 0 := by omega
theorem q_f1982a04c6 {x1 : Int} (h0 : x1 = (-2)) : -x1 - 5 ≤ 0 := by omega
theorem q_715ce6bb90 {x1 : Int} (h0 : x1 = (-5)) : -x1 - 5 ≤ 0 := by omega
theorem q_08e77983b4 {x1 : Int} (h0 : x1 = (-5)) : x1 - 3 ≤ 0 := by omega
theorem q_9d3c087e80 {x1 : Int} (h0 : x1 ≠ (-1)) (h1 : x1 = (-1)) : False := by omega
theorem q_2252655278 {x1 : Int} (h0 : x1 = (-1)) : (-1) ≤ x1 := by omega
theorem q_c8445ed0b4 {x1 : Int} (h0 : x1 = (-1)) : x1 ≤ 3 := by omega
theorem q_85f91396a5 {x1 : Int} (h0 : (-1) ≤ x1) : -x1 - 5 ≤ 0 := by omega
theorem q_3198f66952 {x1 x2 x3 : Int} (h0 : x1 = x2 + 1) (h1 : x2 - x3 ≤ 0) (h2 : x3 < 4) : x1 ≤ 4 := by omega
theorem q_dcc8f4d087 {x1 : Int} (h0 : -x1 ≤ 0) : -x1 - 1 ≤ 0 := by omega
theorem q_d10cfc905e {x1 : Int} (h0 : x1 ≤ 4) : x1 - 1601 ≤ 0 := by omega
theorem q_4fc6d69e6c {x1 : Int} (h0 : x1 ≤ 3) : x1 - 1601 ≤ 0 := by omega
theorem q_32c43a042e {x1 : Int} (h0 : x1 ≤ 13) : x1 - 1601 ≤ 0 := by omega
theorem q_088ee88ec2 {x1 : Int} (h0 : x1 ≤ 6) : x1 - 1601 ≤ 0 := by omega
theorem q_48bc463a5c {x1 : Int} (h0 : x1 ≤ 60) : x1 - 1601 ≤ 0 := by omega
theorem q_04500c548f {x1 : Int} (h0 : x1 ≤ 1601) : x1 - 1601 ≤ 0 := by omega
theorem q_ee2013b4bb {x1 : Int} (h0 : x1 ≤ 1600) : x1 - 1601 ≤ 0 := by omega
theorem q_60feebed2c {x1 : Int} (h0 : x1 - 4 ≤ 0) : x1 - 1601 ≤ 0 := by omega
theorem q_699dfd9ce1 {x1 : Int} (h0 : x1 = (-1)) : x1 - 1601 ≤ 0 := by omega
theorem q_7aab8371ca {x1 : Int} (h0 : x1 = (-2)) : x1 - 65535 ≤ 0 := by omega
theorem q_3838339b47 {x1 : Int} : 1103515245 * x1 = 1103515245 * x1 := by omega
theorem q_00a0d70a93 {x1 x2 : Int} (h0 : x1 = x2 % 2147483648) : 0 ≤ x1 := by omega
theorem q_2e44a78811 {x1 x2 : Int} (h0 : x1 = x2 % 2147483648) : x1 ≤ 2147483647 := by omega
theorem q_ab791a917f {x1 : Int} (h0 : x1 ≤ 2) : x1 - 50 ≤ 0 := by omega
theorem q_1608b91b28 {x1 : Int} (h0 : x1 ≤ 50) : x1 - 50 ≤ 0 := by omega
theorem q_40e7a490d5 {x1 : Int} (h0 : x1 ≤ 13) : x1 - 50 ≤ 0 := by omega
theorem q_dc79e997ce {x1 : Int} (h0 : x1 ≤ 3) : x1 - 50 ≤ 0 := by omega
theorem q_307520f238 {x1 : Int} (h0 : x1 = (-2)) : x1 - 50 ≤ 0 := by omega
theorem q_9f1e7068c9 {x1 : Int} (h0 : -x1 + 3 < ((0 : Nat) : Int)) (h1 : x1 ≤ 3) : False := by omega
theorem q_316dab1512 {x1 : Int} (h0 : x1 ≤ 2) : x1 - 2 ≤ 0 := by omega
theorem q_6ae830b01d {x1 : Int} (h0 : x1 < 3) : x1 + 1 ≤ 2147483647 := by omega
theorem q_84805d5d8e {x1 x2 : Int} (h0 : x1 = x2 + 1) (h1 : x2 < 3) : x1 ≤ 3 := by omega
theorem q_6272716eb4 {x1 x2 : Int} {n1 : Nat} (h0 : x1 = x2 + 1) (h1 : -x2 + 3 < ((n1 + 1 : Nat) : Int)) : -x1 + 3 < (n1 : Int) := by omega
theorem q_f1519f12c0 {x1 : Int} (h0 : x1 < 3) : x1 ≤ 2 := by omega
theorem q_53fa448498 {x1 : Int} (h0 : x1 = (-2)) : x1 - 2 ≤ 0 := by omega
theorem q_99664cbdae {x1 : Int} (h0 : x1 = (-1)) : x1 - 1600 ≤ 0 := by omega
theorem q_eeb85c3030 {x1 x2 : Int} (h0 : x1 ≤ x2) (h1 : x2 ≤ 1600) : x1 ≤ 1600 := by omega
theorem q_50cb7dcfb3 {x1 x2 : Int} (h0 : x1 ≤ x2) (h1 : x2 ≤ 1600) : x1 - 1600 ≤ 0 := by omega
theorem q_31525ae3c9 {x1 : Int} (h0 : x1 ≤ 1) : x1 - 15 ≤ 0 := by omega
theorem q_5a08281576 {x1 : Int} (h0 : x1 ≤ 1600) : x1 - 1600 ≤ 0 := by omega
theorem q_d82ac32af9 {x1 : Int} (h0 : x1 ≤ 3) : x1 - 1600 ≤ 0 := by omega
theorem q_b317acd289 {x1 : Int} (h0 : 0 ≤ x1) : -2147483648 ≤ x1 + 20 := by omega
theorem q_3065489387 {x1 : Int} (h0 : x1 ≤ 1600) : x1 + 20 ≤ 2147483647 := by omega
theorem q_e1de8c7867 {x1 : Int} (h0 : x1 = (-1)) : -x1 - 2 ≤ 0 := by omega
theorem q_c86a015a5d {x1 : Int} (h0 : x1 = (-1)) : x1 - 63 ≤ 0 := by omega
theorem q_8061444f0d {x1 : Int} (h0 : -x1 ≤ 0) : -x1 - 6 ≤ 0 := by omega
theorem q_62172f5eca {x1 : Int} (h0 : x1 - 81 ≤ 0) : x1 - 81 ≤ 0 := by omega
theorem q_debdfeb6c0 {x1 : Int} (h0 : x1 ≠ 0) (h1 : x1 ≤ 0) : x1 - 81 ≤ 0 := by omega
theorem q_d018790b8b {x1 x2 : Int} (h0 : x1 - 63 ≤ 0) (h1 : -x2 ≤ 0) : -2147483648 ≤ x2 - x1 := by omega
theorem q_3fa6c10ab4 {x1 x2 : Int} (h0 : -x1 ≤ 0) (h1 : x2 - 63 ≤ 0) : x2 - x1 ≤ 2147483647 := by omega
theorem q_fb51dea35d {x1 x2 x3 : Int} (h0 : x1 = x2 - x3) (h1 : x3 - 63 ≤ 0) (h2 : -x2 ≤ 0) : -x1 - 63 ≤ 0 := by omega
theorem q_5e305e2bed {x1 x2 x3 : Int} (h0 : x1 = x2 - x3) (h1 : -x3 ≤ 0) (h2 : x2 - 63 ≤ 0) : x1 - 63 ≤ 0 := by omega
theorem q_44e84994b9 {x1 : Int} (h0 : x1 = (-1000)) : -x1 - 1000 ≤ 0 := by omega
theorem q_53bcfed32a {x1 : Int} (h0 : x1 = (-1000)) : x1 - 63 ≤ 0 := by omega
theorem q_0dd3b74ee0 {x1 : Int} (h0 : -x1 - 63 ≤ 0) : -x1 - 1000 ≤ 0 := by omega
theorem q_680688d8e6 {x1 : Int} (h0 : x1 = (-2)) : x1 - 1 ≤ 0 := by omega
theorem q_ad5b726bf8 {x1 : Int} (h0 : x1 - 1 ≤ 0) : x1 - 1 ≤ 0 := by omega
theorem q_57f31fc63d {x1 x2 x3 : Int} (h0 : x1 ≤ x2) (h1 : x3 - x1 ≤ 0) (h2 : x2 - x3 < ((0 : Nat) : Int)) : False := by omega
theorem q_9034d5bea5 {x1 x2 : Int} (h0 : x1 < x2) (h1 : x2 ≤ 4) : 4 * x1 ≤ 2147483647 := by omega
theorem q_9989d21511 {x1 x2 x3 x4 x5 : Int} (h0 : x1 < x2) (h1 : x3 = 4 * x4) (h2 : x2 ≤ 4) (h3 : x4 < x5) (h4 : x5 ≤ 4) : x3 + x1 ≤ 2147483647 := by omega
theorem q_6fc0f4f6fe {x1 x2 x3 x4 x5 x6 : Int} (h0 : x1 = x2 + x3) (h1 : x3 < x4) (h2 : x2 = 4 * x5) (h3 : x4 ≤ 4) (h4 : x5 < x6) (h5 : x6 ≤ 4) : x1 < ((16 : Nat) : Int) := by omega
theorem q_db04968c7a {x1 : Int} (h0 : x1 ≤ 8192) : x1 - 1 ≤ 2147483647 := by omega
theorem q_23b8b6a2d5 {x1 : Int} (h0 : x1 ≤ 8191) : x1 - 8191 ≤ 0 := by omega
theorem q_67d26d8395 {x1 x2 : Int} (h0 : x1 = x2 - 1) (h1 : x2 ≤ 8192) : x1 ≤ 8191 := by omega
theorem q_55a330f117 {x1 : Int} (h0 : x1 = (-2)) : x1 - 8191 ≤ 0 := by omega
theorem q_0f6934dca7 {x1 : Int} (h0 : -x1 + 50 < ((0 : Nat) : Int)) (h1 : x1 ≤ 50) : False := by omega
theorem q_9c4c04fc55 {x1 : Int} : 2 * x1 = 2 * x1 := by omega
theorem q_ed0f500fe1 {x1 : Int} (h0 : -x1 + 1 ≤ 0) : -2147483648 ≤ 2 * x1 := by omega
theorem q_9941f753b9 {x1 : Int} (h0 : x1 - 16 ≤ 0) : 2 * x1 ≤ 2147483647 := by omega
theorem q_61cf7f4980 {x1 x2 : Int} (h0 : x1 - x2 + 1 ≤ 0) (h1 : x2 ≤ 50) : x1 - 49 ≤ 0 := by omega
theorem q_5ea82835eb {x1 x2 : Int} (h0 : x1 = x2 / 2) (h1 : 0 ≤ x2) : 0 ≤ x1 := by omega
theorem q_346e83b918 {x1 x2 x3 x4 : Int} (h0 : x1 = x2 / 2) (h1 : x2 < x3) (h2 : x3 = 2 * x4) (h3 : x4 - 16 ≤ 0) : x1 ≤ 15 := by omega
theorem q_dafedd1c83 {x1 x2 : Int} (h0 : x1 = x2 % 2) : 0 ≤ x1 := by omega
theorem q_3228505f2f {x1 x2 : Int} (h0 : x1 = x2 % 2) : x1 ≤ 1 := by omega
theorem q_c4feee4d2e {x1 : Int} (h0 : x1 ≤ 50) : x1 + 1 ≤ 2147483647 := by omega
theorem q_7ba38ea167 {x1 x2 x3 x4 : Int} (h0 : x1 = x2 + 1) (h1 : x2 < x3) (h2 : x3 = 2 * x4) (h3 : x4 - 16 ≤ 0) : x1 ≤ 50 := by omega
theorem q_fc5bfd9d02 {x1 x2 : Int} {n1 : Nat} (h0 : x1 = x2 + 1) (h1 : -x2 + 50 < ((n1 + 1 : Nat) : Int)) : -x1 + 50 < (n1 : Int) := by omega
theorem q_6360ebae75 {x1 x2 : Int} (h0 : x1 < x2) (h1 : 0 ≤ x1) : 0 ≤ x2 := by omega
theorem q_2e1fc29cd6 {x1 : Int} (h0 : x1 = (-2)) : x1 - 49 ≤ 0 := by omega
theorem q_a2119e8b7a {x1 : Int} (h0 : x1 = (-2)) : x1 - 1000 ≤ 0 := by omega
theorem q_1655d09eed {x1 : Int} (h0 : x1 - 1000 ≤ 0) : x1 - 1000 ≤ 0 := by omega
theorem q_44d6f75ba8 {x1 : Int} (h0 : x1 ≤ 15) : x1 - 63 ≤ 0 := by omega
theorem q_cca129732b {x1 : Int} (h0 : x1 = (-1)) : x1 - 3 ≤ 0 := by omega
theorem q_bef0d034f7 {x1 : Int} (h0 : x1 = 0) : -x1 - 2 ≤ 0 := by omega
theorem q_a224a6b9a0 {x1 : Int} (h0 : x1 = (-2)) : x1 - 81 ≤ 0 := by omega
theorem q_375eb53874 {x1 : Int} (h0 : x1 ≠ (-1)) (h1 : x1 ≠ (-2)) (h2 : -x1 - 2 ≤ 0) : 0 ≤ x1 := by omega
theorem q_af62099904 {x1 : Int} (h0 : x1 = (-1)) : x1 - 15 ≤ 0 := by omega
theorem q_ce07321c0d {x1 : Int} (h0 : x1 ≤ 1297) : x1 ≤ 1297 := by omega
theorem q_a1a35d549d {x1 x2 : Int} (h0 : x1 < x2) (h1 : x2 ≤ 1297) : x1 ≤ 1297 := by omega
theorem q_a9585dd42b {x1 : Int} (h0 : x1 = (-2)) : -x1 - 8 ≤ 0 := by omega
theorem q_04810bc0c7 {x1 : Int} (h0 : x1 = (-6)) : -x1 - 8 ≤ 0 := by omega
theorem q_bed7a61884 {x1 : Int} (h0 : x1 = (-7)) : -x1 - 8 ≤ 0 := by omega
theorem q_d916b56ab6 {x1 : Int} (h0 : x1 = (-7)) : x1 ≤ 0 := by omega
theorem q_444a964a01 {x1 : Int} (h0 : x1 = 0) : -x1 - 8 ≤ 0 := by omega
theorem q_433a6fecb0 {x1 : Int} (h0 : x1 = (-8)) : -x1 - 8 ≤ 0 := by omega
theorem q_e64e7d08e3 {x1 : Int} (h0 : x1 = (-8)) : x1 ≤ 0 := by omega
theorem q_bfbda685e5 {x1 : Int} (h0 : x1 = (-1)) : x1 - 215 ≤ 0 := by omega
theorem q_ec6b471118 {x1 : Int} : 100 * x1 = 100 * x1 := by omega
theorem q_c2dc73a4d1 {x1 : Int} (h0 : 0 ≤ x1) : -2147483648 ≤ 100 * x1 := by omega
theorem q_4849263c2c {x1 : Int} (h0 : x1 < 3) : 100 * x1 ≤ 2147483647 := by omega
theorem q_5f97f9cf0f {x1 x2 x3 : Int} (h0 : 0 ≤ x1) (h1 : x2 = 100 * x3) (h2 : 0 ≤ x3) : -2147483648 ≤ x2 + x1 := by omega
theorem q_969932ee8b {x1 x2 x3 x4 : Int} (h0 : x1 < x2) (h1 : x3 = 100 * x4) (h2 : x4 < 3) (h3 : x2 - 16 ≤ 0) : x3 + x1 ≤ 2147483647 := by omega
theorem q_89fb32ea47 {x1 x2 x3 x4 : Int} (h0 : x1 = x2 + x3) (h1 : 0 ≤ x3) (h2 : x2 = 100 * x4) (h3 : 0 ≤ x4) : -x1 - 2 ≤ 0 := by omega
theorem q_f0f33d7539 {x1 x2 x3 x4 x5 : Int} (h0 : x1 = x2 + x3) (h1 : x3 < x4) (h2 : x2 = 100 * x5) (h3 : x5 < 3) (h4 : x4 - 16 ≤ 0) : x1 - 215 ≤ 0 := by omega
theorem q_45d2ac33e5 {x1 : Int} (h0 : x1 = (-2)) : x1 - 215 ≤ 0 := by omega
theorem q_65b477db59 {x1 : Int} (h0 : x1 = (-2)) : -x1 - 3 ≤ 0 := by omega
theorem q_795fc9ee7e {x1 : Int} (h0 : x1 < 4) : x1 ≤ 3 := by omega
theorem q_fe9485f41f {x1 : Int} (h0 : x1 = 0) : -x1 - 3 ≤ 0 := by omega
theorem q_3ed35d91e6 {x1 : Int} (h0 : x1 = (-3)) : -x1 - 3 ≤ 0 := by omega
theorem q_16f03d2a2f {x1 : Int} (h0 : x1 = (-3)) : x1 ≤ 0 := by omega
theorem q_e35b2e457c {x1 : Int} (h0 : x1 = (-2)) : x1 - 80 ≤ 0 := by omega
theorem q_108dc72d76 {x1 : Int} (h0 : -x1 - 1 ≤ 0) : -x1 - 2 ≤ 0 := by omega
theorem q_8ed889c819 {x1 : Int} (h0 : x1 ≤ 15) : x1 - 80 ≤ 0 := by omega
theorem q_3d8d12402f {x1 : Int} (h0 : x1 ≠ (-1)) (h1 : -x1 - 1 ≤ 0) : -x1 - 2 ≤ 0 := by omega
theorem q_370493a97e {x1 : Int} (h0 : x1 - 80 ≤ 0) : x1 - 80 ≤ 0 := by omega
theorem q_7430e21245 {x1 : Int} (h0 : 0 ≤ x1) : -x1 - 6 ≤ 0 := by omega
theorem q_0e0c9aeb77 {x1 x2 : Int} (h0 : -x1 - x2 ≤ 0) (h1 : x2 = 0) : 0 ≤ x1 := by omega
theorem q_3b4a8cfc23 {x1 : Int} (h0 : 0 ≤ x1) : -x1 - 4 ≤ 0 := by omega
theorem q_3a4f36f5dd {x1 : Int} (h0 : x1 = (-4)) : -x1 - 4 ≤ 0 := by omega
theorem q_ebabfa474d {x1 : Int} (h0 : x1 = (-4)) : x1 - 1601 ≤ 0 := by omega
theorem q_2eeef1728f {x1 : Int} (h0 : x1 = (-2)) : x1 - 65536 ≤ 0 := by omega
theorem q_c5fc87f58a {x1 : Int} (h0 : x1 - 65536 ≤ 0) : x1 - 65536 ≤ 0 := by omega
theorem q_5b19fa5313 (h0 : (-2 : Int) = 0) : False := by omega
theorem q_7c313bac4c {x1 : Int} (h0 : x1 ≠ 0) (h1 : x1 ≤ 0) : x1 - 65535 ≤ 0 := by omega
theorem q_885c998ca8 {x1 : Int} (h0 : 0 ≤ x1) : -x1 - 5 ≤ 0 := by omega
theorem q_5fe2809411 {x1 : Int} (h0 : x1 ≤ 13) : x1 - 13 ≤ 0 := by omega
theorem q_95657dd6ca {x1 : Int} (h0 : x1 = (-3)) : -x1 - 5 ≤ 0 := by omega
theorem q_ac30c7c473 {x1 : Int} (h0 : x1 = (-2)) : x1 - 13 ≤ 0 := by omega
theorem q_5236ee192b {x1 : Int} (h0 : (-1) ≤ x1) : -2147483648 ≤ x1 + 1 := by omega
theorem q_30821ffab8 {x1 : Int} (h0 : x1 ≤ 3) : x1 + 1 ≤ 2147483647 := by omega
theorem q_3d6de704c2 {x1 x2 : Int} (h0 : x1 = x2 + 1) (h1 : x2 ≤ 3) : x1 ≤ 4 := by omega
theorem q_af337f4dc9 {x1 x2 : Int} (h0 : -x1 ≤ 0) (h1 : x2 - 1000 ≤ 0) : -2147483648 ≤ x1 - x2 := by omega
theorem q_3f5fcd62a2 {x1 x2 : Int} (h0 : x1 - 1000 ≤ 0) (h1 : -x2 ≤ 0) : x1 - x2 ≤ 2147483647 := by omega
theorem q_859da2f9a5 {x1 x2 x3 : Int} (h0 : x1 = x2 - x3) (h1 : -x2 ≤ 0) (h2 : x3 - 1000 ≤ 0) : -x1 - 1000 ≤ 0 := by omega
theorem q_95980b6087 {x1 x2 x3 : Int} (h0 : x1 = x2 - x3) (h1 : x2 - 1000 ≤ 0) (h2 : -x3 ≤ 0) : x1 - 1000 ≤ 0 := by omega
theorem q_4f403e2227 {x1 : Int} (h0 : x1 = (-2)) : -x1 - 1000 ≤ 0 := by omega
theorem q_0dccbb4f83 {x1 : Int} (h0 : -x1 - 2 ≤ 0) : -x1 - 2 ≤ 0 := by omega
theorem q_133b9801a0 {x1 : Int} (h0 : x1 < 0) : x1 - 63 ≤ 0 := by omega
theorem q_54cbb2fad7 {x1 : Int} (h0 : 0 < x1) : -2147483648 ≤ x1 - 1 := by omega
theorem q_b13050f55d {x1 : Int} (h0 : x1 ≤ 60) : x1 - 1 ≤ 2147483647 := by omega
theorem q_db393f81b4 {x1 x2 : Int} (h0 : x1 = x2 - 1) (h1 : 0 < x2) : 0 ≤ x1 := by omega
theorem q_7c91e6b6c0 {x1 x2 : Int} (h0 : x1 = x2 - 1) (h1 : x2 ≤ 60) : x1 ≤ 60 := by omega
theorem q_4fc14da448 {x1 x2 : Int} (h0 : x1 = x2 - 1) (h1 : x2 ≤ 60) : x1 < ((60 : Nat) : Int) := by omega
theorem q_b87250905e {x1 : Int} (h0 : x1 = (-2)) : x1 - 17 ≤ 0 := by omega
theorem q_49910fdb8e {x1 : Int} (h0 : x1 ≤ 17) : x1 - 17 ≤ 0 := by omega
theorem q_3a9328797d {x1 : Int} (h0 : x1 ≤ 2) : x1 - 17 ≤ 0 := by omega
theorem q_009443cf7f {x1 : Int} (h0 : x1 ≤ 17) : x1 ≤ 17 := by omega
theorem q_5f93834205 {x1 x2 : Int} (h0 : x1 < x2) (h1 : x2 ≤ 17) : x1 ≤ 17 := by omega
theorem q_5a5c18c2ab {x1 : Int} (h0 : x1 = (-2)) : x1 - 12 ≤ 0 := by omega
theorem q_1d71e39f5f {x1 : Int} (h0 : x1 - 12 ≤ 0) : x1 - 12 ≤ 0 := by omega
theorem q_5f0d62c7c2 {x1 : Int} (h0 : x1 = (-7)) : -x1 - 7 ≤ 0 := by omega
theorem q_a0748cdabb {x1 x2 : Int} (h0 : x1 < x2) (h1 : x2 ≤ 60) : x1 ≤ 59 := by omega
theorem q_6d44640201 {x1 : Int} (h0 : x1 = 0) : -x1 - 7 ≤ 0 := by omega
theorem q_4b9e07ab0d {x1 : Int} (h0 : x1 = (-6)) : -x1 - 7 ≤ 0 := by omega
theorem q_070af0ac3b {x1 : Int} (h0 : x1 = (-2)) : -x1 - 7 ≤ 0 := by omega
theorem q_1be818c737 {x1 : Int} (h0 : x1 = (-2)) : x1 - 20 ≤ 0 := by omega
theorem q_dfa22fc04d {x1 : Int} (h0 : x1 ≤ 20) : x1 - 20 ≤ 0 := by omega
theorem q_ac83b3f23b {x1 : Int} (h0 : x1 ≤ 20) : x1 + 1 ≤ 2147483647 := by omega
theorem q_079ab43be6 {x1 : Int} (h0 : x1 ≤ 20) : x1 ≤ 20 := by omega
theorem q_da74ed08cc {x1 x2 x3 : Int} (h0 : x1 = x2 + 1) (h1 : x2 < x3) (h2 : x3 ≤ 20) : x1 ≤ 20 := by omega
theorem q_26603d7e57 {x1 x2 x3 x4 : Int} (h0 : x1 = x2 + 1) (h1 : x2 - x3 ≤ 0) (h2 : x3 < x4) (h3 : x4 ≤ 20) : x1 ≤ 20 := by omega
theorem q_587b0aad9f {x1 : Int} (h0 : x1 - 16 ≤ 0) : x1 < ((17 : Nat) : Int) := by omega
theorem q_f47f9b2586 {x1 : Int} (h0 : x1 - 16 ≤ 0) : x1 + 1 ≤ 2147483647 := by omega
theorem q_2809db51dd {x1 x2 : Int} (h0 : x1 = x2 + 1) (h1 : x2 - 16 ≤ 0) : x1 ≤ 17 := by omega
theorem q_eeff886842 {x1 x2 : Int} (h0 : x1 = x2 + 1) (h1 : 0 ≤ x2) : -x1 + 1 ≤ 0 := by omega
theorem q_ccd2290ce9 {x1 x2 : Int} (h0 : x1 = x2 + 1) (h1 : x2 - 16 ≤ 0) : x1 - 17 ≤ 0 := by omega
theorem q_0f0670fdd6 {x1 x2 : Int} (h0 : x1 = x2 + 1) : -x1 + x2 + 1 ≤ 0 := by omega
theorem q_4cc0346bde {x1 : Int} (h0 : x1 = (-1)) : x1 - 255 ≤ 0 := by omega
theorem q_e1eb333c37 {x1 x2 : Int} (h0 : x1 = x2 + 1) (h1 : 0 ≤ x2) : -x1 ≤ 0 := by omega
theorem q_d3066aae82 {x1 x2 x3 : Int} (h0 : x1 - x2 ≤ 0) (h1 : x3 = x2 + 1) : -x3 + x1 ≤ 0 := by omega
theorem q_7a801dc1c2 : (10 : Int) * 0 = 0 := by omega
theorem q_b06503e6ab {x1 x2 : Int} (h0 : x1 = 0) (h1 : x2 - 255 ≤ 0) : x1 + x2 ≤ 2147483647 := by omega
theorem q_09b582373b {x1 x2 x3 : Int} (h0 : x1 = x2 + x3) (h1 : x2 = 0) (h2 : x3 - 255 ≤ 0) : x1 - 48 ≤ 2147483647 := by omega
theorem q_d82d3967f0 {x1 x2 x3 x4 x5 : Int} (h0 : -x1 + x2 ≤ 0) (h1 : x1 = x3 - 48) (h2 : x3 = x4 + x5) (h3 : x4 = 0) (h4 : x5 - 255 ≤ 0) : x2 ≤ 99999 := by omega
theorem q_43cac120cc {x1 : Int} (h0 : 1 ≤ x1) : -x1 ≤ 0 := by omega
theorem q_850945eed1 {x1 x2 x3 x4 : Int} (h0 : x1 - x2 ≤ 0) (h1 : x3 = x2 + 1) (h2 : x3 - x4 ≤ 0) : -x4 + x1 ≤ 0 := by omega
theorem q_5488d9fc23 {x1 x2 x3 x4 : Int} (h0 : x1 - x2 ≤ 0) (h1 : x3 = x2 + 1) (h2 : x3 - x4 ≤ 0) : x1 - x4 ≤ 0 := by omega
theorem q_9f72b99036 {x1 : Int} : 10 * x1 = 10 * x1 := by omega
theorem q_66aa5f5af3 {x1 : Int} (h0 : 0 ≤ x1) : -2147483648 ≤ 10 * x1 := by omega
theorem q_b62f261964 {x1 : Int} (h0 : x1 ≤ 99999) : 10 * x1 ≤ 2147483647 := by omega
theorem q_bafc1b40c9 {x1 x2 x3 : Int} (h0 : x1 = 10 * x2) (h1 : x3 - 255 ≤ 0) (h2 : x2 ≤ 99999) : x1 + x3 ≤ 2147483647 := by omega
theorem q_17eb69d6a3 {x1 x2 x3 x4 : Int} (h0 : x1 = x2 + x3) (h1 : x2 = 10 * x4) (h2 : x3 - 255 ≤ 0) (h3 : x4 ≤ 99999) : x1 - 48 ≤ 2147483647 := by omega
theorem q_44c325ea65 {x1 x2 : Int} (h0 : x1 = x2 + 1) (h1 : 1 ≤ x2) : 0 ≤ x1 := by omega
theorem q_7518dd5232 {x1 x2 : Int} (h0 : x1 = x2 + 1) (h1 : 1 ≤ x2) : 1 ≤ x1 := by omega
theorem q_10d278d690 {x1 x2 : Int} (h0 : x1 - x2 ≤ 0) : -x2 + x1 ≤ 0 := by omega
theorem q_f67127b06c {x1 x2 : Int} (h0 : x1 - x2 ≤ 0) : x1 - x2 ≤ 0 := by omega
theorem q_4f183090a0 {x1 x2 x3 : Int} (h0 : x1 = 154 + x2) (h1 : x2 = 2 * x3) (h2 : 0 ≤ x3) : ((154 : Nat) : Int) ≤ x1 := by omega
theorem q_a2deeb3a09 {x1 x2 x3 : Int} (h0 : x1 = 154 + x2) (h1 : x2 = 2 * x3) (h2 : x3 ≤ 5) : x1 < ((154 : Nat) : Int) + ((2 : Nat) : Int) * ((6 : Nat) : Int) := by omega
theorem q_1f9eb023d9 {x1 x2 x3 : Int} (h0 : x1 = 2 * x2) (h1 : x3 = 154 + x1) : (x3 - ((154 : Nat) : Int)) % ((2 : Nat) : Int) = 0 := by omega
theorem q_1f719a6719 {x1 : Int} (h0 : 0 ≤ x1) : -2147483648 ≤ 2 * x1 := by omega
theorem q_6084c30cbd {x1 : Int} (h0 : x1 ≤ 5) : 2 * x1 ≤ 2147483647 := by omega
theorem q_35d2865be9 {x1 x2 : Int} (h0 : x1 = 2 * x2) (h1 : 0 ≤ x2) : -2147483648 ≤ 154 + x1 := by omega
theorem q_37b8e4bcc4 {x1 x2 : Int} (h0 : x1 = 2 * x2) (h1 : x2 ≤ 5) : 154 + x1 ≤ 2147483647 := by omega
theorem q_ccc63f2e7e {x1 x2 x3 : Int} (h0 : x1 = 154 + x2) (h1 : x2 = 2 * x3) (h2 : 0 ≤ x3) : 0 ≤ x1 := by omega
theorem q_916e3ddc0c {x1 x2 x3 : Int} (h0 : x1 = 154 + x2) (h1 : x2 = 2 * x3) (h2 : x3 ≤ 5) : x1 < ((226 : Nat) : Int) := by omega
theorem q_eb9502dde8 {x1 x2 : Int} (h0 : 0 ≤ x1) (h1 : -x2 ≤ 0) : -2147483648 ≤ x1 + x2 := by omega
theorem q_59dac5040b {x1 x2 : Int} (h0 : x1 ≤ 111) (h1 : x2 - 9 ≤ 0) : x1 + x2 ≤ 2147483647 := by omega
theorem q_756310faf7 {x1 x2 x3 x4 : Int} (h0 : x1 = x2 + 1) (h1 : x2 = 154 + x3) (h2 : x3 = 2 * x4) (h3 : x4 ≤ 5) : x1 < ((157 : Nat) : Int) + ((2 : Nat) : Int) * ((5 : Nat) : Int) := by omega
theorem q_951b0f7e1b {x1 x2 x3 x4 : Int} (h0 : x1 = 2 * x2) (h1 : x3 = 154 + x1) (h2 : x4 = x3 + 1) : (x4 - ((157 : Nat) : Int)) % ((2 : Nat) : Int) = 0 := by omega
theorem q_2a493b5167 {x1 x2 x3 : Int} (h0 : x1 = 2 * x2) (h1 : x3 < x2) (h2 : 0 ≤ x3) : -2147483648 ≤ 154 + x1 := by omega
theorem q_e805c90172 {x1 x2 x3 x4 : Int} (h0 : x1 = 154 + x2) (h1 : x2 = 2 * x3) (h2 : x4 < x3) (h3 : 0 ≤ x4) : -2147483648 ≤ x1 + 1 := by omega
theorem q_ec28dd8106 {x1 x2 x3 : Int} (h0 : x1 = 154 + x2) (h1 : x2 = 2 * x3) (h2 : x3 ≤ 5) : x1 + 1 ≤ 2147483647 := by omega
theorem q_fb66f228a0 {x1 x2 x3 x4 x5 : Int} (h0 : x1 = x2 + 1) (h1 : x2 = 154 + x3) (h2 : x3 = 2 * x4) (h3 : x5 < x4) (h4 : 0 ≤ x5) : ((157 : Nat) : Int) ≤ x1 := by omega
theorem q_36622a292a {x1 x2 x3 x4 x5 : Int} (h0 : x1 = x2 + 1) (h1 : x2 = 154 + x3) (h2 : x3 = 2 * x4) (h3 : x5 < x4) (h4 : 0 ≤ x5) : 0 ≤ x1 := by omega
theorem q_9650422e8f {x1 x2 x3 x4 : Int} (h0 : x1 = x2 + 1) (h1 : x2 = 154 + x3) (h2 : x3 = 2 * x4) (h3 : x4 ≤ 5) : x1 < ((226 : Nat) : Int) := by omega
theorem q_c4fbf921fa {x1 : Int} (h0 : x1 ≤ 5) : x1 ≤ 7 := by omega
theorem q_44d807139a {x1 x2 x3 : Int} (h0 : x1 ≤ x2) (h1 : x2 < x3) (h2 : x3 - 16 ≤ 0) : x1 ≤ 15 := by omega
theorem q_2cbd4aee36 {x1 x2 x3 x4 : Int} (h0 : x1 = x2 + 1) (h1 : x2 ≤ x3) (h2 : x3 < x4) (h3 : x4 - 16 ≤ 0) : x1 ≤ 16 := by omega
theorem q_8696eb12a7 {x1 : Int} : 4 * x1 = 4 * x1 := by omega
theorem q_395a9d924c {x1 : Int} (h0 : x1 ≤ 3) : 4 * x1 ≤ 2147483647 := by omega
theorem q_7bfa00123f {x1 x2 : Int} (h0 : x1 = 4 * x2) (h1 : 0 ≤ x2) : -2147483648 ≤ 10 + x1 := by omega
theorem q_a63fdf625c {x1 x2 : Int} (h0 : x1 = 4 * x2) (h1 : x2 ≤ 3) : 10 + x1 ≤ 2147483647 := by omega
theorem q_ea89b7ca88 {x1 x2 x3 x4 : Int} (h0 : 0 ≤ x1) (h1 : x2 = 10 + x3) (h2 : x3 = 4 * x4) (h3 : 0 ≤ x4) : -2147483648 ≤ x2 + x1 := by omega
theorem q_889d81d609 {x1 x2 x3 x4 : Int} (h0 : x1 ≤ 0) (h1 : x2 = 10 + x3) (h2 : x3 = 4 * x4) (h3 : x4 ≤ 3) : x2 + x1 ≤ 2147483647 := by omega
theorem q_0f25807f40 {x1 x2 x3 x4 x5 : Int} (h0 : x1 = x2 + x3) (h1 : 0 ≤ x3) (h2 : x2 = 10 + x4) (h3 : x4 = 4 * x5) (h4 : 0 ≤ x5) : 0 ≤ x1 := by omega
theorem q_8ac9d8190d {x1 x2 x3 x4 x5 : Int} (h0 : x1 = x2 + x3) (h1 : x3 ≤ 0) (h2 : x2 = 10 + x4) (h3 : x4 = 4 * x5) (h4 : x5 ≤ 3) : x1 < ((226 : Nat) : Int) := by omega
theorem q_9b568fec97 {x1 x2 x3 x4 : Int} (h0 : 1 ≤ x1) (h1 : x2 = 10 + x3) (h2 : x3 = 4 * x4) (h3 : 0 ≤ x4) : -2147483648 ≤ x2 + x1 := by omega
theorem q_d5c943c79d {x1 x2 x3 x4 : Int} (h0 : x1 ≤ 1) (h1 : x2 = 10 + x3) (h2 : x3 = 4 * x4) (h3 : x4 ≤ 3) : x2 + x1 ≤ 2147483647 := by omega
theorem q_c171156e7d {x1 x2 x3 x4 x5 : Int} (h0 : x1 = x2 + x3) (h1 : 1 ≤ x3) (h2 : x2 = 10 + x4) (h3 : x4 = 4 * x5) (h4 : 0 ≤ x5) : 0 ≤ x1 := by omega
theorem q_a2e5118616 {x1 x2 x3 x4 x5 : Int} (h0 : x1 = x2 + x3) (h1 : x3 ≤ 1) (h2 : x2 = 10 + x4) (h3 : x4 = 4 * x5) (h4 : x5 ≤ 3) : x1 < ((226 : Nat) : Int) := by omega
theorem q_ef817ac353 {x1 x2 x3 x4 : Int} (h0 : 2 ≤ x1) (h1 : x2 = 10 + x3) (h2 : x3 = 4 * x4) (h3 : 0 ≤ x4) : -2147483648 ≤ x2 + x1 := by omega
theorem q_40a73e70cb {x1 x2 x3 x4 : Int} (h0 : x1 ≤ 2) (h1 : x2 = 10 + x3) (h2 : x3 = 4 * x4) (h3 : x4 ≤ 3) : x2 + x1 ≤ 2147483647 := by omega
theorem q_16a2a14341 {x1 x2 x3 x4 x5 : Int} (h0 : x1 = x2 + x3) (h1 : 2 ≤ x3) (h2 : x2 = 10 + x4) (h3 : x4 = 4 * x5) (h4 : 0 ≤ x5) : 0 ≤ x1 := by omega
theorem q_8a76eee028 {x1 x2 x3 x4 x5 : Int} (h0 : x1 = x2 + x3) (h1 : x3 ≤ 2) (h2 : x2 = 10 + x4) (h3 : x4 = 4 * x5) (h4 : x5 ≤ 3) : x1 < ((226 : Nat) : Int) := by omega
theorem q_28aa76c899 {x1 x2 x3 x4 : Int} (h0 : 3 ≤ x1) (h1 : x2 = 10 + x3) (h2 : x3 = 4 * x4) (h3 : 0 ≤ x4) : -2147483648 ≤ x2 + x1 := by omega
theorem q_055c074749 {x1 x2 x3 x4 : Int} (h0 : x1 ≤ 3) (h1 : x2 = 10 + x3) (h2 : x3 = 4 * x4) (h3 : x4 ≤ 3) : x2 + x1 ≤ 2147483647 := by omega
theorem q_934600e264 {x1 x2 x3 x4 x5 : Int} (h0 : x1 = x2 + x3) (h1 : 3 ≤ x3) (h2 : x2 = 10 + x4) (h3 : x4 = 4 * x5) (h4 : 0 ≤ x5) : 0 ≤ x1 := by omega
theorem q_c525c41564 {x1 x2 x3 x4 x5 : Int} (h0 : x1 = x2 + x3) (h1 : x3 ≤ 3) (h2 : x2 = 10 + x4) (h3 : x4 = 4 * x5) (h4 : x5 ≤ 3) : x1 < ((226 : Nat) : Int) := by omega
theorem q_d8dab71124 {x1 : Int} (h0 : x1 ≤ 12) : x1 - 50 ≤ 0 := by omega
theorem q_f02febf18c {x1 x2 x3 : Int} (h0 : -x1 + x2 ≤ 0) (h1 : x3 - x2 ≤ 0) (h2 : x3 ≠ (-1)) (h3 : -x3 - 1 ≤ 0) : -x1 ≤ 0 := by omega
theorem q_ba2a5608ac {x1 : Int} : 12 * x1 = 12 * x1 := by omega
theorem q_54b361fe3d {x1 : Int} (h0 : 0 ≤ x1) : -2147483648 ≤ 12 * x1 := by omega
theorem q_fafd50b3af {x1 : Int} (h0 : x1 ≤ 3) : 12 * x1 ≤ 2147483647 := by omega
theorem q_e8137a3c40 {x1 x2 x3 : Int} (h0 : 0 ≤ x1) (h1 : x2 = 12 * x3) (h2 : 0 ≤ x3) : -2147483648 ≤ x2 + x1 := by omega
theorem q_8178de0393 {x1 x2 x3 : Int} (h0 : x1 ≤ 12) (h1 : x2 = 12 * x3) (h2 : x3 ≤ 3) : x2 + x1 ≤ 2147483647 := by omega
theorem q_fb4e4bdf5e {x1 x2 x3 x4 : Int} (h0 : x1 = x2 + x3) (h1 : 0 ≤ x3) (h2 : x2 = 12 * x4) (h3 : 0 ≤ x4) : -2147483648 ≤ 2 * x1 := by omega
theorem q_90d72da34d {x1 x2 x3 x4 : Int} (h0 : x1 = x2 + x3) (h1 : x3 ≤ 12) (h2 : x2 = 12 * x4) (h3 : x4 ≤ 3) : 2 * x1 ≤ 2147483647 := by omega
theorem q_82831e15f0 {x1 x2 x3 x4 x5 : Int} (h0 : x1 = 2 * x2) (h1 : x2 = x3 + x4) (h2 : 0 ≤ x4) (h3 : x3 = 12 * x5) (h4 : 0 ≤ x5) : -2147483648 ≤ 26 + x1 := by omega
theorem q_b8cee736bd {x1 x2 x3 x4 x5 : Int} (h0 : x1 = 2 * x2) (h1 : x2 = x3 + x4) (h2 : x4 ≤ 12) (h3 : x3 = 12 * x5) (h4 : x5 ≤ 3) : 26 + x1 ≤ 2147483647 := by omega
theorem q_5b16acef8e {x1 x2 x3 x4 x5 x6 : Int} (h0 : x1 = 26 + x2) (h1 : x2 = 2 * x3) (h2 : x3 = x4 + x5) (h3 : 0 ≤ x5) (h4 : x4 = 12 * x6) (h5 : 0 ≤ x6) : -x1 + 26 ≤ 0 := by omega
theorem q_1581d3cc17 {x1 x2 x3 x4 x5 x6 : Int} (h0 : x1 = 26 + x2) (h1 : x2 = 2 * x3) (h2 : x3 = x4 + x5) (h3 : x5 ≤ 12) (h4 : x4 = 12 * x6) (h5 : x6 ≤ 3) : x1 - 122 ≤ 0 := by omega
theorem q_4de21aa159 {x1 x2 x3 x4 x5 x6 : Int} (h0 : x1 = 12 * x2) (h1 : x3 = x1 + x4) (h2 : x5 = 2 * x3) (h3 : x6 = 26 + x5) : x6 - 24 * x2 - 2 * x4 - 26 ≤ 0 := by omega
theorem q_c372496058 {x1 x2 x3 x4 x5 x6 : Int} (h0 : x1 = 12 * x2) (h1 : x3 = x1 + x4) (h2 : x5 = 2 * x3) (h3 : x6 = 26 + x5) : -x6 + 24 * x2 + 2 * x4 + 26 ≤ 0 := by omega
theorem q_cfcbae6494 {x1 : Int} (h0 : -x1 + 26 ≤ 0) : ((26 : Nat) : Int) ≤ x1 := by omega
theorem q_af8e3f94d3 {x1 x2 : Int} (h0 : x1 = x2 + 1) (h1 : -x2 + 26 ≤ 0) : ((27 : Nat) : Int) ≤ x1 := by omega
theorem q_bfc7928b1f {x1 x2 x3 : Int} (h0 : x1 - 24 * x2 - 2 * x3 - 26 ≤ 0) (h1 : -x1 + 24 * x2 + 2 * x3 + 26 ≤ 0) : (x1 - ((26 : Nat) : Int)) % ((2 : Nat) : Int) = 0 := by omega
theorem q_493b8125c1 {x1 x2 x3 x4 : Int} (h0 : x1 - 24 * x2 - 2 * x3 - 26 ≤ 0) (h1 : x4 = x1 + 1) (h2 : -x1 + 24 * x2 + 2 * x3 + 26 ≤ 0) : (x4 - ((27 : Nat) : Int)) % ((2 : Nat) : Int) = 0 := by omega
theorem q_6cc87f4aa1 {x1 x2 x3 x4 x5 : Int} (h0 : x1 = x2 + 1) (h1 : x2 - 24 * x3 - 2 * x4 - 26 ≤ 0) (h2 : x3 ≤ 3) (h3 : x4 < x5) (h4 : x5 - 12 ≤ 0) : x1 < ((27 : Nat) : Int) + ((2 : Nat) : Int) * ((48 : Nat) : Int) := by omega
theorem q_d923c6da86 {x1 x2 : Int} (h0 : x1 < x2) (h1 : x2 - 12 ≤ 0) : x1 ≤ 12 := by omega
theorem q_c04962bf42 {x1 x2 x3 x4 : Int} (h0 : x1 - 24 * x2 - 2 * x3 - 26 ≤ 0) (h1 : x2 ≤ 3) (h2 : x3 < x4) (h3 : x4 - 12 ≤ 0) : x1 < ((26 : Nat) : Int) + ((2 : Nat) : Int) * ((48 : Nat) : Int) := by omega
theorem q_2c9de765f8 {x1 : Int} (h0 : -x1 + 26 ≤ 0) : 0 ≤ x1 := by omega
theorem q_0616d82733 {x1 : Int} (h0 : x1 - 122 ≤ 0) : x1 < ((226 : Nat) : Int) := by omega
theorem q_c40141e2b1 {x1 : Int} (h0 : -x1 + 26 ≤ 0) : -2147483648 ≤ x1 + 1 := by omega
theorem q_919014a1f8 {x1 : Int} (h0 : x1 - 122 ≤ 0) : x1 + 1 ≤ 2147483647 := by omega
theorem q_f9ae7b6bc1 {x1 x2 : Int} (h0 : x1 = x2 + 1) (h1 : -x2 + 26 ≤ 0) : 0 ≤ x1 := by omega
theorem q_4c6d633468 {x1 x2 : Int} (h0 : x1 = x2 + 1) (h1 : x2 - 122 ≤ 0) : x1 < ((226 : Nat) : Int) := by omega
theorem q_d46f366cdb {x1 : Int} (h0 : x1 ≤ 13) : x1 - 16 ≤ 0 := by omega
theorem q_54f15c7756 {x1 x2 x3 : Int} (h0 : x1 = x2 + 1) (h1 : x2 < x3) (h2 : x3 - 12 ≤ 0) : x1 ≤ 13 := by omega
theorem q_996aa4c518 {x1 : Int} (h0 : -x1 + 1 ≤ 0) : 0 ≤ x1 := by omega
theorem q_d1ae77b671 {x1 x2 x3 x4 : Int} (h0 : x1 - x2 - 1 ≤ 0) (h1 : -x3 + x2 ≤ 0) (h2 : x3 < x4) (h3 : x4 - 12 ≤ 0) : x1 ≤ 13 := by omega
theorem q_1bf6efff14 {x1 x2 x3 x4 : Int} (h0 : -x1 + x2 + 1 ≤ 0) (h1 : x3 = x4 + 1) (h2 : x4 - x2 ≤ 0) : x3 - x1 ≤ 0 := by omega
theorem q_1101def2bb {x1 x2 x3 x4 : Int} (h0 : x1 - x2 - 1 ≤ 0) (h1 : x3 = x4 + 1) (h2 : -x4 + x2 ≤ 0) : -x3 + x1 ≤ 0 := by omega
theorem q_3c0e2e8016 {x1 x2 : Int} (h0 : x1 < x2) (h1 : x2 ≤ 17) : x1 < ((17 : Nat) : Int) := by omega
theorem q_e18cd89a20 {x1 x2 x3 : Int} (h0 : x1 = x2 + 1) (h1 : x2 < x3) (h2 : x3 ≤ 17) : x1 ≤ 50 := by omega
theorem q_05c194ef54 {x1 : Int} (h0 : x1 ≤ 17) : x1 - 1 ≤ 2147483647 := by omega
theorem q_0fdbae2b22 {x1 : Int} (h0 : x1 = (-1)) : x1 - 16 ≤ 0 := by omega
theorem q_3ce96d76a4 {x1 x2 : Int} (h0 : 0 ≤ x1) (h1 : x2 = (-1)) : x2 - x1 + 1 ≤ 0 := by omega
theorem q_3c94711a6f {x1 : Int} (h0 : x1 ≤ 16) : x1 < ((17 : Nat) : Int) := by omega
theorem q_18d94ff330 {x1 : Int} (h0 : x1 ≤ 16) : x1 + (-1) ≤ 2147483647 := by omega
theorem q_6ba80c26a7 {x1 x2 : Int} (h0 : x1 = x2 + (-1)) (h1 : x2 ≤ 16) : x1 ≤ 16 := by omega
theorem q_ef157b5a0e {x1 x2 : Int} (h0 : x1 - x2 + 1 ≤ 0) : x1 - x2 + 1 ≤ 0 := by omega
theorem q_6a76617d8e {x1 x2 : Int} (h0 : x1 = x2 - 1) (h1 : x2 ≤ 17) : x1 ≤ 16 := by omega
theorem q_985cb060c6 {x1 x2 x3 : Int} (h0 : x1 - x2 ≤ 0) (h1 : x3 - x1 + 1 ≤ 0) : x3 - x2 + 1 ≤ 0 := by omega
theorem q_8fddffa1e7 {x1 : Int} (h0 : x1 ≤ 17) : x1 + 1 ≤ 2147483647 := by omega
theorem q_9db15d274e {x1 x2 : Int} (h0 : x1 < x2) (h1 : x2 ≤ 17) : x1 ≤ 16 := by omega
theorem q_7686b24621 {x1 x2 x3 : Int} (h0 : x1 = x2 + 1) (h1 : x2 < x3) (h2 : x3 ≤ 17) : x1 ≤ 17 := by omega
theorem q_8d1c67ec40 {x1 : Int} (h0 : x1 ≠ (-1)) (h1 : (-1) ≤ x1) : (-1) ≤ x1 := by omega
theorem q_98e1bded96 {x1 : Int} (h0 : -x1 - 1 ≤ 0) : -x1 - 1 ≤ 0 := by omega
theorem q_0e990c4066 {x1 : Int} (h0 : x1 - 16 ≤ 0) : x1 - 16 ≤ 0 := by omega
theorem q_74b353401a {x1 : Int} (h0 : x1 - 13 ≤ 0) : x1 - 13 ≤ 0 := by omega
theorem q_41996583c2 {x1 : Int} (h0 : x1 - 13 ≤ 0) : x1 ≤ 13 := by omega
theorem q_dfbb15bd91 {x1 x2 x3 : Int} (h0 : x1 = 146 + x2) (h1 : x2 = 2 * x3) (h2 : 0 ≤ x3) : ((146 : Nat) : Int) ≤ x1 := by omega
theorem q_e71d6da6c9 {x1 x2 x3 : Int} (h0 : x1 = 146 + x2) (h1 : x2 = 2 * x3) (h2 : x3 ≤ 3) : x1 < ((146 : Nat) : Int) + ((2 : Nat) : Int) * ((4 : Nat) : Int) := by omega
theorem q_d64200d76f {x1 x2 x3 : Int} (h0 : x1 = 2 * x2) (h1 : x3 = 146 + x1) : (x3 - ((146 : Nat) : Int)) % ((2 : Nat) : Int) = 0 := by omega
theorem q_f858115c7e {x1 x2 x3 x4 : Int} (h0 : x1 = x2 + 1) (h1 : x2 = 146 + x3) (h2 : x3 = 2 * x4) (h3 : 0 ≤ x4) : ((147 : Nat) : Int) ≤ x1 := by omega
theorem q_c0c7c1ec7b {x1 x2 x3 x4 : Int} (h0 : x1 = x2 + 1) (h1 : x2 = 146 + x3) (h2 : x3 = 2 * x4) (h3 : x4 ≤ 3) : x1 < ((147 : Nat) : Int) + ((2 : Nat) : Int) * ((4 : Nat) : Int) := by omega
theorem q_19339a33a0 {x1 x2 x3 x4 : Int} (h0 : x1 = 2 * x2) (h1 : x3 = 146 + x1) (h2 : x4 = x3 + 1) : (x4 - ((147 : Nat) : Int)) % ((2 : Nat) : Int) = 0 := by omega
theorem q_3ff87b8751 {x1 : Int} (h0 : x1 ≤ 3) : 2 * x1 ≤ 2147483647 := by omega
theorem q_42b4d5f9e5 {x1 x2 : Int} (h0 : x1 = 2 * x2) (h1 : 0 ≤ x2) : -2147483648 ≤ 146 + x1 := by omega
theorem q_82ff7b9a25 {x1 x2 : Int} (h0 : x1 = 2 * x2) (h1 : x2 ≤ 3) : 146 + x1 ≤ 2147483647 := by omega
theorem q_ca048fa9de {x1 x2 x3 : Int} (h0 : x1 = 146 + x2) (h1 : x2 = 2 * x3) (h2 : 0 ≤ x3) : 0 ≤ x1 := by omega
theorem q_8d4790cc3f {x1 x2 x3 : Int} (h0 : x1 = 146 + x2) (h1 : x2 = 2 * x3) (h2 : x3 ≤ 3) : x1 < ((226 : Nat) : Int) := by omega
theorem q_8ed88b027b {x1 x2 x3 : Int} (h0 : x1 = 146 + x2) (h1 : x2 = 2 * x3) (h2 : 0 ≤ x3) : -2147483648 ≤ x1 + 1 := by omega
theorem q_bb9acf466d {x1 x2 x3 : Int} (h0 : x1 = 146 + x2) (h1 : x2 = 2 * x3) (h2 : x3 ≤ 3) : x1 + 1 ≤ 2147483647 := by omega
theorem q_2a978cfcfe {x1 x2 x3 x4 : Int} (h0 : x1 = x2 + 1) (h1 : x2 = 146 + x3) (h2 : x3 = 2 * x4) (h3 : 0 ≤ x4) : 0 ≤ x1 := by omega
theorem q_c40d0f27ec {x1 x2 x3 x4 : Int} (h0 : x1 = x2 + 1) (h1 : x2 = 146 + x3) (h2 : x3 = 2 * x4) (h3 : x4 ≤ 3) : x1 < ((226 : Nat) : Int) := by omega
theorem q_7a16b37b72 {x1 : Int} : 60 * x1 = 60 * x1 := by omega
theorem q_1ce4e59c82 {x1 : Int} (h0 : 0 ≤ x1) : -2147483648 ≤ 60 * x1 := by omega
theorem q_a3ec378d2c {x1 : Int} (h0 : x1 ≤ 3) : 60 * x1 ≤ 2147483647 := by omega
theorem q_0fd09a5c3f {x1 x2 x3 : Int} (h0 : 0 ≤ x1) (h1 : x2 = 60 * x3) (h2 : 0 ≤ x3) : -2147483648 ≤ x2 + x1 := by omega
theorem q_87f4d5cbb8 {x1 x2 x3 : Int} (h0 : x1 ≤ 59) (h1 : x2 = 60 * x3) (h2 : x3 ≤ 3) : x2 + x1 ≤ 2147483647 := by omega
theorem q_604937762f {x1 x2 x3 x4 : Int} (h0 : x1 = x2 + x3) (h1 : 0 ≤ x3) (h2 : x2 = 60 * x4) (h3 : 0 ≤ x4) : 0 ≤ x1 := by omega
theorem q_b66ff9fcab {x1 x2 x3 x4 : Int} (h0 : x1 = x2 + x3) (h1 : x3 ≤ 59) (h2 : x2 = 60 * x4) (h3 : x4 ≤ 3) : x1 < ((240 : Nat) : Int) := by omega
theorem q_89a3f9d69a {x1 : Int} (h0 : -x1 ≤ 0) : -2147483648 ≤ x1 - 1 := by omega
theorem q_277aaf3cd2 {x1 x2 x3 : Int} (h0 : x1 < x2) (h1 : x3 = x1 + 2) : x3 - x2 - 1 ≤ 0 := by omega
theorem q_2f569dfca1 {x1 : Int} (h0 : 0 ≤ x1) : -2147483648 ≤ x1 + 0 := by omega
theorem q_a21129f50f {x1 : Int} (h0 : x1 ≤ 81) : x1 + 0 ≤ 2147483647 := by omega
theorem q_771c4e5138 {x1 x2 : Int} (h0 : x1 = x2 + 0) (h1 : 0 ≤ x2) : 0 ≤ x1 := by omega
theorem q_18b5268c76 {x1 x2 : Int} (h0 : x1 = x2 + 0) (h1 : x2 ≤ 81) : x1 ≤ 81 := by omega
theorem q_969c4fd5e6 {x1 x2 x3 x4 : Int} (h0 : x1 = x2 + 0) (h1 : x3 = x4 + 1) (h2 : x2 - x4 ≤ 0) : x1 - x3 ≤ 0 := by omega
theorem q_78165d07a1 {x1 x2 : Int} (h0 : x1 - x2 ≤ 0) (h1 : 0 ≤ x1) : -x2 ≤ 0 := by omega
theorem q_16d54bf3c1 {x1 x2 : Int} (h0 : x1 ≤ 81) (h1 : x2 - 1 ≤ 0) : x1 + x2 ≤ 2147483647 := by omega
theorem q_fb40ab176c {x1 : Int} (h0 : x1 - 1 ≤ 0) : -2147483648 ≤ 1 - x1 := by omega
theorem q_76898f0bce {x1 : Int} (h0 : -x1 ≤ 0) : 1 - x1 ≤ 2147483647 := by omega
theorem q_cd2ec6c31a {x1 x2 x3 : Int} (h0 : 0 ≤ x1) (h1 : x2 = 1 - x3) (h2 : x3 - 1 ≤ 0) : -2147483648 ≤ x1 + x2 := by omega
theorem q_a6e2bbed06 {x1 x2 x3 x4 x5 : Int} (h0 : x1 - x2 ≤ 0) (h1 : x2 < x3) (h2 : x4 = 1 - x5) (h3 : x3 ≤ 81) (h4 : -x5 ≤ 0) : x1 + x4 ≤ 2147483647 := by omega
theorem q_dda4e24ae9 {x1 x2 x3 : Int} (h0 : x1 = x2 + x3) (h1 : 0 ≤ x2) (h2 : -x3 ≤ 0) : 0 ≤ x1 := by omega
theorem q_760eda2494 {x1 x2 x3 x4 x5 : Int} (h0 : x1 = x2 + x3) (h1 : x2 - x4 ≤ 0) (h2 : x4 < x5) (h3 : x3 - 1 ≤ 0) (h4 : x5 ≤ 81) : x1 ≤ 81 := by omega
theorem q_c802a74dda {x1 x2 x3 x4 : Int} (h0 : x1 = x2 + x3) (h1 : 0 ≤ x2) (h2 : x3 = 1 - x4) (h3 : x4 - 1 ≤ 0) : 0 ≤ x1 := by omega
theorem q_050160fc03 {x1 x2 x3 x4 x5 x6 : Int} (h0 : x1 = x2 + x3) (h1 : x2 - x4 ≤ 0) (h2 : x4 < x5) (h3 : x3 = 1 - x6) (h4 : x5 ≤ 81) (h5 : -x6 ≤ 0) : x1 ≤ 81 := by omega
theorem q_2e103d99d1 {x1 x2 x3 x4 x5 : Int} (h0 : x1 = x2 + x3) (h1 : x4 = x5 + 1) (h2 : x2 - x5 ≤ 0) (h3 : x3 - 1 ≤ 0) : x1 - x4 ≤ 0 := by omega
theorem q_f6af570735 {x1 x2 x3 x4 x5 x6 : Int} (h0 : x1 = x2 + x3) (h1 : x4 = x5 + 1) (h2 : x2 - x5 ≤ 0) (h3 : x3 = 1 - x6) (h4 : -x6 ≤ 0) : x1 - x4 ≤ 0 := by omega
theorem q_ee93ba13c8 {x1 : Int} (h0 : x1 < 0) : x1 - 15 ≤ 0 := by omega
theorem q_93df7d31ea {x1 : Int} (h0 : -x1 + 226 < ((0 : Nat) : Int)) (h1 : x1 ≤ 226) : False := by omega
theorem q_97a90f3e95 {x1 : Int} : 226 * x1 = 226 * x1 := by omega
theorem q_00ca1b1d9b {x1 : Int} (h0 : x1 < 226) : x1 + 1 ≤ 2147483647 := by omega
theorem q_5bd245720d {x1 x2 : Int} (h0 : x1 = x2 + 1) (h1 : x2 < 226) : x1 ≤ 226 := by omega
theorem q_6929b92474 {x1 x2 : Int} {n1 : Nat} (h0 : x1 = x2 + 1) (h1 : -x2 + 226 < ((n1 + 1 : Nat) : Int)) : -x1 + 226 < (n1 : Int) := by omega
theorem q_927e0182ca {x1 : Int} (h0 : x1 ≤ 111) : x1 ≤ 111 := by omega
theorem q_aaec68a920 {x1 : Int} (h0 : -x1 + 127 < ((0 : Nat) : Int)) (h1 : x1 ≤ 127) : False := by omega
theorem q_434f72d29c {x1 x2 x3 x4 : Int} (h0 : x1 = x2 + x3) (h1 : x4 < x1) (h2 : x2 ≤ 111) (h3 : x3 - 9 ≤ 0) : x4 < ((120 : Nat) : Int) := by omega
theorem q_b465f713f7 {x1 : Int} (h0 : (-2147483648) ≤ x1) : -2147483648 ≤ x1 + 1 := by omega
theorem q_6ee16b2e33 {x1 : Int} (h0 : x1 ≤ 127) : x1 + 1 ≤ 2147483647 := by omega
theorem q_16862d8bc0 {x1 x2 x3 x4 x5 : Int} (h0 : x1 = x2 + 1) (h1 : x3 = x4 + x5) (h2 : x2 < x3) (h3 : x4 ≤ 111) (h4 : x5 - 9 ≤ 0) : x1 ≤ 127 := by omega
theorem q_086be879e1 {x1 x2 : Int} {n1 : Nat} (h0 : x1 = x2 + 1) (h1 : -x2 + 127 < ((n1 + 1 : Nat) : Int)) : -x1 + 127 < (n1 : Int) := by omega
theorem q_e7fd343b1e {x1 : Int} (h0 : x1 ≤ 111) : x1 ≤ 127 := by omega
theorem q_7e8a97a116 {x1 x2 : Int} (h0 : x1 ≤ 6) (h1 : 0 ≤ x2) : -2147483648 ≤ x2 - x1 := by omega
theorem q_f60c02febd {x1 x2 : Int} (h0 : 0 ≤ x1) (h1 : x2 ≤ 6) : x2 - x1 ≤ 2147483647 := by omega
theorem q_e327fe2edc {x1 : Int} (h0 : (-6) ≤ x1) (h1 : x1 + 6 < ((0 : Nat) : Int)) : False := by omega
theorem q_6e34b1aaff {x1 x2 : Int} (h0 : 0 ≤ x1) (h1 : x2 - 1 ≤ 0) : -2147483648 ≤ x1 - x2 := by omega
theorem q_ba42866db6 {x1 x2 : Int} (h0 : x1 ≤ 5) (h1 : -x2 ≤ 0) : x1 - x2 ≤ 2147483647 := by omega
theorem q_2089b5ea15 {x1 x2 x3 : Int} (h0 : x1 = x2 - x3) (h1 : x2 ≤ 5) (h2 : -x3 ≤ 0) : x1 ≤ 5 := by omega
theorem q_a7436ddd7e {x1 : Int} (h0 : x1 ≤ 4) : x1 ≤ 5 := by omega
theorem q_6334a1f278 {x1 : Int} (h0 : 0 < x1) : -2147483648 ≤ x1 + (-1) := by omega
theorem q_8648629b60 {x1 : Int} (h0 : x1 ≤ 6) : x1 + (-1) ≤ 2147483647 := by omega
theorem q_1cc20f3994 {x1 x2 : Int} (h0 : x1 = x2 + (-1)) (h1 : 0 < x2) : (-6) ≤ x1 := by omega
theorem q_3ab6b389d6 {x1 x2 : Int} (h0 : x1 = x2 + (-1)) (h1 : x2 ≤ 6) : x1 ≤ 6 := by omega
theorem q_3f755c6613 {x1 x2 : Int} {n1 : Nat} (h0 : x1 = x2 + (-1)) (h1 : x2 + 6 < ((n1 + 1 : Nat) : Int)) : x1 + 6 < (n1 : Int) := by omega
theorem q_7e85c5d738 {x1 : Int} (h0 : x1 - 127 ≤ 0) : x1 ≤ 127 := by omega
theorem q_40505db8ac {x1 x2 : Int} (h0 : 0 < x1) (h1 : x2 - 1 ≤ 0) : -2147483648 ≤ x1 - x2 := by omega
theorem q_75a2bf1838 {x1 x2 x3 : Int} (h0 : x1 = x2 - x3) (h1 : 0 < x2) (h2 : x3 - 1 ≤ 0) : 0 ≤ x1 := by omega
theorem q_9a800af02a {x1 : Int} (h0 : x1 ≤ 120) : x1 ≤ 120 := by omega
theorem q_f54a842966 {x1 x2 x3 : Int} (h0 : x1 = x2 - x3) (h1 : x3 ≤ 6) (h2 : 0 ≤ x2) : (-6) ≤ x1 := by omega
theorem q_d03198a131 {x1 x2 x3 : Int} (h0 : x1 = x2 - x3) (h1 : 0 ≤ x3) (h2 : x2 ≤ 6) : x1 ≤ 6 := by omega
theorem q_4e4196c588 {x1 : Int} (h0 : x1 ≤ 54) : x1 ≤ 111 := by omega
theorem q_a3140d0b4a {x1 : Int} (h0 : x1 < 120) : x1 < ((120 : Nat) : Int) := by omega
theorem q_68a4db60cc {x1 : Int} (h0 : x1 < 120) : x1 + 1 ≤ 2147483647 := by omega
theorem q_82af9d7fcb {x1 x2 : Int} (h0 : x1 = x2 + 1) (h1 : x2 < 120) : x1 ≤ 127 := by omega
theorem q_41c8504a86 {x1 : Int} (h0 : 1 ≤ x1) : 1 ≤ x1 := by omega
theorem q_a83191ed3e {x1 x2 : Int} (h0 : -x1 + x2 ≤ 0) (h1 : x1 ≤ 1000000) : x2 ≤ 1000000 := by omega
theorem q_ec36873654 {x1 : Int} (h0 : x1 ≤ 7) : x1 + 1 ≤ 2147483647 := by omega
theorem q_e684beeb97 {x1 x2 : Int} (h0 : x1 = x2 + 1) (h1 : 2 ≤ x2) : 2 ≤ x1 := by omega
theorem q_9b1ab74a6f {x1 x2 x3 x4 x5 : Int} (h0 : x1 = x2 + 1) (h1 : x2 ≤ x3) (h2 : x3 = x4 - x5) (h3 : 0 ≤ x5) (h4 : x4 ≤ 6) : x1 ≤ 7 := by omega
theorem q_d73d44bb15 {x1 : Int} (h0 : x1 ≤ 3) : x1 ≤ 5 := by omega
theorem q_0f5bf67c96 {x1 x2 x3 : Int} (h0 : x1 = 122 + x2) (h1 : x2 = 2 * x3) (h2 : 0 ≤ x3) : ((122 : Nat) : Int) ≤ x1 := by omega
theorem q_7afdcc2125 {x1 x2 x3 : Int} (h0 : x1 = 122 + x2) (h1 : x2 = 2 * x3) (h2 : x3 ≤ 11) : x1 < ((122 : Nat) : Int) + ((2 : Nat) : Int) * ((12 : Nat) : Int) := by omega
theorem q_996e6edde7 {x1 x2 x3 : Int} (h0 : x1 = 2 * x2) (h1 : x3 = 122 + x1) : (x3 - ((122 : Nat) : Int)) % ((2 : Nat) : Int) = 0 := by omega
theorem q_5a03b0472f {x1 x2 x3 x4 : Int} (h0 : x1 = x2 + 1) (h1 : x2 = 122 + x3) (h2 : x3 = 2 * x4) (h3 : 0 ≤ x4) : ((123 : Nat) : Int) ≤ x1 := by omega
theorem q_0f8d1348a3 {x1 x2 x3 x4 : Int} (h0 : x1 = x2 + 1) (h1 : x2 = 122 + x3) (h2 : x3 = 2 * x4) (h3 : x4 ≤ 11) : x1 < ((123 : Nat) : Int) + ((2 : Nat) : Int) * ((12 : Nat) : Int) := by omega
theorem q_4529a0017e {x1 x2 x3 x4 : Int} (h0 : x1 = 2 * x2) (h1 : x3 = 122 + x1) (h2 : x4 = x3 + 1) : (x4 - ((123 : Nat) : Int)) % ((2 : Nat) : Int) = 0 := by omega
theorem q_bf58a8e369 {x1 : Int} (h0 : x1 ≤ 11) : 2 * x1 ≤ 2147483647 := by omega
theorem q_db5ae3ba43 {x1 x2 : Int} (h0 : x1 = 2 * x2) (h1 : 0 ≤ x2) : -2147483648 ≤ 122 + x1 := by omega
theorem q_980499a3f7 {x1 x2 : Int} (h0 : x1 = 2 * x2) (h1 : x2 ≤ 11) : 122 + x1 ≤ 2147483647 := by omega
theorem q_64d61ee948 {x1 x2 x3 : Int} (h0 : x1 = 122 + x2) (h1 : x2 = 2 * x3) (h2 : 0 ≤ x3) : 0 ≤ x1 := by omega
theorem q_9195ce1bbe {x1 x2 x3 : Int} (h0 : x1 = 122 + x2) (h1 : x2 = 2 * x3) (h2 : x3 ≤ 11) : x1 < ((226 : Nat) : Int) := by omega
theorem q_e5430b869d {x1 x2 x3 : Int} (h0 : x1 = 122 + x2) (h1 : x2 = 2 * x3) (h2 : 0 ≤ x3) : -2147483648 ≤ x1 + 1 := by omega
theorem q_15a2e70db3 {x1 x2 x3 : Int} (h0 : x1 = 122 + x2) (h1 : x2 = 2 * x3) (h2 : x3 ≤ 11) : x1 + 1 ≤ 2147483647 := by omega
theorem q_a542ff144c {x1 x2 x3 x4 : Int} (h0 : x1 = x2 + 1) (h1 : x2 = 122 + x3) (h2 : x3 = 2 * x4) (h3 : 0 ≤ x4) : 0 ≤ x1 := by omega
theorem q_cac7faa38b {x1 x2 x3 x4 : Int} (h0 : x1 = x2 + 1) (h1 : x2 = 122 + x3) (h2 : x3 = 2 * x4) (h3 : x4 ≤ 11) : x1 < ((226 : Nat) : Int) := by omega
theorem q_a30ae353ab {x1 x2 : Int} (h0 : x1 < x2) (h1 : x2 ≤ 12) : x1 ≤ 11 := by omega
theorem q_8ee35fe012 {x1 : Int} (h0 : x1 ≤ 13) : x1 + 0 ≤ 2147483647 := by omega
theorem q_b02ac9e014 {x1 x2 : Int} (h0 : x1 = x2 + 0) (h1 : x2 ≤ 13) : x1 ≤ 13 := by omega
theorem q_612d48f5a1 {x1 x2 x3 : Int} (h0 : x1 = x2 + 1) (h1 : x2 < x3) (h2 : x3 ≤ 12) : x1 ≤ 13 := by omega
theorem q_df44af06dd {x1 x2 x3 x4 : Int} (h0 : x1 = x2 + 1) (h1 : x2 - x3 ≤ 0) (h2 : x3 < x4) (h3 : x4 ≤ 12) : x1 ≤ 13 := by omega
theorem q_090c32d68c {x1 x2 x3 x4 : Int} (h0 : x1 = 4 * x2) (h1 : x3 = 10 + x1) (h2 : x4 = x3 + 3) : (x4 - ((13 : Nat) : Int)) % ((4 : Nat) : Int) = 0 := by omega
theorem q_9297e6e4ff {x1 : Int} (h0 : x1 ≤ 4) : x1 - 1600 ≤ 0 := by omega
theorem q_b77617e4d6 {x1 : Int} (h0 : x1 ≤ 12) : x1 - 1600 ≤ 0 := by omega
theorem q_378281995a {x1 : Int} (h0 : x1 ≤ 6) : x1 - 1600 ≤ 0 := by omega
theorem q_b10e199e76 {x1 : Int} (h0 : x1 ≤ 60) : x1 - 1600 ≤ 0 := by omega
theorem q_c4ee0a7a71 {x1 x2 : Int} (h0 : x1 = 9) (h1 : x2 ≤ 4) (h2 : x1 - x2 < ((0 : Nat) : Int)) : False := by omega
theorem q_e6f991ffef {x1 : Int} (h0 : x1 ≤ 4) : x1 + 0 ≤ 2147483647 := by omega
theorem q_c4d42658be {x1 x2 : Int} (h0 : x1 = x2 + 0) (h1 : x2 ≤ 4) : x1 ≤ 4 := by omega
theorem q_f8b397e766 {x1 x2 x3 x4 : Int} (h0 : x1 - x2 - 1 ≤ 0) (h1 : x2 - x3 ≤ 0) (h2 : x3 < x4) (h3 : x4 - 16 ≤ 0) : x1 ≤ 16 := by omega
theorem q_cbb20cbf38 {x1 x2 x3 x4 : Int} (h0 : x1 - x2 - 1 ≤ 0) (h1 : x3 = x4 + 1) (h2 : x2 - x4 ≤ 0) : x1 - x3 ≤ 0 := by omega
theorem q_cfed409c5c {x1 : Int} (h0 : x1 = (-1)) : x1 ≤ 65535 := by omega
theorem q_b63f85b2d9 {x1 x2 : Int} (h0 : x1 ≤ x2) (h1 : x2 - 65535 ≤ 0) : x1 ≤ 65535 := by omega
theorem q_76190b61a3 {x1 : Int} (h0 : x1 - 1600 ≤ 0) : x1 - 1600 ≤ 0 := by omega
theorem q_3601b11376 {x1 : Int} (h0 : x1 - 13 ≤ 0) : x1 - 16 ≤ 0 := by omega
theorem q_f7427ec6b2 {x1 x2 x3 x4 : Int} (h0 : x1 = x2 + 1) (h1 : x2 < x3) (h2 : x3 - x4 ≤ 0) (h3 : x4 ≤ 12) : x1 ≤ 13 := by omega
theorem q_77a00303e0 {x1 x2 x3 x4 : Int} (h0 : x1 - x2 - 1 ≤ 0) (h1 : x2 - x3 ≤ 0) (h2 : x3 < x4) (h3 : x4 - 12 ≤ 0) : x1 ≤ 13 := by omega
theorem q_070b248188 {x1 x2 x3 x4 : Int} (h0 : x1 = x2 + 3) (h1 : x2 = 10 + x3) (h2 : x3 = 4 * x4) (h3 : 0 ≤ x4) : ((13 : Nat) : Int) ≤ x1 := by omega
theorem q_281ef74936 {x1 x2 x3 x4 : Int} (h0 : x1 = x2 + 3) (h1 : x2 = 10 + x3) (h2 : x3 = 4 * x4) (h3 : x4 ≤ 3) : x1 < ((13 : Nat) : Int) + ((4 : Nat) : Int) * ((4 : Nat) : Int) := by omega
theorem q_5241e58928 {x1 x2 x3 : Int} (h0 : x1 = 10 + x2) (h1 : x2 = 4 * x3) (h2 : 0 ≤ x3) : -2147483648 ≤ x1 + 3 := by omega
theorem q_0ae01ec0e8 {x1 x2 x3 : Int} (h0 : x1 = 10 + x2) (h1 : x2 = 4 * x3) (h2 : x3 ≤ 3) : x1 + 3 ≤ 2147483647 := by omega
theorem q_9dbe57618d {x1 x2 x3 x4 : Int} (h0 : x1 = x2 + 3) (h1 : x2 = 10 + x3) (h2 : x3 = 4 * x4) (h3 : 0 ≤ x4) : 0 ≤ x1 := by omega
theorem q_8c89d4ce54 {x1 x2 x3 x4 : Int} (h0 : x1 = x2 + 3) (h1 : x2 = 10 + x3) (h2 : x3 = 4 * x4) (h3 : x4 ≤ 3) : x1 < ((226 : Nat) : Int) := by omega
theorem q_ff529c7430 {x1 : Int} (h0 : x1 - 50 ≤ 0) : x1 - 50 ≤ 0 := by omega
theorem q_486bbb0b97 {x1 : Int} (h0 : -x1 + 20 < ((0 : Nat) : Int)) (h1 : x1 ≤ 20) : False := by omega
theorem q_fed787b40f {x1 x2 : Int} (h0 : x1 = x2 + 20) (h1 : 0 ≤ x2) : 0 ≤ x1 := by omega
theorem q_9373b94a1e {x1 x2 x3 : Int} (h0 : x1 = x2 + 20) (h1 : x3 = x2 + 20) (h2 : x3 ≤ 1600) : x1 ≤ 1600 := by omega
theorem q_dc325e5e81 {x1 x2 : Int} (h0 : x1 = x2 + 20) (h1 : 0 ≤ x2) : -x1 - 1 ≤ 0 := by omega
theorem q_085671a812 {x1 x2 x3 : Int} (h0 : x1 = x2 + 20) (h1 : x3 = x2 + 20) (h2 : x3 ≤ 1600) : x1 - 1600 ≤ 0 := by omega
theorem q_7d53970f0c {x1 x2 : Int} (h0 : x1 ≤ 1600) (h1 : x2 < 20) : x1 + x2 ≤ 2147483647 := by omega
theorem q_8c50407b74 {x1 x2 : Int} (h0 : x1 = x2 / 4) (h1 : 0 ≤ x2) : 0 ≤ x1 := by omega
theorem q_9da1f9200b {x1 x2 : Int} (h0 : x1 = x2 / 4) (h1 : x2 < 20) : x1 < ((5 : Nat) : Int) := by omega
theorem q_ca12f5b330 {x1 : Int} : 8 * x1 = 8 * x1 := by omega
theorem q_95451853f0 {x1 x2 : Int} (h0 : x1 = x2 % 4) : -2147483648 ≤ 8 * x1 := by omega
theorem q_5b91ed2f15 {x1 x2 : Int} (h0 : x1 = x2 % 4) : 8 * x1 ≤ 2147483647 := by omega
theorem q_d4d43185f8 {x1 x2 x3 : Int} (h0 : x1 = 8 * x2) (h1 : x2 = x3 % 4) : -2147483648 ≤ 24 - x1 := by omega
theorem q_36dedaffd8 {x1 x2 x3 : Int} (h0 : x1 = 8 * x2) (h1 : x2 = x3 % 4) : 24 - x1 ≤ 2147483647 := by omega
theorem q_21ab7eaff6 {x1 x2 x3 x4 : Int} (h0 : x1 = x2 + x3) (h1 : x4 = x3 % 4) (h2 : 0 ≤ x3) (h3 : 0 ≤ x2) : 0 ≤ x1 := by omega
theorem q_2c366902ac {x1 x2 x3 x4 : Int} (h0 : x1 = x2 + x3) (h1 : x4 = x2 + 20) (h2 : x4 ≤ 1600) (h3 : x3 < 20) : x1 < ((1600 : Nat) : Int) := by omega
theorem q_8ccf04c880 {x1 : Int} (h0 : x1 < 20) : x1 + 1 ≤ 2147483647 := by omega
theorem q_99973c5546 {x1 x2 : Int} (h0 : x1 = x2 + 1) (h1 : x2 < 20) : x1 ≤ 20 := by omega
theorem q_b6756d9ca4 {x1 x2 : Int} {n1 : Nat} (h0 : x1 = x2 + 1) (h1 : -x2 + 20 < ((n1 + 1 : Nat) : Int)) : -x1 + 20 < (n1 : Int) := by omega
theorem q_5b73750df0 {x1 : Int} (h0 : x1 < 0) : x1 - 81 ≤ 0 := by omega
theorem q_01811cb1b4 {x1 x2 : Int} (h0 : 0 ≤ x1) (h1 : x2 = 2) : -x1 + x2 - 3 ≤ 0 := by omega
theorem q_227ed01057 {x1 x2 : Int} (h0 : x1 = 2) (h1 : -x2 + 1 ≤ 0) : -x2 + x1 - 3 ≤ 0 := by omega
theorem q_33ca4f7bc6 {x1 x2 : Int} (h0 : x1 ≤ 4) (h1 : -x2 + 1 ≤ 0) : -x2 + x1 - 3 ≤ 0 := by omega
theorem q_2026640327 {x1 : Int} (h0 : x1 = (-1000)) : x1 - 13 ≤ 0 := by omega
theorem q_1a616088d0 {x1 x2 : Int} (h0 : -x1 ≤ 0) (h1 : x2 - 13 ≤ 0) : -2147483648 ≤ x1 - x2 := by omega
theorem q_177aef1ae6 {x1 x2 : Int} (h0 : x1 - 13 ≤ 0) (h1 : -x2 ≤ 0) : x1 - x2 ≤ 2147483647 := by omega
theorem q_bbe8c2391a {x1 x2 x3 : Int} (h0 : x1 = x2 - x3) (h1 : -x2 ≤ 0) (h2 : x3 - 13 ≤ 0) : -x1 - 1000 ≤ 0 := by omega
theorem q_7ede35fe3b {x1 x2 x3 : Int} (h0 : x1 = x2 - x3) (h1 : x2 - 13 ≤ 0) (h2 : -x3 ≤ 0) : x1 - 13 ≤ 0 := by omega
theorem q_78af8c5c09 {x1 : Int} (h0 : x1 ≤ 3) : x1 + (-1) ≤ 2147483647 := by omega
theorem q_0479facf89 {x1 x2 : Int} (h0 : x1 = x2 + (-1)) (h1 : x2 ≤ 3) : x1 ≤ 3 := by omega
theorem q_2d2f91c2ed {x1 x2 : Int} (h0 : x1 = x2 - 1) (h1 : x2 ≤ 4) : x1 ≤ 3 := by omega
theorem q_7669048e69 {x1 : Int} (h0 : x1 ≤ 4096) : x1 - 1 ≤ 2147483647 := by omega
theorem q_cc7f194c2c {x1 : Int} (h0 : x1 ≤ 4095) : x1 - 4095 ≤ 0 := by omega
theorem q_1eb66afe45 {x1 : Int} (h0 : x1 ≤ 4095) : x1 ≤ 4095 := by omega
theorem q_a2b7b6f4bb {x1 x2 x3 : Int} (h0 : x1 = x2 + 1) (h1 : x2 < x3) (h2 : x3 ≤ 12) : x1 ≤ 12 := by omega
theorem q_9bcae40bf2 {x1 x2 : Int} (h0 : x1 = x2 - 1) (h1 : x2 ≤ 4096) : x1 ≤ 4095 := by omega
theorem q_6f5286b946 {x1 : Int} (h0 : x1 = (-2)) : x1 - 4095 ≤ 0 := by omega
theorem q_36fa9d12a7 {x1 : Int} (h0 : -x1 ≤ 0) : -2147483648 ≤ 2 * x1 := by omega
theorem q_ec7b2e0fd8 {x1 : Int} (h0 : x1 = (-2)) : x1 - 1000000 ≤ 0 := by omega
theorem q_6d8f5396ba {x1 : Int} (h0 : x1 = 8 + 1) : ((9 : Nat) : Int) ≤ x1 := by omega
theorem q_c1d3cf08d0 {x1 : Int} (h0 : x1 = 8 + 1) : x1 < ((9 : Nat) : Int) + ((1 : Nat) : Int) * ((1 : Nat) : Int) := by omega
theorem q_a62048a674 {x1 : Int} : (x1 - ((9 : Nat) : Int)) % ((1 : Nat) : Int) = 0 := by omega
theorem q_d0029cda06 {x1 x2 : Int} (h0 : x1 = 8 + x2) (h1 : x2 < 2) : x1 < ((8 : Nat) : Int) + ((1 : Nat) : Int) * ((2 : Nat) : Int) := by omega
theorem q_ca509d6b00 {x1 : Int} : (x1 - ((8 : Nat) : Int)) % ((1 : Nat) : Int) = 0 := by omega
theorem q_923275ae08 {x1 : Int} : (x1 - ((146 : Nat) : Int)) % ((1 : Nat) : Int) = 0 := by omega
theorem q_e810ca3f33 {x1 : Int} (h0 : x1 = 8 + 1) : 0 ≤ x1 := by omega
theorem q_1887788718 {x1 : Int} (h0 : x1 = 8 + 1) : x1 < ((226 : Nat) : Int) := by omega
theorem q_5dcc2bfcf0 {x1 : Int} (h0 : x1 < 2) : 8 + x1 ≤ 2147483647 := by omega
theorem q_d97e9f540b {x1 x2 : Int} (h0 : x1 = 8 + x2) (h1 : x2 < 2) : x1 < ((226 : Nat) : Int) := by omega
theorem q_bb72464225 {x1 x2 : Int} (h0 : x1 = x2) (h1 : -x1 ≤ 0) : 0 ≤ x2 := by omega
theorem q_f7ffa9ffb4 {x1 x2 : Int} (h0 : x1 = x2) (h1 : x1 - 3 ≤ 0) : x2 ≤ 3 := by omega
theorem q_ba7242fd91 {x1 x2 x3 x4 x5 : Int} (h0 : x1 = x2 + 3) (h1 : x2 = 10 + x3) (h2 : x3 = 4 * x4) (h3 : x4 < x5) (h4 : x5 ≤ 4) : x1 < ((13 : Nat) : Int) + ((4 : Nat) : Int) * ((4 : Nat) : Int) := by omega
theorem q_2a9137be5b {x1 x2 x3 : Int} (h0 : x1 = 4 * x2) (h1 : x2 < x3) (h2 : x3 ≤ 4) : 10 + x1 ≤ 2147483647 := by omega
theorem q_bca5aab8b6 {x1 x2 x3 x4 : Int} (h0 : x1 = 10 + x2) (h1 : x2 = 4 * x3) (h2 : x3 < x4) (h3 : x4 ≤ 4) : x1 + 3 ≤ 2147483647 := by omega
theorem q_ee2e4d9aa5 {x1 x2 x3 x4 x5 : Int} (h0 : x1 = x2 + 3) (h1 : x2 = 10 + x3) (h2 : x3 = 4 * x4) (h3 : x4 < x5) (h4 : x5 ≤ 4) : x1 < ((226 : Nat) : Int) := by omega
theorem q_489450915e {x1 : Int} (h0 : x1 - 12 ≤ 0) : x1 - 1 ≤ 2147483647 := by omega
theorem q_d3ae4bc11d {x1 x2 : Int} (h0 : x1 < x2) (h1 : x2 ≤ 1000000) : x1 ≤ 1000000 := by omega
theorem q_3d068043d1 {x1 x2 x3 : Int} (h0 : x1 < x2) (h1 : x2 ≤ x3) (h2 : x3 ≤ 60) : x1 < ((60 : Nat) : Int) := by omega
theorem q_93fe10ffe0 {x1 x2 x3 x4 : Int} (h0 : x1 = x2 + 1) (h1 : x2 < x3) (h2 : x3 ≤ x4) (h3 : x4 ≤ 60) : x1 ≤ 60 := by omega
theorem q_98dc022afd {x1 x2 x3 x4 : Int} (h0 : x1 = x2 + 0) (h1 : x2 = 10 + x3) (h2 : x3 = 4 * x4) (h3 : 0 ≤ x4) : ((10 : Nat) : Int) ≤ x1 := by omega
theorem q_1d408c2e08 {x1 x2 x3 x4 : Int} (h0 : x1 = x2 + 0) (h1 : x2 = 10 + x3) (h2 : x3 = 4 * x4) (h3 : x4 - 3 ≤ 0) : x1 < ((10 : Nat) : Int) + ((4 : Nat) : Int) * ((4 : Nat) : Int) := by omega
theorem q_ff09f1b6e5 {x1 x2 x3 x4 : Int} (h0 : x1 = 4 * x2) (h1 : x3 = 10 + x1) (h2 : x4 = x3 + 0) : (x4 - ((10 : Nat) : Int)) % ((4 : Nat) : Int) = 0 := by omega
theorem q_446547a38e {x1 x2 x3 x4 : Int} (h0 : x1 = x2 + 1) (h1 : x2 = 10 + x3) (h2 : x3 = 4 * x4) (h3 : 0 ≤ x4) : ((11 : Nat) : Int) ≤ x1 := by omega
theorem q_34d6f29e0f {x1 x2 x3 x4 : Int} (h0 : x1 = x2 + 1) (h1 : x2 = 10 + x3) (h2 : x3 = 4 * x4) (h3 : x4 - 3 ≤ 0) : x1 < ((11 : Nat) : Int) + ((4 : Nat) : Int) * ((4 : Nat) : Int) := by omega
theorem q_85b5c85b1c {x1 x2 x3 x4 : Int} (h0 : x1 = 4 * x2) (h1 : x3 = 10 + x1) (h2 : x4 = x3 + 1) : (x4 - ((11 : Nat) : Int)) % ((4 : Nat) : Int) = 0 := by omega
theorem q_25a2632096 {x1 x2 x3 x4 : Int} (h0 : x1 = x2 + 2) (h1 : x2 = 10 + x3) (h2 : x3 = 4 * x4) (h3 : 0 ≤ x4) : ((12 : Nat) : Int) ≤ x1 := by omega
theorem q_06b9fd411d {x1 x2 x3 x4 : Int} (h0 : x1 = x2 + 2) (h1 : x2 = 10 + x3) (h2 : x3 = 4 * x4) (h3 : x4 - 3 ≤ 0) : x1 < ((12 : Nat) : Int) + ((4 : Nat) : Int) * ((4 : Nat) : Int) := by omega
theorem q_29bc46c6fe {x1 x2 x3 x4 : Int} (h0 : x1 = 4 * x2) (h1 : x3 = 10 + x1) (h2 : x4 = x3 + 2) : (x4 - ((12 : Nat) : Int)) % ((4 : Nat) : Int) = 0 := by omega
theorem q_ce30d83ae0 {x1 x2 x3 x4 : Int} (h0 : x1 = x2 + 3) (h1 : x2 = 10 + x3) (h2 : x3 = 4 * x4) (h3 : x4 - 3 ≤ 0) : x1 < ((13 : Nat) : Int) + ((4 : Nat) : Int) * ((4 : Nat) : Int) := by omega
theorem q_41f7b53c7b {x1 : Int} (h0 : x1 - 3 ≤ 0) : 4 * x1 ≤ 2147483647 := by omega
theorem q_a79f4a765e {x1 x2 : Int} (h0 : x1 = 4 * x2) (h1 : x2 - 3 ≤ 0) : 10 + x1 ≤ 2147483647 := by omega
theorem q_99c3430a84 {x1 x2 x3 : Int} (h0 : x1 = 10 + x2) (h1 : x2 = 4 * x3) (h2 : 0 ≤ x3) : -2147483648 ≤ x1 + 0 := by omega
theorem q_f785fd662a {x1 x2 x3 : Int} (h0 : x1 = 10 + x2) (h1 : x2 = 4 * x3) (h2 : x3 - 3 ≤ 0) : x1 + 0 ≤ 2147483647 := by omega
theorem q_0793c979f4 {x1 x2 x3 x4 : Int} (h0 : x1 = x2 + 0) (h1 : x2 = 10 + x3) (h2 : x3 = 4 * x4) (h3 : 0 ≤ x4) : 0 ≤ x1 := by omega
theorem q_423028a55f {x1 x2 x3 x4 : Int} (h0 : x1 = x2 + 0) (h1 : x2 = 10 + x3) (h2 : x3 = 4 * x4) (h3 : x4 - 3 ≤ 0) : x1 < ((226 : Nat) : Int) := by omega
theorem q_3c9a54fe80 {x1 x2 x3 : Int} (h0 : x1 = 10 + x2) (h1 : x2 = 4 * x3) (h2 : 0 ≤ x3) : -2147483648 ≤ x1 + 1 := by omega
theorem q_0d21366f43 {x1 x2 x3 : Int} (h0 : x1 = 10 + x2) (h1 : x2 = 4 * x3) (h2 : x3 - 3 ≤ 0) : x1 + 1 ≤ 2147483647 := by omega
theorem q_318b2093b5 {x1 x2 x3 x4 : Int} (h0 : x1 = x2 + 1) (h1 : x2 = 10 + x3) (h2 : x3 = 4 * x4) (h3 : 0 ≤ x4) : 0 ≤ x1 := by omega
theorem q_8969c16c6c {x1 x2 x3 x4 : Int} (h0 : x1 = x2 + 1) (h1 : x2 = 10 + x3) (h2 : x3 = 4 * x4) (h3 : x4 - 3 ≤ 0) : x1 < ((226 : Nat) : Int) := by omega
theorem q_f48788af97 {x1 x2 x3 : Int} (h0 : x1 = 10 + x2) (h1 : x2 = 4 * x3) (h2 : 0 ≤ x3) : -2147483648 ≤ x1 + 2 := by omega
theorem q_c12c3b1724 {x1 x2 x3 : Int} (h0 : x1 = 10 + x2) (h1 : x2 = 4 * x3) (h2 : x3 - 3 ≤ 0) : x1 + 2 ≤ 2147483647 := by omega
theorem q_a578b517ac {x1 x2 x3 x4 : Int} (h0 : x1 = x2 + 2) (h1 : x2 = 10 + x3) (h2 : x3 = 4 * x4) (h3 : 0 ≤ x4) : 0 ≤ x1 := by omega
theorem q_838f9060d0 {x1 x2 x3 x4 : Int} (h0 : x1 = x2 + 2) (h1 : x2 = 10 + x3) (h2 : x3 = 4 * x4) (h3 : x4 - 3 ≤ 0) : x1 < ((226 : Nat) : Int) := by omega
theorem q_32a0270a1d {x1 x2 x3 : Int} (h0 : x1 = 10 + x2) (h1 : x2 = 4 * x3) (h2 : x3 - 3 ≤ 0) : x1 + 3 ≤ 2147483647 := by omega
theorem q_2daa6dab63 {x1 x2 x3 x4 : Int} (h0 : x1 = x2 + 3) (h1 : x2 = 10 + x3) (h2 : x3 = 4 * x4) (h3 : x4 - 3 ≤ 0) : x1 < ((226 : Nat) : Int) := by omega
theorem q_7dfc9ebb42 {x1 : Int} (h0 : x1 - 3 ≤ 0) : x1 + 1 ≤ 2147483647 := by omega
theorem q_05c9cf81c0 {x1 x2 : Int} (h0 : x1 = x2 + 1) (h1 : x2 - 3 ≤ 0) : x1 ≤ 4 := by omega
theorem q_feb34eb884 {x1 x2 : Int} (h0 : x1 = 4 * x2) (h1 : -x2 ≤ 0) : -2147483648 ≤ 10 + x1 := by omega
theorem q_f080a0e48d {x1 : Int} (h0 : x1 ≠ 12) (h1 : x1 ≤ 12) : x1 ≤ 12 := by omega
theorem q_169b3a8678 {x1 : Int} (h0 : x1 ≠ 12) (h1 : x1 ≤ 12) : x1 + 1 ≤ 2147483647 := by omega
theorem q_f43815b60c {x1 x2 : Int} (h0 : x1 = x2 + 1) (h1 : x2 ≠ 12) (h2 : x2 ≤ 12) : x1 ≤ 12 := by omega
theorem q_6b3256713e {x1 x2 x3 x4 : Int} (h0 : x1 = x2 + 3) (h1 : x2 = 10 + x3) (h2 : x3 = 4 * x4) (h3 : -x4 ≤ 0) : ((13 : Nat) : Int) ≤ x1 := by omega
theorem q_5e2f65f32c {x1 x2 x3 : Int} (h0 : x1 = 10 + x2) (h1 : x2 = 4 * x3) (h2 : -x3 ≤ 0) : -2147483648 ≤ x1 + 3 := by omega
theorem q_ce80ff501e {x1 x2 x3 x4 : Int} (h0 : x1 = x2 + 3) (h1 : x2 = 10 + x3) (h2 : x3 = 4 * x4) (h3 : -x4 ≤ 0) : 0 ≤ x1 := by omega
theorem q_00f8a88c1a {x1 : Int} (h0 : 8 ≤ x1) : ((8 : Nat) : Int) ≤ x1 := by omega
theorem q_bd00bacd06 {x1 : Int} (h0 : x1 ≤ 8) : x1 < ((8 : Nat) : Int) + ((1 : Nat) : Int) * ((1 : Nat) : Int) := by omega
theorem q_3722053cd5 {x1 x2 : Int} (h0 : x1 = x2 + 1) (h1 : 8 ≤ x2) : ((9 : Nat) : Int) ≤ x1 := by omega
theorem q_aca8798d6d {x1 x2 : Int} (h0 : x1 = x2 + 1) (h1 : x2 ≤ 8) : x1 < ((9 : Nat) : Int) + ((1 : Nat) : Int) * ((1 : Nat) : Int) := by omega
theorem q_d700dd5793 {x1 : Int} (h0 : 8 ≤ x1) : 0 ≤ x1 := by omega
theorem q_f434134ec2 {x1 : Int} (h0 : x1 ≤ 8) : x1 < ((226 : Nat) : Int) := by omega
theorem q_295f3c3c38 {x1 : Int} (h0 : 8 ≤ x1) : -2147483648 ≤ x1 + 1 := by omega
theorem q_40e36bf5f4 {x1 : Int} (h0 : x1 ≤ 8) : x1 + 1 ≤ 2147483647 := by omega
theorem q_cf0b4927a2 {x1 x2 : Int} (h0 : x1 = x2 + 1) (h1 : 8 ≤ x2) : 0 ≤ x1 := by omega
theorem q_b876a99c0c {x1 x2 : Int} (h0 : x1 = x2 + 1) (h1 : x2 ≤ 8) : x1 < ((226 : Nat) : Int) := by omega
theorem q_6f087db015 {x1 : Int} (h0 : 146 ≤ x1) : ((146 : Nat) : Int) ≤ x1 := by omega
theorem q_f9323d8d9c {x1 : Int} (h0 : x1 ≤ 152) : x1 < ((146 : Nat) : Int) + ((1 : Nat) : Int) * ((7 : Nat) : Int) := by omega
theorem q_67c37267e2 {x1 x2 : Int} (h0 : x1 = x2 + 1) (h1 : 146 ≤ x2) : ((147 : Nat) : Int) ≤ x1 := by omega
theorem q_7dfafdc50b {x1 x2 : Int} (h0 : x1 = x2 + 1) (h1 : x2 ≤ 152) : x1 < ((147 : Nat) : Int) + ((1 : Nat) : Int) * ((7 : Nat) : Int) := by omega
theorem q_adddae86cb {x1 : Int} : (x1 - ((147 : Nat) : Int)) % ((1 : Nat) : Int) = 0 := by omega
theorem q_f06d8355fe {x1 : Int} (h0 : 146 ≤ x1) : 0 ≤ x1 := by omega
theorem q_217fe92409 {x1 : Int} (h0 : x1 ≤ 152) : x1 < ((226 : Nat) : Int) := by omega
theorem q_cf9d8d694c {x1 : Int} (h0 : 146 ≤ x1) : -2147483648 ≤ x1 + 1 := by omega
theorem q_9997f237c1 {x1 : Int} (h0 : x1 ≤ 152) : x1 + 1 ≤ 2147483647 := by omega
theorem q_48236cf862 {x1 x2 : Int} (h0 : x1 = x2 + 1) (h1 : 146 ≤ x2) : 0 ≤ x1 := by omega
theorem q_cd2784293d {x1 x2 : Int} (h0 : x1 = x2 + 1) (h1 : x2 ≤ 152) : x1 < ((226 : Nat) : Int) := by omega
theorem q_b14eb82b79 {x1 x2 : Int} (h0 : x1 = x2 + 1) (h1 : x2 = 0) : x1 ≤ 1600 := by omega
theorem q_70de3c5e42 {x1 : Int} (h0 : x1 - 1600 ≤ 0) : x1 ≤ 1600 := by omega
theorem q_0c61af2615 {x1 : Int} (h0 : x1 ≤ 65536) : x1 + 0 ≤ 2147483647 := by omega
theorem q_a524223eca {x1 x2 : Int} (h0 : x1 = x2 + 0) (h1 : x2 ≤ 65536) : x1 ≤ 65536 := by omega
theorem q_a9e20df30f {x1 x2 x3 x4 : Int} (h0 : x1 = x2 + 1) (h1 : x2 - x3 ≤ 0) (h2 : x3 < x4) (h3 : x4 - 16 ≤ 0) : x1 ≤ 16 := by omega
theorem q_24a852b6e7 {x1 : Int} (h0 : x1 - 2147483647 ≤ 0) : x1 ≤ 2147483647 := by omega
theorem q_62355f097f {x1 : Int} (h0 : x1 - 65535 ≤ 0) : x1 ≤ 65535 := by omega
theorem q_eb099b9e46 {x1 : Int} (h0 : x1 < 0) : x1 - 65535 ≤ 0 := by omega
theorem q_3ba10c420c {x1 x2 x3 x4 : Int} (h0 : x1 - x2 ≤ 0) (h1 : x3 - 24 * x4 - 2 * x1 - 26 ≤ 0) (h2 : -x1 + x2 ≤ 0) (h3 : -x3 + 24 * x4 + 2 * x1 + 26 ≤ 0) : (x3 - ((26 : Nat) : Int)) % ((2 : Nat) : Int) = 0 := by omega
theorem q_788aaa09c4 {x1 x2 x3 x4 x5 : Int} (h0 : x1 - x2 ≤ 0) (h1 : x3 - 24 * x4 - 2 * x1 - 26 ≤ 0) (h2 : x5 = x3 + 1) (h3 : -x1 + x2 ≤ 0) (h4 : -x3 + 24 * x4 + 2 * x1 + 26 ≤ 0) : (x5 - ((27 : Nat) : Int)) % ((2 : Nat) : Int) = 0 := by omega
theorem q_7a59a1f092 {x1 x2 : Int} (h0 : x1 = 166 + x2) (h1 : 0 ≤ x2) : ((166 : Nat) : Int) ≤ x1 := by omega
theorem q_50ef92cd29 {x1 : Int} : (x1 - ((166 : Nat) : Int)) % ((1 : Nat) : Int) = 0 := by omega
theorem q_b48fc66505 {x1 : Int} (h0 : x1 - 12 ≤ 0) : x1 ≤ 12 := by omega
theorem q_bc2cd02f58 {x1 x2 x3 x4 x5 : Int} (h0 : x1 - 24 * x2 - 2 * x3 - 26 ≤ 0) (h1 : x3 - x4 ≤ 0) (h2 : -x1 + 26 ≤ 0) (h3 : -x5 + x4 ≤ 0) (h4 : x5 ≠ 12) (h5 : x5 - 12 ≤ 0) : -2147483648 ≤ 4 * x2 := by omega
theorem q_bb598b1ffb {x1 x2 x3 x4 : Int} (h0 : -x1 + 24 * x2 + 2 * x3 + 26 ≤ 0) (h1 : -x3 + x4 ≤ 0) (h2 : x1 - 122 ≤ 0) (h3 : 0 ≤ x4) : 4 * x2 ≤ 2147483647 := by omega
theorem q_7baf00c54e {x1 x2 x3 x4 x5 x6 : Int} (h0 : x1 = 4 * x2) (h1 : x3 - 24 * x2 - 2 * x4 - 26 ≤ 0) (h2 : x4 - x5 ≤ 0) (h3 : -x3 + 26 ≤ 0) (h4 : -x6 + x5 ≤ 0) (h5 : x6 ≠ 12) (h6 : x6 - 12 ≤ 0) : -2147483648 ≤ 10 + x1 := by omega
theorem q_6ff67d754e {x1 x2 x3 x4 x5 : Int} (h0 : x1 = 4 * x2) (h1 : -x3 + 24 * x2 + 2 * x4 + 26 ≤ 0) (h2 : -x4 + x5 ≤ 0) (h3 : x3 - 122 ≤ 0) (h4 : 0 ≤ x5) : 10 + x1 ≤ 2147483647 := by omega
theorem q_0919e71a47 {x1 x2 x3 x4 x5 x6 : Int} (h0 : x1 = 10 + x2) (h1 : x2 = 4 * x3) (h2 : -x4 + 24 * x3 + 2 * x5 + 26 ≤ 0) (h3 : -x5 + x6 ≤ 0) (h4 : x4 - 122 ≤ 0) (h5 : 0 ≤ x6) : x1 + 2 ≤ 2147483647 := by omega
theorem q_f9b8279f5d {x1 x2 x3 x4 x5 x6 x7 : Int} (h0 : x1 = x2 + 2) (h1 : x2 = 10 + x3) (h2 : x3 = 4 * x4) (h3 : -x5 + 24 * x4 + 2 * x6 + 26 ≤ 0) (h4 : -x6 + x7 ≤ 0) (h5 : x5 - 122 ≤ 0) (h6 : 0 ≤ x7) : x1 < ((226 : Nat) : Int) := by omega
theorem q_fbccb7dd2b {x1 x2 x3 : Int} (h0 : x1 = x2 + 1) (h1 : -x3 + x2 ≤ 0) (h2 : x3 ≠ 12) (h3 : x3 - 12 ≤ 0) : x1 ≤ 12 := by omega
theorem q_da5003b62f {x1 : Int} (h0 : 0 ≤ x1) : -2147483648 ≤ 166 + x1 := by omega
theorem q_0c115a356a {x1 : Int} (h0 : x1 ≠ 60) (h1 : x1 ≤ 60) : 166 + x1 ≤ 2147483647 := by omega
theorem q_2083981b07 {x1 x2 : Int} (h0 : x1 = 166 + x2) (h1 : x2 ≠ 60) (h2 : x2 ≤ 60) : x1 < ((166 : Nat) : Int) + ((1 : Nat) : Int) * ((60 : Nat) : Int) := by omega
theorem q_3cc24cabc2 {x1 x2 : Int} (h0 : x1 = 166 + x2) (h1 : 0 ≤ x2) : 0 ≤ x1 := by omega
theorem q_1152749836 {x1 x2 : Int} (h0 : x1 = 166 + x2) (h1 : x2 ≠ 60) (h2 : x2 ≤ 60) : x1 < ((226 : Nat) : Int) := by omega
theorem q_4752c9823d {x1 x2 x3 x4 x5 : Int} (h0 : x1 - 24 * x2 - 2 * x3 - 26 ≤ 0) (h1 : x3 - x4 ≤ 0) (h2 : -x1 + 26 ≤ 0) (h3 : -x5 + x4 ≤ 0) (h4 : x5 ≠ 12) (h5 : x5 - 12 ≤ 0) : 0 ≤ x2 := by omega
theorem q_a7b9738bd6 {x1 : Int} (h0 : x1 ≠ 60) (h1 : x1 ≤ 60) : x1 + 1 ≤ 2147483647 := by omega
theorem q_c651c9b73b {x1 x2 : Int} (h0 : x1 = x2 + 1) (h1 : x2 ≠ 60) (h2 : x2 ≤ 60) : x1 ≤ 60 := by omega
theorem q_b9268e245a {x1 : Int} (h0 : x1 = (-2)) : -x1 - 1000000 ≤ 0 := by omega
theorem q_32102f5304 {x1 x2 : Int} (h0 : -x1 ≤ 0) (h1 : x2 - 1000000 ≤ 0) : -2147483648 ≤ x1 - x2 := by omega
theorem q_80d30d8c4f {x1 x2 : Int} (h0 : x1 - 1000000 ≤ 0) (h1 : -x2 ≤ 0) : x1 - x2 ≤ 2147483647 := by omega
theorem q_6a272ab126 {x1 x2 x3 : Int} (h0 : x1 = x2 - x3) (h1 : -x2 ≤ 0) (h2 : x3 - 1000000 ≤ 0) : -x1 - 1000000 ≤ 0 := by omega
theorem q_f5fd317cc8 {x1 x2 x3 : Int} (h0 : x1 = x2 - x3) (h1 : x2 - 1000000 ≤ 0) (h2 : -x3 ≤ 0) : x1 - 1000000 ≤ 0 := by omega
theorem q_a6e24c7894 {x1 x2 x3 : Int} (h0 : x1 = 166 + x2) (h1 : x2 = x3 - 1) (h2 : x3 ≤ 60) : x1 < ((166 : Nat) : Int) + ((1 : Nat) : Int) * ((60 : Nat) : Int) := by omega
theorem q_6a14783eb1 {x1 x2 x3 x4 : Int} (h0 : x1 = x2 + 2) (h1 : x2 = 10 + x3) (h2 : x3 = 4 * x4) (h3 : x4 ≤ 3) : x1 < ((12 : Nat) : Int) + ((4 : Nat) : Int) * ((4 : Nat) : Int) := by omega
theorem q_ee101262ad {x1 : Int} (h0 : x1 ≠ 0) (h1 : 0 ≤ x1) : -2147483648 ≤ x1 - 1 := by omega
theorem q_1298620a37 {x1 x2 : Int} (h0 : x1 = x2 - 1) (h1 : x2 ≠ 0) (h2 : 0 ≤ x2) : 0 ≤ x1 := by omega
theorem q_8c0da1ef4b {x1 x2 : Int} (h0 : x1 = x2 - 1) (h1 : x2 ≠ 0) (h2 : 0 ≤ x2) : -2147483648 ≤ 166 + x1 := by omega
theorem q_1e28427c20 {x1 x2 : Int} (h0 : x1 = x2 - 1) (h1 : x2 ≤ 60) : 166 + x1 ≤ 2147483647 := by omega
theorem q_72ed8397c6 {x1 x2 x3 : Int} (h0 : x1 = 166 + x2) (h1 : x2 = x3 - 1) (h2 : x3 ≠ 0) (h3 : 0 ≤ x3) : ((166 : Nat) : Int) ≤ x1 := by omega
theorem q_2b9e743492 {x1 x2 x3 : Int} (h0 : x1 = 166 + x2) (h1 : x2 = x3 - 1) (h2 : x3 ≠ 0) (h3 : 0 ≤ x3) : 0 ≤ x1 := by omega
theorem q_82d2f5345e {x1 x2 x3 : Int} (h0 : x1 = 166 + x2) (h1 : x2 = x3 - 1) (h2 : x3 ≤ 60) : x1 < ((226 : Nat) : Int) := by omega
theorem q_92445dc00e {x1 x2 x3 : Int} (h0 : x1 = 10 + x2) (h1 : x2 = 4 * x3) (h2 : x3 ≤ 3) : x1 + 2 ≤ 2147483647 := by omega
theorem q_f266bffb3f {x1 x2 x3 x4 : Int} (h0 : x1 = x2 + 2) (h1 : x2 = 10 + x3) (h2 : x3 = 4 * x4) (h3 : x4 ≤ 3) : x1 < ((226 : Nat) : Int) := by omega
theorem q_0f6bf0cdc4 {x1 x2 : Int} (h0 : x1 = x2 - 1) (h1 : x2 ≤ 12) : x1 ≤ 12 := by omega
theorem q_4c87331f73 {x1 : Int} (h0 : x1 ≤ 2) : x1 - 1000000 ≤ 0 := by omega
theorem q_6133d71490 {x1 x2 : Int} (h0 : x1 = x2 + 1) : x2 - x1 ≤ 0 := by omega
theorem q_3966d47284 {x1 x2 : Int} (h0 : x1 - x2 + 1 ≤ 0) (h1 : x2 - 13 ≤ 0) : x1 - 12 ≤ 0 := by omega
theorem q_ed08186ac8 {x1 : Int} (h0 : x1 ≠ (-1)) (h1 : (-1) ≤ x1) : -2147483648 ≤ x1 - 1 := by omega
theorem q_78fadfaa17 {x1 : Int} (h0 : -x1 + 12 < ((0 : Nat) : Int)) (h1 : x1 ≤ 12) : False := by omega
theorem q_c7dfa9697a {x1 : Int} (h0 : x1 = (-1)) : x1 - 11 ≤ 0 := by omega
theorem q_4568c58b19 {x1 x2 : Int} {n1 : Nat} (h0 : x1 = x2 + 1) (h1 : -x2 + 12 < ((n1 + 1 : Nat) : Int)) : -x1 + 12 < (n1 : Int) := by omega
theorem q_8286cce19c {x1 x2 : Int} (h0 : x1 < x2) (h1 : x2 ≤ 12) : x1 - 11 ≤ 0 := by omega
theorem q_b48f32a161 {x1 : Int} (h0 : x1 = (-2)) : x1 - 11 ≤ 0 := by omega
theorem q_3717dce636 {x1 : Int} (h0 : x1 ≤ 20) : x1 + 0 ≤ 2147483647 := by omega
theorem q_102453ef71 {x1 x2 : Int} (h0 : x1 = x2 + 0) (h1 : x2 ≤ 20) : x1 ≤ 20 := by omega
theorem q_ca2574f947 {x1 : Int} (h0 : 0 ≤ x1) (h1 : x1 < 0) : False := by omega
theorem q_c9193cb1c8 {x1 x2 : Int} (h0 : x1 - x2 ≤ 0) (h1 : x2 < x1) : False := by omega
theorem q_ab9047be28 {x1 : Int} (h0 : 13 ≤ x1) (h1 : x1 - 12 ≤ 0) : False := by omega
theorem q_938346e14a {x1 x2 : Int} (h0 : x1 < x2) (h1 : -x1 + x2 ≤ 0) : False := by omega
theorem q_bf43a41d51 {x1 : Int} (h0 : x1 - 12 ≤ 0) : x1 + 1 ≤ 2147483647 := by omega
theorem q_ef750b473d {x1 x2 : Int} (h0 : x1 = x2 + 1) (h1 : x2 - 12 ≤ 0) : x1 ≤ 13 := by omega
theorem q_2993df89fb {x1 x2 : Int} (h0 : x1 = x2 + 1) (h1 : x2 - 12 ≤ 0) : x1 - 13 ≤ 0 := by omega
theorem q_68fbff215b {x1 : Int} (h0 : -x1 + 1 ≤ 0) : -x1 + 1 ≤ 0 := by omega
theorem q_b8b1191c64 {x1 x2 : Int} (h0 : -x1 + x2 + 1 ≤ 0) : -x1 + x2 + 1 ≤ 0 := by omega
theorem q_9a4fe11a50 {x1 x2 : Int} (h0 : x1 - x2 - 1 ≤ 0) : x1 - x2 - 1 ≤ 0 := by omega
theorem q_92d2fd6345 {x1 x2 : Int} (h0 : x1 - x2 + 1 ≤ 0) (h1 : x2 ≤ x1) : False := by omega
theorem q_948883f2c4 {x1 x2 x3 : Int} (h0 : -x1 + x2 - 1 ≤ 0) (h1 : x3 = x1 + 1) (h2 : x3 < x2) : False := by omega
theorem q_a3a41410e6 {x1 x2 x3 : Int} (h0 : x1 = x2 - 1) (h1 : x3 - x2 + 1 ≤ 0) (h2 : 0 ≤ x3) : -x1 ≤ 0 := by omega
theorem q_d44cac6eaa {x1 x2 : Int} (h0 : x1 = x2 - 1) (h1 : x2 ≤ 13) : x1 - 12 ≤ 0 := by omega
theorem q_e4a5646b6e {x1 x2 : Int} (h0 : x1 = x2 - 1) : -x1 + x2 - 1 ≤ 0 := by omega
theorem q_7c77837619 {x1 : Int} (h0 : x1 ≤ 12) : x1 ≤ 12 := by omega
theorem q_ee40ea6e47 {x1 x2 : Int} (h0 : x1 = x2 - 1) (h1 : -x2 + 1 ≤ 0) : 0 ≤ x1 := by omega
theorem q_b155147890 {x1 x2 : Int} (h0 : -x1 + x2 - 1 ≤ 0) : -x1 + x2 - 1 ≤ 0 := by omega
theorem q_f23a0149bf {x1 : Int} (h0 : 0 < x1) : -x1 + 1 ≤ 0 := by omega
theorem q_a439be255a {x1 : Int} (h0 : x1 = 1) : -x1 + 1 ≤ 0 := by omega
theorem q_0989a0d07f {x1 x2 : Int} (h0 : x1 = x2) (h1 : (-1) ≤ x1) : -x2 - 1 ≤ 0 := by omega
theorem q_c3d83eb9e6 {x1 x2 : Int} (h0 : x1 = x2) (h1 : x1 ≤ 3) : x2 - 3 ≤ 0 := by omega
theorem q_0d55f0b380 {x1 : Int} (h0 : 0 ≤ x1) : -x1 - 2147483648 ≤ 0 := by omega
theorem q_d9cc3a00e4 {x1 x2 : Int} (h0 : x1 < x2) (h1 : x2 ≤ 4) : x1 - 2147483647 ≤ 0 := by omega
theorem q_14bb4498e6 {x1 x2 : Int} (h0 : x1 < x2) (h1 : x2 ≤ 4) : x1 - 3 ≤ 0 := by omega
theorem q_e3350da514 {x1 : Int} (h0 : x1 ≠ 0) (h1 : -x1 ≤ 0) : -x1 + 1 ≤ 0 := by omega
theorem q_5cc51917cd {x1 x2 : Int} (h0 : x1 < x2) (h1 : x2 - 16 ≤ 0) : x1 - 15 ≤ 0 := by omega
theorem q_f1b4405731 {x1 x2 : Int} (h0 : 1 ≤ x1) (h1 : x2 ≤ 0) : x2 - x1 ≤ 0 := by omega
theorem q_6030c79a6f {x1 x2 : Int} (h0 : x1 ≠ 0) (h1 : 0 ≤ x1) (h2 : x1 ≤ 0) : -x1 + x2 ≤ 0 := by omega
theorem q_9f4a304547 {x1 x2 : Int} (h0 : -x1 + 1 ≤ 0) (h1 : x1 = 0) : x2 - x1 ≤ 0 := by omega
theorem q_c7bbab7bf1 {x1 : Int} (h0 : x1 = 32) : -x1 + 10 ≤ 0 := by omega
theorem q_9db9c28d84 {x1 : Int} (h0 : x1 = 32) : x1 - 32 ≤ 0 := by omega
theorem q_bda69c322b {x1 : Int} (h0 : x1 = 10) : -x1 + 10 ≤ 0 := by omega
theorem q_cc78147568 {x1 : Int} (h0 : x1 = 10) : x1 - 32 ≤ 0 := by omega
theorem q_4eb6dac66d {x1 : Int} (h0 : x1 = (-1)) : x1 + 1 ≤ 0 := by omega
theorem q_6e3f7f1a8e {x1 x2 : Int} (h0 : x1 = (-1)) (h1 : -x2 - 1 ≤ 0) : x1 - x2 ≤ 0 := by omega
theorem q_a393f6e16a {x1 x2 : Int} (h0 : x1 ≤ x2) (h1 : -x1 - 1 ≤ 0) : -x2 - 1 ≤ 0 := by omega
theorem q_e843bd7aad {x1 : Int} (h0 : x1 = 3) : -x1 + 1 ≤ 0 := by omega
theorem q_05a4ec538e {x1 x2 : Int} (h0 : x1 = x2) (h1 : x2 = 1) : -x1 + 1 ≤ 0 := by omega
theorem q_dc003f84d1 {x1 : Int} (h0 : x1 = 2) : -x1 + 1 ≤ 0 := by omega
theorem q_07cb94ee96 {x1 x2 : Int} (h0 : x1 = x2) (h1 : x2 = 2) : -x1 + 1 ≤ 0 := by omega
theorem q_f11460079f {x1 : Int} (h0 : x1 ≤ 1000000) : 10 * x1 ≤ 2147483647 := by omega
theorem q_0908e1ebf2 {x1 x2 x3 : Int} (h0 : x1 = 10 * x2) (h1 : (-128) ≤ x3) (h2 : 0 ≤ x2) : -2147483648 ≤ x1 + x3 := by omega
theorem q_ab63a7cdb5 {x1 x2 x3 : Int} (h0 : x1 = 10 * x2) (h1 : x3 ≤ 127) (h2 : x2 ≤ 1000000) : x1 + x3 ≤ 2147483647 := by omega
theorem q_2fda172f3e {x1 x2 x3 x4 : Int} (h0 : x1 = x2 + x3) (h1 : x2 = 10 * x4) (h2 : (-128) ≤ x3) (h3 : 0 ≤ x4) : -2147483648 ≤ x1 - 48 := by omega
theorem q_08fe8bd518 {x1 x2 x3 x4 : Int} (h0 : x1 = x2 + x3) (h1 : x2 = 10 * x4) (h2 : x3 ≤ 127) (h3 : x4 ≤ 1000000) : x1 - 48 ≤ 2147483647 := by omega
theorem q_50239dc789 {x1 : Int} (h0 : x1 = 4) : -x1 + 1 ≤ 0 := by omega
theorem q_bd5229abc9 {x1 : Int} (h0 : x1 + 1 ≤ 0) : x1 - 1000000 ≤ 0 := by omega
theorem q_b60e76ae01 {x1 : Int} (h0 : x1 + 1 ≤ 0) : x1 + 1 ≤ 0 := by omega
theorem q_26f50f4f39 {x1 x2 : Int} (h0 : x1 + 1 ≤ 0) (h1 : -x2 - 1 ≤ 0) : x1 - x2 ≤ 0 := by omega
theorem q_edd4ae9b14 {x1 x2 : Int} (h0 : x1 - x2 ≤ 0) (h1 : -x1 - 1 ≤ 0) : -x2 - 1 ≤ 0 := by omega
theorem q_aa3c9d52ea {x1 x2 x3 : Int} (h0 : -x1 + x2 ≤ 0) (h1 : -x3 + x1 ≤ 0) (h2 : x3 = 0) : x2 ≤ 0 := by omega
theorem q_81610a3c5e {x1 x2 : Int} (h0 : x1 = x2 - 1) (h1 : -x2 + 1 ≤ 0) : -x1 - 1 ≤ 0 := by omega
theorem q_a0d17ed560 {x1 x2 : Int} (h0 : x1 - x2 ≤ 0) (h1 : x1 ≠ 0) (h2 : -x1 ≤ 0) : -x2 + 1 ≤ 0 := by omega
theorem q_31d5f588b1 {x1 x2 : Int} (h0 : -x1 + x2 ≤ 0) (h1 : x1 = 0) : x2 ≤ 0 := by omega
theorem q_e1ef427644 {x1 x2 x3 : Int} (h0 : x1 - x2 ≤ 0) (h1 : x2 = x3 - 1) (h2 : x3 - 16 ≤ 0) : x1 ≤ 15 := by omega
theorem q_7d8964ea46 {x1 x2 : Int} (h0 : x1 = x2 - 1) (h1 : 0 ≤ x2) : -x1 - 1 ≤ 0 := by omega
theorem q_9af1b6be4e {x1 x2 x3 : Int} (h0 : x1 - x2 ≤ 0) (h1 : x2 = x3 - 1) (h2 : x3 ≤ 4) : x1 < ((4 : Nat) : Int) := by omega
theorem q_5856343edf {x1 x2 x3 : Int} (h0 : x1 - x2 ≤ 0) (h1 : x2 = x3 - 1) (h2 : x3 ≤ 4) : x1 ≤ 3 := by omega
theorem q_833ff042c7 {x1 : Int} (h0 : x1 + 1 ≤ 0) : x1 - 15 ≤ 0 := by omega
theorem q_01db6a173f {x1 : Int} (h0 : -x1 - 1 ≤ 0) : -2147483648 ≤ x1 + 1 := by omega
theorem q_c17a431393 {x1 x2 : Int} (h0 : x1 = x2 + 1) (h1 : -x2 - 1 ≤ 0) : -x1 - 1 ≤ 0 := by omega
theorem q_8411496380 {x1 x2 x3 : Int} (h0 : x1 - x2 ≤ 0) (h1 : x1 = x3 + 1) (h2 : -x3 - 1 ≤ 0) : 0 ≤ x2 := by omega
theorem q_6c4e5973a4 {x1 x2 x3 : Int} (h0 : x1 - x2 ≤ 0) (h1 : x2 = x3 - 1) (h2 : x3 ≤ 6) : x1 < ((6 : Nat) : Int) := by omega
theorem q_021a34f81f {x1 x2 : Int} (h0 : (-1) ≤ x1) (h1 : -x2 + 1 ≤ 0) : -x1 - x2 ≤ 0 := by omega
theorem q_438bc66a3b {x1 x2 x3 : Int} (h0 : (-1) ≤ x1) (h1 : x2 = x3 + 1) (h2 : 0 ≤ x3) : -x1 - x2 ≤ 0 := by omega
theorem q_23c634d40a {x1 x2 x3 : Int} (h0 : -x1 - x2 + x3 ≤ 0) (h1 : x2 ≤ 16) : x3 - x1 - 16 ≤ 0 := by omega
theorem q_8d9f3dc7f1 {x1 : Int} (h0 : x1 < 81) : x1 ≤ 81 := by omega
theorem q_affce3384d {x1 x2 x3 x4 : Int} (h0 : -x1 - x2 + x3 ≤ 0) (h1 : x4 = x2 + 1) : -x1 - x4 + x3 ≤ 0 := by omega
theorem q_8eb5dc48db {x1 x2 x3 : Int} (h0 : 8 * x1 - x2 - 8 * x3 + 24 ≤ 0) (h1 : 0 ≤ x1) (h2 : x2 < 0) : -x3 + 4 ≤ 0 := by omega
theorem q_e38c9d072d {x1 x2 x3 : Int} (h0 : 8 * x1 - x2 - 8 * x3 + 24 ≤ 0) (h1 : x2 < 0) : -x3 + x1 ≤ 0 := by omega
theorem q_fff200e16d {x1 x2 x3 : Int} (h0 : x1 + 8 * x2 - 8 * x3 - 24 ≤ 0) (h1 : (-8) ≤ x1) : x2 - x3 - 4 ≤ 0 := by omega
theorem q_782153f87a {x1 x2 x3 : Int} (h0 : 8 * x1 - x2 - 8 * x3 + 24 ≤ 0) (h1 : x2 < 0) : -x3 + x1 + 4 ≤ 0 := by omega
theorem q_11a59a8b8a {x1 : Int} (h0 : 1600 ≤ x1) : -x1 + 4 ≤ 0 := by omega
theorem q_b4fb6b5916 {x1 x2 : Int} (h0 : x1 ≤ 1600) (h1 : 1600 ≤ x2) : -x2 + x1 ≤ 0 := by omega
theorem q_e822212b76 {x1 x2 x3 : Int} (h0 : x1 + 8 * x2 - 8 * x3 - 24 ≤ 0) (h1 : 0 ≤ x1) : x2 - x3 - 4 ≤ 0 := by omega
theorem q_0ac42f1f87 {x1 x2 : Int} (h0 : x1 - 1596 ≤ 0) (h1 : 1600 ≤ x2) : -x2 + x1 + 4 ≤ 0 := by omega
theorem q_afee5e327f {x1 x2 x3 x4 x5 : Int} (h0 : x1 + 8 * x2 - 8 * x3 - 24 ≤ 0) (h1 : x4 = x2 + 1) (h2 : x5 = x1 + (-8)) : x5 + 8 * x4 - 8 * x3 - 24 ≤ 0 := by omega
theorem q_5330391d26 {x1 x2 x3 x4 x5 : Int} (h0 : 8 * x1 - x2 - 8 * x3 + 24 ≤ 0) (h1 : x4 = x3 + 1) (h2 : x5 = x2 + (-8)) : 8 * x1 - x5 - 8 * x4 + 24 ≤ 0 := by omega
theorem q_442e014c00 {x1 : Int} (h0 : x1 ≤ 63) : x1 ≤ 65535 := by omega
theorem q_182bdf90dd {x1 : Int} (h0 : x1 ≤ 5) : x1 ≤ 15 := by omega
theorem q_a461a73438 {x1 x2 : Int} (h0 : x1 ≠ x2) (h1 : x1 ≤ x2) : x1 - x2 ≤ 0 := by omega
theorem q_65989d2eba {x1 : Int} (h0 : x1 ≤ 6) : x1 ≤ 15 := by omega
theorem q_1a8f925876 {x1 : Int} (h0 : x1 - 1000 ≤ 0) : x1 ≤ 1000 := by omega
theorem q_10c063c685 {x1 : Int} (h0 : 1 ≤ x1) : (-1) ≤ x1 := by omega
theorem q_7fdbd2bd6a {x1 : Int} (h0 : x1 - 3 ≤ 0) : x1 < ((4 : Nat) : Int) := by omega
theorem q_693db50900 {x1 : Int} (h0 : -x1 ≤ 0) (h1 : x1 = (-1)) : False := by omega
theorem q_1108b6a118 {x1 x2 : Int} (h0 : x1 < 0) (h1 : -x1 ≤ 0) : x2 - x1 ≤ 0 := by omega
theorem q_7d292a1c2b {x1 x2 : Int} (h0 : x1 = (-1)) (h1 : -x2 ≤ 0) : x1 - x2 ≤ 0 := by omega
theorem q_da50bdb728 {x1 x2 : Int} (h0 : x1 < 0) (h1 : x2 = (-1)) : -x2 + x1 ≤ 0 := by omega
theorem q_9ac42d151c {x1 x2 : Int} (h0 : 0 ≤ x1) (h1 : x1 + 1 ≤ 0) : -x1 + x2 ≤ 0 := by omega
theorem q_29611673d2 {x1 x2 : Int} (h0 : x1 - x2 + 1 ≤ 0) : -x2 + x1 ≤ 0 := by omega
theorem q_63ad617a29 {x1 x2 : Int} (h0 : x1 ≤ x2) (h1 : x2 - x1 + 1 ≤ 0) : x1 + 1 ≤ 0 := by omega
theorem q_59265d2827 {x1 x2 : Int} (h0 : 0 ≤ x1) (h1 : x2 = (-1)) : x2 - x1 ≤ 0 := by omega
theorem q_5ed5f7434d {x1 x2 x3 : Int} (h0 : x1 < x2) (h1 : x2 - x1 ≤ 0) : -x3 + x2 ≤ 0 := by omega
theorem q_549c8401b7 {x1 x2 : Int} (h0 : x1 = x2 + 20) (h1 : x1 ≤ 1600) : x2 - 1596 ≤ 0 := by omega
theorem q_737f66ec9d {x1 x2 x3 : Int} (h0 : x1 - x2 - 4 ≤ 0) (h1 : x3 = x2 + 20) (h2 : x3 ≤ 1600) : x1 - 1596 ≤ 0 := by omega
theorem q_63199bf400 {x1 x2 x3 x4 : Int} (h0 : x1 - x2 - 4 ≤ 0) (h1 : x2 - x3 - 4 ≤ 0) (h2 : x4 = x3 + 20) (h3 : x4 ≤ 1600) : x1 - 1596 ≤ 0 := by omega
theorem q_7e5cba469b {x1 x2 x3 x4 x5 : Int} (h0 : x1 - x2 - 4 ≤ 0) (h1 : x2 - x3 - 4 ≤ 0) (h2 : x3 - x4 - 4 ≤ 0) (h3 : x5 = x4 + 20) (h4 : x5 ≤ 1600) : x1 - 1596 ≤ 0 := by omega
theorem q_bcb984a5e1 {x1 x2 x3 x4 x5 x6 : Int} (h0 : x1 - x2 - 4 ≤ 0) (h1 : x2 - x3 - 4 ≤ 0) (h2 : x3 - x4 - 4 ≤ 0) (h3 : x4 - x5 - 4 ≤ 0) (h4 : x6 = x5 + 20) (h5 : x6 ≤ 1600) : x1 - 1596 ≤ 0 := by omega
theorem q_be52155ce6 {x1 : Int} (h0 : -x1 + 4 ≤ 0) : -x1 - 1 ≤ 0 := by omega
theorem q_7c7233d48f {x1 x2 x3 x4 x5 : Int} (h0 : -x1 + x2 + 4 ≤ 0) (h1 : -x2 + x3 + 4 ≤ 0) (h2 : -x3 + x4 + 4 ≤ 0) (h3 : -x4 + x5 + 4 ≤ 0) (h4 : -x5 + 4 ≤ 0) : -x1 + 20 ≤ 0 := by omega
theorem q_2007956020 {x1 x2 x3 x4 x5 x6 : Int} (h0 : -x1 + x2 + 4 ≤ 0) (h1 : -x3 + x1 + 4 ≤ 0) (h2 : -x4 + x3 + 4 ≤ 0) (h3 : -x5 + x4 + 4 ≤ 0) (h4 : -x6 + x5 + 4 ≤ 0) : -x6 + x2 ≤ 0 := by omega
theorem q_2bc18f6fdd {x1 x2 x3 x4 x5 x6 : Int} (h0 : x1 - x2 - 4 ≤ 0) (h1 : x3 - x1 - 4 ≤ 0) (h2 : x4 - x3 - 4 ≤ 0) (h3 : x5 - x4 - 4 ≤ 0) (h4 : x6 - x5 - 4 ≤ 0) : x6 - x2 - 20 ≤ 0 := by omega
theorem q_40bad344e3 {x1 x2 x3 x4 x5 x6 : Int} (h0 : -x1 + x2 + 4 ≤ 0) (h1 : -x3 + x1 + 4 ≤ 0) (h2 : -x4 + x3 + 4 ≤ 0) (h3 : -x5 + x4 + 4 ≤ 0) (h4 : -x6 + x5 + 4 ≤ 0) : -x6 + x2 + 20 ≤ 0 := by omega
theorem q_c96239e5db {x1 x2 x3 : Int} (h0 : -x1 + 1581 ≤ 0) (h1 : x2 = x1 + 20) (h2 : x2 ≤ 1600) : x3 - x1 ≤ 0 := by omega
theorem q_8705a471bc {x1 x2 x3 : Int} (h0 : -x1 + 1581 ≤ 0) (h1 : x2 = x1 + 20) (h2 : x2 ≤ 1600) : -x3 + x1 ≤ 0 := by omega
theorem q_0a5c54d24c {x1 x2 x3 : Int} (h0 : -x1 + 1581 ≤ 0) (h1 : x2 = x1 + 20) (h2 : x2 ≤ 1600) : x3 + 1 ≤ 0 := by omega
theorem q_abdabe92bc {x1 x2 : Int} (h0 : x1 = x2 + 20) (h1 : 1600 < x1) : -x2 + 20 ≤ 0 := by omega
theorem q_b37250a010 {x1 : Int} : x1 - x1 - 20 ≤ 0 := by omega
theorem q_62fc0891e9 {x1 : Int} (h0 : -x1 - 2147483648 ≤ 0) : -x1 - 2147483648 ≤ 0 := by omega
theorem q_2f9ec35db8 {x1 : Int} (h0 : x1 - 2147483647 ≤ 0) : x1 - 2147483647 ≤ 0 := by omega
theorem q_cbdb2feb0e {x1 : Int} (h0 : -x1 ≤ 0) : -x1 - 2147483648 ≤ 0 := by omega
theorem q_ae1cc60a52 {x1 : Int} (h0 : x1 - 3 ≤ 0) : x1 - 2147483647 ≤ 0 := by omega
theorem q_c7de5743f6 {x1 x2 x3 : Int} (h0 : x1 - x2 ≤ 0) (h1 : x3 - x1 ≤ 0) (h2 : x2 - x3 < ((0 : Nat) : Int)) : False := by omega
theorem q_a4451c6360 {x1 x2 x3 : Int} (h0 : x1 - x2 ≤ 0) (h1 : x3 < x1) : x3 - x2 + 1 ≤ 0 := by omega
theorem q_ec0052c56b {x1 x2 x3 x4 : Int} (h0 : x1 < x2) (h1 : -x3 + x4 - 1 ≤ 0) (h2 : x2 - x4 ≤ 0) : x1 - x3 ≤ 0 := by omega
theorem q_a537cdb1b6 {x1 x2 x3 x4 : Int} (h0 : x1 = x2 + 1) (h1 : x2 < x3) (h2 : x4 ≤ 12) (h3 : x3 - x4 ≤ 0) : x1 ≤ 12 := by omega
theorem q_0b81bedbd8 {x1 x2 x3 : Int} (h0 : x1 - x2 - 1 ≤ 0) (h1 : x2 - x3 + 1 ≤ 0) (h2 : x3 ≤ 12) : x1 ≤ 12 := by omega
theorem q_d41ea3d59a {x1 x2 x3 x4 : Int} (h0 : x1 - x2 ≤ 0) (h1 : x3 - x1 + 1 ≤ 0) (h2 : x4 - x3 - 1 ≤ 0) : x4 - x2 ≤ 0 := by omega
theorem q_3d12b25be0 {x1 x2 x3 x4 : Int} (h0 : x1 - x2 ≤ 0) (h1 : -x3 + x2 - 1 ≤ 0) (h2 : -x4 + x3 + 1 ≤ 0) : x1 - x4 ≤ 0 := by omega
theorem q_e87956719a {x1 x2 x3 x4 x5 x6 : Int} (h0 : -x1 + x2 + 1 ≤ 0) (h1 : x3 = x4 + 1) (h2 : x4 < x5) (h3 : -x2 + x6 - 1 ≤ 0) (h4 : x5 - x6 ≤ 0) : x3 - x1 ≤ 0 := by omega
theorem q_535bc65891 {x1 : Int} (h0 : x1 = (-2)) : x1 + 2 ≤ 0 := by omega
theorem q_416b1dfcd0 {x1 : Int} (h0 : x1 ≠ (-2)) (h1 : -x1 - 2 ≤ 0) : -x1 - 1 ≤ 0 := by omega
theorem q_c57f8bb8aa {x1 : Int} (h0 : x1 ≠ (-1)) (h1 : x1 ≠ (-2)) (h2 : -x1 - 2 ≤ 0) : -x1 ≤ 0 := by omega
theorem q_3a751255ef {x1 : Int} (h0 : x1 = (-3)) : x1 + 3 ≤ 0 := by omega
theorem q_02dfa0d959 {x1 : Int} (h0 : x1 < 12) : x1 - 12 ≤ 0 := by omega
theorem q_502afd8663 {x1 : Int} (h0 : -x1 + 1 ≤ 0) : -x1 - 5 ≤ 0 := by omega
theorem q_149581888d {x1 x2 : Int} (h0 : x1 - x2 - 1 ≤ 0) (h1 : x2 < 12) : x1 - 12 ≤ 0 := by omega
theorem q_c602a05ff1 {x1 : Int} (h0 : x1 = (-5)) : x1 - 12 ≤ 0 := by omega
theorem q_70e3f14a17 {x1 : Int} (h0 : x1 = (-3)) : x1 - 12 ≤ 0 := by omega
theorem q_cb1d6b5e1f {x1 : Int} (h0 : x1 = 32) : -x1 ≤ 0 := by omega
theorem q_02c0cd8258 {x1 x2 x3 : Int} (h0 : x1 = x2 + 1) (h1 : x2 - x3 + 1 ≤ 0) (h2 : x3 ≤ 1600) : x1 ≤ 1600 := by omega
theorem q_9aa41b2499 {x1 : Int} (h0 : x1 ≠ (-1)) (h1 : -x1 - 1 ≤ 0) : -x1 ≤ 0 := by omega
theorem q_48b789729f {x1 x2 x3 : Int} (h0 : x1 = x2 + 1) (h1 : x2 - x3 + 1 ≤ 0) (h2 : x3 ≤ 1600) : x1 - 1600 ≤ 0 := by omega
theorem q_b2aca50e06 {x1 x2 x3 : Int} (h0 : x1 - x2 ≤ 0) (h1 : x3 = x2 + 1) : x1 - x3 + 1 ≤ 0 := by omega
theorem q_5e8186b26d {x1 x2 : Int} (h0 : x1 = 0) (h1 : -x2 ≤ 0) : -2147483648 ≤ x1 + x2 := by omega
theorem q_57a02b7c1a {x1 x2 x3 : Int} (h0 : x1 = x2 + x3) (h1 : x2 = 0) (h2 : -x3 ≤ 0) : -2147483648 ≤ x1 - 48 := by omega
theorem q_88763b3d99 {x1 x2 x3 x4 : Int} (h0 : x1 - x2 ≤ 0) (h1 : x3 = x2 + 1) (h2 : x3 - x4 ≤ 0) : x1 - x4 + 1 ≤ 0 := by omega
theorem q_db83736b23 {x1 x2 x3 : Int} (h0 : x1 = 10 * x2) (h1 : -x3 ≤ 0) (h2 : 0 ≤ x2) : -2147483648 ≤ x1 + x3 := by omega
theorem q_fa95d3a10b {x1 x2 x3 x4 : Int} (h0 : x1 = x2 + x3) (h1 : x2 = 10 * x4) (h2 : -x3 ≤ 0) (h3 : 0 ≤ x4) : -2147483648 ≤ x1 - 48 := by omega
theorem q_d701165c21 {x1 x2 x3 : Int} (h0 : x1 - x2 + 1 ≤ 0) (h1 : x3 = x1 + 1) : x3 - x2 ≤ 0 := by omega
theorem q_6ce9b4f471 {x1 : Int} (h0 : x1 = 10) : -x1 ≤ 0 := by omega
theorem q_b340b46ac0 {x1 x2 : Int} (h0 : x1 = x2) (h1 : -x1 - 1 ≤ 0) : -x2 - 1 ≤ 0 := by omega
theorem q_df5159a1fd {x1 x2 : Int} (h0 : x1 = x2) (h1 : x1 - 3 ≤ 0) : x2 - 3 ≤ 0 := by omega
theorem q_7a76f1b347 {x1 : Int} (h0 : -x1 - 1 ≤ 0) : -x1 - 5 ≤ 0 := by omega
theorem q_f10d4a2089 {x1 x2 : Int} (h0 : -x1 + x2 ≤ 0) (h1 : x1 ≤ 0) : x2 ≤ 0 := by omega
theorem q_35a72a35ef {x1 : Int} (h0 : x1 ≤ 0) : x1 ≤ 0 := by omega
theorem q_e81d57acca {x1 x2 : Int} (h0 : x1 = x2 + 20) (h1 : 0 ≤ x2) : -x1 + 20 ≤ 0 := by omega
theorem q_97006d3506 {x1 x2 : Int} (h0 : x1 = x2 + 20) : -x1 + x2 ≤ 0 := by omega
theorem q_815c5659af {x1 x2 : Int} (h0 : x1 = x2 + 20) : x1 - x2 - 20 ≤ 0 := by omega
theorem q_96eaa2a5fa {x1 x2 : Int} (h0 : x1 = x2 + 20) : -x1 + x2 + 20 ≤ 0 := by omega
theorem q_8923f6e04e {x1 x2 : Int} (h0 : x1 = x2 + 20) (h1 : -x2 + 1581 ≤ 0) : -x1 - 1 ≤ 0 := by omega
theorem q_82b7ab915f {x1 : Int} (h0 : x1 = 0) : x1 - 50 ≤ 0 := by omega
theorem q_b2041001a2 {x1 x2 : Int} (h0 : x1 ≤ 0) (h1 : x2 = 0) : x1 - x2 ≤ 0 := by omega
theorem q_0d5ac7281a {x1 x2 : Int} (h0 : -x1 ≤ 0) (h1 : x2 = 0) : x2 - x1 ≤ 0 := by omega
theorem q_51b79a98f4 {x1 x2 : Int} (h0 : x1 ≤ 0) (h1 : 0 ≤ x2) : x1 - x2 ≤ 0 := by omega
theorem q_38eff6f445 {x1 x2 : Int} (h0 : x1 ≤ 99999) (h1 : -x2 + 1 ≤ 0) : -x2 + x1 - 99998 ≤ 0 := by omega
theorem q_ea6a9ad4e1 {x1 : Int} (h0 : x1 - 50 ≤ 0) : x1 ≤ 50 := by omega
theorem q_db388fd8e8 {x1 x2 x3 : Int} (h0 : -x1 + x2 ≤ 0) (h1 : -x3 + x1 ≤ 0) (h2 : x3 ≤ 0) : x2 ≤ 0 := by omega
theorem q_0906d53f5c {x1 x2 x3 x4 x5 : Int} (h0 : x1 = x2 + 2) (h1 : x2 = 10 + x3) (h2 : x3 = 4 * x4) (h3 : x4 - x5 + 1 ≤ 0) (h4 : x5 ≤ 4) : x1 < ((12 : Nat) : Int) + ((4 : Nat) : Int) * ((4 : Nat) : Int) := by omega
theorem q_48d69119bc {x1 x2 x3 x4 x5 : Int} (h0 : x1 = x2 + 2) (h1 : x2 = 10 + x3) (h2 : x3 = 4 * x4) (h3 : -x4 + x5 ≤ 0) (h4 : 0 ≤ x5) : ((12 : Nat) : Int) ≤ x1 := by omega
theorem q_2652ac4fd9 {x1 x2 x3 x4 x5 x6 x7 : Int} (h0 : x1 = x2 + 2) (h1 : x2 = 10 + x3) (h2 : x3 = 4 * x4) (h3 : x4 - x5 ≤ 0) (h4 : x5 - x6 ≤ 0) (h5 : x6 = x7 - 1) (h6 : x7 ≤ 4) : x1 < ((12 : Nat) : Int) + ((4 : Nat) : Int) * ((4 : Nat) : Int) := by omega
theorem q_d89d511a18 {x1 x2 : Int} (h0 : x1 = x2 - 1) (h1 : x2 ≤ 4) : x1 ≤ 50 := by omega
theorem q_d014d9bd7d {x1 x2 x3 x4 : Int} (h0 : -x1 + x2 ≤ 0) (h1 : -x3 + x1 ≤ 0) (h2 : -x4 + x3 ≤ 0) (h3 : x4 ≤ 0) : x2 ≤ 0 := by omega
theorem q_000e87af3c {x1 x2 : Int} (h0 : x1 - x2 + 1 ≤ 0) (h1 : x2 ≤ 4) : 4 * x1 ≤ 2147483647 := by omega
theorem q_5be619cc88 {x1 x2 x3 : Int} (h0 : x1 = 4 * x2) (h1 : x2 - x3 + 1 ≤ 0) (h2 : x3 ≤ 4) : 10 + x1 ≤ 2147483647 := by omega
theorem q_219b66b40e {x1 x2 x3 x4 : Int} (h0 : x1 = 10 + x2) (h1 : x2 = 4 * x3) (h2 : x3 - x4 + 1 ≤ 0) (h3 : x4 ≤ 4) : x1 + 2 ≤ 2147483647 := by omega
theorem q_65e1851e0c {x1 x2 x3 x4 x5 : Int} (h0 : x1 = x2 + 2) (h1 : x2 = 10 + x3) (h2 : x3 = 4 * x4) (h3 : x4 - x5 + 1 ≤ 0) (h4 : x5 ≤ 4) : x1 < ((226 : Nat) : Int) := by omega
theorem q_75d17c0fda {x1 x2 : Int} (h0 : -x1 + x2 ≤ 0) (h1 : 0 ≤ x2) : -2147483648 ≤ 4 * x1 := by omega
theorem q_9ffa38fd64 {x1 x2 x3 x4 : Int} (h0 : x1 - x2 ≤ 0) (h1 : x2 - x3 ≤ 0) (h2 : x3 = x4 - 1) (h3 : x4 ≤ 4) : 4 * x1 ≤ 2147483647 := by omega
theorem q_4cee74ce4d {x1 x2 x3 : Int} (h0 : x1 = 4 * x2) (h1 : -x2 + x3 ≤ 0) (h2 : 0 ≤ x3) : -2147483648 ≤ 10 + x1 := by omega
theorem q_9c8e44848d {x1 x2 x3 x4 x5 : Int} (h0 : x1 = 4 * x2) (h1 : x2 - x3 ≤ 0) (h2 : x3 - x4 ≤ 0) (h3 : x4 = x5 - 1) (h4 : x5 ≤ 4) : 10 + x1 ≤ 2147483647 := by omega
theorem q_0034b71563 {x1 x2 x3 x4 : Int} (h0 : x1 = 10 + x2) (h1 : x2 = 4 * x3) (h2 : -x3 + x4 ≤ 0) (h3 : 0 ≤ x4) : -2147483648 ≤ x1 + 2 := by omega
theorem q_780bac3a59 {x1 x2 x3 x4 x5 x6 : Int} (h0 : x1 = 10 + x2) (h1 : x2 = 4 * x3) (h2 : x3 - x4 ≤ 0) (h3 : x4 - x5 ≤ 0) (h4 : x5 = x6 - 1) (h5 : x6 ≤ 4) : x1 + 2 ≤ 2147483647 := by omega
theorem q_8f32cf81e9 {x1 x2 x3 x4 x5 : Int} (h0 : x1 = x2 + 2) (h1 : x2 = 10 + x3) (h2 : x3 = 4 * x4) (h3 : -x4 + x5 ≤ 0) (h4 : 0 ≤ x5) : 0 ≤ x1 := by omega
theorem q_6fb78dd1f5 {x1 x2 x3 x4 x5 x6 x7 : Int} (h0 : x1 = x2 + 2) (h1 : x2 = 10 + x3) (h2 : x3 = 4 * x4) (h3 : x4 - x5 ≤ 0) (h4 : x5 - x6 ≤ 0) (h5 : x6 = x7 - 1) (h6 : x7 ≤ 4) : x1 < ((226 : Nat) : Int) := by omega
theorem q_012949e807 {x1 x2 x3 x4 : Int} (h0 : x1 - x2 ≤ 0) (h1 : x2 - x3 ≤ 0) (h2 : x3 = x4 - 1) (h3 : x4 ≤ 4) : x1 ≤ 3 := by omega
theorem q_0e23becc5b {x1 x2 x3 x4 x5 x6 : Int} (h0 : x1 - 24 * x2 - 2 * x3 - 26 ≤ 0) (h1 : x3 ≠ 12) (h2 : x3 ≤ 12) (h3 : x2 - x4 ≤ 0) (h4 : x4 - x5 ≤ 0) (h5 : x5 = x6 - 1) (h6 : x6 ≤ 4) : x1 < ((26 : Nat) : Int) + ((2 : Nat) : Int) * ((48 : Nat) : Int) := by omega
theorem q_8ad2cc928a {x1 x2 : Int} (h0 : x1 ≤ 0) (h1 : -x2 ≤ 0) : -x2 + x1 ≤ 0 := by omega
theorem q_a1ee96a155 {x1 x2 x3 x4 x5 x6 : Int} (h0 : x1 = x2 + 3) (h1 : x2 = 10 + x3) (h2 : x3 = 4 * x4) (h3 : x4 - x5 ≤ 0) (h4 : x5 = x6 - 1) (h5 : x6 ≤ 4) : x1 < ((13 : Nat) : Int) + ((4 : Nat) : Int) * ((4 : Nat) : Int) := by omega
theorem q_e0b718e8e1 {x1 x2 : Int} (h0 : x1 - x2 + 1 ≤ 0) (h1 : x2 ≤ 4) : x1 ≤ 3 := by omega
theorem q_39c54a281d {x1 x2 x3 x4 : Int} (h0 : x1 = x2 - 1) (h1 : x3 - x2 + 1 ≤ 0) (h2 : x4 - x3 ≤ 0) (h3 : -x4 ≤ 0) : -x1 ≤ 0 := by omega
theorem q_b05fdbfc49 {x1 x2 x3 x4 : Int} (h0 : x1 = 4 * x2) (h1 : x2 - x3 ≤ 0) (h2 : x3 = x4 - 1) (h3 : x4 ≤ 4) : 10 + x1 ≤ 2147483647 := by omega
theorem q_5ce2bcb71f {x1 x2 x3 x4 x5 : Int} (h0 : x1 = 10 + x2) (h1 : x2 = 4 * x3) (h2 : x3 - x4 ≤ 0) (h3 : x4 = x5 - 1) (h4 : x5 ≤ 4) : x1 + 3 ≤ 2147483647 := by omega
theorem q_0b8423a552 {x1 x2 x3 x4 x5 x6 : Int} (h0 : x1 = x2 + 3) (h1 : x2 = 10 + x3) (h2 : x3 = 4 * x4) (h3 : x4 - x5 ≤ 0) (h4 : x5 = x6 - 1) (h5 : x6 ≤ 4) : x1 < ((226 : Nat) : Int) := by omega
theorem q_91fa7383b1 {x1 x2 x3 x4 x5 x6 x7 : Int} (h0 : x1 = x2 + 1) (h1 : x2 = 154 + x3) (h2 : x3 = 2 * x4) (h3 : -x4 + x5 ≤ 0) (h4 : x6 - x5 ≤ 0) (h5 : x6 = x7 + 1) (h6 : -x7 ≤ 0) : ((157 : Nat) : Int) ≤ x1 := by omega
theorem q_fc8ef87f00 {x1 x2 x3 x4 x5 x6 x7 : Int} (h0 : x1 = x2 + 1) (h1 : x2 = 154 + x3) (h2 : x3 = 2 * x4) (h3 : x4 - x5 ≤ 0) (h4 : x5 - x6 ≤ 0) (h5 : x6 = x7 - 1) (h6 : x7 ≤ 6) : x1 < ((157 : Nat) : Int) + ((2 : Nat) : Int) * ((5 : Nat) : Int) := by omega
theorem q_e56e4aa112 {x1 : Int} (h0 : x1 ≤ 12) : 2 * x1 ≤ 2147483647 := by omega
theorem q_a476bac58b {x1 x2 : Int} (h0 : x1 = 2 * x2) (h1 : x2 ≤ 12) : 122 + x1 ≤ 2147483647 := by omega
theorem q_0d1492303d {x1 x2 x3 : Int} (h0 : x1 = 122 + x2) (h1 : x2 = 2 * x3) (h2 : x3 ≤ 12) : x1 < ((226 : Nat) : Int) := by omega
theorem q_8a343b8a5a {x1 x2 x3 : Int} (h0 : x1 = 122 + x2) (h1 : x2 = 2 * x3) (h2 : x3 ≤ 12) : x1 + 1 ≤ 2147483647 := by omega
theorem q_934e303d50 {x1 x2 x3 x4 : Int} (h0 : x1 = x2 + 1) (h1 : x2 = 122 + x3) (h2 : x3 = 2 * x4) (h3 : x4 ≤ 12) : x1 < ((226 : Nat) : Int) := by omega
theorem q_aa3b077867 {x1 : Int} (h0 : x1 ≤ 4) : 2 * x1 ≤ 2147483647 := by omega
theorem q_b77f2b141e {x1 x2 : Int} (h0 : x1 = 2 * x2) (h1 : x2 ≤ 4) : 146 + x1 ≤ 2147483647 := by omega
theorem q_511d1ad7bf {x1 x2 x3 : Int} (h0 : x1 = 146 + x2) (h1 : x2 = 2 * x3) (h2 : 0 ≤ x3) : 146 ≤ x1 := by omega
theorem q_41eaec9db2 {x1 : Int} (h0 : x1 ≤ 6) : 2 * x1 ≤ 2147483647 := by omega
theorem q_881c99d24a {x1 x2 : Int} (h0 : x1 = 2 * x2) (h1 : x2 ≤ 6) : 154 + x1 ≤ 2147483647 := by omega
theorem q_1583d12f91 {x1 x2 x3 : Int} (h0 : x1 = 154 + x2) (h1 : x2 = 2 * x3) (h2 : x3 ≤ 6) : x1 < ((226 : Nat) : Int) := by omega
theorem q_f8e0b78f94 {x1 x2 : Int} (h0 : x1 = x2 - 1) (h1 : x2 ≤ 6) : x1 ≤ 50 := by omega
theorem q_f354c56e86 {x1 : Int} (h0 : -x1 ≤ 0) : -2147483648 ≤ x1 + 1 := by omega
theorem q_6dad0b73ec {x1 : Int} (h0 : x1 - 50 ≤ 0) : x1 + 1 ≤ 2147483647 := by omega
theorem q_ffbb68b1cf {x1 x2 : Int} (h0 : x1 = x2 + 1) (h1 : -x2 ≤ 0) : 0 ≤ x1 := by omega
theorem q_8ea96bb703 {x1 x2 : Int} (h0 : x1 = x2 + 1) (h1 : x2 - 50 ≤ 0) : x1 ≤ 100000 := by omega
theorem q_70cf9890e7 {x1 x2 : Int} (h0 : x1 = x2 + 1) (h1 : -x2 ≤ 0) : -x1 ≤ 0 := by omega
theorem q_0fcbfd0d34 {x1 x2 x3 x4 x5 : Int} (h0 : x1 = x2 - 1) (h1 : x3 = x2 - 1) (h2 : x4 - x3 ≤ 0) (h3 : x5 - x4 ≤ 0) (h4 : -x5 ≤ 0) : -x1 ≤ 0 := by omega
theorem q_89ea7e3615 {x1 : Int} (h0 : -x1 + 2 ≤ 0) : -x1 + 1 ≤ 0 := by omega
theorem q_9cfc87bf13 {x1 : Int} (h0 : x1 - 50 ≤ 0) : 2 * x1 ≤ 2147483647 := by omega
theorem q_d64d5afc83 {x1 x2 x3 x4 x5 : Int} (h0 : x1 = 2 * x2) (h1 : -x2 + x3 ≤ 0) (h2 : x4 - x3 ≤ 0) (h3 : x4 = x5 + 1) (h4 : -x5 ≤ 0) : -2147483648 ≤ 154 + x1 := by omega
theorem q_e0a1d64f9c {x1 x2 x3 x4 x5 : Int} (h0 : x1 = 2 * x2) (h1 : x2 - x3 ≤ 0) (h2 : x3 - x4 ≤ 0) (h3 : x4 = x5 - 1) (h4 : x5 ≤ 6) : 154 + x1 ≤ 2147483647 := by omega
theorem q_05da333434 {x1 x2 x3 x4 x5 x6 : Int} (h0 : x1 = 154 + x2) (h1 : x2 = 2 * x3) (h2 : -x3 + x4 ≤ 0) (h3 : x5 - x4 ≤ 0) (h4 : x5 = x6 + 1) (h5 : -x6 ≤ 0) : -2147483648 ≤ x1 + 1 := by omega
theorem q_081a469d1d {x1 x2 x3 x4 x5 x6 : Int} (h0 : x1 = 154 + x2) (h1 : x2 = 2 * x3) (h2 : x3 - x4 ≤ 0) (h3 : x4 - x5 ≤ 0) (h4 : x5 = x6 - 1) (h5 : x6 ≤ 6) : x1 + 1 ≤ 2147483647 := by omega
theorem q_9d37ed728b {x1 x2 x3 x4 x5 x6 x7 : Int} (h0 : x1 = x2 + 1) (h1 : x2 = 154 + x3) (h2 : x3 = 2 * x4) (h3 : -x4 + x5 ≤ 0) (h4 : x6 - x5 ≤ 0) (h5 : x6 = x7 + 1) (h6 : -x7 ≤ 0) : 0 ≤ x1 := by omega
theorem q_d5784f9e57 {x1 x2 x3 x4 x5 x6 x7 : Int} (h0 : x1 = x2 + 1) (h1 : x2 = 154 + x3) (h2 : x3 = 2 * x4) (h3 : x4 - x5 ≤ 0) (h4 : x5 - x6 ≤ 0) (h5 : x6 = x7 - 1) (h6 : x7 ≤ 6) : x1 < ((226 : Nat) : Int) := by omega
theorem q_b7df4df08f {x1 : Int} (h0 : x1 ≠ 6) (h1 : x1 ≤ 6) : x1 ≤ 6 := by omega
theorem q_b2cec3a713 {x1 : Int} (h0 : x1 = 6) : 0 ≤ x1 := by omega
theorem q_8aa6573b50 {x1 : Int} (h0 : x1 = 4) : 0 ≤ x1 := by omega
theorem q_4b59c54ff8 {x1 : Int} (h0 : x1 ≠ 4) (h1 : x1 ≤ 4) : x1 ≤ 4 := by omega
theorem q_c921150b37 {x1 : Int} (h0 : x1 = 12) : 0 ≤ x1 := by omega
theorem q_8c58de1fa6 {x1 x2 x3 : Int} (h0 : -x1 + x2 ≤ 0) (h1 : x3 - x2 + 1 ≤ 0) (h2 : x3 ≠ 0) (h3 : 0 ≤ x3) : -x1 + 1 ≤ 0 := by omega
theorem q_1bafaf3e85 {x1 x2 x3 x4 : Int} (h0 : -x1 + x2 ≤ 0) (h1 : -x2 + x3 ≤ 0) (h2 : x4 - x3 + 1 ≤ 0) (h3 : x4 ≠ 0) (h4 : 0 ≤ x4) : -x1 + 1 ≤ 0 := by omega
theorem q_05cffb065e {x1 : Int} (h0 : x1 - 4 ≤ 0) : x1 - 4 ≤ 0 := by omega
theorem q_a3cfc6bb33 {x1 x2 x3 x4 x5 : Int} (h0 : -x1 + x2 ≤ 0) (h1 : -x2 + x3 ≤ 0) (h2 : -x3 + x4 ≤ 0) (h3 : x5 - x4 + 1 ≤ 0) (h4 : 0 ≤ x5) : -x1 + 1 ≤ 0 := by omega
theorem q_4f3726f57a {x1 x2 : Int} (h0 : x1 = x2 + 1) (h1 : x2 = 0) : x1 - 1600 ≤ 0 := by omega
theorem q_dbf9be8f58 {x1 x2 x3 x4 x5 x6 : Int} (h0 : -x1 + x2 ≤ 0) (h1 : -x2 + x3 ≤ 0) (h2 : -x3 + x4 ≤ 0) (h3 : -x4 + x5 ≤ 0) (h4 : x6 - x5 + 1 ≤ 0) (h5 : 0 ≤ x6) : -x1 + 1 ≤ 0 := by omega
theorem q_d4bac2ac81 {x1 x2 x3 x4 x5 : Int} (h0 : -x1 + x2 ≤ 0) (h1 : -x3 + x1 ≤ 0) (h2 : -x4 + x3 ≤ 0) (h3 : -x5 + x4 ≤ 0) : -x5 + x2 ≤ 0 := by omega
theorem q_e22842ad2a {x1 x2 x3 x4 x5 : Int} (h0 : -x1 + x2 ≤ 0) (h1 : -x3 + x1 ≤ 0) (h2 : -x4 + x3 ≤ 0) (h3 : -x5 + x4 ≤ 0) : x2 - x5 ≤ 0 := by omega
theorem q_f5f5c736c4 {x1 : Int} (h0 : x1 = (-4)) : x1 - 1600 ≤ 0 := by omega
theorem q_9c6701e35e {x1 : Int} (h0 : -x1 ≤ 0) : -x1 - 5 ≤ 0 := by omega
theorem q_b4dfe153ab {x1 : Int} (h0 : x1 - 2 ≤ 0) : x1 - 50 ≤ 0 := by omega
theorem q_e7f5657886 {x1 x2 x3 : Int} (h0 : x1 ≤ x2) (h1 : x2 ≤ x3) : (x1 - x2 ≤ 0) ∧ (x2 - x3 ≤ 0) := by omega
theorem q_eb255b5a83 {x1 x2 : Int} (h0 : x1 = x2) (h1 : 0 ≤ x2) (h2 : x2 ≤ 1) : (-x1 ≤ 0) ∧ ((x1 - 1 ≤ 0) ∧ (x1 = x2)) := by omega
theorem q_5a84bfe790 {x1 : Int} (h0 : x1 ≤ 9) : x1 - 9 ≤ 0 := by omega
theorem q_8c21c8d38e {x1 x2 x3 : Int} (h0 : x1 = 154 + x2) (h1 : x2 = 2 * x3) : 154 + 2 * x3 = x1 := by omega
theorem q_5ff162ce1d {x1 x2 x3 : Int} (h0 : x1 = x2 + x3) (h1 : -x3 ≤ 0) (h2 : 0 ≤ x2) : -x1 ≤ 0 := by omega
theorem q_01caf30339 {x1 x2 x3 : Int} (h0 : x1 = x2 + x3) (h1 : x3 - 9 ≤ 0) (h2 : x2 ≤ 111) : x1 - 120 ≤ 0 := by omega
theorem q_86bb4ff81c {x1 x2 x3 x4 x5 : Int} (h0 : x1 = x2) (h1 : x3 = x2 + x4) (h2 : x4 = x5) : x3 = x1 + x5 := by omega
theorem q_2b355a900d {x1 : Int} (h0 : x1 ≤ 127) : x1 - 127 ≤ 0 := by omega
theorem q_932907fca0 {x1 x2 : Int} (h0 : x1 ≤ x2) (h1 : x2 - x1 ≤ 0) : x2 = x1 := by omega
theorem q_50d5666327 {x1 x2 x3 : Int} (h0 : (x1 - x2 ≤ 0) → (x3 - x2 ≤ 0)) (h1 : (x2 - x1 ≤ 0) → (x3 - x1 ≤ 0)) (h2 : x1 ≤ 127) (h3 : x2 - 120 ≤ 0) : x3 ≤ 127 := by omega
theorem q_19ee015df8 {x1 x2 x3 x4 : Int} (h0 : x1 = x2 + 1) (h1 : x2 = 154 + x3) (h2 : x3 = 2 * x4) : x1 = 155 + 2 * x4 := by omega
theorem q_c82a63b4aa {x1 : Int} (h0 : x1 ≠ 0) (h1 : -x1 ≤ 0) : x1 ≠ 0 := by omega
theorem q_2f9e8475ec {x1 x2 : Int} (h0 : x1 - x2 ≤ 0) : x1 ≤ x2 := by omega
theorem q_0ff0506318 {x1 x2 x3 : Int} (h0 : (x1 - x2 ≤ 0) → (x3 - x2 ≤ 0)) (h1 : (x2 - x1 ≤ 0) → (x3 - x1 ≤ 0)) (h2 : x1 - x3 ≤ 0) (h3 : x2 - x3 ≤ 0) : (x3 = x1) ∨ (x3 = x2) := by omega
theorem q_ba1b2c713b {x1 x2 : Int} (h0 : x1 = x2 + 1) : x1 = x2 + 1 := by omega
theorem q_667e555013 {x1 : Int} (h0 : x1 = -1) : -x1 - 1 ≤ 0 := by omega
theorem q_fe4757541d {x1 : Int} (h0 : x1 = -1) : x1 - 127 ≤ 0 := by omega
theorem q_d2dcd30e56 {x1 : Int} (h0 : x1 = 0) : x1 = 0 := by omega
theorem q_114b7bcb5b {x1 x2 : Int} (h0 : x1 < x2) : x1 < x2 := by omega
theorem q_b9e5c7e4b8 {x1 : Int} (h0 : x1 = -1) : x1 = -1 := by omega
theorem q_d69f448e8e {x1 x2 : Int} (h0 : x1 = 0) (h1 : 0 ≤ x2) : x1 - x2 ≤ 0 := by omega
theorem q_e8513144b6 {x1 x2 x3 x4 : Int} (h0 : x1 = 0) (h1 : (x2 ≤ 0) → (x3 = 0)) (h2 : (x4 ≤ 0) → (x2 ≤ 0)) (h3 : x4 = 0) : (-x1 ≤ 0) ∧ ((x1 - 16 ≤ 0) ∧ (x1 = x3)) := by omega
theorem q_584a054cc0 {x1 : Int} (h0 : x1 ≤ 4) : x1 ≤ (((4 : Nat)) : Int) := by omega
theorem q_ce10a64c12 {x1 x2 : Int} (h0 : x1 = x2) (h1 : 0 ≤ x2) (h2 : x2 ≤ 4) : (-x1 ≤ 0) ∧ ((x1 - 4 ≤ 0) ∧ (x1 = x2)) := by omega
theorem q_e19f9506e1 {x1 x2 : Int} (h0 : x1 < x2) (h1 : x2 - 16 ≤ 0) : x1 ≤ (((15 : Nat)) : Int) := by omega
theorem q_61ddd2b576 {x1 : Int} : x1 = x1 := by omega
theorem q_7b14c78c18 {x1 x2 : Int} (h0 : x1 ≤ x2) : x1 ≤ x2 := by omega
theorem q_4361698ff4 {x1 : Int} (h0 : x1 ≤ 80) : x1 < (((81 : Nat)) : Int) := by omega
theorem q_46b8d9d66b {x1 x2 : Int} (h0 : x1 = x2 + 1) (h1 : x2 ≤ 80) : x1 ≤ 81 := by omega
theorem q_0fc2ad1196 {x1 x2 : Int} (h0 : (x1 = 0) → (x2 = 1)) (h1 : x1 = 0) : x2 = 1 := by omega
theorem q_ddb2b1de33 {x1 x2 x3 : Int} (h0 : x1 < x2) (h1 : x2 = x3) : x1 < x3 := by omega
theorem q_d97751b118 {x1 x2 : Int} (h0 : x1 ≤ x2) (h1 : x2 ≤ 4) : x1 ≤ 4 := by omega
theorem q_aeeede310e {x1 x2 x3 : Int} (h0 : x1 = x2) (h1 : x1 = x3) : x3 = x2 := by omega
theorem q_bd29d30e82 {x1 x2 : Int} (h0 : 0 ≤ x1) (h1 : 0 ≤ x2) : (((10 : Nat)) : Int) ≤ 4 * x2 + x1 + 10 := by omega
theorem q_932f5e6254 {x1 x2 : Int} (h0 : x1 ≤ 0) (h1 : x2 ≤ 3) : 4 * x2 + x1 + 10 < (((10 : Nat)) : Int) + (((4 : Nat)) : Int) * (((4 : Nat)) : Int) := by omega
theorem q_a00f840b0a {x1 x2 x3 x4 x5 : Int} (h0 : x1 = x2 + x3) (h1 : x2 = 10 + x4) (h2 : x4 = 4 * x5) : x1 = 4 * x5 + x3 + 10 := by omega
theorem q_f6118c0c98 {x1 x2 : Int} (h0 : 1 ≤ x1) (h1 : 0 ≤ x2) : (((11 : Nat)) : Int) ≤ 4 * x2 + x1 + 10 := by omega
theorem q_8ceafc02e8 {x1 x2 : Int} (h0 : x1 ≤ 1) (h1 : x2 ≤ 3) : 4 * x2 + x1 + 10 < (((11 : Nat)) : Int) + (((4 : Nat)) : Int) * (((4 : Nat)) : Int) := by omega
theorem q_21a2ae1e7f {x1 x2 : Int} (h0 : 2 ≤ x1) (h1 : 0 ≤ x2) : (((12 : Nat)) : Int) ≤ 4 * x2 + x1 + 10 := by omega
theorem q_10ccb48d5c {x1 x2 : Int} (h0 : x1 ≤ 2) (h1 : x2 ≤ 3) : 4 * x2 + x1 + 10 < (((12 : Nat)) : Int) + (((4 : Nat)) : Int) * (((4 : Nat)) : Int) := by omega
theorem q_c1b25378ce {x1 x2 : Int} (h0 : 3 ≤ x1) (h1 : 0 ≤ x2) : (((13 : Nat)) : Int) ≤ 4 * x2 + x1 + 10 := by omega
theorem q_73c1f66031 {x1 x2 : Int} (h0 : x1 ≤ 3) (h1 : x2 ≤ 3) : 4 * x2 + x1 + 10 < (((13 : Nat)) : Int) + (((4 : Nat)) : Int) * (((4 : Nat)) : Int) := by omega
theorem q_aecaf9868b {x1 x2 x3 x4 x5 : Int} (h0 : x1 = x2 + x3) (h1 : x2 = 10 + x4) (h2 : x4 = 4 * x5) (h3 : 0 ≤ x3) (h4 : 0 ≤ x5) (h5 : x3 ≤ 3) (h6 : x5 ≤ 3) : (x1 = 10) ∨ ((x1 = 11) ∨ ((x1 = 12) ∨ ((x1 = 13) ∨ ((x1 = 14) ∨ ((x1 = 15) ∨ ((x1 = 16) ∨ ((x1 = 17) ∨ ((x1 = 18) ∨ ((x1 = 19) ∨ ((x1 = 20) ∨ ((x1 = 21) ∨ ((x1 = 22) ∨ ((x1 = 23) ∨ ((x1 = 24) ∨ (x1 = 25))))))))))))))) := by omega
theorem q_f1d5518f63 {x1 x2 : Int} (h0 : x1 = 3) (h1 : 0 ≤ x2) : 0 ≤ 4 * x2 + x1 + 10 := by omega
theorem q_cde5b164e7 {x1 x2 : Int} (h0 : x1 = 3) (h1 : x2 ≤ 3) : 4 * x2 + x1 + 10 < (((226 : Nat)) : Int) := by omega
theorem q_ec4f5af3d7 {x1 x2 : Int} (h0 : x1 = 3) (h1 : 0 ≤ x2) : (((13 : Nat)) : Int) ≤ 4 * x2 + x1 + 10 := by omega
theorem q_bf572a56ac {x1 x2 : Int} (h0 : x1 = 3) (h1 : x2 ≤ 3) : 4 * x2 + x1 + 10 < (((13 : Nat)) : Int) + (((4 : Nat)) : Int) * (((4 : Nat)) : Int) := by omega
theorem q_0761fef2f2 {x1 x2 : Int} (h0 : x1 = 2) (h1 : 0 ≤ x2) : 0 ≤ 4 * x2 + x1 + 10 := by omega
theorem q_d1089ad428 {x1 x2 : Int} (h0 : x1 = 2) (h1 : x2 ≤ 3) : 4 * x2 + x1 + 10 < (((226 : Nat)) : Int) := by omega
theorem q_f2d287688d {x1 x2 : Int} (h0 : x1 = 2) (h1 : 0 ≤ x2) : (((12 : Nat)) : Int) ≤ 4 * x2 + x1 + 10 := by omega
theorem q_0fdbec91b1 {x1 x2 : Int} (h0 : x1 = 2) (h1 : x2 ≤ 3) : 4 * x2 + x1 + 10 < (((12 : Nat)) : Int) + (((4 : Nat)) : Int) * (((4 : Nat)) : Int) := by omega
theorem q_2e3352c2b4 {x1 x2 : Int} (h0 : x1 = 0) (h1 : x2 = -1) : x2 - x1 + 1 ≤ 0 := by omega
theorem q_05aceecfb5 {x1 x2 : Int} (h0 : x1 = 0) (h1 : -x2 ≤ 0) : 0 ≤ 4 * x2 + x1 + 10 := by omega
theorem q_2ff3171a41 {x1 x2 : Int} (h0 : x1 = 0) (h1 : x2 - 3 ≤ 0) : 4 * x2 + x1 + 10 < (((226 : Nat)) : Int) := by omega
theorem q_f2c086bbb3 {x1 x2 : Int} (h0 : x1 = 0) (h1 : -x2 ≤ 0) : (((10 : Nat)) : Int) ≤ 4 * x2 + x1 + 10 := by omega
theorem q_089c574161 {x1 x2 : Int} (h0 : x1 = 0) (h1 : x2 - 3 ≤ 0) : 4 * x2 + x1 + 10 < (((10 : Nat)) : Int) + (((4 : Nat)) : Int) * (((4 : Nat)) : Int) := by omega
theorem q_bf8258001b {x1 x2 x3 : Int} (h0 : (-x1 + 1 ≤ 0) → ((-x2 ≤ 0) ∧ (x2 - x3 + 1 ≤ 0))) (h1 : x1 ≠ 0) (h2 : -x1 ≤ 0) : 0 ≤ x2 := by omega
theorem q_88b0c3c731 {x1 x2 x3 : Int} (h0 : (-x1 + 1 ≤ 0) → ((-x2 ≤ 0) ∧ (x2 - x3 + 1 ≤ 0))) (h1 : x1 ≠ 0) (h2 : -x1 ≤ 0) (h3 : x3 ≤ 4) : x2 ≤ 3 := by omega
theorem q_4f3c14e175 {x1 x2 : Int} (h0 : x1 < x2) (h1 : x2 ≤ 4) : x1 ≤ (((3 : Nat)) : Int) := by omega
theorem q_6cc1dda24d {x1 : Int} (h0 : x1 - 16 ≤ 0) : x1 ≤ (((16 : Nat)) : Int) := by omega
theorem q_32028d2b65 {x1 x2 : Int} (h0 : ((x1 - 1 ≤ 0) ∧ (-x1 + 1 ≤ 0)) → ((-x2 ≤ 0) ∧ (x2 - 3 ≤ 0))) (h1 : x1 - 1 ≤ 0) (h2 : x1 ≠ 0) (h3 : -x1 ≤ 0) : 0 ≤ x2 := by omega
theorem q_f294613f12 {x1 x2 : Int} (h0 : ((x1 - 1 ≤ 0) ∧ (-x1 + 1 ≤ 0)) → ((-x2 ≤ 0) ∧ (x2 - 3 ≤ 0))) (h1 : x1 - 1 ≤ 0) (h2 : x1 ≠ 0) (h3 : -x1 ≤ 0) : x2 ≤ 3 := by omega
theorem q_e125eee387 {x1 x2 x3 x4 x5 x6 : Int} (h0 : x1 = x2) (h1 : (-x3 + 1 ≤ 0) → ((x4 - x1 ≤ 0) ∧ (x1 - x5 ≤ 0))) (h2 : x3 ≠ 0) (h3 : -x3 ≤ 0) (h4 : x4 = 0) (h5 : x5 = x6) (h6 : x6 - 65535 ≤ 0) : (-x2 ≤ 0) ∧ (x2 - 65535 ≤ 0) := by omega
theorem q_52031ea72b {x1 x2 : Int} (h0 : ((x1 - 1 ≤ 0) ∧ (-x1 + 1 ≤ 0)) → ((-x2 ≤ 0) ∧ (x2 - 3 ≤ 0))) (h1 : x1 - 1 ≤ 0) (h2 : x1 ≠ 0) (h3 : -x1 ≤ 0) : (-x2 ≤ 0) ∧ (x2 - 3 ≤ 0) := by omega
theorem q_87da96c949 {x1 x2 : Int} (h0 : ((x1 - 1 ≤ 0) ∧ (-x1 + 1 ≤ 0)) → ((-x2 ≤ 0) ∧ (x2 - 3 ≤ 0))) (h1 : x1 - 1 ≤ 0) (h2 : x1 ≠ 0) (h3 : -x1 ≤ 0) : x2 < (((4 : Nat)) : Int) := by omega
theorem q_ec18971c3b {x1 : Int} (h0 : x1 ≠ -1) (h1 : -1 ≤ x1) : 0 ≤ x1 := by omega
theorem q_fedb530d86 {x1 x2 : Int} (h0 : x1 = x2 + 1) (h1 : x2 ≤ 58) : x1 ≤ 59 := by omega
theorem q_7df4548938 {x1 x2 : Int} (h0 : x1 = x2 + 2) (h1 : x2 ≤ 58) : x1 ≤ 60 := by omega
theorem q_efe0cfa336 {x1 x2 : Int} (h0 : x1 = 0) (h1 : -1 ≤ x2) : x1 - x2 - 1 ≤ 0 := by omega
theorem q_5fec60dc7e {x1 x2 x3 : Int} (h0 : (x1 - x2 ≤ 0) → (x3 - x2 ≤ 0)) (h1 : (x2 - x1 ≤ 0) → (x3 - x1 ≤ 0)) (h2 : x1 ≤ 81) (h3 : x2 ≤ 81) : x3 - 81 ≤ 0 := by omega
theorem q_b875be19a0 {x1 x2 : Int} (h0 : (-x1 ≤ 0) → ((-x2 ≤ 0) ∧ (x2 - 3 ≤ 0))) (h1 : 0 ≤ x1) : 0 ≤ x2 := by omega
theorem q_91631f135a {x1 x2 : Int} (h0 : (-x1 ≤ 0) → ((-x2 ≤ 0) ∧ (x2 - 3 ≤ 0))) (h1 : 0 ≤ x1) : x2 ≤ 3 := by omega
theorem q_c9c530f4d3 {x1 x2 x3 x4 : Int} (h0 : x1 ≤ x2) (h1 : x1 = x3 + x4) : x3 + x4 ≤ x2 := by omega
theorem q_196e49b43d {x1 x2 x3 x4 x5 x6 : Int} (h0 : x1 = x2) (h1 : x3 ≤ x4 + x5) (h2 : x2 = x6) (h3 : x5 = x6) : x3 ≤ x4 + x1 := by omega
theorem q_4f361b1b4d {x1 x2 x3 x4 : Int} (h0 : x1 < x2) (h1 : x2 = x3 + x4) (h2 : x4 - 9 ≤ 0) (h3 : x3 ≤ 111) : x1 < 120 := by omega
theorem q_b843cb4b5f {x1 : Int} (h0 : x1 ≤ 100) : x1 + 1 ≤ 2147483647 := by omega
theorem q_f95303207f {x1 x2 x3 x4 x5 x6 x7 x8 : Int} (h0 : x1 = x2 + 1) (h1 : x2 < x3) (h2 : x3 = x4 + x5) (h3 : x6 = x7) (h4 : x5 = x8) (h5 : x8 = x7) : x1 ≤ x4 + x6 := by omega
theorem q_0bfa10f27c {x1 : Int} (h0 : x1 = 1) : x1 = 1 := by omega
theorem q_8c99a52932 {x1 x2 x3 x4 : Int} (h0 : x1 < x2) (h1 : x2 = x3 + x4) : x1 < x3 + x4 := by omega
theorem q_cf13fb9252 {x1 x2 : Int} (h0 : x1 - x2 < (((0 : Nat)) : Int)) (h1 : x2 ≤ x1) : False := by omega
theorem q_da8a8b64f3 {x1 : Int} (h0 : x1 ≤ 120) : x1 - 1000000 ≤ 0 := by omega
theorem q_3b0c12c491 {x1 : Int} (h0 : 0 < x1) : 0 < x1 := by omega
theorem q_b01ccff44a {x1 : Int} (h0 : 0 < x1) : x1 ≠ 0 := by omega
theorem q_2610f0532d {x1 : Int} (h0 : 0 < x1) : 0 ≤ x1 := by omega
theorem q_1ea8a7fa0c {x1 x2 : Int} (h0 : x1 = 0) : (x1 = 0) ∨ (0 < x2) := by omega
theorem q_43b125e70a {x1 x2 x3 : Int} (h0 : x1 = x2 - x3) : x1 = x2 - x3 := by omega
theorem q_a758490361 {x1 : Int} : x1 + 1 = x1 + 1 := by omega
theorem q_0b53f3230e {x1 x2 : Int} (h0 : x1 = x2 + 1) (h1 : x2 + 1 ≤ 5) : x1 ≤ 5 := by omega
theorem q_a54c9a8411 {x1 x2 x3 : Int} (h0 : x1 ≤ x2) (h1 : x2 + 9 * x3 ≤ 108) (h2 : 0 < x3) : x1 ≤ 111 := by omega
theorem q_00a4891a63 {x1 x2 x3 : Int} (h0 : (x1 - x2 ≤ 0) → (x3 - x2 ≤ 0)) (h1 : (x2 - x1 ≤ 0) → (x3 - x1 ≤ 0)) (h2 : x1 ≤ 120) (h3 : x2 - 120 ≤ 0) : x3 ≤ 120 := by omega
theorem q_3b2ea2ae3d {x1 : Int} (h0 : 0 < x1) : 1 ≤ x1 := by omega
theorem q_b1ce702715 {x1 : Int} (h0 : 0 ≤ x1) : x1 ≠ -1 := by omega
theorem q_fb0fb1e27f {x1 x2 : Int} (h0 : x1 = x2 + (-1)) : x1 = x2 - 1 := by omega
theorem q_6944ae8e89 {x1 x2 x3 x4 : Int} (h0 : x1 = x2 + 1) (h1 : x2 + 1 ≤ x3) (h2 : x3 + 9 * x4 ≤ 108) (h3 : 0 < x4) : x1 ≤ 127 := by omega
theorem q_082e58d340 {x1 : Int} (h0 : x1 ≠ -1) (h1 : -x1 - 1 ≤ 0) : x1 ≠ -1 := by omega
theorem q_e5c8e89f1d {x1 : Int} (h0 : x1 = 1000000) : -x1 ≤ 0 := by omega
theorem q_9c93c4b26c {x1 : Int} (h0 : x1 = 1000000) : x1 - 1000000 ≤ 0 := by omega
theorem q_7ccfc8a6d5 {x1 : Int} (h0 : x1 = 1000000) : (Int.toNat x1) = 1000000 := by omega
theorem q_3ef2d450ba {x1 x2 : Int} (h0 : 0 < x1) : (x2 = 0) ∨ (0 < x1) := by omega
theorem q_8791e54926 {x1 x2 : Int} (h0 : x1 + x2 ≤ 6) (h1 : 0 < x2) : x1 ≤ 5 := by omega
theorem q_9ad3dc81d7 {x1 x2 : Int} (h0 : x1 ≤ x2) (h1 : x2 ≤ x1) : x2 = x1 := by omega
theorem q_727c6212c5 {x1 x2 x3 x4 x5 : Int} (h0 : x1 = x2) (h1 : x1 = x3) (h2 : x4 = x3 - x5) : x4 = x2 - x5 := by omega
theorem q_97dcfd47cf {x1 x2 x3 : Int} (h0 : (x1 - x2 ≤ 0) → (x3 - x2 ≤ 0)) (h1 : (x2 - x1 ≤ 0) → (x3 - x1 ≤ 0)) (h2 : x1 ≤ 63) (h3 : x2 - 120 ≤ 0) : x3 ≤ 120 := by omega
theorem q_b1495600e7 {x1 x2 : Int} (h0 : x1 = x2) : x1 = x2 := by omega
theorem q_6864a7db2d {x1 : Int} (h0 : 120 ≤ x1) : 120 ≤ x1 := by omega
theorem q_02d60d0460 {x1 : Int} (h0 : x1 ≤ 7) (h1 : 8 - x1 < (((0 : Nat)) : Int)) : False := by omega
theorem q_858e2805c2 {x1 x2 x3 x4 x5 : Int} (h0 : x1 < x2) (h1 : x1 = x3 - x4) (h2 : x5 = x3) : x5 - x4 < x2 := by omega
theorem q_d62cf41ae3 {x1 x2 : Int} (h0 : x1 ≤ x2) : 0 ≤ x2 - x1 := by omega
theorem q_fd5cb5d98b {x1 x2 x3 : Int} (h0 : x1 = x2) (h1 : x3 ≤ x2) : x3 ≤ x1 := by omega
theorem q_60acc90230 {x1 x2 : Int} (h0 : x1 < x2) (h1 : x2 ≤ 5040) : x1 + 1 ≤ 2147483647 := by omega
theorem q_ac6267e050 {x1 x2 x3 : Int} (h0 : (x1 - x2 ≤ 0) → (-x3 + x1 ≤ 0)) (h1 : (x2 - x1 ≤ 0) → (-x3 + x2 ≤ 0)) (h2 : -x2 ≤ 0) (h3 : 0 ≤ x1) : 0 ≤ x3 := by omega
theorem q_c5738be602 {x1 x2 : Int} (h0 : -x1 + x2 ≤ 0) : x2 ≤ x1 := by omega
theorem q_144f4cdeb2 {x1 x2 x3 : Int} (h0 : (x1 - x2 ≤ 0) → (-x3 + x1 ≤ 0)) (h1 : (x2 - x1 ≤ 0) → (-x3 + x2 ≤ 0)) (h2 : -x2 + x3 ≤ 0) (h3 : -x1 + x3 ≤ 0) : (x3 = x1) ∨ (x3 = x2) := by omega
theorem q_826950af58 {x1 x2 x3 : Int} (h0 : x1 = x2 + 1) (h1 : x2 < x3) : x1 ≤ x3 := by omega
theorem q_75ddf89649 {x1 x2 : Int} (h0 : x1 = 0) (h1 : 1 ≤ x2) : x1 ≤ x2 := by omega
theorem q_9c9b4ba286 {x1 x2 x3 x4 x5 : Int} (h0 : x1 ≤ x2) (h1 : x2 = x3 - x4) (h2 : x5 = x3) : x1 ≤ x5 - x4 := by omega
theorem q_074327f0a9 {x1 x2 : Int} (h0 : x1 ≤ 6) (h1 : 0 ≤ x2) : x1 - x2 ≤ 6 := by omega
theorem q_7cfb0f5691 {x1 : Int} (h0 : x1 ≤ 5) : x1 ≤ 6 := by omega
theorem q_ad8153d05d {x1 x2 x3 x4 x5 x6 x7 : Int} (h0 : x1 = x2) (h1 : x3 = x2 - 1) (h2 : x4 = x3) (h3 : (-x5 + 1 ≤ 0) → ((x6 - x7 ≤ 0) ∧ (x7 - x4 ≤ 0))) (h4 : x5 ≠ 0) (h5 : -x5 ≤ 0) (h6 : x6 = 0) : 1 ≤ x1 := by omega
theorem q_7fea225eb9 {x1 x2 : Int} (h0 : x1 = x2) (h1 : 1 ≤ x1) : 1 ≤ x2 := by omega
theorem q_cd53164edb {x1 x2 : Int} (h0 : 0 ≤ x1) (h1 : x2 = 0) : x2 ≤ x1 := by omega
theorem q_bf5288a390 {x1 x2 x3 x4 x5 : Int} (h0 : x1 = x2) (h1 : (-x3 + 1 ≤ 0) → ((x4 - x1 ≤ 0) ∧ (x1 - x5 ≤ 0))) (h2 : x3 ≠ 0) (h3 : -x3 ≤ 0) (h4 : x4 = 0) : 0 ≤ x2 := by omega
theorem q_513447d9af {x1 x2 x3 x4 x5 x6 x7 x8 : Int} (h0 : x1 ≤ x2) (h1 : x3 = x2) (h2 : (-x4 + 1 ≤ 0) → ((x5 - x3 ≤ 0) ∧ (x3 - x6 ≤ 0))) (h3 : x4 ≠ 0) (h4 : -x4 ≤ 0) (h5 : x6 = x7) (h6 : x7 = x8 - 1) (h7 : x8 ≤ 6) : x1 < (((6 : Nat)) : Int) := by omega
theorem q_82730effda {x1 : Int} (h0 : x1 ≤ 54) (h1 : 55 - x1 < (((0 : Nat)) : Int)) : False := by omega
theorem q_88c525ea3e {x1 : Int} (h0 : x1 ≤ 5) : x1 < (((6 : Nat)) : Int) := by omega
theorem q_1943ee12ff {x1 x2 : Int} (h0 : x1 = x2 + 1) (h1 : x2 ≤ 53) : x1 ≤ 54 := by omega
theorem q_b63bf5706b {x1 x2 : Int} (h0 : x1 = x2 + 1) (h1 : x2 ≤ 5) : x1 ≤ 6 := by omega
theorem q_4382003f6b {x1 x2 x3 x4 x5 x6 x7 x8 x9 x10 : Int} (h0 : x1 = x2) (h1 : x3 = x4 + 1) (h2 : x4 ≤ x5) (h3 : x6 = x5) (h4 : x7 = x2 - 1) (h5 : (-x8 + 1 ≤ 0) → ((x9 - x6 ≤ 0) ∧ (x6 - x10 ≤ 0))) (h6 : x8 ≠ 0) (h7 : -x8 ≤ 0) (h8 : x10 = x7) : x3 ≤ x1 := by omega
theorem q_577e007cfd {x1 x2 x3 x4 x5 x6 x7 x8 x9 : Int} (h0 : x1 = x2) (h1 : x3 ≤ x4) (h2 : x5 = x4) (h3 : x6 = x2 - 1) (h4 : (-x7 + 1 ≤ 0) → ((x8 - x5 ≤ 0) ∧ (x5 - x9 ≤ 0))) (h5 : x7 ≠ 0) (h6 : -x7 ≤ 0) (h7 : x9 = x6) : x3 < x1 := by omega
theorem q_39edcd9006 {x1 : Int} : (x1 = 0) ∨ ((x1 = 1) ∨ ((x1 = 2) ∨ ((x1 = 3) ∨ ((x1 = 4) ∨ ((x1 = 5) ∨ ((x1 = 6) ∨ ((x1 = 7) ∨ ((x1 = 8) ∨ ((x1 = 9) ∨ ((x1 < 0) ∨ (9 < x1))))))))))) := by omega
theorem q_71b32c9d5a {x1 : Int} (h0 : x1 < 0) : (x1 < 0) ∨ (9 < x1) := by omega
theorem q_9089e1b199 {x1 : Int} (h0 : 9 < x1) : (x1 < 0) ∨ (9 < x1) := by omega
theorem q_34105aa19f {x1 x2 : Int} (h0 : x1 = 0) (h1 : 0 ≤ x2) : 0 ≤ 4 * x2 + x1 + 10 := by omega
theorem q_6ad94aa46b {x1 x2 : Int} (h0 : x1 = 0) (h1 : x2 ≤ 3) : 4 * x2 + x1 + 10 < (((226 : Nat)) : Int) := by omega
theorem q_1d7a54019a {x1 x2 : Int} (h0 : x1 = 0) (h1 : 0 ≤ x2) : (((10 : Nat)) : Int) ≤ 4 * x2 + x1 + 10 := by omega
theorem q_32a777686f {x1 x2 : Int} (h0 : x1 = 0) (h1 : x2 ≤ 3) : 4 * x2 + x1 + 10 < (((10 : Nat)) : Int) + (((4 : Nat)) : Int) * (((4 : Nat)) : Int) := by omega
theorem q_456bfc6cc0 {x1 x2 x3 : Int} (h0 : (-x1 + 1 ≤ 0) → ((-x2 ≤ 0) ∧ (x2 - 15 ≤ 0))) (h1 : x1 ≠ 0) (h2 : -x1 ≤ 0) (h3 : x2 = x3) : 0 ≤ x3 := by omega
theorem q_ff80988181 {x1 x2 x3 : Int} (h0 : (-x1 + 1 ≤ 0) → ((-x2 ≤ 0) ∧ (x2 - 15 ≤ 0))) (h1 : x1 ≠ 0) (h2 : -x1 ≤ 0) (h3 : x2 = x3) : x3 ≤ 15 := by omega
theorem q_b413991216 {x1 x2 x3 x4 x5 x6 : Int} (h0 : (-x1 + 1 ≤ 0) → ((-x2 ≤ 0) ∧ (x2 - 15 ≤ 0))) (h1 : x1 ≠ 0) (h2 : -x1 ≤ 0) (h3 : x2 = x3) (h4 : x4 = x5) (h5 : (-x6 + 1 ≤ 0) → ((-x4 ≤ 0) ∧ (x4 - 15 ≤ 0))) (h6 : x6 ≠ 0) (h7 : -x6 ≤ 0) : (-x3 ≤ 0) ∧ ((x3 - 15 ≤ 0) ∧ ((-x5 ≤ 0) ∧ (x5 - 15 ≤ 0))) := by omega
theorem q_cfd7e427e4 {x1 x2 x3 x4 x5 x6 : Int} (h0 : x1 ≤ x2) (h1 : 0 ≤ x1) (h2 : x3 = x2) (h3 : (-x4 + 1 ≤ 0) → ((-x3 ≤ 0) ∧ (x3 - 15 ≤ 0))) (h4 : x4 ≠ 0) (h5 : -x4 ≤ 0) (h6 : x5 = x1) (h7 : (-x6 + 1 ≤ 0) → ((-x5 ≤ 0) ∧ (x5 - 15 ≤ 0))) (h8 : x6 ≠ 0) (h9 : -x6 ≤ 0) : (-x2 ≤ 0) ∧ ((x2 - 15 ≤ 0) ∧ ((-x1 ≤ 0) ∧ (x1 - 15 ≤ 0))) := by omega
theorem q_8130a48c79 {x1 x2 x3 x4 x5 : Int} (h0 : x1 = x2) (h1 : (-x3 + 1 ≤ 0) → ((x4 - x1 ≤ 0) ∧ (x1 - x5 ≤ 0))) (h2 : x3 ≠ 0) (h3 : -x3 ≤ 0) (h4 : x5 = 3) : x2 ≤ 3 := by omega
theorem q_e2007a945f {x1 x2 : Int} (h0 : ((x1 - 1 ≤ 0) ∧ (-x1 + 1 ≤ 0)) → ((-x2 ≤ 0) ∧ (x2 - 11 ≤ 0))) (h1 : x1 - 1 ≤ 0) (h2 : x1 ≠ 0) (h3 : -x1 ≤ 0) : -2147483648 ≤ 2 * x2 := by omega
theorem q_a77a79fe7a {x1 x2 : Int} (h0 : ((x1 - 1 ≤ 0) ∧ (-x1 + 1 ≤ 0)) → ((-x2 ≤ 0) ∧ (x2 - 11 ≤ 0))) (h1 : x1 - 1 ≤ 0) (h2 : x1 ≠ 0) (h3 : -x1 ≤ 0) : 2 * x2 ≤ 2147483647 := by omega
theorem q_2dbc7ee18e {x1 x2 x3 : Int} (h0 : x1 = 2 * x2) (h1 : ((x3 - 1 ≤ 0) ∧ (-x3 + 1 ≤ 0)) → ((-x2 ≤ 0) ∧ (x2 - 11 ≤ 0))) (h2 : x3 - 1 ≤ 0) (h3 : x3 ≠ 0) (h4 : -x3 ≤ 0) : -2147483648 ≤ 122 + x1 := by omega
theorem q_7299470a6b {x1 x2 x3 : Int} (h0 : x1 = 2 * x2) (h1 : ((x3 - 1 ≤ 0) ∧ (-x3 + 1 ≤ 0)) → ((-x2 ≤ 0) ∧ (x2 - 11 ≤ 0))) (h2 : x3 - 1 ≤ 0) (h3 : x3 ≠ 0) (h4 : -x3 ≤ 0) : 122 + x1 ≤ 2147483647 := by omega
theorem q_9535a3cdd5 {x1 x2 x3 x4 x5 : Int} (h0 : x1 = x2) (h1 : (-x3 + 1 ≤ 0) → ((x4 - x1 ≤ 0) ∧ (x1 - x5 ≤ 0))) (h2 : x3 ≠ 0) (h3 : -x3 ≤ 0) (h4 : x5 = 1) : x2 ≤ 1 := by omega
theorem q_6f14343613 {x1 x2 x3 : Int} (h0 : (-x1 + 1 ≤ 0) → ((-x2 ≤ 0) ∧ (x2 - 15 ≤ 0))) (h1 : x1 ≠ 0) (h2 : -x1 ≤ 0) (h3 : x2 = x3) : (-x3 ≤ 0) ∧ (x3 - 15 ≤ 0) := by omega
theorem q_20851d1faf {x1 : Int} (h0 : x1 ≤ 12) : x1 ≤ (((12 : Nat)) : Int) := by omega
theorem q_34fd7002e7 {x1 x2 : Int} (h0 : x1 < x2) (h1 : x2 ≤ 12) : x1 ≤ (((11 : Nat)) : Int) := by omega
theorem q_93a2129c9a {x1 x2 x3 : Int} (h0 : (-x1 + 1 ≤ 0) → ((-x2 ≤ 0) ∧ (x2 - x3 + 1 ≤ 0))) (h1 : x1 ≠ 0) (h2 : -x1 ≤ 0) (h3 : x3 ≤ 4) : (-x2 ≤ 0) ∧ (x2 - 3 ≤ 0) := by omega
theorem q_d938601d8c {x1 : Int} (h0 : -1 ≤ x1) : -x1 - 1 ≤ 0 := by omega
theorem q_012cea7c5e {x1 : Int} (h0 : x1 = -2) : x1 - 15 ≤ 0 := by omega
theorem q_0c146f7333 {x1 x2 x3 x4 x5 : Int} (h0 : x1 = x2) (h1 : (-x3 + 1 ≤ 0) → ((x4 - x1 ≤ 0) ∧ (x1 - x5 ≤ 0))) (h2 : x3 ≠ 0) (h3 : -x3 ≤ 0) (h4 : x4 = 0) : -2147483648 ≤ 8 + x2 := by omega
theorem q_70590b0d5b {x1 x2 x3 x4 x5 x6 : Int} (h0 : x1 = 8 + x2) (h1 : x3 = x2) (h2 : (-x4 + 1 ≤ 0) → ((x5 - x3 ≤ 0) ∧ (x3 - x6 ≤ 0))) (h3 : x4 ≠ 0) (h4 : -x4 ≤ 0) (h5 : x5 = 0) : 0 ≤ x1 := by omega
theorem q_d45ae1b90a {x1 x2 x3 x4 x5 x6 : Int} (h0 : x1 = 8 + x2) (h1 : x3 = x2) (h2 : (-x4 + 1 ≤ 0) → ((x5 - x3 ≤ 0) ∧ (x3 - x6 ≤ 0))) (h3 : x4 ≠ 0) (h4 : -x4 ≤ 0) (h5 : x5 = 0) : (((8 : Nat)) : Int) ≤ x1 := by omega
theorem q_73fc1472d8 {x1 x2 : Int} (h0 : ((x1 - 1 ≤ 0) ∧ (-x1 + 1 ≤ 0)) → ((-x2 ≤ 0) ∧ (x2 - 3 ≤ 0))) (h1 : x1 - 1 ≤ 0) (h2 : x1 ≠ 0) (h3 : -x1 ≤ 0) (h4 : x2 = -1) : False := by omega
theorem q_5453423f38 {x1 x2 : Int} (h0 : x1 ≠ -1) (h1 : ((x2 - 1 ≤ 0) ∧ (-x2 + 1 ≤ 0)) → ((-x1 ≤ 0) ∧ (x1 - 3 ≤ 0))) (h2 : x2 - 1 ≤ 0) (h3 : x2 ≠ 0) (h4 : -x2 ≤ 0) : -2147483648 ≤ 2 * x1 := by omega
theorem q_d2789cf037 {x1 x2 : Int} (h0 : ((x1 - 1 ≤ 0) ∧ (-x1 + 1 ≤ 0)) → ((-x2 ≤ 0) ∧ (x2 - 3 ≤ 0))) (h1 : x1 - 1 ≤ 0) (h2 : x1 ≠ 0) (h3 : -x1 ≤ 0) : 2 * x2 ≤ 2147483647 := by omega
theorem q_347de53243 {x1 x2 x3 : Int} (h0 : x1 = 2 * x2) (h1 : ((x3 - 1 ≤ 0) ∧ (-x3 + 1 ≤ 0)) → ((-x2 ≤ 0) ∧ (x2 - 3 ≤ 0))) (h2 : x3 - 1 ≤ 0) (h3 : x3 ≠ 0) (h4 : -x3 ≤ 0) : -2147483648 ≤ 146 + x1 := by omega
theorem q_ca9fb9b018 {x1 x2 x3 : Int} (h0 : x1 = 2 * x2) (h1 : ((x3 - 1 ≤ 0) ∧ (-x3 + 1 ≤ 0)) → ((-x2 ≤ 0) ∧ (x2 - 3 ≤ 0))) (h2 : x3 - 1 ≤ 0) (h3 : x3 ≠ 0) (h4 : -x3 ≤ 0) : 146 + x1 ≤ 2147483647 := by omega
theorem q_579b494c32 {x1 x2 x3 x4 : Int} (h0 : x1 = 146 + x2) (h1 : x2 = 2 * x3) (h2 : ((x4 - 1 ≤ 0) ∧ (-x4 + 1 ≤ 0)) → ((-x3 ≤ 0) ∧ (x3 - 3 ≤ 0))) (h3 : x4 - 1 ≤ 0) (h4 : x4 ≠ 0) (h5 : -x4 ≤ 0) : 0 ≤ x1 := by omega
theorem q_1ac698f6cd {x1 x2 x3 x4 : Int} (h0 : x1 = 146 + x2) (h1 : x2 = 2 * x3) (h2 : ((x4 - 1 ≤ 0) ∧ (-x4 + 1 ≤ 0)) → ((-x3 ≤ 0) ∧ (x3 - 3 ≤ 0))) (h3 : x4 - 1 ≤ 0) (h4 : x4 ≠ 0) (h5 : -x4 ≤ 0) : x1 < (((226 : Nat)) : Int) := by omega
theorem q_09b5bc8dcc {x1 x2 x3 x4 : Int} (h0 : x1 = 146 + x2) (h1 : x2 = 2 * x3) (h2 : ((x4 - 1 ≤ 0) ∧ (-x4 + 1 ≤ 0)) → ((-x3 ≤ 0) ∧ (x3 - 3 ≤ 0))) (h3 : x4 - 1 ≤ 0) (h4 : x4 ≠ 0) (h5 : -x4 ≤ 0) : (((146 : Nat)) : Int) ≤ x1 := by omega
theorem q_54b39b184e {x1 x2 x3 x4 : Int} (h0 : x1 = 146 + x2) (h1 : x2 = 2 * x3) (h2 : ((x4 - 1 ≤ 0) ∧ (-x4 + 1 ≤ 0)) → ((-x3 ≤ 0) ∧ (x3 - 3 ≤ 0))) (h3 : x4 - 1 ≤ 0) (h4 : x4 ≠ 0) (h5 : -x4 ≤ 0) : x1 < (((146 : Nat)) : Int) + (((2 : Nat)) : Int) * (((4 : Nat)) : Int) := by omega
theorem q_aa4c458ae9 {x1 x2 x3 x4 : Int} (h0 : x1 = 146 + x2) (h1 : x2 = 2 * x3) (h2 : ((x4 - 1 ≤ 0) ∧ (-x4 + 1 ≤ 0)) → ((-x3 ≤ 0) ∧ (x3 - 3 ≤ 0))) (h3 : x4 - 1 ≤ 0) (h4 : x4 ≠ 0) (h5 : -x4 ≤ 0) : -2147483648 ≤ x1 + 1 := by omega
theorem q_86c4b36c2a {x1 x2 x3 x4 : Int} (h0 : x1 = 146 + x2) (h1 : x2 = 2 * x3) (h2 : ((x4 - 1 ≤ 0) ∧ (-x4 + 1 ≤ 0)) → ((-x3 ≤ 0) ∧ (x3 - 3 ≤ 0))) (h3 : x4 - 1 ≤ 0) (h4 : x4 ≠ 0) (h5 : -x4 ≤ 0) : x1 + 1 ≤ 2147483647 := by omega
theorem q_3137f006a4 {x1 x2 x3 x4 x5 : Int} (h0 : x1 = x2 + 1) (h1 : x2 = 146 + x3) (h2 : x3 = 2 * x4) (h3 : ((x5 - 1 ≤ 0) ∧ (-x5 + 1 ≤ 0)) → ((-x4 ≤ 0) ∧ (x4 - 3 ≤ 0))) (h4 : x5 - 1 ≤ 0) (h5 : x5 ≠ 0) (h6 : -x5 ≤ 0) : 0 ≤ x1 := by omega
theorem q_36dbfa9018 {x1 x2 x3 x4 x5 : Int} (h0 : x1 = x2 + 1) (h1 : x2 = 146 + x3) (h2 : x3 = 2 * x4) (h3 : ((x5 - 1 ≤ 0) ∧ (-x5 + 1 ≤ 0)) → ((-x4 ≤ 0) ∧ (x4 - 3 ≤ 0))) (h4 : x5 - 1 ≤ 0) (h5 : x5 ≠ 0) (h6 : -x5 ≤ 0) : x1 < (((226 : Nat)) : Int) := by omega
theorem q_2cefc604b3 {x1 x2 x3 x4 x5 : Int} (h0 : x1 = x2 + 1) (h1 : x2 = 146 + x3) (h2 : x3 = 2 * x4) (h3 : ((x5 - 1 ≤ 0) ∧ (-x5 + 1 ≤ 0)) → ((-x4 ≤ 0) ∧ (x4 - 3 ≤ 0))) (h4 : x5 - 1 ≤ 0) (h5 : x5 ≠ 0) (h6 : -x5 ≤ 0) : (((147 : Nat)) : Int) ≤ x1 := by omega
theorem q_2647efcaa7 {x1 x2 x3 x4 x5 : Int} (h0 : x1 = x2 + 1) (h1 : x2 = 146 + x3) (h2 : x3 = 2 * x4) (h3 : ((x5 - 1 ≤ 0) ∧ (-x5 + 1 ≤ 0)) → ((-x4 ≤ 0) ∧ (x4 - 3 ≤ 0))) (h4 : x5 - 1 ≤ 0) (h5 : x5 ≠ 0) (h6 : -x5 ≤ 0) : x1 < (((147 : Nat)) : Int) + (((2 : Nat)) : Int) * (((4 : Nat)) : Int) := by omega
theorem q_291357bd9b {x1 x2 x3 x4 x5 : Int} (h0 : x1 < 2) (h1 : x2 = 146 + x3) (h2 : x3 = 2 * x4) (h3 : ((x5 - 1 ≤ 0) ∧ (-x5 + 1 ≤ 0)) → ((-x4 ≤ 0) ∧ (x4 - 3 ≤ 0))) (h4 : x5 - 1 ≤ 0) (h5 : x5 ≠ 0) (h6 : -x5 ≤ 0) : x2 + x1 ≤ 2147483647 := by omega
theorem q_789265a8af {x1 x2 x3 x4 x5 x6 : Int} (h0 : x1 = x2 + x3) (h1 : x3 < 2) (h2 : x2 = 146 + x4) (h3 : x4 = 2 * x5) (h4 : ((x6 - 1 ≤ 0) ∧ (-x6 + 1 ≤ 0)) → ((-x5 ≤ 0) ∧ (x5 - 3 ≤ 0))) (h5 : x6 - 1 ≤ 0) (h6 : x6 ≠ 0) (h7 : -x6 ≤ 0) : x1 < (((226 : Nat)) : Int) := by omega
theorem q_1c4267bcef {x1 x2 x3 x4 x5 x6 : Int} (h0 : x1 = x2 + x3) (h1 : x3 < 2) (h2 : x2 = 146 + x4) (h3 : x4 = 2 * x5) (h4 : ((x6 - 1 ≤ 0) ∧ (-x6 + 1 ≤ 0)) → ((-x5 ≤ 0) ∧ (x5 - 3 ≤ 0))) (h5 : x6 - 1 ≤ 0) (h6 : x6 ≠ 0) (h7 : -x6 ≤ 0) : x1 < (((146 : Nat)) : Int) + (((1 : Nat)) : Int) * (((8 : Nat)) : Int) := by omega
theorem q_8c91a107f3 {x1 x2 x3 x4 : Int} (h0 : x1 = 2) (h1 : (-x2 + 1 ≤ 0) → ((-x3 ≤ 0) ∧ (x3 - x4 + 1 ≤ 0))) (h2 : x2 ≠ 0) (h3 : -x2 ≤ 0) : 0 ≤ 4 * x3 + x1 + 10 := by omega
theorem q_8782e16cf0 {x1 x2 x3 : Int} (h0 : x1 = 2) (h1 : ((x2 - 1 ≤ 0) ∧ (-x2 + 1 ≤ 0)) → ((-x3 ≤ 0) ∧ (x3 - 3 ≤ 0))) (h2 : x2 - 1 ≤ 0) (h3 : x2 ≠ 0) (h4 : -x2 ≤ 0) : 4 * x3 + x1 + 10 < (((226 : Nat)) : Int) := by omega
theorem q_1f09e22d0e {x1 x2 x3 x4 : Int} (h0 : x1 = 2) (h1 : (-x2 + 1 ≤ 0) → ((-x3 ≤ 0) ∧ (x3 - x4 + 1 ≤ 0))) (h2 : x2 ≠ 0) (h3 : -x2 ≤ 0) : (((12 : Nat)) : Int) ≤ 4 * x3 + x1 + 10 := by omega
theorem q_adcac83064 {x1 x2 x3 : Int} (h0 : x1 = 2) (h1 : ((x2 - 1 ≤ 0) ∧ (-x2 + 1 ≤ 0)) → ((-x3 ≤ 0) ∧ (x3 - 3 ≤ 0))) (h2 : x2 - 1 ≤ 0) (h3 : x2 ≠ 0) (h4 : -x2 ≤ 0) : 4 * x3 + x1 + 10 < (((12 : Nat)) : Int) + (((4 : Nat)) : Int) * (((4 : Nat)) : Int) := by omega
theorem q_74e14b349d {x1 x2 : Int} (h0 : x1 < x2) (h1 : x2 - 12 ≤ 0) : x1 ≤ (((11 : Nat)) : Int) := by omega
theorem q_e595281e7d {x1 x2 x3 x4 : Int} (h0 : (-x1 + 1 ≤ 0) → ((-x2 ≤ 0) ∧ (x2 - x3 + 1 ≤ 0))) (h1 : x1 ≠ 0) (h2 : -x1 ≤ 0) (h3 : ((-x2 ≤ 0) ∧ (x2 - x3 + 1 ≤ 0)) → (-x4 - 1 ≤ 0)) (h4 : (-x4 - 1 ≤ 0) → ((-x2 ≤ 0) ∧ (x2 - 3 ≤ 0))) : x2 ≤ 3 := by omega
theorem q_dca2619c1e {x1 x2 x3 x4 : Int} (h0 : ((-x1 ≤ 0) ∧ (x1 - x2 + 1 ≤ 0)) → (-x3 - 1 ≤ 0)) (h1 : x3 ≠ -1) (h2 : (-x4 + 1 ≤ 0) → ((-x1 ≤ 0) ∧ (x1 - x2 + 1 ≤ 0))) (h3 : x4 ≠ 0) (h4 : -x4 ≤ 0) : 0 ≤ x3 := by omega
theorem q_4c8c4ce274 {x1 x2 : Int} (h0 : (-x1 - 1 ≤ 0) → ((-x2 ≤ 0) ∧ (x2 - 3 ≤ 0))) (h1 : x1 = -1) : 0 ≤ x2 := by omega
theorem q_4ee9c9fba4 {x1 x2 : Int} (h0 : (-x1 - 1 ≤ 0) → ((-x2 ≤ 0) ∧ (x2 - 3 ≤ 0))) (h1 : x1 = -1) : x2 ≤ 3 := by omega
theorem q_fb1f7925f9 {x1 x2 x3 x4 x5 x6 x7 : Int} (h0 : x1 = x2) (h1 : (-x3 + 1 ≤ 0) → ((x4 - x1 ≤ 0) ∧ (x1 - x5 ≤ 0))) (h2 : x3 ≠ 0) (h3 : -x3 ≤ 0) (h4 : x5 = x6) (h5 : x6 = x7 - 1) (h6 : x7 - 12 ≤ 0) : x2 ≤ 12 := by omega
theorem q_6147b250bd {x1 x2 x3 x4 x5 x6 : Int} (h0 : -x1 + 26 ≤ 0) (h1 : x2 = x3) (h2 : (-x4 + 1 ≤ 0) → ((x5 - x2 ≤ 0) ∧ (x2 - x6 ≤ 0))) (h3 : x4 ≠ 0) (h4 : -x4 ≤ 0) (h5 : x5 = 0) : -2147483648 ≤ x1 + x3 := by omega
theorem q_fcf1120102 {x1 x2 x3 x4 x5 x6 : Int} (h0 : x1 - 122 ≤ 0) (h1 : x2 = x3) (h2 : (-x4 + 1 ≤ 0) → ((x5 - x2 ≤ 0) ∧ (x2 - x6 ≤ 0))) (h3 : x4 ≠ 0) (h4 : -x4 ≤ 0) (h5 : x6 = 1) : x1 + x3 ≤ 2147483647 := by omega
theorem q_bdb2fe5ea8 {x1 x2 : Int} (h0 : ((x1 - 1 ≤ 0) ∧ (-x1 + 1 ≤ 0)) → ((-x2 ≤ 0) ∧ (x2 - 65535 ≤ 0))) (h1 : x1 - 1 ≤ 0) (h2 : x1 ≠ 0) (h3 : -x1 ≤ 0) : 0 ≤ x2 := by omega
theorem q_3037e6bb8b {x1 x2 : Int} (h0 : ((x1 - 1 ≤ 0) ∧ (-x1 + 1 ≤ 0)) → ((-x2 ≤ 0) ∧ (x2 - 3 ≤ 0))) (h1 : x1 - 1 ≤ 0) (h2 : x1 ≠ 0) (h3 : -x1 ≤ 0) : -2147483648 ≤ 60 * x2 := by omega
theorem q_71b3dc49ab {x1 x2 : Int} (h0 : ((x1 - 1 ≤ 0) ∧ (-x1 + 1 ≤ 0)) → ((-x2 ≤ 0) ∧ (x2 - 3 ≤ 0))) (h1 : x1 - 1 ≤ 0) (h2 : x1 ≠ 0) (h3 : -x1 ≤ 0) : 60 * x2 ≤ 2147483647 := by omega
theorem q_a027853e4b {x1 x2 x3 x4 : Int} (h0 : x1 = 60 * x2) (h1 : 0 ≤ x3) (h2 : ((x4 - 1 ≤ 0) ∧ (-x4 + 1 ≤ 0)) → ((-x2 ≤ 0) ∧ (x2 - 3 ≤ 0))) (h3 : x4 - 1 ≤ 0) (h4 : x4 ≠ 0) (h5 : -x4 ≤ 0) : -2147483648 ≤ x1 + x3 := by omega
theorem q_5ca4995fe9 {x1 x2 x3 x4 x5 x6 x7 : Int} (h0 : x1 = 60 * x2) (h1 : x3 = x4 + x5) (h2 : 0 ≤ x5) (h3 : ((x6 - 1 ≤ 0) ∧ (-x6 + 1 ≤ 0)) → ((-x2 ≤ 0) ∧ (x2 - 3 ≤ 0))) (h4 : x6 - 1 ≤ 0) (h5 : x6 ≠ 0) (h6 : -x6 ≤ 0) (h7 : x3 ≤ x7) (h8 : x7 ≤ 60) : x1 + x4 ≤ 2147483647 := by omega
theorem q_d8f40ee4c0 {x1 x2 x3 x4 x5 x6 : Int} (h0 : x1 = x2 + x3) (h1 : x2 = 60 * x4) (h2 : 0 ≤ x5) (h3 : 0 ≤ x3) (h4 : ((x6 - 1 ≤ 0) ∧ (-x6 + 1 ≤ 0)) → ((-x4 ≤ 0) ∧ (x4 - 3 ≤ 0))) (h5 : x6 - 1 ≤ 0) (h6 : x6 ≠ 0) (h7 : -x6 ≤ 0) : -2147483648 ≤ x1 + x5 := by omega
theorem q_731f25e951 {x1 x2 x3 x4 x5 x6 x7 x8 x9 : Int} (h0 : x1 = x2 + x3) (h1 : x2 = 60 * x4) (h2 : x5 < x6) (h3 : x7 = x3 + x6) (h4 : ((x8 - 1 ≤ 0) ∧ (-x8 + 1 ≤ 0)) → ((-x4 ≤ 0) ∧ (x4 - 3 ≤ 0))) (h5 : x8 - 1 ≤ 0) (h6 : x8 ≠ 0) (h7 : -x8 ≤ 0) (h8 : x7 ≤ x9) (h9 : x9 ≤ 60) : x1 + x5 ≤ 2147483647 := by omega
theorem q_f36788d4fa {x1 x2 x3 x4 x5 x6 x7 : Int} (h0 : x1 = x2 + x3) (h1 : x2 = x4 + x5) (h2 : x4 = 60 * x6) (h3 : 0 ≤ x3) (h4 : 0 ≤ x5) (h5 : ((x7 - 1 ≤ 0) ∧ (-x7 + 1 ≤ 0)) → ((-x6 ≤ 0) ∧ (x6 - 3 ≤ 0))) (h6 : x7 - 1 ≤ 0) (h7 : x7 ≠ 0) (h8 : -x7 ≤ 0) : 0 ≤ x1 := by omega
theorem q_e1e2939fcc {x1 x2 x3 x4 x5 : Int} (h0 : x1 < x2) (h1 : x3 = x4 + x2) (h2 : 0 ≤ x4) (h3 : x3 ≤ x5) (h4 : x5 ≤ 60) : x1 < (((60 : Nat)) : Int) := by omega
theorem q_844c9baa64 {x1 x2 x3 x4 x5 x6 : Int} (h0 : x1 = x2 + 1) (h1 : x2 < x3) (h2 : x4 = x5 + x3) (h3 : 0 ≤ x5) (h4 : x4 ≤ x6) (h5 : x6 ≤ 60) : x1 ≤ 60 := by omega
theorem q_cd423776c0 {x1 x2 : Int} (h0 : x1 = 1) (h1 : 0 ≤ x2) : 0 ≤ 4 * x2 + x1 + 10 := by omega
theorem q_f35804b63c {x1 x2 : Int} (h0 : x1 = 1) (h1 : x2 ≤ 3) : 4 * x2 + x1 + 10 < (((226 : Nat)) : Int) := by omega
theorem q_96b314d640 {x1 x2 : Int} (h0 : x1 = 1) (h1 : 0 ≤ x2) : (((11 : Nat)) : Int) ≤ 4 * x2 + x1 + 10 := by omega
theorem q_c5e57a1fc6 {x1 x2 : Int} (h0 : x1 = 1) (h1 : x2 ≤ 3) : 4 * x2 + x1 + 10 < (((11 : Nat)) : Int) + (((4 : Nat)) : Int) * (((4 : Nat)) : Int) := by omega
theorem q_c69b119096 {x1 x2 x3 : Int} (h0 : ((x1 - 1 ≤ 0) ∧ (-x1 + 1 ≤ 0)) → ((-x2 ≤ 0) ∧ (x2 - 2000000000 ≤ 0))) (h1 : x1 - 1 ≤ 0) (h2 : x1 ≠ 0) (h3 : -x1 ≤ 0) (h4 : x3 = x2) : -x3 ≤ 0 := by omega
theorem q_aee3e0ec6a {x1 x2 x3 : Int} (h0 : ((x1 - 1 ≤ 0) ∧ (-x1 + 1 ≤ 0)) → ((-x2 ≤ 0) ∧ (x2 - 2000000000 ≤ 0))) (h1 : x1 - 1 ≤ 0) (h2 : x1 ≠ 0) (h3 : -x1 ≤ 0) (h4 : x3 = x2) : x3 - 2147483647 ≤ 0 := by omega
theorem q_9fb1e2c806 {x1 : Int} (h0 : x1 = -2) : (-x1 - 2 ≤ 0) ∧ (x1 - 15 ≤ 0) := by omega
theorem q_82b886cd4b {x1 : Int} (h0 : x1 ≤ 81) (h1 : -x1 + 81 < (((0 : Nat)) : Int)) : False := by omega
theorem q_55ee8d7114 {x1 : Int} (h0 : x1 = -1) : (-x1 - 2 ≤ 0) ∧ (x1 - 15 ≤ 0) := by omega
theorem q_d482fa3b70 {x1 x2 : Int} (h0 : x1 < x2) (h1 : x2 ≤ 81) : x1 < (((81 : Nat)) : Int) := by omega
theorem q_e22a361cb7 {x1 : Int} (h0 : 0 ≤ x1) (h1 : x1 ≤ 15) : (-x1 - 2 ≤ 0) ∧ (x1 - 15 ≤ 0) := by omega
theorem q_6dca09e5e0 {x1 : Int} (h0 : x1 = 0) : x1 ≤ 81 := by omega
theorem q_b6f29daf1f {x1 x2 x3 x4 x5 x6 x7 x8 : Int} (h0 : x1 = 60 * x2) (h1 : x3 = x4) (h2 : (-x5 + 1 ≤ 0) → ((x6 - x3 ≤ 0) ∧ (x3 - x7 ≤ 0))) (h3 : x5 ≠ 0) (h4 : -x5 ≤ 0) (h5 : ((x8 - 1 ≤ 0) ∧ (-x8 + 1 ≤ 0)) → ((-x2 ≤ 0) ∧ (x2 - 3 ≤ 0))) (h6 : x8 - 1 ≤ 0) (h7 : x8 ≠ 0) (h8 : -x8 ≤ 0) (h9 : x6 = 0) : -2147483648 ≤ x1 + x4 := by omega
theorem q_298f70c05d {x1 x2 x3 : Int} (h0 : ((x1 - 1 ≤ 0) ∧ (-x1 + 1 ≤ 0)) → ((-x2 ≤ 0) ∧ (x2 - 2000000000 ≤ 0))) (h1 : x1 - 1 ≤ 0) (h2 : x1 ≠ 0) (h3 : -x1 ≤ 0) (h4 : 0 ≤ x3) : -9223372036854775808 ≤ x2 + x3 := by omega
theorem q_48976ef27d {x1 x2 x3 : Int} (h0 : ((x1 - 1 ≤ 0) ∧ (-x1 + 1 ≤ 0)) → ((-x2 ≤ 0) ∧ (x2 - 2000000000 ≤ 0))) (h1 : x1 - 1 ≤ 0) (h2 : x1 ≠ 0) (h3 : -x1 ≤ 0) (h4 : x3 ≤ 20) : x2 + x3 ≤ 9223372036854775807 := by omega
theorem q_03f1571b47 {x1 x2 x3 x4 : Int} (h0 : x1 = x2 + x3) (h1 : 0 ≤ x3) (h2 : ((x4 - 1 ≤ 0) ∧ (-x4 + 1 ≤ 0)) → ((-x2 ≤ 0) ∧ (x2 - 2000000000 ≤ 0))) (h3 : x4 - 1 ≤ 0) (h4 : x4 ≠ 0) (h5 : -x4 ≤ 0) : -x1 ≤ 0 := by omega
theorem q_fe1d46f57a {x1 x2 x3 x4 : Int} (h0 : x1 = x2 + x3) (h1 : x3 ≤ 20) (h2 : ((x4 - 1 ≤ 0) ∧ (-x4 + 1 ≤ 0)) → ((-x2 ≤ 0) ∧ (x2 - 2000000000 ≤ 0))) (h3 : x4 - 1 ≤ 0) (h4 : x4 ≠ 0) (h5 : -x4 ≤ 0) : x1 - 2147483647 ≤ 0 := by omega
theorem q_8fdf66e26c {x1 x2 x3 x4 x5 x6 x7 : Int} (h0 : x1 = x2 + 1) (h1 : x2 < x3) (h2 : x4 = x3) (h3 : (-x5 + 1 ≤ 0) → ((x6 - x4 ≤ 0) ∧ (x4 - x7 ≤ 0))) (h4 : x5 ≠ 0) (h5 : -x5 ≤ 0) (h6 : x7 = 20) : x1 ≤ 20 := by omega
theorem q_8caf4e8b5b {x1 x2 x3 x4 x5 x6 x7 x8 : Int} (h0 : x1 = x2 + 1) (h1 : x2 - x3 ≤ 0) (h2 : x3 < x4) (h3 : x5 = x4) (h4 : (-x6 + 1 ≤ 0) → ((x7 - x5 ≤ 0) ∧ (x5 - x8 ≤ 0))) (h5 : x6 ≠ 0) (h6 : -x6 ≤ 0) (h7 : x8 = 20) : x1 ≤ 20 := by omega
theorem q_ea10934706 {x1 x2 x3 x4 x5 x6 : Int} (h0 : x1 = 0) (h1 : x2 = x3) (h2 : (-x4 + 1 ≤ 0) → ((x5 - x2 ≤ 0) ∧ (x2 - x6 ≤ 0))) (h3 : x4 ≠ 0) (h4 : -x4 ≤ 0) (h5 : x5 = 1) : x1 - x3 ≤ 0 := by omega
theorem q_12d49b99d0 {x1 x2 : Int} (h0 : x1 < x2) (h1 : x2 ≤ 2147483647) : x1 + 1 ≤ 2147483647 := by omega
theorem q_93b703b579 {x1 x2 x3 : Int} (h0 : x1 ≤ x2) (h1 : x3 - x1 + 1 ≤ 0) (h2 : 0 ≤ x3) : 0 < x2 := by omega
theorem q_1fbcaea534 {x1 x2 : Int} (h0 : x1 < x2) (h1 : 0 ≤ x1) : 0 < x2 := by omega
theorem q_5a66c2a109 {x1 : Int} (h0 : x1 ≤ 3) : x1 ≤ (((3 : Nat)) : Int) := by omega
theorem q_a568bb6e25 {x1 x2 x3 : Int} (h0 : x1 ≤ x2) (h1 : x2 - x3 ≤ 0) : x1 - x3 ≤ 0 := by omega
theorem q_a2e7a1a904 {x1 : Int} (h0 : x1 ≤ 255) : x1 - 255 ≤ 0 := by omega
theorem q_164da72847 {x1 x2 : Int} (h0 : x1 = x2) (h1 : x1 = 32) : (x2 = 32) ∨ (x2 = 10) := by omega
theorem q_0a65d06cab {x1 x2 x3 : Int} (h0 : x1 = x2) (h1 : x3 = x2) (h2 : x3 ≠ -1) (h3 : -x3 - 1 ≤ 0) : -x1 ≤ 0 := by omega
theorem q_7000e5b959 {x1 x2 x3 : Int} (h0 : x1 = x2) (h1 : x3 = x2) (h2 : -x3 ≤ 0) : -x1 ≤ 0 := by omega
theorem q_79a9335080 {x1 x2 x3 : Int} (h0 : x1 ≠ 32) (h1 : x1 = x2) (h2 : x3 ≠ 10) (h3 : x3 = x2) : (x2 ≠ 32) ∧ (x2 ≠ 10) := by omega
theorem q_d0a5206d26 {x1 : Int} (h0 : x1 = 4) : x1 = 4 := by omega
theorem q_bac87ac9ca {x1 x2 : Int} (h0 : x1 = x2) (h1 : x1 = 59) : (x2 ≠ 32) ∧ (x2 ≠ 10) := by omega
theorem q_878f9fb4d0 {x1 x2 : Int} (h0 : x1 = x2) (h1 : x1 = 59) : x2 = 59 := by omega
theorem q_5736040b52 {x1 : Int} (h0 : x1 = 3) : x1 = 3 := by omega
theorem q_2dc37a5edf {x1 : Int} : x1 ≤ x1 := by omega
theorem q_bef0c64981 {x1 : Int} (h0 : x1 = 2) : x1 = 2 := by omega
theorem q_139d94645a {x1 x2 x3 x4 x5 : Int} (h0 : x1 = x2) (h1 : (-x3 + 1 ≤ 0) → ((x4 - x1 ≤ 0) ∧ (x1 - x5 ≤ 0))) (h2 : x3 ≠ 0) (h3 : -x3 ≤ 0) (h4 : x4 = 48) : -x2 ≤ 0 := by omega
theorem q_335b999195 {x1 x2 : Int} (h0 : -x1 + x2 ≤ 0) (h1 : x1 = 99999) : x2 ≤ 99999 := by omega
theorem q_f714fa731c {x1 x2 x3 x4 x5 x6 : Int} (h0 : x1 = x2) (h1 : x3 = x1) (h2 : (-x4 + 1 ≤ 0) → ((x5 - x3 ≤ 0) ∧ (x3 - x6 ≤ 0))) (h3 : x4 ≠ 0) (h4 : -x4 ≤ 0) (h5 : x5 = 48) (h6 : x6 = 57) : (48 ≤ x2) ∧ (x2 ≤ 57) := by omega
theorem q_3f5944b558 {x1 x2 x3 : Int} (h0 : x1 - x2 ≤ 0) (h1 : x1 = x3 + 1) : x3 ≤ x2 := by omega
theorem q_deee28d121 {x1 x2 x3 x4 x5 x6 : Int} (h0 : x1 = x2) (h1 : x3 = x1) (h2 : (-x4 + 1 ≤ 0) → ((x5 - x3 ≤ 0) ∧ (x3 - x6 ≤ 0))) (h3 : x4 ≠ 0) (h4 : -x4 ≤ 0) (h5 : x5 = 97) (h6 : x6 = 122) : (97 ≤ x2) ∧ (x2 ≤ 122) := by omega
theorem q_440875ac0d {x1 x2 x3 x4 x5 : Int} (h0 : x1 = x2) (h1 : (-x3 + 1 ≤ 0) → ((x4 - x1 ≤ 0) ∧ (x1 - x5 ≤ 0))) (h2 : x3 ≠ 0) (h3 : -x3 ≤ 0) (h4 : x4 = 97) : -x2 ≤ 0 := by omega
theorem q_020da9ea98 {x1 x2 : Int} (h0 : x1 = x2) (h1 : x1 = -1) : (x2 ≠ 32) ∧ (x2 ≠ 10) := by omega
theorem q_4f0706bd15 {x1 x2 : Int} (h0 : x1 = x2) (h1 : x1 = -1) : x2 = -1 := by omega
theorem q_8437cd0f86 {x1 x2 x3 : Int} (h0 : x1 = x2) (h1 : x3 = x2) (h2 : x3 = 10) : -x1 ≤ 0 := by omega
theorem q_30b163132a {x1 x2 : Int} (h0 : x1 = x2) (h1 : x1 = 10) : (x2 = 32) ∨ (x2 = 10) := by omega
theorem q_d7cc092bca {x1 x2 x3 x4 x5 : Int} (h0 : x1 = x2) (h1 : (-x3 + 1 ≤ 0) → ((x4 - x1 ≤ 0) ∧ (x1 - x5 ≤ 0))) (h2 : x3 ≠ 0) (h3 : -x3 ≤ 0) (h4 : x5 = 2) : x2 < (((3 : Nat)) : Int) := by omega
theorem q_1eb83a62a2 {x1 : Int} (h0 : 226 ≤ x1) : 226 ≤ x1 := by omega
theorem q_73000bb27b {x1 x2 x3 x4 x5 : Int} (h0 : x1 = x2) (h1 : (-x3 + 1 ≤ 0) → ((x4 - x1 ≤ 0) ∧ (x1 - x5 ≤ 0))) (h2 : x3 ≠ 0) (h3 : -x3 ≤ 0) (h4 : x5 = 2) : x2 < 3 := by omega
theorem q_d52851690a {x1 x2 x3 x4 x5 : Int} (h0 : x1 = x2) (h1 : (-x3 + 1 ≤ 0) → ((x4 - x1 ≤ 0) ∧ (x1 - x5 ≤ 0))) (h2 : x3 ≠ 0) (h3 : -x3 ≤ 0) (h4 : x5 = 2) : x2 ≤ 2 := by omega
theorem q_957696b956 {x1 x2 : Int} (h0 : x1 ≠ 0) (h1 : 0 ≤ x1) (h2 : x2 = x1) : x2 ≠ 0 := by omega
theorem q_b7eeb53960 {x1 x2 x3 x4 x5 : Int} (h0 : x1 = x2) (h1 : (-x3 + 1 ≤ 0) → ((x4 - x1 ≤ 0) ∧ (x1 - x5 ≤ 0))) (h2 : x3 ≠ 0) (h3 : -x3 ≤ 0) (h4 : x4 = 0) : -2147483648 ≤ 226 * x2 := by omega
theorem q_e3d776ae73 {x1 x2 x3 x4 x5 : Int} (h0 : x1 = x2) (h1 : (-x3 + 1 ≤ 0) → ((x4 - x1 ≤ 0) ∧ (x1 - x5 ≤ 0))) (h2 : x3 ≠ 0) (h3 : -x3 ≤ 0) (h4 : x5 = 2) : 226 * x2 ≤ 2147483647 := by omega
theorem q_ea123480c6 {x1 x2 x3 x4 x5 x6 x7 : Int} (h0 : x1 = 226 * x2) (h1 : 0 ≤ x3) (h2 : x4 = x2) (h3 : (-x5 + 1 ≤ 0) → ((x6 - x4 ≤ 0) ∧ (x4 - x7 ≤ 0))) (h4 : x5 ≠ 0) (h5 : -x5 ≤ 0) (h6 : x6 = 0) : -2147483648 ≤ x1 + x3 := by omega
theorem q_a69aa468bb {x1 x2 x3 x4 x5 x6 x7 : Int} (h0 : x1 = 226 * x2) (h1 : x3 < 226) (h2 : x4 = x2) (h3 : (-x5 + 1 ≤ 0) → ((x6 - x4 ≤ 0) ∧ (x4 - x7 ≤ 0))) (h4 : x5 ≠ 0) (h5 : -x5 ≤ 0) (h6 : x7 = 2) : x1 + x3 ≤ 2147483647 := by omega
theorem q_69dfb84a85 {x1 x2 x3 x4 x5 x6 x7 x8 : Int} (h0 : x1 = x2 + x3) (h1 : x2 = 226 * x4) (h2 : 0 ≤ x3) (h3 : x5 = x4) (h4 : (-x6 + 1 ≤ 0) → ((x7 - x5 ≤ 0) ∧ (x5 - x8 ≤ 0))) (h5 : x6 ≠ 0) (h6 : -x6 ≤ 0) (h7 : x7 = 0) : 0 ≤ x1 := by omega
theorem q_e8169a5768 {x1 x2 x3 x4 x5 x6 x7 x8 : Int} (h0 : x1 = x2 + x3) (h1 : x2 = 226 * x4) (h2 : x3 < 226) (h3 : x5 = x4) (h4 : (-x6 + 1 ≤ 0) → ((x7 - x5 ≤ 0) ∧ (x5 - x8 ≤ 0))) (h5 : x6 ≠ 0) (h6 : -x6 ≤ 0) (h7 : x8 = 2) : x1 < (((678 : Nat)) : Int) := by omega
theorem q_f7a270291b {x1 : Int} (h0 : x1 < 226) : x1 < (((226 : Nat)) : Int) := by omega
theorem q_01af86e644 {x1 : Int} (h0 : x1 < 226) : x1 < 226 := by omega
theorem q_442fa06b92 {x1 x2 x3 x4 : Int} (h0 : x1 = x2 + x3) (h1 : x2 = 226 * x4) : x1 = 226 * x4 + x3 := by omega
theorem q_ca23768860 {x1 x2 : Int} (h0 : x1 = x2) (h1 : x2 = 0) : x1 = 0 := by omega
theorem q_d14eb9a8ad {x1 : Int} (h0 : x1 = -6) : x1 = -6 := by omega
theorem q_7c49b01a76 {x1 x2 x3 : Int} (h0 : x1 = x2) (h1 : x2 = 0) : (x3 < 0) ∨ ((2 < x3) ∨ (x1 = 0)) := by omega
theorem q_f8900e1be4 {x1 x2 x3 x4 x5 : Int} (h0 : x1 = 0) (h1 : x2 = x3) (h2 : ((x1 - x2 ≤ 0) ∧ (x2 - x4 ≤ 0)) → (-x5 + 1 ≤ 0)) (h3 : x5 = 0) (h4 : x4 = 2) : (x3 < 0) ∨ (2 < x3) := by omega
theorem q_a664922815 {x1 : Int} (h0 : x1 = -2) : x1 = -2 := by omega
theorem q_44f4ae642a {x1 x2 x3 x4 x5 x6 : Int} (h0 : x1 = 0) (h1 : x2 = x3) (h2 : ((x1 - x2 ≤ 0) ∧ (x2 - x4 ≤ 0)) → (-x5 + 1 ≤ 0)) (h3 : x5 = 0) (h4 : x4 = 2) : (x3 < 0) ∨ ((2 < x3) ∨ (x6 = 0)) := by omega
theorem q_130eb18579 {x1 x2 x3 : Int} (h0 : x1 ≤ x2) (h1 : x3 = x1) : x3 ≤ x2 := by omega
theorem q_ce7f503cee {x1 x2 : Int} (h0 : x1 = 3) (h1 : x2 ≤ 4) : 4 * x2 + x1 + 10 < (((226 : Nat)) : Int) := by omega
theorem q_0098712842 {x1 x2 x3 : Int} (h0 : x1 = 3) (h1 : x2 < x3) (h2 : x3 ≤ 4) : 4 * x2 + x1 + 10 < (((13 : Nat)) : Int) + (((4 : Nat)) : Int) * (((4 : Nat)) : Int) := by omega
theorem q_34b19986a7 {x1 x2 : Int} (h0 : x1 = 3) : 13 + 4 * x2 = 4 * x2 + x1 + 10 := by omega
theorem q_1667932b23 {x1 : Int} : 13 + 4 * x1 = 13 + 4 * x1 := by omega
theorem q_fdcb89e2dd {x1 x2 x3 : Int} (h0 : x1 ≠ x2) (h1 : -x1 + x3 ≤ 0) (h2 : x1 - x3 ≤ 0) : x3 ≠ x2 := by omega
theorem q_4cbdceccfe {x1 x2 x3 : Int} (h0 : x1 < x2) (h1 : x3 = x2) : x1 < x3 := by omega
theorem q_f0aa810593 {x1 x2 : Int} (h0 : x1 = x2) (h1 : x2 ≤ 4) : x1 ≤ 4 := by omega
theorem q_38e408ddf6 {x1 x2 x3 : Int} (h0 : x1 = x2) (h1 : x1 - x3 ≤ 0) (h2 : -x1 + x3 ≤ 0) : x3 = x2 := by omega
theorem q_4a3c5b87cf {x1 x2 x3 x4 : Int} (h0 : x1 < x2) (h1 : 0 ≤ x1) (h2 : x2 = 0) : x3 ≠ x4 := by omega
theorem q_b872781753 {x1 x2 x3 x4 : Int} (h0 : (-x1 + 1 ≤ 0) → ((-x2 ≤ 0) ∧ (x2 - x3 + 1 ≤ 0))) (h1 : x1 ≠ 0) (h2 : -x1 ≤ 0) (h3 : x2 = x4) (h4 : x4 = -1) : False := by omega
theorem q_cc42c75917 {x1 x2 x3 x4 : Int} (h0 : x1 = 3) (h1 : (-x2 + 1 ≤ 0) → ((-x3 ≤ 0) ∧ (x3 - x4 + 1 ≤ 0))) (h2 : x2 ≠ 0) (h3 : -x2 ≤ 0) : 0 ≤ 4 * x3 + x1 + 10 := by omega
theorem q_877be54b71 {x1 x2 x3 : Int} (h0 : x1 = 3) (h1 : ((x2 - 1 ≤ 0) ∧ (-x2 + 1 ≤ 0)) → ((-x3 ≤ 0) ∧ (x3 - 3 ≤ 0))) (h2 : x2 - 1 ≤ 0) (h3 : x2 ≠ 0) (h4 : -x2 ≤ 0) : 4 * x3 + x1 + 10 < (((226 : Nat)) : Int) := by omega
theorem q_7f3d4718c0 {x1 x2 x3 x4 : Int} (h0 : x1 = 3) (h1 : (-x2 + 1 ≤ 0) → ((-x3 ≤ 0) ∧ (x3 - x4 + 1 ≤ 0))) (h2 : x2 ≠ 0) (h3 : -x2 ≤ 0) : (((13 : Nat)) : Int) ≤ 4 * x3 + x1 + 10 := by omega
theorem q_541448b862 {x1 x2 x3 : Int} (h0 : x1 = 3) (h1 : ((x2 - 1 ≤ 0) ∧ (-x2 + 1 ≤ 0)) → ((-x3 ≤ 0) ∧ (x3 - 3 ≤ 0))) (h2 : x2 - 1 ≤ 0) (h3 : x2 ≠ 0) (h4 : -x2 ≤ 0) : 4 * x3 + x1 + 10 < (((13 : Nat)) : Int) + (((4 : Nat)) : Int) * (((4 : Nat)) : Int) := by omega
theorem q_17b26f6ac2 {x1 x2 x3 : Int} (h0 : (-x1 + 1 ≤ 0) → ((-x2 ≤ 0) ∧ (x2 - x3 + 1 ≤ 0))) (h1 : x1 ≠ 0) (h2 : -x1 ≤ 0) : -2147483648 ≤ 4 * x2 := by omega
theorem q_0e2f933f9c {x1 x2 : Int} (h0 : ((x1 - 1 ≤ 0) ∧ (-x1 + 1 ≤ 0)) → ((-x2 ≤ 0) ∧ (x2 - 3 ≤ 0))) (h1 : x1 - 1 ≤ 0) (h2 : x1 ≠ 0) (h3 : -x1 ≤ 0) : 4 * x2 ≤ 2147483647 := by omega
theorem q_7a87566369 {x1 x2 x3 x4 : Int} (h0 : x1 = 4 * x2) (h1 : (-x3 + 1 ≤ 0) → ((-x2 ≤ 0) ∧ (x2 - x4 + 1 ≤ 0))) (h2 : x3 ≠ 0) (h3 : -x3 ≤ 0) : -2147483648 ≤ 10 + x1 := by omega
theorem q_418341a107 {x1 x2 x3 : Int} (h0 : x1 = 4 * x2) (h1 : ((x3 - 1 ≤ 0) ∧ (-x3 + 1 ≤ 0)) → ((-x2 ≤ 0) ∧ (x2 - 3 ≤ 0))) (h2 : x3 - 1 ≤ 0) (h3 : x3 ≠ 0) (h4 : -x3 ≤ 0) : 10 + x1 ≤ 2147483647 := by omega
theorem q_99086e8629 {x1 x2 x3 x4 x5 : Int} (h0 : x1 = 10 + x2) (h1 : x2 = 4 * x3) (h2 : (-x4 + 1 ≤ 0) → ((-x3 ≤ 0) ∧ (x3 - x5 + 1 ≤ 0))) (h3 : x4 ≠ 0) (h4 : -x4 ≤ 0) : -2147483648 ≤ x1 + 3 := by omega
theorem q_267abab4cf {x1 x2 x3 x4 : Int} (h0 : x1 = 10 + x2) (h1 : x2 = 4 * x3) (h2 : ((x4 - 1 ≤ 0) ∧ (-x4 + 1 ≤ 0)) → ((-x3 ≤ 0) ∧ (x3 - 3 ≤ 0))) (h3 : x4 - 1 ≤ 0) (h4 : x4 ≠ 0) (h5 : -x4 ≤ 0) : x1 + 3 ≤ 2147483647 := by omega
theorem q_0828fbbafe {x1 x2 x3 x4 x5 x6 : Int} (h0 : x1 = x2 + 3) (h1 : x2 = 10 + x3) (h2 : x3 = 4 * x4) (h3 : (-x5 + 1 ≤ 0) → ((-x4 ≤ 0) ∧ (x4 - x6 + 1 ≤ 0))) (h4 : x5 ≠ 0) (h5 : -x5 ≤ 0) : 0 ≤ x1 := by omega
theorem q_682c2af394 {x1 x2 x3 x4 x5 : Int} (h0 : x1 = x2 + 3) (h1 : x2 = 10 + x3) (h2 : x3 = 4 * x4) (h3 : ((x5 - 1 ≤ 0) ∧ (-x5 + 1 ≤ 0)) → ((-x4 ≤ 0) ∧ (x4 - 3 ≤ 0))) (h4 : x5 - 1 ≤ 0) (h5 : x5 ≠ 0) (h6 : -x5 ≤ 0) : x1 < (((226 : Nat)) : Int) := by omega
theorem q_d4e9076a60 {x1 x2 x3 x4 x5 x6 : Int} (h0 : x1 = x2 + 3) (h1 : x2 = 10 + x3) (h2 : x3 = 4 * x4) (h3 : (-x5 + 1 ≤ 0) → ((-x4 ≤ 0) ∧ (x4 - x6 + 1 ≤ 0))) (h4 : x5 ≠ 0) (h5 : -x5 ≤ 0) : (((13 : Nat)) : Int) ≤ x1 := by omega
theorem q_ea88d07cfa {x1 x2 x3 x4 x5 : Int} (h0 : x1 = x2 + 3) (h1 : x2 = 10 + x3) (h2 : x3 = 4 * x4) (h3 : ((x5 - 1 ≤ 0) ∧ (-x5 + 1 ≤ 0)) → ((-x4 ≤ 0) ∧ (x4 - 3 ≤ 0))) (h4 : x5 - 1 ≤ 0) (h5 : x5 ≠ 0) (h6 : -x5 ≤ 0) : x1 < (((13 : Nat)) : Int) + (((4 : Nat)) : Int) * (((4 : Nat)) : Int) := by omega
theorem q_2ef998e52d {x1 : Int} (h0 : (x1 = 1) ∨ ((x1 = 5) ∨ ((x1 = 6) ∨ ((x1 = 7) ∨ ((x1 = 12) ∨ ((x1 = 16) ∨ ((x1 = 20) ∨ ((x1 = 24) ∨ (166 ≤ x1))))))))) : 0 ≤ x1 := by omega
theorem q_b5763561eb {x1 x2 x3 x4 : Int} (h0 : (-x1 + 1 ≤ 0) → ((-x2 ≤ 0) ∧ (x2 - x3 + 1 ≤ 0))) (h1 : x1 ≠ 0) (h2 : -x1 ≤ 0) (h3 : x4 = x3) : x2 < x4 := by omega
theorem q_b8b77837bb {x1 x2 : Int} (h0 : x1 ≠ x2) : x2 ≠ x1 := by omega
theorem q_0b61ca95be {x1 x2 x3 x4 : Int} (h0 : x1 = -1) : (x1 = -1) ∨ ((0 ≤ x1) ∧ ((x1 < x2) ∧ ((x3 = -1) ∧ (x4 ≠ 1)))) := by omega
theorem q_297f473975 {x1 x2 x3 x4 : Int} (h0 : x1 = x2 + 3) (h1 : x2 = 10 + x3) (h2 : x3 = 4 * x4) : x1 = 13 + 4 * x4 := by omega
theorem q_6c958583b3 {x1 x2 x3 : Int} (h0 : (-x1 + 1 ≤ 0) → ((-x2 ≤ 0) ∧ (x2 - x3 + 1 ≤ 0))) (h1 : x1 ≠ 0) (h2 : -x1 ≤ 0) (h3 : x2 = -1) : False := by omega
theorem q_6443107eaf {x1 x2 x3 : Int} (h0 : (-x1 + 1 ≤ 0) → ((-x2 ≤ 0) ∧ (x2 - x3 + 1 ≤ 0))) (h1 : x1 ≠ 0) (h2 : -x1 ≤ 0) (h3 : x2 ≠ -1) : 0 ≤ x2 := by omega
theorem q_9b4a9bfe92 {x1 x2 x3 : Int} (h0 : (-x1 + 1 ≤ 0) → ((-x2 ≤ 0) ∧ (x2 - x3 + 1 ≤ 0))) (h1 : x1 ≠ 0) (h2 : -x1 ≤ 0) : -1 ≤ x2 := by omega
theorem q_e591bd0e3d {x1 x2 x3 x4 x5 x6 x7 x8 x9 : Int} (h0 : x1 = x2) (h1 : -x3 + x2 ≤ 0) (h2 : (-x4 + 1 ≤ 0) → ((-x5 ≤ 0) ∧ (x5 - x6 + 1 ≤ 0))) (h3 : x4 ≠ 0) (h4 : -x4 ≤ 0) (h5 : x7 = x6) (h6 : -1 ≤ x2) (h7 : x8 = x9) (h8 : x8 = 0) (h9 : x3 = -1) : (x5 = -1) ∨ ((0 ≤ x5) ∧ ((x5 < x7) ∧ ((x1 = -1) ∧ (x9 ≠ 1)))) := by omega
theorem q_e47ff01f30 {x1 x2 : Int} (h0 : x1 - x2 < (((0 : Nat)) : Int)) (h1 : x2 ≤ 0) (h2 : 0 ≤ x1) : False := by omega
theorem q_657d6467ef {x1 : Int} (h0 : x1 ≠ 0) (h1 : 0 ≤ x1) (h2 : x1 ≤ 0) : False := by omega
theorem q_4c9c2433b9 {x1 x2 x3 : Int} (h0 : x1 = x2) (h1 : 0 ≤ x2) (h2 : (-x3 + 1 ≤ 0) → (x2 ≤ 0)) (h3 : x3 ≠ 0) (h4 : -x3 ≤ 0) : x1 = 0 := by omega
theorem q_263332819c {x1 x2 : Int} (h0 : x1 ≤ 1600) (h1 : 0 ≤ x2) : -2147483648 ≤ x2 - x1 := by omega
theorem q_cd9bb0c6c6 {x1 x2 : Int} (h0 : 0 ≤ x1) (h1 : x2 ≤ 1600) : x2 - x1 ≤ 2147483647 := by omega
theorem q_2da77528c2 {x1 x2 : Int} (h0 : 0 ≤ x1) (h1 : 0 ≤ x2) : -2147483648 ≤ x2 + x1 := by omega
theorem q_7b8a1c11b3 {x1 x2 x3 : Int} (h0 : x1 = x2 + x3) (h1 : 0 ≤ x3) (h2 : 0 ≤ x2) : 0 ≤ x1 := by omega
theorem q_f13d7d62c0 {x1 : Int} (h0 : x1 ≠ 0) (h1 : 0 ≤ x1) (h2 : x1 ≤ 1) : x1 = 1 := by omega
theorem q_c91012496a {x1 x2 x3 x4 x5 x6 x7 x8 x9 x10 : Int} (h0 : (x1 = 0) → ((x2 = x3) ∧ ((x4 = x5) ∧ ((x3 ≤ x6) ∧ (x5 ≤ x3))))) (h1 : x1 = x7) (h2 : 0 ≤ x7) (h3 : (-x8 + 1 ≤ 0) → (x7 ≤ 0)) (h4 : x8 ≠ 0) (h5 : -x8 ≤ 0) (h6 : x9 = x5 + x10) : x9 = x4 + x10 := by omega
theorem q_c224f93f27 {x1 x2 x3 : Int} (h0 : x1 ≠ x2) (h1 : x3 = 0) : ((x3 = 1) ∧ (x1 = x2)) ∨ ((x3 = 0) ∧ (x1 ≠ x2)) := by omega
theorem q_5f4bf827f4 {x1 x2 x3 : Int} (h0 : x1 = 1) (h1 : x2 = x3) : ((x1 = 1) ∧ (x2 = x3)) ∨ ((x1 = 0) ∧ (x2 ≠ x3)) := by omega
theorem q_524a8e3d34 {x1 : Int} (h0 : x1 = 1) (h1 : x1 = 0) : ¬(x1 = 1) := by omega
theorem q_8c31a76373 {x1 x2 : Int} (h0 : x1 ≠ 0) (h1 : -x1 ≤ 0) (h2 : x1 = x2) (h3 : x1 - 1 ≤ 0) : x2 = 1 := by omega
theorem q_96f124d0cd {x1 : Int} (h0 : x1 ≠ 0) (h1 : x1 = 0) : ¬(x1 = 0) := by omega
theorem q_e3a7748ab8 {x1 x2 x3 : Int} (h0 : (-x1 + 1 ≤ 0) → (x2 ≤ 0)) (h1 : x1 ≠ 0) (h2 : -x1 ≤ 0) (h3 : 1 ≤ x3) : -x3 + x2 ≤ 0 := by omega
theorem q_5135621b52 {x1 : Int} (h0 : 1 ≤ x1) : x1 ≠ 0 := by omega
theorem q_f16809a424 {x1 x2 : Int} (h0 : (x1 ≤ 0) → (-x2 + 1 ≤ 0)) (h1 : x1 = 0) : -x2 + 1 ≤ 0 := by omega
theorem q_fdf04f5fe0 {x1 x2 x3 : Int} (h0 : (x1 ≤ 0) → (-x2 + 1 ≤ 0)) (h1 : x1 = 0) (h2 : x3 = x2) : x3 ≠ 0 := by omega
theorem q_bd6a018c53 {x1 : Int} (h0 : x1 ≠ 0) (h1 : -x1 ≤ 0) (h2 : x1 - 1 ≤ 0) : x1 = 1 := by omega
theorem q_d8d8e6600d {x1 x2 : Int} (h0 : x1 = x2) (h1 : x1 = 0) : x2 ≤ 0 := by omega
theorem q_9a3da179a8 {x1 x2 x3 : Int} (h0 : x1 = 0) (h1 : x2 = x3) (h2 : x2 = 0) (h3 : -x2 ≤ 0) : x1 = x3 := by omega
theorem q_fd20194ff2 {x1 x2 x3 : Int} (h0 : x1 = 1) (h1 : x2 = x3) (h2 : x2 - 1 ≤ 0) (h3 : x2 ≠ 0) (h4 : -x2 ≤ 0) : x1 = x3 := by omega
theorem q_7ad7b514a0 {x1 x2 x3 x4 x5 x6 x7 x8 x9 x10 : Int} (h0 : x1 ≤ x2) (h1 : x3 = x1) (h2 : x4 = 0) (h3 : ((x5 = 1) ∧ ((0 < x6) ∧ ((0 ≤ x3) ∧ (x3 < x7)))) ∨ ((x5 = 0) ∧ ((x6 ≤ 0) ∨ ((x3 < 0) ∨ (x7 ≤ x3))))) (h4 : x5 = 0) (h5 : ((x8 = 1) ∧ ((0 < x6) ∧ ((0 ≤ x9) ∧ (x9 < x7)))) ∨ ((x8 = 0) ∧ ((x6 ≤ 0) ∨ ((x9 < 0) ∨ (x7 ≤ x9))))) (h6 : x8 ≠ 0) (h7 : -x8 ≤ 0) (h8 : 0 ≤ x1) : ((x4 = 1) ∧ ((0 < x6) ∧ ((0 ≤ x2) ∧ ((x2 < x7) ∧ ((0 ≤ x1) ∧ ((x1 ≤ 15) ∧ (x10 = 1))))))) ∨ ((x4 = 0) ∧ ((x6 ≤ 0) ∨ ((x2 < 0) ∨ ((x7 ≤ x2) ∨ ((x1 < 0) ∨ ((15 < x1) ∨ (x10 ≠ 1))))))) := by omega
theorem q_a61f27b7b9 {x1 x2 x3 x4 x5 x6 : Int} (h0 : ¬((0 ≤ x1) ∧ ((x1 ≤ 15) ∧ ((0 ≤ x2) ∧ (x3 = 1))))) (h1 : x4 = 0) : ((x4 = 1) ∧ ((0 < x5) ∧ ((0 ≤ x2) ∧ ((x2 < x6) ∧ ((0 ≤ x1) ∧ ((x1 ≤ 15) ∧ (x3 = 1))))))) ∨ ((x4 = 0) ∧ ((x5 ≤ 0) ∨ ((x2 < 0) ∨ ((x6 ≤ x2) ∨ ((x1 < 0) ∨ ((15 < x1) ∨ (x3 ≠ 1))))))) := by omega
theorem q_2215209990 {x1 x2 : Int} (h0 : x1 = x2) (h1 : x1 - 15 ≤ 0) : x2 ≤ 15 := by omega
theorem q_f0fafefc0e {x1 x2 x3 x4 : Int} (h0 : x1 = x2) (h1 : -x1 ≤ 0) (h2 : x1 - 15 ≤ 0) (h3 : x3 = x4) (h4 : -x3 ≤ 0) (h5 : x3 - 15 ≤ 0) : (-x2 ≤ 0) ∧ ((x2 - 15 ≤ 0) ∧ ((-x4 ≤ 0) ∧ (x4 - 15 ≤ 0))) := by omega
theorem q_36fa9bbfa0 {x1 x2 x3 x4 : Int} (h0 : x1 = x2) (h1 : -x1 ≤ 0) (h2 : x1 - 15 ≤ 0) (h3 : 0 ≤ x3) (h4 : x4 = x3) (h5 : x4 - 15 ≤ 0) : (-x2 ≤ 0) ∧ ((x2 - 15 ≤ 0) ∧ ((-x3 ≤ 0) ∧ (x3 - 15 ≤ 0))) := by omega
theorem q_5e3d2c75d0 {x1 x2 x3 x4 : Int} (h0 : x1 = x2 + 3) (h1 : x2 = 10 + x3) (h2 : x3 = 4 * x4) : 13 + 4 * x4 = x1 := by omega
theorem q_424eccd413 {x1 x2 : Int} (h0 : x1 = x2) (h1 : x2 = -1) : x1 = -1 := by omega
theorem q_bfb4ee34b5 {x1 x2 : Int} (h0 : x1 ≠ -1) (h1 : -1 ≤ x1) (h2 : x2 = x1) : x2 ≠ -1 := by omega
theorem q_9ac12430ef {x1 x2 x3 x4 x5 x6 : Int} (h0 : x1 = x2) (h1 : (-x3 + 1 ≤ 0) → ((x4 - x1 ≤ 0) ∧ (x1 - x5 ≤ 0))) (h2 : x3 ≠ 0) (h3 : -x3 ≤ 0) (h4 : x5 = x6) (h5 : x6 ≤ 1600) : x2 ≤ 1600 := by omega
theorem q_3ade9baa4f {x1 x2 x3 x4 x5 : Int} (h0 : x1 = x2) (h1 : (-x3 + 1 ≤ 0) → ((x4 - x1 ≤ 0) ∧ (x1 - x5 ≤ 0))) (h2 : x3 ≠ 0) (h3 : -x3 ≤ 0) (h4 : x4 = 0) : -x2 - 1 ≤ 0 := by omega
theorem q_d4f0e64a8d {x1 x2 x3 x4 x5 x6 : Int} (h0 : x1 = x2) (h1 : (-x3 + 1 ≤ 0) → ((x4 - x1 ≤ 0) ∧ (x1 - x5 ≤ 0))) (h2 : x3 ≠ 0) (h3 : -x3 ≤ 0) (h4 : x5 = x6) (h5 : x6 ≤ 1600) : x2 - 1600 ≤ 0 := by omega
theorem q_efc72eea30 {x1 x2 x3 x4 x5 : Int} (h0 : x1 = x2) (h1 : (-x3 + 1 ≤ 0) → ((x4 - x1 ≤ 0) ∧ (x1 - x5 ≤ 0))) (h2 : x3 ≠ 0) (h3 : -x3 ≤ 0) (h4 : x4 = 0) : -x2 ≤ 0 := by omega
theorem q_85d78e3eb1 {x1 x2 x3 x4 x5 x6 : Int} (h0 : x1 = x2) (h1 : x3 = x4) (h2 : (-x5 + 1 ≤ 0) → ((x6 - x3 ≤ 0) ∧ (x3 - x1 ≤ 0))) (h3 : x5 ≠ 0) (h4 : -x5 ≤ 0) : x4 - x2 ≤ 0 := by omega
theorem q_9f6c78b924 {x1 : Int} (h0 : x1 ≤ 20) (h1 : 20 ≤ x1) : 20 = x1 := by omega
theorem q_b7478a5c42 {x1 x2 : Int} (h0 : 1580 < x1) (h1 : x2 = x1 + 20) (h2 : x2 ≤ 1600) : ¬(1580 < x1) := by omega
theorem q_a6dfc9308f {x1 x2 : Int} (h0 : x1 = x2) (h1 : -128 ≤ x2) : -128 ≤ x1 := by omega
theorem q_f699f50254 {x1 x2 : Int} (h0 : x1 = x2) (h1 : x2 ≤ 127) : x1 ≤ 127 := by omega
theorem q_5868494ea9 {x1 x2 x3 : Int} (h0 : x1 = x2 + x3) : x1 = x2 + x3 := by omega
theorem q_485fc563e3 {x1 x2 : Int} (h0 : x1 ≤ 1580) (h1 : x2 = x1 + 20) (h2 : 1600 < x2) : ¬(x1 ≤ 1580) := by omega
theorem q_cffee5c382 {x1 x2 x3 : Int} (h0 : (x1 ≤ 0) → (-x2 + 1 ≤ 0)) (h1 : x1 = 0) (h2 : (-x3 + 1 ≤ 0) → (x2 ≤ 0)) (h3 : x3 ≠ 0) (h4 : -x3 ≤ 0) : False := by omega
theorem q_20f2775a3a {x1 x2 x3 : Int} (h0 : (x1 ≤ 0) → (-x2 + 1 ≤ 0)) (h1 : x1 = 0) (h2 : x3 ≤ 4) : -x2 + x3 - 3 ≤ 0 := by omega
theorem q_abf6e8c060 {x1 x2 x3 : Int} (h0 : (x1 ≤ 0) → (-x2 + 1 ≤ 0)) (h1 : x1 = 0) (h2 : x3 ≤ 99999) : -x2 + x3 - 99998 ≤ 0 := by omega
theorem q_e804f08cb8 {x1 x2 x3 : Int} (h0 : (x1 ≤ 0) → (-x2 + 1 ≤ 0)) (h1 : x1 = 0) (h2 : x3 = x2) (h3 : x3 = 0) : False := by omega
theorem q_d43525113b {x1 x2 x3 : Int} (h0 : (-x1 + 1 ≤ 0) → (x2 ≤ 0)) (h1 : x1 ≠ 0) (h2 : -x1 ≤ 0) (h3 : (x3 ≤ 0) → (-x2 + 1 ≤ 0)) (h4 : x3 = 0) : False := by omega
theorem q_b7b67c4329 {x1 x2 x3 x4 x5 : Int} (h0 : x1 = x2) (h1 : 0 ≤ x2) (h2 : (-x3 + 1 ≤ 0) → (x2 ≤ 0)) (h3 : x3 ≠ 0) (h4 : -x3 ≤ 0) (h5 : x4 = x5) (h6 : x5 = 2) : (x1 = 0) ∧ (x4 = 2) := by omega
theorem q_c9b6d8c351 {x1 x2 x3 x4 x5 x6 : Int} (h0 : x1 = x2) (h1 : (-x3 + 1 ≤ 0) → ((x4 - x1 ≤ 0) ∧ (x1 - x5 ≤ 0))) (h2 : x3 ≠ 0) (h3 : -x3 ≤ 0) (h4 : x5 = x6) (h5 : x6 ≤ 50) : x2 - 50 ≤ 0 := by omega
theorem q_86e68808e5 {x1 x2 x3 x4 x5 x6 x7 : Int} (h0 : x1 = x2) (h1 : 0 ≤ x3) (h2 : (-x4 + 1 ≤ 0) → ((x5 - x1 ≤ 0) ∧ (x1 - x6 ≤ 0))) (h3 : x4 ≠ 0) (h4 : -x4 ≤ 0) (h5 : x6 = x7) (h6 : x7 ≤ 50) : -x3 + x2 - 99998 ≤ 0 := by omega
theorem q_c57f66056c {x1 x2 x3 x4 x5 x6 x7 x8 x9 x10 : Int} (h0 : (-x1 + 1 ≤ 0) → (x2 ≤ 0)) (h1 : x1 ≠ 0) (h2 : -x1 ≤ 0) (h3 : x3 = x4) (h4 : x5 = x6) (h5 : (-x7 + 1 ≤ 0) → ((x3 - x5 ≤ 0) ∧ (x5 - x8 ≤ 0))) (h6 : x7 ≠ 0) (h7 : -x7 ≤ 0) (h8 : x9 = 2) (h9 : x8 = x10) : (x2 ≤ 0) ∧ ((x9 - 2 ≤ 0) ∧ ((-x9 + 2 ≤ 0) ∧ ((x6 - x6 ≤ 0) ∧ ((-x6 + x6 ≤ 0) ∧ ((x4 - x6 ≤ 0) ∧ (x6 - x10 ≤ 0)))))) := by omega
theorem q_4ac8dceef2 {x1 x2 : Int} (h0 : x1 = x2) (h1 : x2 = 2) : x1 = 2 := by omega
theorem q_ee856db709 {x1 x2 : Int} (h0 : (-x1 + 1 ≤ 0) → (x2 ≤ 0)) (h1 : x1 ≠ 0) (h2 : -x1 ≤ 0) (h3 : -x2 + 1 ≤ 0) : False := by omega
theorem q_f9c909ba77 {x1 : Int} (h0 : x1 ≠ 0) (h1 : x1 = 0) : False := by omega
theorem q_b9ac7352ba {x1 x2 : Int} (h0 : x1 ≠ 2) (h1 : x2 = x1) : x2 ≠ 2 := by omega
theorem q_77e76bd6c5 {x1 x2 : Int} (h0 : x1 = x2 - 1) (h1 : 1 ≤ x2) : -1 ≤ x1 := by omega
theorem q_436f44c663 {x1 x2 x3 : Int} (h0 : x1 = x2 - 1) (h1 : x2 = x3) : x1 = x3 - 1 := by omega
theorem q_383bae8a70 {x1 : Int} (h0 : 226 ≤ x1) (h1 : x1 ≤ 226) : x1 = 226 := by omega
theorem q_f3cb68eaf4 {x1 x2 : Int} (h0 : x1 ≠ x2) : x1 ≠ x2 := by omega
theorem q_b6515c6d62 {x1 x2 x3 x4 x5 : Int} (h0 : (-x1 + 1 ≤ 0) → (x2 ≤ 0)) (h1 : x1 ≠ 0) (h2 : -x1 ≤ 0) (h3 : x3 = 2) (h4 : x4 < x5) : (x2 ≤ 0) ∧ ((x3 - 2 ≤ 0) ∧ ((-x3 + 2 ≤ 0) ∧ (x4 - x5 + 1 ≤ 0))) := by omega
theorem q_b40d3d0925 {x1 : Int} (h0 : (x1 = 1) ∨ ((x1 = 5) ∨ ((x1 = 6) ∨ ((x1 = 7) ∨ ((x1 = 12) ∨ ((x1 = 16) ∨ ((x1 = 20) ∨ ((x1 = 24) ∨ (166 ≤ x1))))))))) : ¬(x1 = 9) := by omega
theorem q_027904b7aa {x1 : Int} (h0 : (x1 = 1) ∨ ((x1 = 5) ∨ ((x1 = 6) ∨ ((x1 = 7) ∨ ((x1 = 12) ∨ ((x1 = 16) ∨ ((x1 = 20) ∨ ((x1 = 24) ∨ (166 ≤ x1))))))))) : ¬(x1 = 8) := by omega
theorem q_00a4ea6505 {x1 : Int} (h0 : x1 ≤ 100) : x1 ≤ 100000 := by omega
theorem q_c57a0ee71f {x1 : Int} (h0 : -1 ≤ x1) : -1 ≤ x1 := by omega
theorem q_2e3782a6b0 {x1 x2 x3 : Int} (h0 : -x1 + x2 ≤ 0) (h1 : -x2 + x3 ≤ 0) : -x1 + x3 ≤ 0 := by omega
theorem q_b4dc4af3c4 {x1 x2 x3 : Int} (h0 : -x1 + x2 ≤ 0) (h1 : -x2 + x3 ≤ 0) : x3 - x1 ≤ 0 := by omega
theorem q_cfe76911c1 {x1 x2 x3 : Int} (h0 : x1 ≤ x2) (h1 : x3 ≤ x1) (h2 : 0 ≤ x3) : -x2 ≤ 0 := by omega
theorem q_6af9c30575 {x1 x2 x3 x4 : Int} (h0 : x1 = x2 + 0) (h1 : x2 = 10 + x3) (h2 : x3 = 4 * x4) (h3 : 0 ≤ x4) : (x1 ≠ 1) ∧ ((x1 ≠ 6) ∧ (x1 ≠ 7)) := by omega
theorem q_f197f3dfc7 {x1 x2 x3 x4 x5 : Int} (h0 : x1 = x2 + 0) (h1 : x2 = 10 + x3) (h2 : x3 = 4 * x4) (h3 : x5 = x4) : 10 + 4 * x5 = x1 := by omega
theorem q_6810b39346 {x1 : Int} (h0 : x1 = 2) : 2 = x1 := by omega
theorem q_cd3ef21b91 {x1 : Int} (h0 : x1 = 50) : x1 = 50 := by omega
theorem q_d22d74969a {x1 : Int} (h0 : x1 = 50) : -x1 ≤ 0 := by omega
theorem q_d805479703 {x1 x2 x3 x4 : Int} (h0 : x1 = x2 + 1) (h1 : x2 = 10 + x3) (h2 : x3 = 4 * x4) (h3 : 0 ≤ x4) : (x1 ≠ 1) ∧ ((x1 ≠ 6) ∧ (x1 ≠ 7)) := by omega
theorem q_9c52646f29 {x1 x2 x3 x4 x5 : Int} (h0 : x1 = x2 + 1) (h1 : x2 = 10 + x3) (h2 : x3 = 4 * x4) (h3 : x5 = x4) : 10 + 4 * x5 + 1 = x1 := by omega
theorem q_a8fb2024c1 {x1 x2 : Int} (h0 : x1 = x2) : x2 = x1 := by omega
theorem q_95d3f267bd {x1 x2 x3 x4 : Int} (h0 : x1 = x2 + 2) (h1 : x2 = 10 + x3) (h2 : x3 = 4 * x4) (h3 : 0 ≤ x4) : (x1 ≠ 1) ∧ ((x1 ≠ 6) ∧ (x1 ≠ 7)) := by omega
theorem q_758e8c98bb {x1 x2 x3 x4 x5 : Int} (h0 : x1 = x2 + 2) (h1 : x2 = 10 + x3) (h2 : x3 = 4 * x4) (h3 : x5 = x4) : 10 + 4 * x5 + 2 = x1 := by omega
theorem q_2b524d57ed {x1 : Int} (h0 : x1 = 0) : 0 = x1 := by omega
theorem q_7ee6ca876d {x1 x2 x3 x4 : Int} (h0 : x1 = x2 + 3) (h1 : x2 = 10 + x3) (h2 : x3 = 4 * x4) (h3 : 0 ≤ x4) : (x1 ≠ 1) ∧ ((x1 ≠ 6) ∧ (x1 ≠ 7)) := by omega
theorem q_a841e78b7e {x1 x2 x3 x4 x5 : Int} (h0 : x1 = x2 + 3) (h1 : x2 = 10 + x3) (h2 : x3 = 4 * x4) (h3 : x5 = x4) : 10 + 4 * x5 + 3 = x1 := by omega
theorem q_c89ebb2db8 {x1 : Int} (h0 : x1 = -1) : -1 = x1 := by omega
theorem q_c918db81f1 {x1 x2 x3 x4 : Int} (h0 : x1 = x2 + 3) (h1 : x2 = 10 + x3) (h2 : x3 = 4 * x4) (h3 : 0 ≤ x4) : (Int.toNat 2) ≠ (Int.toNat x1) := by omega
theorem q_c1d177e9c0 {x1 x2 x3 x4 : Int} (h0 : x1 = x2 + 2) (h1 : x2 = 10 + x3) (h2 : x3 = 4 * x4) (h3 : 0 ≤ x4) : (Int.toNat 2) ≠ (Int.toNat x1) := by omega
theorem q_2e0e11688b {x1 x2 x3 x4 : Int} (h0 : x1 = x2 + 1) (h1 : x2 = 10 + x3) (h2 : x3 = 4 * x4) (h3 : 0 ≤ x4) : (Int.toNat 2) ≠ (Int.toNat x1) := by omega
theorem q_40a6d8e873 {x1 x2 x3 x4 : Int} (h0 : x1 = x2 + 0) (h1 : x2 = 10 + x3) (h2 : x3 = 4 * x4) (h3 : 0 ≤ x4) : (Int.toNat 2) ≠ (Int.toNat x1) := by omega
theorem q_c264f2cea9 {x1 x2 x3 : Int} (h0 : x1 = x2 + 1) (h1 : x3 = x2) : x3 + 1 = x1 := by omega
theorem q_050f177436 {x1 : Int} (h0 : x1 = 1) : 1 = x1 := by omega
theorem q_171d7b85d9 {x1 x2 x3 : Int} (h0 : x1 = x2 - 1) (h1 : x3 = x2) : x1 = x3 - 1 := by omega
theorem q_8db751f7ce {x1 x2 x3 x4 : Int} (h0 : -x1 + x2 ≤ 0) (h1 : -x3 + x1 ≤ 0) (h2 : (-x4 + 1 ≤ 0) → (x3 ≤ 0)) (h3 : x4 ≠ 0) (h4 : -x4 ≤ 0) : x2 ≤ 0 := by omega
theorem q_468044b3db {x1 x2 x3 : Int} (h0 : (-x1 + 1 ≤ 0) → (x2 ≤ 0)) (h1 : x1 ≠ 0) (h2 : -x1 ≤ 0) (h3 : -x2 + x3 ≤ 0) : x3 ≤ 0 := by omega
theorem q_59622b1fc0 {x1 x2 : Int} (h0 : (-x1 + 1 ≤ 0) → (x2 ≤ 0)) (h1 : x1 ≠ 0) (h2 : -x1 ≤ 0) : x2 ≤ 0 := by omega
theorem q_4abb957687 {x1 x2 x3 : Int} (h0 : (x1 ≤ 0) → (-x2 + 1 ≤ 0)) (h1 : x1 = 0) (h2 : x3 = x2) : ¬(x3 = 0) := by omega
theorem q_b919d68c0b {x1 x2 : Int} (h0 : x1 = x2) (h1 : -x2 + 2 ≤ 0) (h2 : x2 - 2 ≤ 0) : x1 = 2 := by omega
theorem q_8a0e8d37df {x1 : Int} (h0 : 0 ≤ x1) : 0 ≤ 12 + 4 * x1 := by omega
theorem q_1d088e2de8 {x1 x2 x3 : Int} (h0 : x1 = x2) (h1 : -x2 ≤ 0) (h2 : (-x3 + 1 ≤ 0) → (x2 ≤ 0)) (h3 : x3 ≠ 0) (h4 : -x3 ≤ 0) : x1 = 0 := by omega
theorem q_63fa952095 {x1 x2 x3 x4 x5 x6 x7 x8 : Int} (h0 : x1 = x2 + 2) (h1 : x2 = 10 + x3) (h2 : x3 = 4 * x4) (h3 : -x4 + x5 ≤ 0) (h4 : x6 = x7 + 2) (h5 : x7 = 10 + x8) (h6 : x8 = 4 * x5) (h7 : x4 - x5 ≤ 0) : x1 = x6 := by omega
theorem q_b652749a4f {x1 x2 x3 x4 x5 x6 : Int} (h0 : x1 = x2) (h1 : -x1 + x3 ≤ 0) (h2 : x4 = x5 + 2) (h3 : x5 = 10 + x6) (h4 : x6 = 4 * x3) (h5 : x1 - x3 ≤ 0) : 12 + 4 * x2 = x4 := by omega
theorem q_18c5e5ad8a {x1 x2 x3 : Int} (h0 : x1 ≤ x2 - 1) (h1 : x2 = x3) (h2 : x3 ≤ 4) : 12 + 4 * x1 < 226 := by omega
theorem q_ae607fc6bd {x1 : Int} (h0 : -x1 + 26 ≤ 0) : (x1 ≠ 1) ∧ ((x1 ≠ 6) ∧ (x1 ≠ 7)) := by omega
theorem q_51c97dac2a {x1 x2 x3 x4 x5 : Int} (h0 : x1 = x2) (h1 : x3 - 24 * x1 - 2 * x4 - 26 ≤ 0) (h2 : x5 = x4) (h3 : -x3 + 24 * x1 + 2 * x4 + 26 ≤ 0) : 26 + 24 * x2 + 2 * x5 = x3 := by omega
theorem q_c49ea05101 {x1 x2 x3 x4 x5 x6 : Int} (h0 : x1 = x2 + 1) (h1 : x2 - 24 * x3 - 2 * x4 - 26 ≤ 0) (h2 : x3 - x5 ≤ 0) (h3 : x5 = x6 - 1) (h4 : x4 ≠ 12) (h5 : x4 ≤ 12) (h6 : x6 ≤ 4) : x1 < (((27 : Nat)) : Int) + (((2 : Nat)) : Int) * (((48 : Nat)) : Int) := by omega
theorem q_ca8756ca60 {x1 x2 : Int} (h0 : x1 = x2 + 1) (h1 : -x2 + 26 ≤ 0) : (x1 ≠ 1) ∧ ((x1 ≠ 6) ∧ (x1 ≠ 7)) := by omega
theorem q_8e2fe56b26 {x1 x2 x3 x4 x5 x6 : Int} (h0 : x1 = x2) (h1 : x3 = x4 + 1) (h2 : x4 - 24 * x1 - 2 * x5 - 26 ≤ 0) (h3 : x6 = x5) (h4 : -x4 + 24 * x1 + 2 * x5 + 26 ≤ 0) : 26 + 24 * x2 + 2 * x6 + 1 = x3 := by omega
theorem q_f843b7e69c {x1 x2 x3 x4 x5 x6 x7 x8 : Int} (h0 : x1 = x2 + 2) (h1 : x2 = 10 + x3) (h2 : x3 = 4 * x4) (h3 : x5 = x6 + 1) (h4 : -x6 + 26 ≤ 0) (h5 : -x6 + 24 * x7 + 2 * x8 + 26 ≤ 0) (h6 : -x7 + x4 ≤ 0) (h7 : 0 ≤ x8) : (Int.toNat x1) ≠ (Int.toNat x5) := by omega
theorem q_77ed723856 {x1 x2 x3 x4 x5 x6 x7 : Int} (h0 : x1 = x2 + 2) (h1 : x2 = 10 + x3) (h2 : x3 = 4 * x4) (h3 : -x5 + 26 ≤ 0) (h4 : -x5 + 24 * x6 + 2 * x7 + 26 ≤ 0) (h5 : -x6 + x4 ≤ 0) (h6 : 0 ≤ x7) : (Int.toNat x1) ≠ (Int.toNat x5) := by omega
theorem q_441c4cceae {x1 x2 x3 x4 x5 x6 : Int} (h0 : x1 = x2 + 2) (h1 : x2 = 10 + x3) (h2 : x3 = 4 * x4) (h3 : x5 - 24 * x4 - 2 * x6 - 26 ≤ 0) (h4 : x6 ≤ 12) (h5 : -x5 + 26 ≤ 0) : 0 ≤ x1 := by omega
theorem q_57947098c3 {x1 x2 x3 x4 x5 x6 : Int} (h0 : x1 = x2 + 2) (h1 : x2 = 10 + x3) (h2 : x3 = 4 * x4) (h3 : x5 - 24 * x4 - 2 * x6 - 26 ≤ 0) (h4 : x6 ≤ 12) (h5 : -x5 + 26 ≤ 0) (h6 : -x4 ≤ 0) : (x1 ≠ 1) ∧ ((x1 ≠ 6) ∧ (x1 ≠ 7)) := by omega
theorem q_24adb190c7 {x1 x2 x3 x4 x5 : Int} (h0 : x1 = x2) (h1 : x3 = x4 + 2) (h2 : x4 = 10 + x5) (h3 : x5 = 4 * x1) : 12 + 4 * x2 = x3 := by omega
theorem q_48567547dc {x1 x2 x3 x4 x5 x6 : Int} (h0 : -x1 + x2 ≤ 0) (h1 : -x2 + x3 ≤ 0) (h2 : -x3 + 1 ≤ 0) (h3 : -x4 + x1 ≤ 0) (h4 : (-x5 + 1 ≤ 0) → (x4 ≤ 0)) (h5 : x5 ≠ 0) (h6 : -x5 ≤ 0) : x6 ≤ 0 := by omega
theorem q_e4dcf8cd6b {x1 x2 : Int} (h0 : -x1 + 1 ≤ 0) (h1 : x1 ≤ 0) : x2 ≤ 0 := by omega
theorem q_19cc49e55d {x1 x2 x3 : Int} (h0 : -x1 + x2 ≤ 0) (h1 : -x2 + 1 ≤ 0) (h2 : x1 ≤ 0) : x3 ≤ 0 := by omega
theorem q_47736c478d {x1 x2 x3 : Int} (h0 : x1 ≤ 0) (h1 : -x1 + x2 ≤ 0) (h2 : -x2 + x3 ≤ 0) (h3 : -x3 + 1 ≤ 0) : False := by omega
theorem q_056365ab40 {x1 x2 x3 x4 x5 : Int} (h0 : x1 = x2) (h1 : -x2 + x3 ≤ 0) (h2 : -x3 + x4 ≤ 0) (h3 : -x4 + x5 ≤ 0) (h4 : -x5 + 1 ≤ 0) : ¬(x1 = 0) := by omega
theorem q_5b6d284d4d {x1 x2 x3 : Int} (h0 : x1 = 0) (h1 : x2 ≤ 0) (h2 : x3 - 2 ≤ 0) (h3 : -x3 + 2 ≤ 0) : (x1 ≤ 0) ∧ ((x2 ≤ 0) ∧ ((x3 - 2 ≤ 0) ∧ (-x3 + 2 ≤ 0))) := by omega
theorem q_59e2ae914d {x1 x2 x3 x4 : Int} (h0 : x1 = x2 - 1) (h1 : x3 = x2 - 1) (h2 : x4 - x3 ≤ 0) (h3 : 0 ≤ x4) : -x1 ≤ 0 := by omega
theorem q_ecbead000b {x1 : Int} (h0 : 0 ≤ x1) : 0 ≤ 13 + 4 * x1 := by omega
theorem q_d55dace28b {x1 x2 : Int} (h0 : x1 - x2 + 1 ≤ 0) (h1 : x2 ≤ 4) : 13 + 4 * x1 < 226 := by omega
theorem q_91c4be1b4e {x1 x2 x3 : Int} (h0 : x1 ≤ 0) (h1 : -x1 + x2 ≤ 0) (h2 : -x2 + 1 ≤ 0) : x3 ≤ 0 := by omega
theorem q_96d501f46b {x1 : Int} (h0 : -x1 + 1 ≤ 0) (h1 : x1 ≤ 0) : False := by omega
theorem q_06f770509c {x1 x2 x3 x4 x5 : Int} (h0 : -x1 + x2 ≤ 0) (h1 : -x2 + x3 ≤ 0) (h2 : -x3 + 1 ≤ 0) (h3 : (-x4 + 1 ≤ 0) → (x1 ≤ 0)) (h4 : x4 ≠ 0) (h5 : -x4 ≤ 0) : x5 ≤ 0 := by omega
theorem q_49167b939d {x1 x2 x3 x4 : Int} (h0 : -x1 + 1 ≤ 0) (h1 : x1 ≤ 0) : (x2 ≤ 0) ∧ ((x3 ≤ 0) ∧ ((x4 - 2 ≤ 0) ∧ (-x4 + 2 ≤ 0))) := by omega
theorem q_1a8ad1e296 {x1 x2 x3 x4 x5 : Int} (h0 : (-x1 + 1 ≤ 0) → (x2 ≤ 0)) (h1 : x1 ≠ 0) (h2 : -x1 ≤ 0) (h3 : -x2 + x3 ≤ 0) (h4 : -x3 + x4 ≤ 0) (h5 : -x4 + 1 ≤ 0) : x5 ≤ 0 := by omega
theorem q_39f7d05155 {x1 x2 : Int} (h0 : x1 ≤ 0) (h1 : -x1 + x2 ≤ 0) (h2 : -x2 + 1 ≤ 0) : False := by omega
theorem q_8c32eca55a {x1 x2 x3 x4 : Int} (h0 : x1 = x2) (h1 : -x2 + x3 ≤ 0) (h2 : -x3 + x4 ≤ 0) (h3 : -x4 + 1 ≤ 0) : ¬(x1 = 0) := by omega
theorem q_b85f3ebfbc {x1 x2 : Int} (h0 : x1 = x2) (h1 : -x2 ≤ 0) (h2 : x2 ≤ 0) : x1 = 0 := by omega
theorem q_db787123b5 {x1 x2 x3 x4 x5 : Int} (h0 : x1 = x2 - 1) (h1 : x3 = x2) (h2 : x4 = x5) (h3 : -x5 + 1 ≤ 0) (h4 : x4 = 0) : x1 = x3 - 1 := by omega
theorem q_295258dbed {x1 x2 x3 x4 : Int} (h0 : (-x1 + 1 ≤ 0) → (x2 ≤ 0)) (h1 : x1 ≠ 0) (h2 : -x1 ≤ 0) (h3 : -x2 + x3 ≤ 0) (h4 : -x3 + 1 ≤ 0) : x4 ≤ 0 := by omega
theorem q_84edeb3f01 {x1 x2 x3 : Int} (h0 : x1 = x2) (h1 : -x2 + x3 ≤ 0) (h2 : -x3 + 1 ≤ 0) : ¬(x1 = 0) := by omega
theorem q_7a6e6e0a06 {x1 x2 x3 x4 : Int} (h0 : x1 = x2 + 3) (h1 : x2 = 10 + x3) (h2 : x3 = 4 * x4) (h3 : -x4 ≤ 0) : (x1 ≠ 1) ∧ ((x1 ≠ 6) ∧ (x1 ≠ 7)) := by omega
theorem q_518692ad20 {x1 x2 x3 x4 x5 : Int} (h0 : x1 = x2) (h1 : x3 = x4 + 3) (h2 : x4 = 10 + x5) (h3 : x5 = 4 * x1) : 13 + 4 * x2 = x3 := by omega
theorem q_2cdc176b8e {x1 x2 : Int} (h0 : (x1 ≤ 0) → (-x2 + 1 ≤ 0)) (h1 : x1 = 0) (h2 : x2 ≤ 0) : False := by omega
theorem q_24ecaa5177 {x1 : Int} (h0 : 8 ≤ x1) : 8 ≤ x1 := by omega
theorem q_5a77ba2110 {x1 x2 : Int} (h0 : x1 = x2 + 1) (h1 : 8 ≤ x2) : 8 ≤ x1 := by omega
theorem q_dd63493976 {x1 x2 : Int} (h0 : x1 = x2 + 1) : x2 + 1 = x1 := by omega
theorem q_be76c1a152 {x1 : Int} (h0 : x1 ≤ 99999) : x1 ≤ 99999 := by omega
theorem q_4b06365f9c {x1 : Int} (h0 : 146 ≤ x1) : 8 ≤ x1 := by omega
theorem q_6263dbdd79 {x1 x2 : Int} (h0 : x1 = x2 + 1) (h1 : 146 ≤ x2) : 8 ≤ x1 := by omega
theorem q_65b392d6dc {x1 x2 x3 : Int} (h0 : x1 = 122 + x2) (h1 : x2 = 2 * x3) (h2 : x3 - 11 ≤ 0) : x1 < (((122 : Nat)) : Int) + (((2 : Nat)) : Int) * (((12 : Nat)) : Int) := by omega
theorem q_7b528adce1 {x1 x2 x3 : Int} (h0 : x1 = 122 + x2) (h1 : x2 = 2 * x3) (h2 : 0 ≤ x3) : (x1 ≠ 1) ∧ ((x1 ≠ 6) ∧ (x1 ≠ 7)) := by omega
theorem q_456f46284a {x1 x2 x3 x4 : Int} (h0 : x1 = 122 + x2) (h1 : x2 = 2 * x3) (h2 : x4 = x3) : 122 + 2 * x4 = x1 := by omega
theorem q_ffde18f12c {x1 x2 x3 x4 : Int} (h0 : x1 = x2 + 1) (h1 : x2 = 122 + x3) (h2 : x3 = 2 * x4) (h3 : x4 - 11 ≤ 0) : x1 < (((123 : Nat)) : Int) + (((2 : Nat)) : Int) * (((12 : Nat)) : Int) := by omega
theorem q_9e1caa1a2c {x1 x2 x3 x4 : Int} (h0 : x1 = x2 + 1) (h1 : x2 = 122 + x3) (h2 : x3 = 2 * x4) (h3 : 0 ≤ x4) : (x1 ≠ 1) ∧ ((x1 ≠ 6) ∧ (x1 ≠ 7)) := by omega
theorem q_b10c75a734 {x1 x2 x3 x4 x5 : Int} (h0 : x1 = x2 + 1) (h1 : x2 = 122 + x3) (h2 : x3 = 2 * x4) (h3 : x5 = x4) : 122 + 2 * x5 + 1 = x1 := by omega
theorem q_444ff93796 {x1 x2 x3 x4 : Int} (h0 : x1 = x2 + 1) (h1 : x2 = 122 + x3) (h2 : x3 = 2 * x4) (h3 : 0 ≤ x4) : (Int.toNat 3) ≠ (Int.toNat x1) := by omega
theorem q_8579a942a8 {x1 x2 x3 : Int} (h0 : x1 = 122 + x2) (h1 : x2 = 2 * x3) (h2 : 0 ≤ x3) : (Int.toNat 3) ≠ (Int.toNat x1) := by omega
theorem q_0887fb2c57 {x1 x2 : Int} (h0 : x1 = x2 + 1) (h1 : x2 - 11 ≤ 0) : x1 ≤ 12 := by omega
theorem q_e2ad540b1d {x1 x2 x3 x4 : Int} (h0 : -x1 + x2 ≤ 0) (h1 : -x2 + x3 ≤ 0) (h2 : x4 - x3 ≤ 0) : -x1 + x4 ≤ 0 := by omega
theorem q_466cb5d1f4 {x1 x2 : Int} (h0 : -x1 ≤ 0) (h1 : x2 ≤ 0) : -x1 + x2 - 2 ≤ 0 := by omega
theorem q_302faadb73 {x1 x2 x3 x4 : Int} (h0 : -x1 + x2 ≤ 0) (h1 : -x2 + x3 ≤ 0) (h2 : x4 - x3 ≤ 0) : x4 - x1 ≤ 0 := by omega
theorem q_690e4cf802 {x1 : Int} (h0 : -x1 ≤ 0) (h1 : x1 ≤ 0) : x1 = 0 := by omega
theorem q_266cb46797 {x1 : Int} (h0 : -x1 + 1 ≤ 0) (h1 : x1 - 1 ≤ 0) : x1 = 1 := by omega
theorem q_d8372ce354 {x1 x2 x3 : Int} (h0 : x1 = 146 + x2) (h1 : x2 = 2 * x3) (h2 : x3 - 3 ≤ 0) : x1 ≤ 152 := by omega
theorem q_31fdab0439 {x1 x2 x3 x4 : Int} (h0 : x1 = 146 + x2) (h1 : x2 = 2 * x3) (h2 : x4 = x3) : x1 = 146 + 2 * x4 := by omega
theorem q_f21a198761 {x1 x2 x3 x4 x5 : Int} (h0 : x1 = x2 + 1) (h1 : x3 = x2) (h2 : x3 = x4) (h3 : x4 = x5) (h4 : x5 - 3 ≤ 0) : x1 ≤ 4 := by omega
theorem q_6b72e7736a {x1 x2 x3 x4 x5 x6 : Int} (h0 : x1 = x2 + 1) (h1 : x3 = x2) (h2 : x4 = x5) (h3 : x3 = x6) (h4 : x6 = x5) : x4 + 1 = x1 := by omega
theorem q_e6a550c152 {x1 x2 x3 : Int} (h0 : -x1 + x2 ≤ 0) (h1 : x3 - x2 ≤ 0) : -x1 + x3 ≤ 0 := by omega
theorem q_ceffd08dbb {x1 x2 x3 : Int} (h0 : -x1 + x2 ≤ 0) (h1 : x3 - x2 ≤ 0) : x3 - x1 ≤ 0 := by omega
theorem q_d0d469a1ce {x1 : Int} (h0 : x1 = 9) : x1 = 9 := by omega
theorem q_a0f8c33df1 {x1 : Int} (h0 : x1 = 9) : -x1 ≤ 0 := by omega
theorem q_c38c9c5611 {x1 x2 x3 : Int} (h0 : x1 = 154 + x2) (h1 : x2 = 2 * x3) (h2 : x3 - 5 ≤ 0) : x1 < (((154 : Nat)) : Int) + (((2 : Nat)) : Int) * (((6 : Nat)) : Int) := by omega
theorem q_a3d6a97b4a {x1 x2 : Int} (h0 : x1 - x2 ≤ 0) (h1 : x2 = 9) : x1 ≤ 9 := by omega
theorem q_00c89b1aeb {x1 x2 x3 : Int} (h0 : x1 = 154 + x2) (h1 : x2 = 2 * x3) (h2 : 0 ≤ x3) : (x1 ≠ 1) ∧ ((x1 ≠ 6) ∧ (x1 ≠ 7)) := by omega
theorem q_66fd1eedab {x1 x2 x3 x4 : Int} (h0 : x1 = 154 + x2) (h1 : x2 = 2 * x3) (h2 : x4 = x3) : 154 + 2 * x4 = x1 := by omega
theorem q_b12e5c6571 {x1 x2 x3 : Int} (h0 : x1 = 154 + x2) (h1 : x2 = 2 * x3) (h2 : 0 ≤ x3) : (Int.toNat 5) ≠ (Int.toNat x1) := by omega
theorem q_1cbcc0a230 {x1 x2 : Int} (h0 : x1 = x2 + 1) (h1 : x2 - 5 ≤ 0) : x1 ≤ 6 := by omega
theorem q_fc1643fb33 {x1 x2 x3 x4 : Int} (h0 : x1 = x2 - 1) (h1 : x3 = x4) (h2 : x4 = x2) : x1 = x3 - 1 := by omega
theorem q_db809bfda5 {x1 x2 x3 : Int} (h0 : x1 = x2) (h1 : x3 = x1 + 1) : x3 = x2 + 1 := by omega
theorem q_7f30c8742c {x1 x2 x3 x4 x5 : Int} (h0 : -x1 + x2 ≤ 0) (h1 : -x2 + x3 ≤ 0) (h2 : -x3 + x4 ≤ 0) (h3 : x5 - x4 ≤ 0) : -x1 + x5 ≤ 0 := by omega
theorem q_0d74eee9e4 {x1 x2 x3 x4 x5 : Int} (h0 : -x1 + x2 ≤ 0) (h1 : -x2 + x3 ≤ 0) (h2 : -x3 + x4 ≤ 0) (h3 : x5 - x4 ≤ 0) : x5 - x1 ≤ 0 := by omega
theorem q_67954264e9 {x1 x2 x3 x4 x5 : Int} (h0 : x1 = x2 + 1) (h1 : x2 = 154 + x3) (h2 : x3 = 2 * x4) (h3 : x4 = x5) : 155 + 2 * x5 = x1 := by omega
theorem q_3bde8bfdec {x1 x2 : Int} (h0 : x1 + 1 ≤ x2) (h1 : 0 ≤ x1) : 0 ≤ 155 + 2 * x2 := by omega
theorem q_12b504ea33 {x1 x2 x3 x4 : Int} (h0 : x1 ≤ x2 - 1) (h1 : x2 = x3) (h2 : x3 = x4) (h3 : x4 ≤ 6) : 155 + 2 * x1 < 226 := by omega
theorem q_a97a277f8d {x1 x2 x3 x4 x5 : Int} (h0 : x1 - x2 ≤ 0) (h1 : x2 - x3 ≤ 0) (h2 : x3 = x4 - 1) (h3 : x1 = x5 + 1) (h4 : x4 ≤ 6) : x5 ≤ 5 := by omega
theorem q_2be3684535 {x1 x2 x3 x4 : Int} (h0 : x1 = x2 + 1) (h1 : x2 = 154 + x3) (h2 : x3 = 2 * x4) (h3 : -x4 ≤ 0) : 0 ≤ x1 := by omega
theorem q_591b79144a {x1 x2 x3 x4 : Int} (h0 : x1 = x2 + 1) (h1 : x2 = 154 + x3) (h2 : x3 = 2 * x4) (h3 : -x4 ≤ 0) : (x1 ≠ 1) ∧ ((x1 ≠ 6) ∧ (x1 ≠ 7)) := by omega
theorem q_65ea6596f5 {x1 x2 x3 x4 x5 : Int} (h0 : x1 = x2) (h1 : x3 = x4 + 1) (h2 : x4 = 154 + x5) (h3 : x5 = 2 * x1) : 155 + 2 * x2 = x3 := by omega
theorem q_641de9f750 {x1 x2 x3 x4 x5 : Int} (h0 : -x1 + x2 ≤ 0) (h1 : -x2 + x3 ≤ 0) (h2 : x4 - x5 ≤ 0) (h3 : x5 - x3 + 1 ≤ 0) : -x1 + x4 ≤ 0 := by omega
theorem q_b542297cb3 {x1 x2 x3 x4 x5 : Int} (h0 : -x1 + x2 ≤ 0) (h1 : -x2 + x3 ≤ 0) (h2 : x4 - x5 ≤ 0) (h3 : x5 - x3 + 1 ≤ 0) : x4 - x1 ≤ 0 := by omega
theorem q_2ee66fe9a3 {x1 x2 : Int} (h0 : x1 = x2) (h1 : x1 = 0) (h2 : -x1 ≤ 0) : (x2 ≤ 0) ∧ (-x2 ≤ 0) := by omega
theorem q_6ff4419201 {x1 x2 : Int} (h0 : x1 = x2) (h1 : x1 = 0) : (x2 ≤ 0) ∧ (-x2 ≤ 0) := by omega
theorem q_1d75873070 {x1 x2 x3 x4 : Int} (h0 : x1 = x2) (h1 : x1 = 0) (h2 : x3 ≠ 0) (h3 : -x3 ≤ 0) (h4 : x3 = x4) : (x2 ≤ 0) ∧ (-x4 + 1 ≤ 0) := by omega
theorem q_11065b9b65 {x1 : Int} (h0 : x1 - 5 ≤ 0) : x1 - 5 ≤ 0 := by omega
theorem q_cc8e0ba6dd {x1 x2 : Int} (h0 : x1 = x2) (h1 : x1 - 1 ≤ 0) (h2 : x1 ≠ 0) (h3 : -x1 ≤ 0) : (x2 - 1 ≤ 0) ∧ (-x2 + 1 ≤ 0) := by omega
theorem q_120e832ffa {x1 : Int} (h0 : x1 = 8) : x1 = 8 := by omega
theorem q_932833a211 {x1 x2 : Int} (h0 : x1 = x2) (h1 : -x1 ≤ 0) (h2 : x1 = 0) : x2 = 0 := by omega
theorem q_bc2d82fcfa {x1 : Int} (h0 : x1 - 11 ≤ 0) : x1 - 11 ≤ 0 := by omega
theorem q_329fb8d53f {x1 x2 x3 : Int} (h0 : (x1 ≤ 0) → (-x2 + 1 ≤ 0)) (h1 : x1 = 0) (h2 : x3 ≤ 3) : -x2 + x3 - 2 ≤ 0 := by omega
theorem q_3331d1599b {x1 x2 : Int} (h0 : x1 = x2) (h1 : 0 ≤ x2) (h2 : x2 ≤ 0) : x1 = 0 := by omega
theorem q_9a56868a89 {x1 x2 x3 x4 : Int} (h0 : x1 = x2) (h1 : -x2 + 1 ≤ 0) (h2 : x3 = 0) (h3 : x3 = x1) : x4 - 3 ≤ 0 := by omega
theorem q_809026a008 {x1 x2 x3 x4 : Int} (h0 : x1 = x2) (h1 : -x2 + 1 ≤ 0) (h2 : x3 = 0) (h3 : x3 = x1) : x4 - 11 ≤ 0 := by omega
theorem q_d615a55187 {x1 x2 x3 x4 : Int} (h0 : x1 = x2) (h1 : -x2 + 1 ≤ 0) (h2 : x3 = 0) (h3 : x3 = x1) : x4 - 5 ≤ 0 := by omega
theorem q_f2cf20e85a {x1 x2 x3 x4 x5 x6 x7 x8 x9 x10 x11 x12 : Int} (h0 : x1 = x2) (h1 : x1 = 0) (h2 : x3 = x4) (h3 : x3 = 0) (h4 : x5 = x6) (h5 : x5 = 0) (h6 : x7 = x8) (h7 : x7 = 0) : ¬(((x2 = 1) ∧ (x9 = 4)) ∨ (((x4 = 1) ∧ (x10 = 12)) ∨ (((x6 = 1) ∧ (x11 = 4)) ∨ ((x8 = 1) ∧ (x12 = 6))))) := by omega
theorem q_9f42007399 {x1 : Int} (h0 : x1 ≠ 6) (h1 : x1 ≤ 6) : x1 - 5 ≤ 0 := by omega
theorem q_3c79eb0b78 {x1 x2 x3 x4 x5 x6 x7 x8 x9 x10 x11 x12 : Int} (h0 : x1 = x2) (h1 : x1 = 0) (h2 : x3 = x4) (h3 : x3 = 0) (h4 : x5 = x6) (h5 : x5 = 0) (h6 : x7 = x8) (h7 : x8 ≠ 6) (h8 : x8 ≤ 6) : ¬(((x2 = 1) ∧ (x9 = 4)) ∨ (((x4 = 1) ∧ (x10 = 12)) ∨ (((x6 = 1) ∧ (x11 = 4)) ∨ ((x12 = 1) ∧ (x7 = 6))))) := by omega
theorem q_80b45e2ff9 {x1 x2 x3 x4 x5 x6 x7 x8 x9 x10 : Int} (h0 : x1 = x2) (h1 : x1 ≠ 0) (h2 : -x1 ≤ 0) (h3 : x1 - 1 ≤ 0) (h4 : x3 = x4) (h5 : x4 = 6) : ((x5 = 1) ∧ (x6 = 4)) ∨ (((x7 = 1) ∧ (x8 = 12)) ∨ (((x9 = 1) ∧ (x10 = 4)) ∨ ((x2 = 1) ∧ (x3 = 6)))) := by omega
theorem q_cf7049a829 {x1 x2 x3 x4 x5 x6 x7 x8 x9 x10 : Int} (h0 : x1 = x2) (h1 : x1 ≠ 0) (h2 : -x1 ≤ 0) (h3 : x1 - 1 ≤ 0) (h4 : x3 = x4) (h5 : x4 = 4) : ((x5 = 1) ∧ (x6 = 4)) ∨ (((x7 = 1) ∧ (x8 = 12)) ∨ (((x2 = 1) ∧ (x3 = 4)) ∨ ((x9 = 1) ∧ (x10 = 6)))) := by omega
theorem q_1065cca776 {x1 : Int} (h0 : x1 ≠ 4) (h1 : x1 ≤ 4) : x1 - 3 ≤ 0 := by omega
theorem q_c15c001ee9 {x1 x2 x3 x4 x5 x6 x7 x8 x9 x10 x11 x12 : Int} (h0 : x1 = x2) (h1 : x1 = 0) (h2 : x3 = x4) (h3 : x3 = 0) (h4 : x5 = x6) (h5 : x6 ≠ 4) (h6 : x6 ≤ 4) (h7 : x7 = x8) (h8 : x7 = 0) : ¬(((x2 = 1) ∧ (x9 = 4)) ∨ (((x4 = 1) ∧ (x10 = 12)) ∨ (((x11 = 1) ∧ (x5 = 4)) ∨ ((x8 = 1) ∧ (x12 = 6))))) := by omega
theorem q_9ec08a6f2c {x1 x2 x3 x4 x5 x6 x7 x8 x9 x10 x11 x12 : Int} (h0 : x1 = x2) (h1 : x1 = 0) (h2 : x3 = x4) (h3 : x3 = 0) (h4 : x5 = x6) (h5 : x6 ≠ 4) (h6 : x6 ≤ 4) (h7 : x7 = x8) (h8 : x8 ≠ 6) (h9 : x8 ≤ 6) : ¬(((x2 = 1) ∧ (x9 = 4)) ∨ (((x4 = 1) ∧ (x10 = 12)) ∨ (((x11 = 1) ∧ (x5 = 4)) ∨ ((x12 = 1) ∧ (x7 = 6))))) := by omega
theorem q_f7e0ee2480 {x1 x2 x3 x4 x5 x6 x7 x8 x9 x10 : Int} (h0 : x1 = x2) (h1 : x1 ≠ 0) (h2 : -x1 ≤ 0) (h3 : x1 - 1 ≤ 0) (h4 : x3 = x4) (h5 : x4 = 12) : ((x5 = 1) ∧ (x6 = 4)) ∨ (((x2 = 1) ∧ (x3 = 12)) ∨ (((x7 = 1) ∧ (x8 = 4)) ∨ ((x9 = 1) ∧ (x10 = 6)))) := by omega
theorem q_6db8230771 {x1 : Int} (h0 : x1 ≠ 12) (h1 : x1 ≤ 12) : x1 - 11 ≤ 0 := by omega
theorem q_e0333985aa {x1 x2 x3 x4 x5 x6 x7 x8 x9 x10 x11 x12 : Int} (h0 : x1 = x2) (h1 : x1 = 0) (h2 : x3 = x4) (h3 : x4 ≠ 12) (h4 : x4 ≤ 12) (h5 : x5 = x6) (h6 : x5 = 0) (h7 : x7 = x8) (h8 : x7 = 0) : ¬(((x2 = 1) ∧ (x9 = 4)) ∨ (((x10 = 1) ∧ (x3 = 12)) ∨ (((x6 = 1) ∧ (x11 = 4)) ∨ ((x8 = 1) ∧ (x12 = 6))))) := by omega
theorem q_d07cfa2ece {x1 x2 x3 x4 x5 x6 x7 x8 x9 x10 x11 x12 : Int} (h0 : x1 = x2) (h1 : x1 = 0) (h2 : x3 = x4) (h3 : x4 ≠ 12) (h4 : x4 ≤ 12) (h5 : x5 = x6) (h6 : x5 = 0) (h7 : x7 = x8) (h8 : x8 ≠ 6) (h9 : x8 ≤ 6) : ¬(((x2 = 1) ∧ (x9 = 4)) ∨ (((x10 = 1) ∧ (x3 = 12)) ∨ (((x6 = 1) ∧ (x11 = 4)) ∨ ((x12 = 1) ∧ (x7 = 6))))) := by omega
theorem q_a55025c062 {x1 x2 x3 x4 x5 x6 x7 x8 x9 x10 x11 x12 : Int} (h0 : x1 = x2) (h1 : x1 = 0) (h2 : x3 = x4) (h3 : x4 ≠ 12) (h4 : x4 ≤ 12) (h5 : x5 = x6) (h6 : x6 ≠ 4) (h7 : x6 ≤ 4) (h8 : x7 = x8) (h9 : x7 = 0) : ¬(((x2 = 1) ∧ (x9 = 4)) ∨ (((x10 = 1) ∧ (x3 = 12)) ∨ (((x11 = 1) ∧ (x5 = 4)) ∨ ((x8 = 1) ∧ (x12 = 6))))) := by omega
theorem q_7f54fc5aed {x1 x2 x3 x4 x5 x6 x7 x8 x9 x10 : Int} (h0 : x1 = x2) (h1 : x1 ≠ 0) (h2 : -x1 ≤ 0) (h3 : x1 - 1 ≤ 0) (h4 : x3 = x4) (h5 : x4 = 4) : ((x2 = 1) ∧ (x3 = 4)) ∨ (((x5 = 1) ∧ (x6 = 12)) ∨ (((x7 = 1) ∧ (x8 = 4)) ∨ ((x9 = 1) ∧ (x10 = 6)))) := by omega
theorem q_0b42a55c8e {x1 x2 x3 x4 x5 x6 x7 x8 x9 x10 x11 x12 : Int} (h0 : x1 ≠ 4) (h1 : x2 = x1) (h2 : x1 ≤ 4) (h3 : x3 = x4) (h4 : x3 = 0) (h5 : x5 = x6) (h6 : x5 = 0) (h7 : x7 = x8) (h8 : x7 = 0) : ¬(((x9 = 1) ∧ (x2 = 4)) ∨ (((x4 = 1) ∧ (x10 = 12)) ∨ (((x6 = 1) ∧ (x11 = 4)) ∨ ((x8 = 1) ∧ (x12 = 6))))) := by omega
theorem q_4b68f8fe7f {x1 x2 x3 x4 x5 x6 x7 x8 x9 x10 x11 x12 : Int} (h0 : x1 ≠ 4) (h1 : x2 = x1) (h2 : x1 ≤ 4) (h3 : x3 = x4) (h4 : x3 = 0) (h5 : x5 = x6) (h6 : x5 = 0) (h7 : x7 = x8) (h8 : x8 ≠ 6) (h9 : x8 ≤ 6) : ¬(((x9 = 1) ∧ (x2 = 4)) ∨ (((x4 = 1) ∧ (x10 = 12)) ∨ (((x6 = 1) ∧ (x11 = 4)) ∨ ((x12 = 1) ∧ (x7 = 6))))) := by omega
theorem q_5b9cf5b049 {x1 x2 x3 x4 x5 x6 x7 x8 x9 x10 x11 x12 : Int} (h0 : x1 ≠ 4) (h1 : x2 = x1) (h2 : x1 ≤ 4) (h3 : x3 = x4) (h4 : x3 = 0) (h5 : x5 = x6) (h6 : x6 ≠ 4) (h7 : x6 ≤ 4) (h8 : x7 = x8) (h9 : x7 = 0) : ¬(((x9 = 1) ∧ (x2 = 4)) ∨ (((x4 = 1) ∧ (x10 = 12)) ∨ (((x11 = 1) ∧ (x5 = 4)) ∨ ((x8 = 1) ∧ (x12 = 6))))) := by omega
theorem q_101234f4b2 {x1 x2 x3 x4 x5 x6 x7 x8 x9 x10 x11 x12 : Int} (h0 : x1 ≠ 4) (h1 : x2 = x1) (h2 : x1 ≤ 4) (h3 : x3 = x4) (h4 : x4 ≠ 12) (h5 : x4 ≤ 12) (h6 : x5 = x6) (h7 : x5 = 0) (h8 : x7 = x8) (h9 : x7 = 0) : ¬(((x9 = 1) ∧ (x2 = 4)) ∨ (((x10 = 1) ∧ (x3 = 12)) ∨ (((x6 = 1) ∧ (x11 = 4)) ∨ ((x8 = 1) ∧ (x12 = 6))))) := by omega
theorem q_7ed2936742 {x1 x2 : Int} (h0 : x1 = x2) (h1 : x1 = 0) : x2 = 0 := by omega
theorem q_c87f6a6dca {x1 x2 x3 x4 x5 x6 : Int} (h0 : x1 = x2 + 1) (h1 : x3 = x2) (h2 : x3 = x4) (h3 : x4 = x5) (h4 : x5 - x6 + 1 ≤ 0) (h5 : x6 ≤ 1600) : x1 ≤ 1600 := by omega
theorem q_8f35cfe366 {x1 x2 x3 x4 x5 x6 : Int} (h0 : x1 = x2 + 1) (h1 : x3 = x2) (h2 : x3 = x4) (h3 : x4 = x5) (h4 : x5 - x6 + 1 ≤ 0) (h5 : x6 ≤ 1600) : x1 - 1600 ≤ 0 := by omega
theorem q_c793529e53 {x1 x2 x3 x4 x5 : Int} (h0 : x1 = x2) (h1 : x3 = x4 + 1) (h2 : x5 = x1) (h3 : x5 = x4) : -x3 + x2 + 1 ≤ 0 := by omega
theorem q_57f1065df6 {x1 x2 x3 x4 x5 : Int} (h0 : x1 = x2) (h1 : x3 = x4 + 1) (h2 : x5 = x1) (h3 : x5 = x4) : x3 - x2 - 1 ≤ 0 := by omega
theorem q_66af5a274d {x1 : Int} (h0 : 0 ≤ x1) (h1 : x1 ≤ 0) : x1 = 0 := by omega
theorem q_cc9918c2d9 {x1 x2 x3 x4 : Int} (h0 : (x1 ≤ 0) → (-x2 + 1 ≤ 0)) (h1 : x1 = 0) (h2 : x3 = x2) (h3 : x3 = 0) : 1 ≤ x4 := by omega
theorem q_8bb5343f05 {x1 x2 x3 x4 : Int} (h0 : (x1 ≤ 0) → (-x2 + 1 ≤ 0)) (h1 : x1 = 0) (h2 : x3 = x2) (h3 : x3 = 0) : x4 = 0 := by omega
theorem q_33fafcf4da {x1 x2 x3 : Int} (h0 : x1 - x2 + 1 ≤ 0) (h1 : -x1 + x3 ≤ 0) : x3 - x2 + 1 ≤ 0 := by omega
theorem q_e01a17612b {x1 x2 : Int} (h0 : x1 ≠ 0) (h1 : 0 ≤ x1) (h2 : x2 = x1) : 1 ≤ x2 := by omega
theorem q_8b99002894 {x1 x2 x3 x4 : Int} (h0 : x1 = 0) (h1 : x1 = x2) (h2 : x2 = x3 + 1) (h3 : 0 ≤ x3) : x4 = 0 := by omega
theorem q_27472ec939 {x1 x2 : Int} (h0 : x1 = x2) (h1 : -x2 + 1 ≤ 0) : x1 ≠ 0 := by omega
theorem q_9799a3bf7d {x1 x2 : Int} (h0 : x1 - x2 ≤ 0) (h1 : x2 = 4) : x1 ≤ 4 := by omega
theorem q_1dc19f2830 {x1 x2 : Int} (h0 : x1 - x2 ≤ 0) (h1 : x2 = 3) : x1 ≤ 3 := by omega
theorem q_635f9319e6 {x1 x2 x3 x4 : Int} (h0 : (x1 ≤ 0) → (-x2 + 1 ≤ 0)) (h1 : x1 = 0) (h2 : (-x3 + 1 ≤ 0) → (x2 ≤ 0)) (h3 : x3 ≠ 0) (h4 : -x3 ≤ 0) : x4 ≤ 0 := by omega
theorem q_374465ecbc {x1 x2 x3 x4 x5 : Int} (h0 : x1 - x2 + 1 ≤ 0) (h1 : -x1 + x3 ≤ 0) (h2 : -x3 + x4 ≤ 0) (h3 : -x4 + x5 ≤ 0) : x5 - x2 + 1 ≤ 0 := by omega
theorem q_e5f311ca53 {x1 x2 : Int} (h0 : x1 - x2 ≤ 0) (h1 : x1 = 1) : 1 ≤ x2 := by omega
theorem q_e47b6bce04 {x1 x2 x3 x4 : Int} (h0 : x1 = 0) (h1 : x1 = x2) (h2 : x2 = x3 + 1) (h3 : x3 = 0) : x4 = 0 := by omega
theorem q_2a8cb33312 {x1 x2 x3 x4 : Int} (h0 : x1 = 60 * x2) (h1 : x3 < 60) (h2 : ((x4 - 1 ≤ 0) ∧ (-x4 + 1 ≤ 0)) → ((-x2 ≤ 0) ∧ (x2 - 3 ≤ 0))) (h3 : x4 - 1 ≤ 0) (h4 : x4 ≠ 0) (h5 : -x4 ≤ 0) : x1 + x3 ≤ 2147483647 := by omega
theorem q_d744c92080 {x1 x2 x3 x4 x5 : Int} (h0 : x1 = x2 + x3) (h1 : x2 = 60 * x4) (h2 : 0 ≤ x3) (h3 : ((x5 - 1 ≤ 0) ∧ (-x5 + 1 ≤ 0)) → ((-x4 ≤ 0) ∧ (x4 - 3 ≤ 0))) (h4 : x5 - 1 ≤ 0) (h5 : x5 ≠ 0) (h6 : -x5 ≤ 0) : 0 ≤ x1 := by omega
theorem q_d0bb30fefb {x1 x2 x3 x4 x5 : Int} (h0 : x1 = x2 + x3) (h1 : x2 = 60 * x4) (h2 : x3 < 60) (h3 : ((x5 - 1 ≤ 0) ∧ (-x5 + 1 ≤ 0)) → ((-x4 ≤ 0) ∧ (x4 - 3 ≤ 0))) (h4 : x5 - 1 ≤ 0) (h5 : x5 ≠ 0) (h6 : -x5 ≤ 0) : x1 < (((240 : Nat)) : Int) := by omega
theorem q_368a1ef7c0 {x1 x2 x3 : Int} (h0 : 5 * (1600 - x1) + x2 + 9000 * (3 - x3) < (((0 : Nat)) : Int)) (h1 : 0 ≤ x2) (h2 : x1 ≤ 1600) (h3 : x3 ≤ 3) : False := by omega
theorem q_df3bae2a4c {x1 : Int} (h0 : x1 = -4) : x1 = -4 := by omega
theorem q_c7950dd462 {x1 x2 x3 x4 x5 : Int} (h0 : (x1 = 0) → (x2 = x3)) (h1 : x1 = x4) (h2 : 0 ≤ x4) (h3 : (-x5 + 1 ≤ 0) → (x4 ≤ 0)) (h4 : x5 ≠ 0) (h5 : -x5 ≤ 0) (h6 : x3 = 0) : x2 = 0 := by omega
theorem q_eacb512e73 {x1 x2 : Int} (h0 : (-x1 + 1 ≤ 0) → (x2 ≤ 0)) (h1 : x1 ≠ 0) (h2 : -x1 ≤ 0) (h3 : 0 ≤ x2) : 0 = x2 := by omega
theorem q_c1d8e49746 {x1 x2 : Int} (h0 : 0 ≤ x1) (h1 : (-x2 + 1 ≤ 0) → (x1 ≤ 0)) (h2 : x2 ≠ 0) (h3 : -x2 ≤ 0) : x1 = 0 := by omega
theorem q_92fdf24cb0 {x1 : Int} (h0 : x1 ≠ 0) (h1 : 0 ≤ x1) : x1 ≠ 0 := by omega
theorem q_ca2ce0bcba {x1 x2 x3 : Int} (h0 : x1 + 1 ≤ x2) (h1 : x1 = x3) : x3 - x2 + 1 ≤ 0 := by omega
theorem q_27f45475c2 {x1 x2 x3 x4 x5 : Int} (h0 : (x1 = 0) → (x2 = x3)) (h1 : x1 = x4) (h2 : 0 ≤ x4) (h3 : (-x5 + 1 ≤ 0) → (x4 ≤ 0)) (h4 : x5 ≠ 0) (h5 : -x5 ≤ 0) (h6 : x3 ≠ 0) (h7 : 0 ≤ x3) : x2 ≠ 0 := by omega
theorem q_de08783852 {x1 x2 x3 x4 : Int} (h0 : ((-x1 ≤ 0) ∧ (x1 - x2 + 1 ≤ 0)) → (-x3 + 1 ≤ 0)) (h1 : 0 ≤ x1) (h2 : x1 < x4) (h3 : x4 = x2) (h4 : x3 = 0) : False := by omega
theorem q_76a259c2a8 {x1 x2 x3 x4 x5 x6 x7 : Int} (h0 : x1 < x2) (h1 : x2 = x3) (h2 : x4 = x1) (h3 : ((x5 = 1) ∧ ((0 < x6) ∧ ((0 ≤ x4) ∧ (x4 < x3)))) ∨ ((x5 = 0) ∧ ((x6 ≤ 0) ∨ ((x4 < 0) ∨ (x3 ≤ x4))))) (h4 : x5 = 0) (h5 : x7 = x6) (h6 : 0 < x7) (h7 : 0 ≤ x1) : False := by omega
theorem q_6f6f6535ca {x1 x2 : Int} (h0 : x1 = 2) : 12 + 4 * x2 = 4 * x2 + x1 + 10 := by omega
theorem q_8fd4b72bfa {x1 x2 x3 x4 x5 x6 : Int} (h0 : x1 - 24 * x2 - 2 * x3 - 26 ≤ 0) (h1 : x3 - x4 ≤ 0) (h2 : -x5 + x4 ≤ 0) (h3 : ((x6 - 1 ≤ 0) ∧ (-x6 + 1 ≤ 0)) → ((-x2 ≤ 0) ∧ (x2 - 3 ≤ 0))) (h4 : x6 - 1 ≤ 0) (h5 : x6 ≠ 0) (h6 : -x6 ≤ 0) (h7 : x5 ≠ 12) (h8 : x5 - 12 ≤ 0) : x1 < (((26 : Nat)) : Int) + (((2 : Nat)) : Int) * (((48 : Nat)) : Int) := by omega
theorem q_a31f7f40cb {x1 x2 x3 x4 x5 x6 x7 : Int} (h0 : x1 = x2 + 1) (h1 : x2 - 24 * x3 - 2 * x4 - 26 ≤ 0) (h2 : x4 - x5 ≤ 0) (h3 : -x6 + x5 ≤ 0) (h4 : ((x7 - 1 ≤ 0) ∧ (-x7 + 1 ≤ 0)) → ((-x3 ≤ 0) ∧ (x3 - 3 ≤ 0))) (h5 : x7 - 1 ≤ 0) (h6 : x7 ≠ 0) (h7 : -x7 ≤ 0) (h8 : x6 ≠ 12) (h9 : x6 - 12 ≤ 0) : x1 < (((27 : Nat)) : Int) + (((2 : Nat)) : Int) * (((48 : Nat)) : Int) := by omega
theorem q_c9a78fc180 {x1 x2 x3 x4 x5 : Int} (h0 : x1 = 10 + x2) (h1 : x2 = 4 * x3) (h2 : x4 - 24 * x3 - 2 * x5 - 26 ≤ 0) (h3 : x5 - 12 ≤ 0) (h4 : -x4 + 26 ≤ 0) : -2147483648 ≤ x1 + 2 := by omega
theorem q_1601abc26c {x1 x2 x3 x4 x5 : Int} (h0 : x1 = x2 + 2) (h1 : x2 = 10 + x3) (h2 : x3 = 4 * x4) (h3 : x5 = 2) : x1 = 4 * x4 + x5 + 10 := by omega
theorem q_9245b45e8a {x1 x2 x3 x4 x5 : Int} (h0 : -x1 + 24 * x2 + 2 * x3 + 26 ≤ 0) (h1 : -x3 ≤ 0) (h2 : x4 = 2) (h3 : x5 = x1 + 1) (h4 : -x1 + 26 ≤ 0) : (Int.toNat (4 * x2 + x4 + 10)) ≠ (Int.toNat x5) := by omega
theorem q_87ebcbb8bd {x1 x2 x3 x4 : Int} (h0 : -x1 + 24 * x2 + 2 * x3 + 26 ≤ 0) (h1 : -x3 ≤ 0) (h2 : x4 = 2) (h3 : -x1 + 26 ≤ 0) : (Int.toNat (4 * x2 + x4 + 10)) ≠ (Int.toNat x1) := by omega
theorem q_1d70ed5bbb {x1 x2 x3 x4 x5 x6 : Int} (h0 : x1 = x2 + 2) (h1 : x2 = 10 + x3) (h2 : x3 = 4 * x4) (h3 : x5 - 24 * x4 - 2 * x6 - 26 ≤ 0) (h4 : x6 - 12 ≤ 0) (h5 : -x5 + 26 ≤ 0) : 0 ≤ x1 := by omega
theorem q_1ba435b77f {x1 x2 x3 x4 x5 x6 : Int} (h0 : x1 = x2 + 2) (h1 : x2 = 10 + x3) (h2 : x3 = 4 * x4) (h3 : (-x5 + 1 ≤ 0) → ((-x4 ≤ 0) ∧ (x4 - x6 + 1 ≤ 0))) (h4 : x5 ≠ 0) (h5 : -x5 ≤ 0) : (((12 : Nat)) : Int) ≤ x1 := by omega
theorem q_e74ebd725d {x1 x2 x3 x4 x5 : Int} (h0 : x1 = x2 + 2) (h1 : x2 = 10 + x3) (h2 : x3 = 4 * x4) (h3 : ((x5 - 1 ≤ 0) ∧ (-x5 + 1 ≤ 0)) → ((-x4 ≤ 0) ∧ (x4 - 3 ≤ 0))) (h4 : x5 - 1 ≤ 0) (h5 : x5 ≠ 0) (h6 : -x5 ≤ 0) : x1 < (((12 : Nat)) : Int) + (((4 : Nat)) : Int) * (((4 : Nat)) : Int) := by omega
theorem q_bd5665fe8d {x1 x2 x3 x4 x5 x6 : Int} (h0 : x1 = x2 + 2) (h1 : x2 = 10 + x3) (h2 : x3 = 4 * x4) (h3 : (-x5 + 1 ≤ 0) → ((-x4 ≤ 0) ∧ (x4 - x6 + 1 ≤ 0))) (h4 : x5 ≠ 0) (h5 : -x5 ≤ 0) : (Int.toNat 6) ≠ (Int.toNat x1) := by omega
theorem q_922474b4b9 {x1 x2 : Int} (h0 : x1 = x2 + 1) (h1 : -x2 + 26 ≤ 0) : (Int.toNat 6) ≠ (Int.toNat x1) := by omega
theorem q_502498cf2f {x1 : Int} (h0 : -x1 + 26 ≤ 0) : (Int.toNat 6) ≠ (Int.toNat x1) := by omega
theorem q_3ef789bacd {x1 x2 : Int} (h0 : x1 = 166 + x2) (h1 : 0 ≤ x2) : (Int.toNat 6) ≠ (Int.toNat x1) := by omega
theorem q_79fa1c0768 {x1 x2 x3 x4 x5 : Int} (h0 : x1 = 2) (h1 : x2 = x3 + 2) (h2 : x3 = 10 + x4) (h3 : x4 = 4 * x5) : 4 * x5 + x1 + 10 = x2 := by omega
theorem q_2d63896104 {x1 x2 x3 x4 x5 x6 : Int} (h0 : x1 = x2 + 2) (h1 : x2 = 10 + x3) (h2 : x3 = 4 * x4) (h3 : (-x5 + 1 ≤ 0) → ((-x4 ≤ 0) ∧ (x4 - x6 + 1 ≤ 0))) (h4 : x5 ≠ 0) (h5 : -x5 ≤ 0) : (Int.toNat x1) ≠ (Int.toNat 6) := by omega
theorem q_5532bce07c {x1 x2 x3 x4 x5 x6 x7 x8 : Int} (h0 : x1 = x2 + 2) (h1 : x2 = 10 + x3) (h2 : x3 = 4 * x4) (h3 : -x5 + 24 * x4 + 2 * x6 + 26 ≤ 0) (h4 : -x6 ≤ 0) (h5 : x7 = 166 + x8) (h6 : 0 ≤ x8) (h7 : x5 - 122 ≤ 0) : (Int.toNat x1) ≠ (Int.toNat x7) := by omega
theorem q_453b8b113a {x1 x2 x3 : Int} (h0 : x1 = x2) (h1 : x3 = x2 + 1) : x3 - 1 = x1 := by omega
theorem q_6fdd8e75f3 {x1 x2 : Int} (h0 : x1 ≠ 60) (h1 : x2 = x1 + 1) (h2 : x1 ≤ 60) : x2 - 1 ≤ 59 := by omega
theorem q_7c9e165f55 {x1 x2 x3 x4 x5 x6 : Int} (h0 : x1 - 24 * x2 - 2 * x3 - 26 ≤ 0) (h1 : x3 - x4 ≤ 0) (h2 : x5 = x4 + 1) (h3 : -x1 + 26 ≤ 0) (h4 : -x6 + x5 ≤ 0) (h5 : x6 - 12 ≤ 0) : 0 ≤ x2 := by omega
theorem q_8ae55f7da6 {x1 x2 x3 : Int} (h0 : (-x1 + 1 ≤ 0) → ((-x2 ≤ 0) ∧ (x2 - x3 + 1 ≤ 0))) (h1 : x1 ≠ 0) (h2 : -x1 ≤ 0) (h3 : x3 ≤ 4) : x2 < 4 := by omega
theorem q_09d51fee8c {x1 : Int} (h0 : -x1 + 26 ≤ 0) : 26 ≤ x1 := by omega
theorem q_444d0b0902 {x1 x2 x3 x4 x5 x6 : Int} (h0 : x1 - 24 * x2 - 2 * x3 - 26 ≤ 0) (h1 : x3 - x4 ≤ 0) (h2 : -x5 + x4 ≤ 0) (h3 : ((x6 - 1 ≤ 0) ∧ (-x6 + 1 ≤ 0)) → ((-x2 ≤ 0) ∧ (x2 - 3 ≤ 0))) (h4 : x6 - 1 ≤ 0) (h5 : x6 ≠ 0) (h6 : -x6 ≤ 0) (h7 : x5 ≠ 12) (h8 : x5 - 12 ≤ 0) : x1 ≤ 120 := by omega
theorem q_fedd7637cc {x1 x2 x3 x4 : Int} (h0 : x1 = x2 + 2) (h1 : x2 = 10 + x3) (h2 : x3 = 4 * x4) : x1 = 12 + 4 * x4 := by omega
theorem q_04520550ee {x1 x2 x3 : Int} (h0 : x1 = x2 + 1) (h1 : x3 = 166 + x2) : x3 = 166 + (x1 - 1) := by omega
theorem q_458ac62b4b {x1 : Int} : x1 = x1 - 1 + 1 := by omega
theorem q_2b8898e9e8 {x1 x2 x3 x4 x5 : Int} (h0 : ((x1 = 1) ∧ ((0 < x2) ∧ ((0 ≤ x3) ∧ (x3 < x4)))) ∨ ((x1 = 0) ∧ ((x2 ≤ 0) ∨ ((x3 < 0) ∨ (x4 ≤ x3))))) (h1 : x5 = x2) (h2 : x1 ≠ 0) (h3 : -x1 ≤ 0) : 0 < x5 := by omega
theorem q_c43dc2793a {x1 x2 x3 x4 x5 x6 : Int} (h0 : x1 = x2) (h1 : x3 = x4) (h2 : ((x5 = 1) ∧ ((0 < x6) ∧ ((0 ≤ x3) ∧ (x3 < x2)))) ∨ ((x5 = 0) ∧ ((x6 ≤ 0) ∨ ((x3 < 0) ∨ (x2 ≤ x3))))) (h3 : x5 ≠ 0) (h4 : -x5 ≤ 0) : x4 < x1 := by omega
theorem q_4c7ff67812 {x1 x2 x3 x4 : Int} (h0 : x1 = x2) (h1 : x3 = x2 + 1) (h2 : -x4 + x3 ≤ 0) (h3 : x4 - 12 ≤ 0) : x1 < 12 := by omega
theorem q_1cdffe474c {x1 x2 : Int} (h0 : x1 ≠ 60) (h1 : x2 = x1) (h2 : x1 ≤ 60) : x2 < 60 := by omega
theorem q_fdc2a8a8c1 {x1 x2 x3 x4 : Int} (h0 : -x1 + x2 ≤ 0) (h1 : x2 = x3 + 1) (h2 : x4 = x3) (h3 : x1 - x2 ≤ 0) : x1 = x4 + 1 := by omega
theorem q_1582be8e66 {x1 x2 x3 : Int} (h0 : x1 = x2 + 1) (h1 : x3 = x2) : x1 - 1 = x3 := by omega
theorem q_51bf40c21b {x1 x2 : Int} (h0 : -x1 + x2 ≤ 0) (h1 : x1 - 12 ≤ 0) : x2 - 1 < 12 := by omega
theorem q_b8a40b89af {x1 x2 x3 x4 x5 : Int} (h0 : x1 = x2 + 1) (h1 : -x3 + 24 * x4 + 2 * x5 + 26 ≤ 0) (h2 : -x5 + x2 ≤ 0) (h3 : x3 - 24 * x4 - 2 * x5 - 26 ≤ 0) (h4 : x5 - x2 ≤ 0) : x3 = 26 + 24 * x4 + 2 * (x1 - 1) := by omega
theorem q_63229ba952 {x1 x2 x3 : Int} (h0 : x1 = x2) (h1 : -x3 + x2 ≤ 0) (h2 : x3 ≠ 12) (h3 : x3 - 12 ≤ 0) : x1 < 12 := by omega
theorem q_a7ed6b435b {x1 x2 : Int} (h0 : x1 = x2) (h1 : x2 = 60) : 60 ≤ x1 := by omega
theorem q_93e8fcdef2 {x1 : Int} (h0 : x1 = -5) : x1 = -5 := by omega
theorem q_d96f75e454 {x1 x2 : Int} (h0 : x1 < 60) (h1 : x2 = 60) (h2 : x1 = x2) : False := by omega
theorem q_67495b9514 {x1 x2 x3 : Int} (h0 : x1 = x2) (h1 : x3 - x2 ≤ 0) (h2 : x3 = 12) : 12 ≤ x1 := by omega
theorem q_a6100519f0 {x1 : Int} (h0 : x1 = -3) : x1 = -3 := by omega
theorem q_972a2f0129 {x1 x2 x3 : Int} (h0 : x1 < 12) (h1 : x2 = 12) (h2 : x1 = x3) (h3 : x2 - x3 ≤ 0) : False := by omega
theorem q_90d7a3982e {x1 x2 x3 x4 x5 : Int} (h0 : 0 ≤ x1) (h1 : x2 = 0) (h2 : x3 = x1) (h3 : ((x2 - x3 ≤ 0) ∧ (x3 - x4 ≤ 0)) → (-x5 + 1 ≤ 0)) (h4 : x5 = 0) (h5 : x1 ≤ 1) (h6 : x4 = 1) : False := by omega
theorem q_7d8ef59d49 {x1 x2 x3 x4 x5 x6 x7 x8 : Int} (h0 : x1 = x2) (h1 : (-x3 + 1 ≤ 0) → ((x4 - x1 ≤ 0) ∧ (x1 - x5 ≤ 0))) (h2 : x3 ≠ 0) (h3 : -x3 ≤ 0) (h4 : (-x6 + 1 ≤ 0) → ((-x7 ≤ 0) ∧ (x7 - x8 + 1 ≤ 0))) (h5 : x6 ≠ 0) (h6 : -x6 ≤ 0) (h7 : x4 = 0) : 0 ≤ 4 * x7 + x2 + 10 := by omega
theorem q_058b1ce46b {x1 x2 x3 x4 x5 x6 x7 : Int} (h0 : x1 = x2) (h1 : (-x3 + 1 ≤ 0) → ((x4 - x1 ≤ 0) ∧ (x1 - x5 ≤ 0))) (h2 : x3 ≠ 0) (h3 : -x3 ≤ 0) (h4 : ((x6 - 1 ≤ 0) ∧ (-x6 + 1 ≤ 0)) → ((-x7 ≤ 0) ∧ (x7 - 3 ≤ 0))) (h5 : x6 - 1 ≤ 0) (h6 : x6 ≠ 0) (h7 : -x6 ≤ 0) (h8 : x5 = 1) : 4 * x7 + x2 + 10 < (((226 : Nat)) : Int) := by omega
theorem q_c83d8db5aa {x1 x2 x3 x4 x5 x6 x7 x8 : Int} (h0 : x1 = x2) (h1 : (-x3 + 1 ≤ 0) → ((x4 - x1 ≤ 0) ∧ (x1 - x5 ≤ 0))) (h2 : x3 ≠ 0) (h3 : -x3 ≤ 0) (h4 : x2 ≠ 0) (h5 : x4 = 0) (h6 : (-x6 + 1 ≤ 0) → ((-x7 ≤ 0) ∧ (x7 - x8 + 1 ≤ 0))) (h7 : x6 ≠ 0) (h8 : -x6 ≤ 0) : (((11 : Nat)) : Int) ≤ 4 * x7 + x2 + 10 := by omega
theorem q_169dfd27d6 {x1 x2 x3 x4 x5 x6 x7 : Int} (h0 : x1 = x2) (h1 : (-x3 + 1 ≤ 0) → ((x4 - x1 ≤ 0) ∧ (x1 - x5 ≤ 0))) (h2 : x3 ≠ 0) (h3 : -x3 ≤ 0) (h4 : ((x6 - 1 ≤ 0) ∧ (-x6 + 1 ≤ 0)) → ((-x7 ≤ 0) ∧ (x7 - 3 ≤ 0))) (h5 : x6 - 1 ≤ 0) (h6 : x6 ≠ 0) (h7 : -x6 ≤ 0) (h8 : x5 = 1) : 4 * x7 + x2 + 10 < (((11 : Nat)) : Int) + (((4 : Nat)) : Int) * (((4 : Nat)) : Int) := by omega
theorem q_35d5c74914 {x1 x2 x3 x4 x5 : Int} (h0 : x1 = x2) (h1 : x2 ≠ 0) (h2 : (-x3 + 1 ≤ 0) → ((x4 - x1 ≤ 0) ∧ (x1 - x5 ≤ 0))) (h3 : x3 ≠ 0) (h4 : -x3 ≤ 0) (h5 : x4 = 0) : 1 ≤ x2 := by omega
theorem q_93a4d0cb57 {x1 x2 x3 x4 x5 x6 x7 x8 x9 x10 : Int} (h0 : x1 = 10 + x2) (h1 : x2 = 4 * x3) (h2 : x4 = x5) (h3 : (-x6 + 1 ≤ 0) → ((x7 - x4 ≤ 0) ∧ (x4 - x8 ≤ 0))) (h4 : x6 ≠ 0) (h5 : -x6 ≤ 0) (h6 : (-x9 + 1 ≤ 0) → ((-x3 ≤ 0) ∧ (x3 - x10 + 1 ≤ 0))) (h7 : x9 ≠ 0) (h8 : -x9 ≤ 0) (h9 : x7 = 0) : -2147483648 ≤ x1 + x5 := by omega
theorem q_7696185349 {x1 x2 : Int} : 10 + 4 * x1 + x2 = 4 * x1 + x2 + 10 := by omega
theorem q_0f8e3468f6 {x1 x2 x3 x4 x5 : Int} (h0 : x1 = x2) (h1 : (-x3 + 1 ≤ 0) → ((x4 - x1 ≤ 0) ∧ (x1 - x5 ≤ 0))) (h2 : x3 ≠ 0) (h3 : -x3 ≤ 0) (h4 : x5 = 50) : x2 ≤ 50 := by omega
theorem q_a2721cf405 {x1 x2 : Int} : 10 + 4 * x1 + x2 = 10 + 4 * x1 + x2 := by omega
theorem q_dde8c258c6 {x1 x2 : Int} (h0 : x1 - x2 ≤ 0) (h1 : -x1 + x2 ≤ 0) : x2 = x1 := by omega
theorem q_2619da2ce7 {x1 x2 x3 x4 x5 : Int} (h0 : x1 = x2 + x3) (h1 : x2 = 10 + x4) (h2 : x4 = 4 * x5) : x1 = 10 + 4 * x5 + x3 := by omega
theorem q_4ca85bfec3 {x1 x2 x3 x4 : Int} (h0 : x1 = 0) (h1 : (-x2 + 1 ≤ 0) → ((-x3 ≤ 0) ∧ (x3 - x4 + 1 ≤ 0))) (h2 : x2 ≠ 0) (h3 : -x2 ≤ 0) : 0 ≤ 4 * x3 + x1 + 10 := by omega
theorem q_d193e4241b {x1 x2 x3 : Int} (h0 : x1 = 0) (h1 : ((x2 - 1 ≤ 0) ∧ (-x2 + 1 ≤ 0)) → ((-x3 ≤ 0) ∧ (x3 - 3 ≤ 0))) (h2 : x2 - 1 ≤ 0) (h3 : x2 ≠ 0) (h4 : -x2 ≤ 0) : 4 * x3 + x1 + 10 < (((226 : Nat)) : Int) := by omega
theorem q_e9e7a4bfb8 {x1 x2 x3 x4 : Int} (h0 : x1 = 0) (h1 : (-x2 + 1 ≤ 0) → ((-x3 ≤ 0) ∧ (x3 - x4 + 1 ≤ 0))) (h2 : x2 ≠ 0) (h3 : -x2 ≤ 0) : (((10 : Nat)) : Int) ≤ 4 * x3 + x1 + 10 := by omega
theorem q_b142d71cf1 {x1 x2 x3 : Int} (h0 : x1 = 0) (h1 : ((x2 - 1 ≤ 0) ∧ (-x2 + 1 ≤ 0)) → ((-x3 ≤ 0) ∧ (x3 - 3 ≤ 0))) (h2 : x2 - 1 ≤ 0) (h3 : x2 ≠ 0) (h4 : -x2 ≤ 0) : 4 * x3 + x1 + 10 < (((10 : Nat)) : Int) + (((4 : Nat)) : Int) * (((4 : Nat)) : Int) := by omega
theorem q_c790e40c26 {x1 x2 x3 x4 x5 x6 : Int} (h0 : x1 = 10 + x2) (h1 : x2 = 4 * x3) (h2 : x4 = 0) (h3 : (-x5 + 1 ≤ 0) → ((-x3 ≤ 0) ∧ (x3 - x6 + 1 ≤ 0))) (h4 : x5 ≠ 0) (h5 : -x5 ≤ 0) : -2147483648 ≤ x1 + x4 := by omega
theorem q_dc418f9501 {x1 x2 x3 x4 x5 : Int} (h0 : x1 = 10 + x2) (h1 : x2 = 4 * x3) (h2 : x4 = 0) (h3 : ((x5 - 1 ≤ 0) ∧ (-x5 + 1 ≤ 0)) → ((-x3 ≤ 0) ∧ (x3 - 3 ≤ 0))) (h4 : x5 - 1 ≤ 0) (h5 : x5 ≠ 0) (h6 : -x5 ≤ 0) : x1 + x4 ≤ 2147483647 := by omega
theorem q_092dc46987 {x1 x2 x3 x4 x5 x6 x7 : Int} (h0 : x1 = x2 + x3) (h1 : x2 = 10 + x4) (h2 : x4 = 4 * x5) (h3 : x3 = 0) (h4 : (-x6 + 1 ≤ 0) → ((-x5 ≤ 0) ∧ (x5 - x7 + 1 ≤ 0))) (h5 : x6 ≠ 0) (h6 : -x6 ≤ 0) : 0 ≤ x1 := by omega
theorem q_0214d4d4cf {x1 x2 x3 x4 x5 x6 : Int} (h0 : x1 = x2 + x3) (h1 : x2 = 10 + x4) (h2 : x4 = 4 * x5) (h3 : x3 = 0) (h4 : ((x6 - 1 ≤ 0) ∧ (-x6 + 1 ≤ 0)) → ((-x5 ≤ 0) ∧ (x5 - 3 ≤ 0))) (h5 : x6 - 1 ≤ 0) (h6 : x6 ≠ 0) (h7 : -x6 ≤ 0) : x1 < (((226 : Nat)) : Int) := by omega
theorem q_bb6980b449 {x1 x2 x3 x4 x5 x6 x7 : Int} (h0 : x1 = x2 + x3) (h1 : x2 = 10 + x4) (h2 : x4 = 4 * x5) (h3 : x3 = 0) (h4 : (-x6 + 1 ≤ 0) → ((-x5 ≤ 0) ∧ (x5 - x7 + 1 ≤ 0))) (h5 : x6 ≠ 0) (h6 : -x6 ≤ 0) : (((10 : Nat)) : Int) ≤ x1 := by omega
theorem q_d20c319e22 {x1 x2 x3 x4 x5 x6 : Int} (h0 : x1 = x2 + x3) (h1 : x2 = 10 + x4) (h2 : x4 = 4 * x5) (h3 : x3 = 0) (h4 : ((x6 - 1 ≤ 0) ∧ (-x6 + 1 ≤ 0)) → ((-x5 ≤ 0) ∧ (x5 - 3 ≤ 0))) (h5 : x6 - 1 ≤ 0) (h6 : x6 ≠ 0) (h7 : -x6 ≤ 0) : x1 < (((10 : Nat)) : Int) + (((4 : Nat)) : Int) * (((4 : Nat)) : Int) := by omega
theorem q_ab4947d449 {x1 x2 x3 : Int} (h0 : x1 = 166 + x2) (h1 : x2 = x3 - 1) (h2 : 0 ≤ x3) : 0 ≤ x1 := by omega
theorem q_ca55fb7a33 {x1 x2 x3 : Int} (h0 : x1 = 166 + x2) (h1 : x2 = x3 - 1) (h2 : 0 ≤ x3) : ¬(x1 = 6) := by omega
theorem q_a10a85d7da {x1 x2 x3 : Int} (h0 : x1 = x2) (h1 : x3 = x2 - 1) : x3 + 1 = x1 := by omega
theorem q_b63492755d {x1 x2 : Int} (h0 : x1 ≠ 0) (h1 : 0 ≤ x1) (h2 : x2 = x1 - 1) : 1 ≤ x2 + 1 := by omega
theorem q_08873226a4 {x1 x2 : Int} (h0 : x1 = 166 + x2) : 166 + (x2 + 1 - 1) = x1 := by omega
theorem q_718bc96520 {x1 : Int} (h0 : x1 ≤ 3) : x1 < 4 := by omega
theorem q_cf002ccb49 {x1 x2 x3 x4 : Int} (h0 : x1 = x2 + 2) (h1 : x2 = 10 + x3) (h2 : x3 = 4 * x4) : 12 + 4 * x4 = x1 := by omega
theorem q_3777836402 {x1 : Int} (h0 : 0 ≤ x1) : ¬(12 + 4 * x1 = 6) := by omega
theorem q_2f6ee56928 {x1 x2 x3 x4 : Int} (h0 : x1 = x2) (h1 : x1 = x3) (h2 : x4 = x3) (h3 : 1 ≤ x4) : 1 ≤ x2 := by omega
theorem q_972c6612ff {x1 x2 x3 x4 : Int} (h0 : x1 = x2 - 1) (h1 : x3 = x4) (h2 : x3 = x2) : x1 + 1 = x4 := by omega
theorem q_b8472f8229 {x1 : Int} : x1 = x1 + 1 - 1 := by omega
theorem q_fb5266371a {x1 x2 x3 : Int} (h0 : (-x1 + 1 ≤ 0) → (-x2 + 1 ≤ 0)) (h1 : x1 ≠ 0) (h2 : -x1 ≤ 0) (h3 : x3 = x2) : ¬(x3 ≤ 0) := by omega
theorem q_e1f15da704 {x1 x2 : Int} (h0 : x1 ≠ 0) (h1 : 0 ≤ x1) (h2 : x2 = x1) : ¬(x2 ≤ 0) := by omega
theorem q_f3e1c62af3 {x1 x2 x3 : Int} (h0 : (-x1 + 1 ≤ 0) → (-x2 + 1 ≤ 0)) (h1 : x1 ≠ 0) (h2 : -x1 ≤ 0) (h3 : x3 = x2) : 0 < x3 := by omega
theorem q_857e4f1c1c {x1 x2 : Int} (h0 : x1 = x2) (h1 : x2 = 0) : x1 ≤ 0 := by omega
theorem q_b716058e8d {x1 x2 x3 : Int} (h0 : x1 = x2) (h1 : x2 = 0) : (x3 ≤ 0) ∨ (x1 ≤ 0) := by omega
theorem q_b87706a97b {x1 x2 x3 : Int} (h0 : (x1 ≤ 0) → (x2 ≤ 0)) (h1 : x1 = 0) (h2 : x3 = x2) : x3 ≤ 0 := by omega
theorem q_105a466342 {x1 x2 x3 x4 : Int} (h0 : (x1 ≤ 0) → (x2 ≤ 0)) (h1 : x1 = 0) (h2 : x3 = x2) : (x3 ≤ 0) ∨ (x4 ≤ 0) := by omega
theorem q_eddbad93f4 {x1 : Int} (h0 : 6 ≤ x1) : 6 ≤ x1 := by omega
theorem q_9cedef5b60 {x1 : Int} (h0 : 0 ≤ x1) : (0 ≤ x1) ∧ (x1 = x1) := by omega
theorem q_24a0445613 {x1 x2 x3 : Int} (h0 : x1 = x2) (h1 : x3 = x2 + 1) : x3 = x1 + 1 := by omega
theorem q_596e244303 {x1 x2 : Int} (h0 : x1 - x2 ≤ 0) (h1 : x2 ≤ x1) : x2 = x1 := by omega
theorem q_3158e72c55 {x1 x2 : Int} (h0 : x1 = x2 - 1) : x2 - 1 = x1 := by omega
theorem q_38c22365c1 {x1 : Int} : x1 - 1 = x1 - 1 := by omega
theorem q_91a80efd7a {x1 x2 : Int} (h0 : x1 < x2) (h1 : 0 ≤ x1) : 1 ≤ x2 := by omega
theorem q_0c138feee5 {x1 x2 : Int} (h0 : x1 = x2 - 1) : x1 = x2 - 1 := by omega
theorem q_455e899177 {x1 x2 x3 : Int} (h0 : x1 ≤ x2) (h1 : x2 = x3 + 1) (h2 : x3 - x1 + 1 ≤ 0) : x3 = x1 - 1 := by omega
theorem q_52e7395150 {x1 x2 : Int} (h0 : x1 < x2) (h1 : x2 ≤ 4) : x1 < 4 := by omega
theorem q_549ef2026b {x1 : Int} (h0 : 0 ≤ x1) : 10 ≤ 13 + 4 * x1 := by omega
theorem q_6d937ea7be {x1 x2 : Int} (h0 : x1 < x2) (h1 : x2 ≤ 4) : 13 + 4 * x1 < 26 := by omega
theorem q_2958ed35f5 {x1 : Int} (h0 : x1 ≤ 4) : 13 + 4 * x1 < 226 := by omega
theorem q_67bf5599ba {x1 : Int} (h0 : x1 = 3) : 3 = (Int.toNat (x1)) := by omega
theorem q_ae4aed3c30 {x1 x2 x3 x4 x5 : Int} (h0 : x1 = 0) (h1 : (-x2 + 1 ≤ 0) → (-x3 + 1 ≤ 0)) (h2 : x3 = 0) : ((x1 = 1) ∧ ((0 < x2) ∧ ((0 ≤ x4) ∧ (x4 < x5)))) ∨ ((x1 = 0) ∧ ((x2 ≤ 0) ∨ ((x4 < 0) ∨ (x5 ≤ x4)))) := by omega
theorem q_012ba17f3e {x1 x2 x3 x4 : Int} (h0 : x1 = 0) (h1 : x2 < 0) : ((x1 = 1) ∧ ((0 < x3) ∧ ((0 ≤ x2) ∧ (x2 < x4)))) ∨ ((x1 = 0) ∧ ((x3 ≤ 0) ∨ ((x2 < 0) ∨ (x4 ≤ x2)))) := by omega
theorem q_5fa0ee3959 {x1 x2 x3 x4 x5 : Int} (h0 : x1 = 0) (h1 : x2 ≤ x3) (h2 : x2 = x4) : ((x1 = 1) ∧ ((0 < x5) ∧ ((0 ≤ x3) ∧ (x3 < x4)))) ∨ ((x1 = 0) ∧ ((x5 ≤ 0) ∨ ((x3 < 0) ∨ (x4 ≤ x3)))) := by omega
theorem q_bcfd16039b {x1 x2 x3 x4 x5 : Int} (h0 : x1 = 1) (h1 : -x2 + 1 ≤ 0) (h2 : 0 ≤ x3) (h3 : x3 < x4) (h4 : x4 = x5) : ((x1 = 1) ∧ ((0 < x2) ∧ ((0 ≤ x3) ∧ (x3 < x5)))) ∨ ((x1 = 0) ∧ ((x2 ≤ 0) ∨ ((x3 < 0) ∨ (x5 ≤ x3)))) := by omega
theorem q_8a6a88a492 {x1 x2 x3 x4 x5 x6 x7 : Int} (h0 : ((x1 = 1) ∧ ((0 < x2) ∧ ((0 ≤ x3) ∧ (x3 < x4)))) ∨ ((x1 = 0) ∧ ((x2 ≤ 0) ∨ ((x3 < 0) ∨ (x4 ≤ x3))))) (h1 : x1 = 0) (h2 : x5 = 0) : ((x5 = 1) ∧ ((0 < x2) ∧ ((0 ≤ x3) ∧ ((x3 < x4) ∧ ((0 ≤ x6) ∧ ((x6 ≤ x3) ∧ (x7 = 1))))))) ∨ ((x5 = 0) ∧ ((x2 ≤ 0) ∨ ((x3 < 0) ∨ ((x4 ≤ x3) ∨ ((x6 < 0) ∨ ((15 < x6) ∨ (x7 ≠ 1))))))) := by omega
theorem q_bda1ddf0a3 {x1 x2 x3 x4 x5 x6 x7 : Int} (h0 : x1 ≠ 0) (h1 : (0 ≤ x2) → (((x1 = 0) → (x3 = 1)) ∧ ((x1 ≠ 0) → (x3 ≠ 1)))) (h2 : x4 = 0) : ((x4 = 1) ∧ ((0 < x5) ∧ ((0 ≤ x6) ∧ ((x6 < x7) ∧ ((0 ≤ x2) ∧ ((x2 ≤ x6) ∧ (x3 = 1))))))) ∨ ((x4 = 0) ∧ ((x5 ≤ 0) ∨ ((x6 < 0) ∨ ((x7 ≤ x6) ∨ ((x2 < 0) ∨ ((15 < x2) ∨ (x3 ≠ 1))))))) := by omega
theorem q_1cde2393fd {x1 x2 : Int} (h0 : -x1 ≤ 0) (h1 : x1 - 15 ≤ 0) (h2 : 0 ≤ x2) (h3 : x2 ≤ x1) : (-x1 ≤ 0) ∧ ((x1 - 15 ≤ 0) ∧ ((-x2 ≤ 0) ∧ (x2 - 15 ≤ 0))) := by omega
theorem q_33b4757e7f {x1 x2 x3 x4 x5 x6 x7 x8 : Int} (h0 : x1 = 1) (h1 : ((x2 = 1) ∧ ((0 < x3) ∧ ((0 ≤ x4) ∧ (x4 < x5)))) ∨ ((x2 = 0) ∧ ((x3 ≤ 0) ∨ ((x4 < 0) ∨ (x5 ≤ x4))))) (h2 : x2 ≠ 0) (h3 : -x2 ≤ 0) (h4 : -x4 ≤ 0) (h5 : 0 ≤ x6) (h6 : x6 ≤ x4) (h7 : (x7 = 0) → (x8 = 1)) (h8 : x7 = 0) : ((x1 = 1) ∧ ((0 < x3) ∧ ((0 ≤ x4) ∧ ((x4 < x5) ∧ ((0 ≤ x6) ∧ ((x6 ≤ x4) ∧ (x8 = 1))))))) ∨ ((x1 = 0) ∧ ((x3 ≤ 0) ∨ ((x4 < 0) ∨ ((x5 ≤ x4) ∨ ((x6 < 0) ∨ ((15 < x6) ∨ (x8 ≠ 1))))))) := by omega
theorem q_d5be2e3227 {x1 : Int} (h0 : 4 ≤ x1) (h1 : x1 ≤ 4) : x1 = 4 := by omega
theorem q_d7767d4ccc {x1 : Int} (h0 : x1 < 4) : x1 < 4 := by omega
theorem q_71f8192873 {x1 x2 : Int} (h0 : x1 = 1) (h1 : x2 = 32) : ((x1 = 1) ∧ ((x2 = 32) ∨ (x2 = 10))) ∨ ((x1 = 0) ∧ ((x2 ≠ 32) ∧ (x2 ≠ 10))) := by omega
theorem q_fc41398999 {x1 x2 : Int} (h0 : x1 = 0) (h1 : x2 ≠ 10) (h2 : x2 ≠ 32) : ((x1 = 1) ∧ ((x2 = 32) ∨ (x2 = 10))) ∨ ((x1 = 0) ∧ ((x2 ≠ 32) ∧ (x2 ≠ 10))) := by omega
theorem q_b9c8b6ef91 {x1 x2 : Int} (h0 : x1 = 1) (h1 : x2 = 10) : ((x1 = 1) ∧ ((x2 = 32) ∨ (x2 = 10))) ∨ ((x1 = 0) ∧ ((x2 ≠ 32) ∧ (x2 ≠ 10))) := by omega
theorem q_cf7e15aa5d {x1 x2 x3 x4 x5 x6 : Int} (h0 : ((x1 ≤ x2) ∧ (x3 = 0)) ∨ ((x2 < x1) ∧ ((x4 = x5) ∧ (((97 ≤ x5) ∧ ((x5 ≤ 122) ∧ (x3 = 1))) ∨ (((48 ≤ x5) ∧ ((x5 ≤ 57) ∧ (x3 = 2))) ∨ (((x5 = 59) ∧ (x3 = 3)) ∨ ((¬((97 ≤ x5) ∧ (x5 ≤ 122))) ∧ ((¬((48 ≤ x5) ∧ (x5 ≤ 57))) ∧ ((x5 ≠ 59) ∧ (x3 = 4)))))))))) (h1 : x2 < x1) (h2 : x5 < 48) (h3 : x6 = 4) : x6 = x3 := by omega
theorem q_951faedaef {x1 x2 x3 x4 x5 x6 : Int} (h0 : ((x1 ≤ x2) ∧ (x3 = 0)) ∨ ((x2 < x1) ∧ ((x4 = x5) ∧ (((97 ≤ x5) ∧ ((x5 ≤ 122) ∧ (x3 = 1))) ∨ (((48 ≤ x5) ∧ ((x5 ≤ 57) ∧ (x3 = 2))) ∨ (((x5 = 59) ∧ (x3 = 3)) ∨ ((¬((97 ≤ x5) ∧ (x5 ≤ 122))) ∧ ((¬((48 ≤ x5) ∧ (x5 ≤ 57))) ∧ ((x5 ≠ 59) ∧ (x3 = 4)))))))))) (h1 : x2 < x1) (h2 : x5 < 97) (h3 : 57 < x5) (h4 : x6 = 4) (h5 : x5 ≠ 59) : x6 = x3 := by omega
theorem q_08aa0d6e90 {x1 x2 x3 x4 x5 x6 : Int} (h0 : ((x1 ≤ x2) ∧ (x3 = 0)) ∨ ((x2 < x1) ∧ ((x4 = x5) ∧ (((97 ≤ x5) ∧ ((x5 ≤ 122) ∧ (x3 = 1))) ∨ (((48 ≤ x5) ∧ ((x5 ≤ 57) ∧ (x3 = 2))) ∨ (((x5 = 59) ∧ (x3 = 3)) ∨ ((¬((97 ≤ x5) ∧ (x5 ≤ 122))) ∧ ((¬((48 ≤ x5) ∧ (x5 ≤ 57))) ∧ ((x5 ≠ 59) ∧ (x3 = 4)))))))))) (h1 : x2 < x1) (h2 : x5 = 59) (h3 : x6 = 3) : x6 = x3 := by omega
theorem q_505e45d4bf {x1 x2 x3 x4 x5 x6 : Int} (h0 : ((x1 ≤ x2) ∧ (x3 = 0)) ∨ ((x2 < x1) ∧ ((x4 = x5) ∧ (((97 ≤ x5) ∧ ((x5 ≤ 122) ∧ (x3 = 1))) ∨ (((48 ≤ x5) ∧ ((x5 ≤ 57) ∧ (x3 = 2))) ∨ (((x5 = 59) ∧ (x3 = 3)) ∨ ((¬((97 ≤ x5) ∧ (x5 ≤ 122))) ∧ ((¬((48 ≤ x5) ∧ (x5 ≤ 57))) ∧ ((x5 ≠ 59) ∧ (x3 = 4)))))))))) (h1 : x2 < x1) (h2 : x5 ≤ 57) (h3 : x6 = 2) (h4 : 48 ≤ x5) : x6 = x3 := by omega
theorem q_adaaa6054f {x1 x2 x3 x4 x5 x6 : Int} (h0 : ((x1 ≤ x2) ∧ (x3 = 0)) ∨ ((x2 < x1) ∧ ((x4 = x5) ∧ (((97 ≤ x5) ∧ ((x5 ≤ 122) ∧ (x3 = 1))) ∨ (((48 ≤ x5) ∧ ((x5 ≤ 57) ∧ (x3 = 2))) ∨ (((x5 = 59) ∧ (x3 = 3)) ∨ ((¬((97 ≤ x5) ∧ (x5 ≤ 122))) ∧ ((¬((48 ≤ x5) ∧ (x5 ≤ 57))) ∧ ((x5 ≠ 59) ∧ (x3 = 4)))))))))) (h1 : x2 < x1) (h2 : 122 < x5) (h3 : x6 = 4) : x6 = x3 := by omega
theorem q_60ff90b603 {x1 x2 x3 x4 x5 x6 : Int} (h0 : ((x1 ≤ x2) ∧ (x3 = 0)) ∨ ((x2 < x1) ∧ ((x4 = x5) ∧ (((97 ≤ x5) ∧ ((x5 ≤ 122) ∧ (x3 = 1))) ∨ (((48 ≤ x5) ∧ ((x5 ≤ 57) ∧ (x3 = 2))) ∨ (((x5 = 59) ∧ (x3 = 3)) ∨ ((¬((97 ≤ x5) ∧ (x5 ≤ 122))) ∧ ((¬((48 ≤ x5) ∧ (x5 ≤ 57))) ∧ ((x5 ≠ 59) ∧ (x3 = 4)))))))))) (h1 : x2 < x1) (h2 : x6 = 1) (h3 : 97 ≤ x5) (h4 : x5 ≤ 122) : x6 = x3 := by omega
theorem q_e3adf33a46 {x1 x2 : Int} (h0 : -x1 + 1 ≤ 0) (h1 : x1 = 0) : x2 ≤ 0 := by omega
theorem q_f4f2768de0 {x1 x2 : Int} (h0 : -x1 + 1 ≤ 0) (h1 : x1 = 0) : -x2 + 1 ≤ 0 := by omega
theorem q_a0b22f2d75 {x1 : Int} (h0 : -x1 + 1 ≤ 0) (h1 : x1 = 0) : False := by omega
theorem q_49ee5a0449 {x1 x2 x3 : Int} (h0 : x1 = 0) (h1 : x2 = x3) (h2 : x3 = 2) : (x1 = 0) ∧ (x2 = 2) := by omega
theorem q_2aa498dba4 {x1 x2 x3 x4 x5 : Int} (h0 : x1 - x2 ≤ 0) (h1 : -x1 + x3 ≤ 0) (h2 : x4 = 0) (h3 : x3 = 2) (h4 : x4 = x2) : x5 ≠ 2 := by omega
theorem q_f2743a0358 {x1 x2 x3 x4 x5 x6 : Int} (h0 : x1 = x2) (h1 : x2 = 2) (h2 : x3 = x4) (h3 : x3 < x5) : (x1 = 2) ∧ ((x4 < x5) ∨ (x6 < x4)) := by omega
theorem q_f5e4ebb229 {x1 x2 x3 x4 : Int} (h0 : x1 = x2) (h1 : 0 ≤ x2) (h2 : x3 = x4) (h3 : -x4 + 1 ≤ 0) (h4 : x3 = 0) : x1 = 0 := by omega
theorem q_9e8c1888a1 {x1 x2 x3 x4 : Int} (h0 : x1 = x2) (h1 : -x2 + 1 ≤ 0) (h2 : x1 = 0) (h3 : x2 ≠ 0) : (x3 = 0) ∧ (x4 = 2) := by omega
theorem q_10a482fe3d {x1 x2 x3 : Int} (h0 : x1 = 0) (h1 : x1 = x2) (h2 : -x2 + 1 ≤ 0) (h3 : x2 ≠ 0) : (x1 = 0) ∧ (x3 = 2) := by omega
theorem q_3383951b80 {x1 x2 x3 : Int} (h0 : x1 = x2) (h1 : -x2 + 1 ≤ 0) (h2 : x1 = 0) : x3 ≤ 0 := by omega
theorem q_eb7bcac33b {x1 x2 x3 x4 : Int} (h0 : -x1 + x2 ≤ 0) (h1 : x3 = x1) (h2 : x2 = 2) (h3 : x3 = 0) : -x4 + 1 ≤ 0 := by omega
theorem q_a611b7c660 {x1 x2 x3 x4 : Int} (h0 : x1 ≠ 0) (h1 : -x1 + 1 ≤ 0) (h2 : x2 = x1) (h3 : x2 = 0) (h4 : 0 ≤ x3) (h5 : x4 = -1) : x4 = x3 := by omega
theorem q_42063cbd06 {x1 x2 x3 : Int} (h0 : x1 ≠ 0) (h1 : 0 ≤ x1) (h2 : x2 = x1) (h3 : x2 = 0) : (x2 = 0) ∧ (x3 = 2) := by omega
theorem q_8e42d3661a {x1 x2 x3 : Int} (h0 : x1 ≠ 0) (h1 : 0 ≤ x1) (h2 : x2 = x1) (h3 : x2 = 0) : x3 ≠ 2 := by omega
theorem q_3d9d4aca6d {x1 x2 x3 x4 x5 x6 : Int} (h0 : x1 ≠ 0) (h1 : 0 ≤ x1) (h2 : x2 = x1) (h3 : x2 = 0) : (x3 = 2) ∧ ((x4 < x5) ∨ (x6 < x4)) := by omega
theorem q_6099250a5e {x1 x2 x3 x4 x5 x6 : Int} (h0 : x1 ≠ 0) (h1 : 0 ≤ x1) (h2 : x2 = x1) (h3 : x2 = 0) : (x3 = 2) ∧ ((x4 ≤ x5) ∧ (x5 ≤ x6)) := by omega
theorem q_bba9b97ba6 {x1 x2 x3 x4 : Int} (h0 : x1 ≠ 0) (h1 : 0 ≤ x1) (h2 : x2 = x1) (h3 : x2 = 0) (h4 : 0 ≤ x3) (h5 : x4 = -1) : x4 = x3 := by omega
theorem q_18d359cf1d {x1 x2 x3 x4 x5 x6 : Int} (h0 : x1 = x2) (h1 : x2 = 2) (h2 : x3 = x4) (h3 : x5 ≤ x3) (h4 : x3 ≤ x6) : (x1 = 2) ∧ ((x5 ≤ x4) ∧ (x4 ≤ x6)) := by omega
theorem q_12c362bdec {x1 x2 x3 x4 x5 x6 : Int} (h0 : x1 = x2) (h1 : x2 = 2) (h2 : x3 = x4) (h3 : x5 < x3) : (x1 = 2) ∧ ((x4 < x6) ∨ (x5 < x4)) := by omega
theorem q_c1d968cc7e {x1 x2 x3 : Int} (h0 : x1 = x2) (h1 : -x2 + 1 ≤ 0) (h2 : x1 = 0) : -x3 + 1 ≤ 0 := by omega
theorem q_fdc1636a7f {x1 x2 x3 x4 : Int} (h0 : x1 = x2) (h1 : x1 ≤ x3) : (x2 ≤ x3) ∨ ((x4 ≠ 32) ∧ (x4 ≠ 10)) := by omega
theorem q_22002202d7 {x1 x2 : Int} (h0 : x1 ≤ x2) (h1 : x2 - x1 + 1 ≤ 0) : False := by omega
theorem q_1fb3d2be5b {x1 : Int} (h0 : 1600 - x1 < (((0 : Nat)) : Int)) (h1 : x1 ≤ 1600) : False := by omega
theorem q_d81bb5e69c {x1 : Int} (h0 : -x1 ≤ 0) (h1 : x1 - 4 ≤ 0) : (0 ≤ x1) ∧ (x1 ≤ 4) := by omega
theorem q_b150d257f8 {x1 x2 : Int} (h0 : x1 ≠ 1) (h1 : x1 ≠ 2) (h2 : x1 ≠ 3) (h3 : x1 ≠ 4) (h4 : x1 - 4 ≤ 0) : ((x1 = 1) ∨ (x1 = 2)) → (x2 ≠ x1) := by omega
theorem q_f80612ac51 {x1 x2 x3 : Int} (h0 : x1 = 0) (h1 : -x2 ≤ 0) (h2 : x2 ≠ 3) (h3 : x2 ≠ 4) (h4 : x2 - 4 ≤ 0) : ((x2 = 0) ∧ (x3 = x3)) ∨ ((((x2 = 3) ∨ (x2 = 4)) ∧ (x3 = x3 + 1)) ∨ (((x2 = 1) ∨ (x2 = 2)) ∧ ((x3 = x3) ∧ (x1 = 0)))) := by omega
theorem q_ce056194e4 {x1 x2 x3 x4 x5 : Int} (h0 : ((x1 = 1) ∧ ((x2 = 32) ∨ (x2 = 10))) ∨ ((x1 = 0) ∧ ((x2 ≠ 32) ∧ (x2 ≠ 10)))) (h1 : x1 = 0) (h2 : x3 = x2) : (x4 ≤ x5) ∨ ((x3 ≠ 32) ∧ (x3 ≠ 10)) := by omega
theorem q_d48175bf3d {x1 : Int} (h0 : x1 = 3) : (0 ≤ x1) ∧ (x1 ≤ 4) := by omega
theorem q_56ff3b8fea {x1 x2 : Int} (h0 : x1 = 3) : ((x1 = 1) ∨ (x1 = 2)) → (x2 ≠ x1) := by omega
theorem q_e33a0f5396 {x1 x2 x3 x4 : Int} (h0 : x1 = 3) (h1 : x2 = x3 + 1) : ((x1 = 0) ∧ (x2 = x3)) ∨ ((((x1 = 3) ∨ (x1 = 4)) ∧ (x2 = x3 + 1)) ∨ (((x1 = 1) ∨ (x1 = 2)) ∧ ((x2 = x3) ∧ (x4 = 0)))) := by omega
theorem q_250cf38408 {x1 : Int} (h0 : x1 = 1) : (0 ≤ x1) ∧ (x1 ≤ 4) := by omega
theorem q_aa6af27ffd {x1 x2 x3 x4 x5 : Int} (h0 : (x1 ≤ x2) → (x3 = 0)) (h1 : x4 = x1) (h2 : x4 ≤ x2) (h3 : x5 = 1) : ((x5 = 1) ∨ (x5 = 2)) → (x3 ≠ x5) := by omega
theorem q_6e3b33692d {x1 x2 x3 : Int} (h0 : x1 ≠ x2) (h1 : x1 = x3) : ((x2 = 1) ∨ (x2 = 2)) → (x3 ≠ x2) := by omega
theorem q_19c20cd1e7 {x1 x2 x3 : Int} (h0 : x1 = 2) (h1 : x1 = 1) : x2 = x3 := by omega
theorem q_8666eeb13d {x1 : Int} (h0 : x1 = 1) : (x1 = 1) ∨ (x1 = 2) := by omega
theorem q_9540a50c34 {x1 : Int} (h0 : x1 = 2) : (0 ≤ x1) ∧ (x1 ≤ 4) := by omega
theorem q_02d4de1beb {x1 x2 x3 x4 x5 : Int} (h0 : (x1 ≤ x2) → (x3 = 0)) (h1 : x4 = x1) (h2 : x4 ≤ x2) (h3 : x5 = 2) : ((x5 = 1) ∨ (x5 = 2)) → (x3 ≠ x5) := by omega
theorem q_e1843a3ec8 {x1 : Int} (h0 : -2147483648 ≤ x1) : -2147483648 ≤ x1 := by omega
theorem q_538b9bf638 {x1 x2 : Int} (h0 : -x1 + x2 ≤ 0) (h1 : x1 = 1000000) : x2 ≤ 1000000 := by omega
theorem q_fcb0714316 {x1 x2 : Int} (h0 : x1 - x2 + 1 ≤ 0) : x1 < x2 := by omega
theorem q_2c796c762e {x1 : Int} (h0 : x1 = 2) : (x1 = 1) ∨ (x1 = 2) := by omega
theorem q_0db62aa727 {x1 : Int} (h0 : x1 = 4) : (0 ≤ x1) ∧ (x1 ≤ 4) := by omega
theorem q_b451212fd5 {x1 x2 : Int} (h0 : x1 = 4) : ((x1 = 1) ∨ (x1 = 2)) → (x2 ≠ x1) := by omega
theorem q_b4dc297ab6 {x1 x2 x3 x4 : Int} (h0 : x1 = 4) (h1 : x2 = x3 + 1) : ((x1 = 0) ∧ (x2 = x3)) ∨ ((((x1 = 3) ∨ (x1 = 4)) ∧ (x2 = x3 + 1)) ∨ (((x1 = 1) ∨ (x1 = 2)) ∧ ((x2 = x3) ∧ (x4 = 0)))) := by omega
theorem q_f4ce003da9 {x1 x2 x3 : Int} (h0 : ((x1 = 1) ∧ ((x2 = 32) ∨ (x2 = 10))) ∨ ((x1 = 0) ∧ ((x2 ≠ 32) ∧ (x2 ≠ 10)))) (h1 : x1 ≠ 0) (h2 : -x1 ≤ 0) (h3 : x3 = x2) (h4 : x2 - 32 ≤ 0) (h5 : -x2 + 10 ≤ 0) : (x3 = 32) ∨ (x3 = 10) := by omega
theorem q_5e94eb2bf7 {x1 : Int} (h0 : x1 = 0) : x1 ≠ 1 := by omega
theorem q_324d2e55e5 {x1 x2 : Int} (h0 : x1 = 0) (h1 : x2 = 0) : x2 = x1 := by omega
theorem q_09d314a96c {x1 x2 : Int} (h0 : 1 = x1) (h1 : x2 = 1) : x2 = x1 := by omega
theorem q_77a4a34311 {x1 x2 x3 x4 : Int} (h0 : x1 = x2) (h1 : x3 = x2 + x4) : x3 = x1 + x4 := by omega
theorem q_b485ccbcd0 {x1 x2 : Int} (h0 : x1 = x2) : ((1 = 1) ∧ (x1 = x2)) ∨ ((1 = 0) ∧ (x1 ≠ x2)) := by omega
theorem q_09c5cf1202 {x1 x2 : Int} (h0 : 0 = x1) (h1 : x2 = 0) : x2 = x1 := by omega
theorem q_d82c26df7c {x1 x2 : Int} (h0 : x1 = x2) (h1 : x2 = 1) : x1 = 1 := by omega
theorem q_f23c6e8e00 {x1 x2 : Int} (h0 : x1 ≠ 0) (h1 : -x1 ≤ 0) (h2 : x2 = x1) : x2 ≠ 0 := by omega
theorem q_530e47224a {x1 x2 x3 : Int} (h0 : x1 ≠ 0) (h1 : -x1 ≤ 0) (h2 : x2 = x1) (h3 : x2 = 0) : -x3 - 1 ≤ 0 := by omega
theorem q_9240dd55cf {x1 x2 x3 : Int} (h0 : -x1 + 1 ≤ 0) (h1 : x2 = 0) (h2 : x2 = x1) : x3 ≤ 0 := by omega
theorem q_e984b62faf {x1 : Int} (h0 : x1 = 4) : -x1 - 1 ≤ 0 := by omega
theorem q_23692e05a7 {x1 x2 x3 : Int} (h0 : x1 = x2) (h1 : -x2 ≤ 0) (h2 : x3 = x1) (h3 : x3 = 0) : x1 = 0 := by omega
theorem q_98e69b0339 {x1 x2 x3 : Int} (h0 : -x1 + 1 ≤ 0) (h1 : x2 = x1) (h2 : x2 = 0) : -x3 + 1 ≤ 0 := by omega
theorem q_6a39a9fc00 {x1 x2 : Int} (h0 : -x1 + x2 ≤ 0) (h1 : -x2 + 1 ≤ 0) : -x1 + 1 ≤ 0 := by omega
theorem q_6ba9b433f8 {x1 x2 x3 : Int} (h0 : -x1 + 1 ≤ 0) (h1 : x2 = x1) (h2 : x2 = 0) : x3 ≤ 0 := by omega
theorem q_73733e0e6a {x1 x2 x3 x4 x5 : Int} (h0 : (-x1 + 1 ≤ 0) → ((x2 + 1 ≤ 0) ∧ (-x2 - 1 ≤ 0))) (h1 : -x1 + x3 ≤ 0) (h2 : -x3 + 1 ≤ 0) (h3 : x4 - x2 ≤ 0) (h4 : x4 = 2) : x5 ≤ 0 := by omega
theorem q_135985417e {x1 : Int} (h0 : x1 = 3) : -x1 - 1 ≤ 0 := by omega
theorem q_75573f13bf {x1 x2 : Int} (h0 : x1 - x2 ≤ 0) (h1 : x2 = 4) : x1 - 4 ≤ 0 := by omega
theorem q_235cbafc81 {x1 x2 x3 x4 x5 x6 x7 x8 x9 : Int} (h0 : -x1 ≤ 0) (h1 : (x2 ≤ 0) → ((x3 - x4 ≤ 0) ∧ (x4 - x5 ≤ 0))) (h2 : (-x2 + 1 ≤ 0) → ((x4 + 1 ≤ 0) ∧ (-x4 - 1 ≤ 0))) (h3 : x3 = 2) (h4 : (-x1 + 1 ≤ 0) → ((x6 + 1 ≤ 0) ∧ (-x6 - 1 ≤ 0))) (h5 : (x1 ≤ 0) → ((x7 - x6 ≤ 0) ∧ (x6 - x8 ≤ 0))) (h6 : -x4 - 1 ≤ 0) (h7 : x7 = 1) (h8 : -x1 + x9 ≤ 0) (h9 : -x9 + x2 ≤ 0) : -x4 - x1 ≤ 0 := by omega
theorem q_b2d8212733 {x1 x2 x3 x4 x5 x6 x7 : Int} (h0 : x1 = 0) (h1 : x2 = x3) (h2 : x2 = 0) (h3 : x4 = x5) (h4 : x4 = 0) (h5 : x6 = x7) (h6 : x6 = 0) : ((x1 = 1) ∧ ((x3 = 1) ∨ ((x5 = 1) ∨ (x7 = 1)))) ∨ ((x1 = 0) ∧ ((x3 = 0) ∧ ((x5 = 0) ∧ (x7 = 0)))) := by omega
theorem q_2527cbf79f {x1 x2 : Int} (h0 : x1 = 1) (h1 : x1 = 0) : x2 = 0 := by omega
theorem q_be837d02e0 {x1 : Int} (h0 : x1 = 1) (h1 : x1 = 0) : -x1 + 1 ≤ 0 := by omega
theorem q_5dca538a36 {x1 x2 x3 x4 : Int} (h0 : x1 = 1) (h1 : x1 = 0) : ((x2 = 1) ∧ (x3 = 0)) ∨ (((x2 = 0) ∧ ((x4 = 1) ∧ (x3 = 1))) ∨ ((x2 = 0) ∧ ((x4 = 0) ∧ (x3 = 2)))) := by omega
theorem q_f96bd5b438 {x1 x2 x3 x4 x5 : Int} (h0 : x1 = 1) (h1 : x2 = x3) (h2 : x2 ≠ 0) (h3 : -x2 ≤ 0) (h4 : x2 - 1 ≤ 0) : ((x1 = 1) ∧ ((x4 = 1) ∨ ((x5 = 1) ∨ (x3 = 1)))) ∨ ((x1 = 0) ∧ ((x4 = 0) ∧ ((x5 = 0) ∧ (x3 = 0)))) := by omega
theorem q_24a54b91bf {x1 x2 x3 x4 x5 : Int} (h0 : x1 = x2) (h1 : x1 = 0) (h2 : x3 = x4) (h3 : x3 = 0) (h4 : x5 = 2) : ((x2 = 1) ∧ (x5 = 0)) ∨ (((x2 = 0) ∧ ((x4 = 1) ∧ (x5 = 1))) ∨ ((x2 = 0) ∧ ((x4 = 0) ∧ (x5 = 2)))) := by omega
theorem q_5ffdc1474e {x1 x2 x3 x4 x5 : Int} (h0 : x1 = 1) (h1 : x2 = x3) (h2 : x2 ≠ 0) (h3 : -x2 ≤ 0) (h4 : x2 - 1 ≤ 0) : ((x1 = 1) ∧ ((x4 = 1) ∨ ((x3 = 1) ∨ (x5 = 1)))) ∨ ((x1 = 0) ∧ ((x4 = 0) ∧ ((x3 = 0) ∧ (x5 = 0)))) := by omega
theorem q_c4ee64f454 {x1 x2 x3 x4 x5 : Int} (h0 : x1 = x2) (h1 : x1 = 0) (h2 : x3 = x4) (h3 : x3 ≠ 0) (h4 : -x3 ≤ 0) (h5 : x3 - 1 ≤ 0) (h6 : x5 = 1) : ((x2 = 1) ∧ (x5 = 0)) ∨ (((x2 = 0) ∧ ((x4 = 1) ∧ (x5 = 1))) ∨ ((x2 = 0) ∧ ((x4 = 0) ∧ (x5 = 2)))) := by omega
theorem q_2462d38059 {x1 x2 x3 x4 x5 : Int} (h0 : x1 = 1) (h1 : x2 = x3) (h2 : x2 ≠ 0) (h3 : -x2 ≤ 0) (h4 : x2 - 1 ≤ 0) : ((x1 = 1) ∧ ((x3 = 1) ∨ ((x4 = 1) ∨ (x5 = 1)))) ∨ ((x1 = 0) ∧ ((x3 = 0) ∧ ((x4 = 0) ∧ (x5 = 0)))) := by omega
theorem q_00507a37db {x1 x2 x3 x4 : Int} (h0 : x1 = x2) (h1 : x1 ≠ 0) (h2 : -x1 ≤ 0) (h3 : x1 - 1 ≤ 0) (h4 : x3 = 0) : ((x2 = 1) ∧ (x3 = 0)) ∨ (((x2 = 0) ∧ ((x4 = 1) ∧ (x3 = 1))) ∨ ((x2 = 0) ∧ ((x4 = 0) ∧ (x3 = 2)))) := by omega
theorem q_7abe03e71a {x1 : Int} (h0 : x1 = 50) : -x1 - 1 ≤ 0 := by omega
theorem q_5d6df0d229 {x1 x2 : Int} (h0 : x1 = x2) (h1 : x2 < 4) : ¬(4 ≤ x1) := by omega
theorem q_57b55acfde {x1 x2 : Int} (h0 : x1 ≠ 0) (h1 : -x1 ≤ 0) (h2 : x2 = x1) : ¬(x2 = 0) := by omega
theorem q_ae2d14d533 {x1 x2 : Int} (h0 : x1 ≠ 0) (h1 : -x1 ≤ 0) (h2 : x2 = x1) (h3 : x2 = 0) : ¬(x2 = 0) := by omega
theorem q_39e281d0cf {x1 x2 : Int} (h0 : x1 - x2 ≤ 0) (h1 : x1 = 0) : 0 ≤ x2 := by omega
theorem q_c47543950c {x1 x2 : Int} (h0 : x1 - x2 ≤ 0) (h1 : x2 = 50) : x1 ≤ 50 := by omega
theorem q_5c99692a5e {x1 x2 : Int} (h0 : x1 = x2) (h1 : 0 ≤ x1) : 0 ≤ x2 := by omega
theorem q_cf6c8ae1e9 {x1 x2 : Int} (h0 : x1 = x2) (h1 : x1 < 4) : x2 < 4 := by omega
theorem q_c15b962208 {x1 x2 : Int} (h0 : x1 = 0) (h1 : -x1 + x2 ≤ 0) (h2 : -x2 + 1 ≤ 0) : -x1 + 1 ≤ 0 := by omega
theorem q_7c897bc128 {x1 x2 x3 : Int} (h0 : x1 = x2 + 1) (h1 : x2 = x3) : x3 + 1 = x1 := by omega
theorem q_4d44302f46 {x1 x2 : Int} (h0 : x1 = x2) (h1 : x1 < 4) : ¬(4 ≤ x2) := by omega
theorem q_a909a51ff5 {x1 x2 : Int} (h0 : x1 = x2) (h1 : 4 ≤ x2) : 4 ≤ x1 := by omega
theorem q_78d9c54eee {x1 x2 : Int} (h0 : x1 = 0) (h1 : x1 = x2) (h2 : -x2 + 1 ≤ 0) : ¬(x1 = 0) := by omega
theorem q_21ba782535 {x1 : Int} (h0 : 0 ≤ x1) : 0 ≤ x1 + 1 := by omega
theorem q_446a9db195 {x1 : Int} (h0 : x1 + 1 < 226) : x1 < 226 := by omega
theorem q_eed4cd1e4b {x1 x2 x3 : Int} (h0 : x1 = x2) (h1 : x3 = x2) : x3 = x1 := by omega
theorem q_68acc5401a {x1 x2 x3 x4 : Int} (h0 : x1 - x2 ≤ 0) (h1 : x1 = 0) (h2 : x2 + 1 ≤ 0) : ((x1 = 1) ∧ ((x3 = 1) ∨ (x4 = 1))) ∨ ((x1 = 0) ∧ ((x3 = 0) ∧ (x4 = 0))) := by omega
theorem q_d636131026 {x1 x2 : Int} (h0 : x1 = x2) (h1 : -x2 + 1 ≤ 0) : ¬(x1 = 0) := by omega
theorem q_ee79c67d8b {x1 x2 x3 x4 : Int} (h0 : x1 = 1) (h1 : x2 = x3) (h2 : x2 ≠ 0) (h3 : -x2 ≤ 0) (h4 : x2 - 1 ≤ 0) : ((x1 = 1) ∧ ((x4 = 1) ∨ (x3 = 1))) ∨ ((x1 = 0) ∧ ((x4 = 0) ∧ (x3 = 0))) := by omega
theorem q_adf9f7a32b {x1 x2 : Int} (h0 : x1 = x2) (h1 : x1 ≤ 11) : x2 - 12 ≤ 0 := by omega
theorem q_1788a9098d {x1 x2 x3 : Int} (h0 : x1 = 0) (h1 : x2 = x3) (h2 : x2 = 0) : x1 = x3 := by omega
theorem q_0aec5b17cb {x1 x2 x3 x4 : Int} (h0 : x1 = 1) (h1 : x2 = x3) (h2 : x2 ≠ 0) (h3 : -x2 ≤ 0) (h4 : x2 - 1 ≤ 0) : ((x1 = 1) ∧ ((x3 = 1) ∨ (x4 = 1))) ∨ ((x1 = 0) ∧ ((x3 = 0) ∧ (x4 = 0))) := by omega
theorem q_8a99f2014a {x1 x2 x3 : Int} (h0 : x1 - x2 ≤ 0) (h1 : x2 = x3 - 1) (h2 : x3 ≤ 4) : x1 < 4 := by omega
theorem q_ecf21fb053 {x1 x2 : Int} (h0 : x1 - x2 ≤ 0) (h1 : x1 = 0) : 10 ≤ 12 + 4 * x2 := by omega
theorem q_c35d78ba61 {x1 x2 x3 : Int} (h0 : x1 - x2 ≤ 0) (h1 : x2 = x3 - 1) (h2 : x3 ≤ 4) : 12 + 4 * x1 < 26 := by omega
theorem q_a2d6595a78 {x1 : Int} (h0 : -x1 - 1 ≤ 0) : 0 ≤ 12 + 4 * x1 := by omega
theorem q_f150f69272 {x1 x2 x3 : Int} (h0 : x1 - x2 ≤ 0) (h1 : x2 = x3 - 1) (h2 : x3 ≤ 4) : 12 + 4 * x1 < 226 := by omega
theorem q_c4326de684 {x1 : Int} (h0 : x1 = 2) : 2 = (Int.toNat (x1)) := by omega
theorem q_2897cdfcec {x1 x2 x3 : Int} (h0 : x1 ≤ x2 - 1) (h1 : x2 = x3) (h2 : x3 ≤ 4) : x1 < 4 := by omega
theorem q_c52d4e6d1e {x1 x2 : Int} (h0 : x1 ≤ x2 - 1) : x1 < x2 := by omega
theorem q_2d21ab1e6c {x1 x2 : Int} (h0 : x1 = x2) (h1 : 0 ≤ x2) : 0 ≤ x1 := by omega
theorem q_8b161d605d {x1 x2 : Int} (h0 : x1 = x2) (h1 : x2 < 12) : x1 ≤ 11 := by omega
theorem q_09c22b40fa {x1 x2 : Int} (h0 : x1 = 0) (h1 : x2 = x1) : ¬(x2 ≠ 0) := by omega
theorem q_babe5b57fd {x1 x2 : Int} (h0 : x1 = x2) (h1 : x2 < 12) : ¬(12 ≤ x1) := by omega
theorem q_4bf99f1336 {x1 x2 : Int} (h0 : x1 = x2) (h1 : x2 = 0) : ¬(x1 ≠ 0) := by omega
theorem q_1e1a7f2189 {x1 x2 : Int} (h0 : x1 = x2) (h1 : 12 ≤ x2) : 12 ≤ x1 := by omega
theorem q_1fb833d7b3 {x1 x2 x3 : Int} (h0 : x1 = 0) (h1 : x1 = x2) (h2 : -x2 + x3 ≤ 0) (h3 : x3 = 3) : ¬(x1 = 0) := by omega
theorem q_e3c834491b {x1 x2 x3 : Int} (h0 : x1 = x2) (h1 : 0 ≤ x2) (h2 : x1 = x3) (h3 : x3 = 0) : x1 = 0 := by omega
theorem q_454ea91654 {x1 x2 x3 x4 : Int} (h0 : x1 ≠ 0) (h1 : -x1 ≤ 0) (h2 : x2 = x1) (h3 : x2 = 0) : x3 = x4 := by omega
theorem q_7531ae8d1a {x1 x2 x3 : Int} (h0 : x1 ≠ 0) (h1 : -x1 ≤ 0) (h2 : x2 = x1) (h3 : x2 = 0) : x3 = -1 := by omega
theorem q_84d73a9aa6 {x1 x2 x3 : Int} (h0 : x1 ≠ 0) (h1 : -x1 ≤ 0) (h2 : x2 = x1) (h3 : x2 = 0) : x3 ≠ 1 := by omega
theorem q_d05eb45c8d {x1 x2 : Int} (h0 : x1 - x2 ≤ 0) (h1 : x2 + 1 ≤ 0) (h2 : x1 = 0) : False := by omega
theorem q_17f86db6e0 {x1 x2 : Int} (h0 : x1 - x2 ≤ 0) (h1 : x1 = 0) : 10 ≤ 13 + 4 * x2 := by omega
theorem q_15c75b3d55 {x1 x2 x3 : Int} (h0 : x1 - x2 ≤ 0) (h1 : x2 = x3 - 1) (h2 : x3 ≤ 4) : 13 + 4 * x1 < 26 := by omega
theorem q_1bf2135cd7 {x1 : Int} (h0 : -x1 - 1 ≤ 0) : 0 ≤ 13 + 4 * x1 := by omega
theorem q_acf046215f {x1 x2 x3 : Int} (h0 : x1 - x2 ≤ 0) (h1 : x2 = x3 - 1) (h2 : x3 ≤ 4) : 13 + 4 * x1 < 226 := by omega
theorem q_81a7511a22 {x1 x2 x3 : Int} (h0 : x1 ≠ -1) (h1 : -1 ≤ x1) (h2 : x2 = x1) : (x2 ≠ -1) ∨ (x3 = 1) := by omega
theorem q_ff7af2fbd3 {x1 x2 x3 : Int} (h0 : x1 = x2) (h1 : -x2 + x3 ≤ 0) (h2 : x3 = 2) : x1 ≠ 0 := by omega
theorem q_d9c1c0f2d8 {x1 x2 x3 : Int} (h0 : x1 = 0) (h1 : x1 = x2) (h2 : -x2 + x3 ≤ 0) (h3 : x3 = 2) : ¬(x1 = 0) := by omega
theorem q_3ea9b2d286 {x1 x2 : Int} (h0 : x1 = x2) (h1 : x1 = 0) : x2 ≠ 1 := by omega
theorem q_cbcd9bbf70 {x1 : Int} (h0 : x1 ≠ 0) (h1 : x1 = 0) : -x1 + 1 ≤ 0 := by omega
theorem q_be0c4221b2 {x1 x2 : Int} (h0 : x1 + 1 ≤ 0) (h1 : x2 - x1 ≤ 0) (h2 : x2 = 0) : False := by omega
theorem q_4a9a3bab54 {x1 x2 x3 : Int} (h0 : x1 = 0) (h1 : x2 + 1 ≤ 0) (h2 : x2 = x3) (h3 : 0 ≤ x3) : (x1 - 1 ≤ 0) ∧ (-x1 + 1 ≤ 0) := by omega
theorem q_5104168655 {x1 x2 x3 x4 : Int} (h0 : x1 + 1 ≤ 0) (h1 : x2 - x1 ≤ 0) (h2 : x2 = 0) : x3 = x4 - 1 := by omega
theorem q_117fe07b36 {x1 x2 : Int} (h0 : x1 + 1 ≤ 0) (h1 : 0 ≤ x2) : x1 ≠ x2 := by omega
theorem q_847b22faba {x1 x2 : Int} (h0 : x1 ≠ 0) (h1 : x1 = 0) : -x2 + 1 ≤ 0 := by omega
theorem q_177442734c {x1 x2 x3 : Int} (h0 : x1 = x2) (h1 : x1 = 0) (h2 : x3 = 0) (h3 : x2 = x3) : x2 = 0 := by omega
theorem q_2656a9fad9 {x1 x2 x3 x4 : Int} (h0 : x1 = x2) (h1 : x2 = x3) : (x1 = x3) ∨ (x4 ≠ -1) := by omega
theorem q_bc4cf70d53 {x1 x2 : Int} (h0 : x1 = x2) (h1 : x1 = 0) : ¬(x2 ≠ 0) := by omega
theorem q_c09aebb141 {x1 x2 x3 : Int} (h0 : x1 ≠ x2) (h1 : x2 = x3) : x1 ≠ x3 := by omega
theorem q_50c52117e6 {x1 x2 x3 x4 : Int} (h0 : x1 ≤ x2 - 1) (h1 : x2 = x3) (h2 : x3 = x4) (h3 : x4 ≤ 4) : x1 < 4 := by omega
theorem q_bb54290c9a {x1 x2 x3 x4 : Int} (h0 : x1 ≤ x2 - 1) (h1 : x2 = x3) (h2 : x3 = x4) (h3 : x4 ≤ 4) : 13 + 4 * x1 < 226 := by omega
theorem q_b82fcfaf81 {x1 x2 x3 x4 : Int} (h0 : x1 ≠ -1) (h1 : -1 ≤ x1) (h2 : x2 = x1) : (x3 = x4) ∨ (x2 ≠ -1) := by omega
theorem q_1df299be7d {x1 x2 x3 : Int} (h0 : x1 = x2) (h1 : x1 ≠ 0) (h2 : -x1 ≤ 0) (h3 : x1 - 1 ≤ 0) : (x3 ≠ -1) ∨ (x2 = 1) := by omega
theorem q_595a12af71 {x1 : Int} (h0 : x1 = 15) : x1 = 15 := by omega
theorem q_d6f92e2b6b {x1 : Int} (h0 : x1 = 15) : -x1 - 1 ≤ 0 := by omega
theorem q_6fdb4a5b21 {x1 x2 : Int} (h0 : x1 - x2 ≤ 0) (h1 : x2 + 1 ≤ 0) (h2 : x1 = 0) : (-x2 ≤ 0) ∧ (x2 - 15 ≤ 0) := by omega
theorem q_67e7eb0afa {x1 x2 x3 x4 : Int} (h0 : x1 ≠ 0) (h1 : -x1 ≤ 0) (h2 : x2 = x1) (h3 : x2 = 0) : (x3 = 0) ∧ (x4 = 2) := by omega
theorem q_6075deff50 {x1 x2 x3 : Int} (h0 : x1 ≠ 0) (h1 : -x1 ≤ 0) (h2 : x2 = x1) (h3 : x2 = 0) : (x2 = 0) ∧ (x3 = 2) := by omega
theorem q_9292b3be67 {x1 x2 : Int} (h0 : x1 = 0) (h1 : x2 = 2) : (x1 = 0) ∧ (x2 = 2) := by omega
theorem q_ccabb0b2c4 {x1 x2 x3 x4 x5 : Int} (h0 : x1 = x2) (h1 : x2 = 0) (h2 : x3 = x4) (h3 : x5 = x4) (h4 : x5 = 2) : (x1 = 0) ∧ (x3 = 2) := by omega
theorem q_7f8afd14a3 {x1 x2 : Int} (h0 : x1 - x2 ≤ 0) (h1 : x2 = 15) : x1 ≤ 15 := by omega
theorem q_d522d15adf {x1 x2 : Int} (h0 : (x1 = 0) → (0 ≤ x2)) (h1 : x1 = 0) : 0 ≤ x2 := by omega
theorem q_59c2c892c6 {x1 x2 : Int} (h0 : x1 = x2) (h1 : x2 ≤ 15) : x1 - 15 ≤ 0 := by omega
theorem q_57a5ca172d {x1 x2 x3 : Int} (h0 : x1 - x2 ≤ 0) (h1 : x1 = 0) (h2 : x2 = x3) (h3 : x3 ≤ 15) : (-x2 ≤ 0) ∧ (x2 - 15 ≤ 0) := by omega
theorem q_84f4eeda74 {x1 x2 x3 : Int} (h0 : (x1 = 0) → (x2 = 1)) (h1 : x1 = 0) (h2 : x2 = x3) : x3 = 1 := by omega
theorem q_a9b656fe3f {x1 x2 x3 x4 x5 : Int} (h0 : x1 = x2) (h1 : x1 = 0) (h2 : x3 = x4) (h3 : x5 = x4) (h4 : x5 = 2) : (x2 = 0) ∧ (x3 = 2) := by omega
theorem q_a08c6f1db3 {x1 x2 x3 x4 : Int} (h0 : -x1 + x2 ≤ 0) (h1 : x3 = x1) (h2 : x2 = 2) (h3 : x3 = 0) : x4 = 0 := by omega
theorem q_19df27505f {x1 x2 x3 x4 x5 : Int} (h0 : -x1 + x2 ≤ 0) (h1 : x3 = x1) (h2 : x2 = 2) (h3 : x3 = 0) (h4 : x1 ≠ 0) (h5 : -x1 + 1 ≤ 0) : (x4 = 0) ∧ (x5 = 2) := by omega
theorem q_a4162e68f9 {x1 x2 x3 x4 : Int} (h0 : x1 = 0) (h1 : x1 = x2) (h2 : -x2 + x3 ≤ 0) (h3 : x3 = 2) (h4 : x2 ≠ 0) (h5 : -x2 + 1 ≤ 0) : (x1 = 0) ∧ (x4 = 2) := by omega
theorem q_ded8cce8c4 {x1 x2 : Int} (h0 : x1 + 1 ≤ 0) (h1 : x2 - x1 ≤ 0) (h2 : x2 = 0) : 0 ≤ x1 := by omega
theorem q_609c6783a0 {x1 x2 : Int} (h0 : x1 = x2) (h1 : x2 < 4) : x1 < 4 := by omega
theorem q_4bad2920b0 {x1 x2 : Int} (h0 : x1 = x2) (h1 : 0 ≤ x2) : 0 ≤ 146 + 2 * x1 := by omega
theorem q_f040f435fa {x1 x2 : Int} (h0 : x1 = x2) (h1 : x2 < 4) : 146 + 2 * x1 < 226 := by omega
theorem q_c54adee5ad {x1 x2 x3 : Int} (h0 : 0 ≤ x1) (h1 : x2 = x3) (h2 : x3 = x1) : (Int.toNat x1) = (Int.toNat (x2)) := by omega
theorem q_8e2648b228 {x1 x2 : Int} (h0 : x1 = x2) (h1 : 0 ≤ x2) : 0 ≤ 146 + 2 * x1 + 1 := by omega
theorem q_629348f5ed {x1 x2 : Int} (h0 : x1 = x2) (h1 : x2 < 4) : 146 + 2 * x1 + 1 < 226 := by omega
theorem q_a033c897bc {x1 : Int} (h0 : x1 = 9) : -x1 - 1 ≤ 0 := by omega
theorem q_3e755454b3 {x1 x2 : Int} (h0 : x1 = x2) (h1 : x2 < 6) : ¬(6 ≤ x1) := by omega
theorem q_db9a0aaa67 {x1 x2 : Int} (h0 : x1 - x2 ≤ 0) (h1 : x1 = 1) : 0 ≤ x2 := by omega
theorem q_a10108efbd {x1 x2 : Int} (h0 : x1 = x2) (h1 : x2 < 6) : x1 < 6 := by omega
theorem q_1da383befe {x1 x2 : Int} (h0 : x1 = x2) (h1 : 0 ≤ x2) : 0 ≤ 154 + 2 * x1 := by omega
theorem q_6af91e7cb1 {x1 x2 : Int} (h0 : x1 = x2) (h1 : x2 < 6) : 154 + 2 * x1 < 226 := by omega
theorem q_f399ef5c04 {x1 x2 : Int} (h0 : x1 = x2) (h1 : 6 ≤ x2) : 6 ≤ x1 := by omega
theorem q_a789fa27b0 {x1 x2 x3 x4 : Int} (h0 : x1 + 1 ≤ 0) (h1 : x2 - x1 ≤ 0) (h2 : x2 = 0) (h3 : 0 ≤ x3) (h4 : x4 = x1 + 1) : x4 = x3 + 1 := by omega
theorem q_295c0de65a {x1 x2 x3 x4 x5 : Int} (h0 : x1 = x2 - 1) (h1 : x3 = x2) (h2 : x4 + 1 ≤ 0) (h3 : x5 - x4 ≤ 0) (h4 : x5 = 0) : x1 = x3 - 1 := by omega
theorem q_9201ded2ec {x1 x2 : Int} (h0 : x1 + 1 ≤ x2) (h1 : 0 ≤ x1) : 0 ≤ x2 := by omega
theorem q_98659d5ae9 {x1 x2 x3 : Int} (h0 : x1 ≤ x2 - 1) (h1 : x2 = x3) (h2 : x3 ≤ 6) : x1 < 6 := by omega
theorem q_150b0faa5e {x1 x2 : Int} (h0 : x1 + 1 ≤ x2) (h1 : 0 ≤ x1) : 154 ≤ 155 + 2 * x2 := by omega
theorem q_6f25589a1b {x1 x2 x3 : Int} (h0 : x1 ≤ x2 - 1) (h1 : x2 = x3) (h2 : x3 ≤ 6) : 155 + 2 * x1 < 166 := by omega
theorem q_f10000d037 {x1 x2 x3 : Int} (h0 : x1 ≤ x2 - 1) (h1 : x2 = x3) (h2 : x3 ≤ 6) : 155 + 2 * x1 < 226 := by omega
theorem q_46d7cae196 {x1 x2 x3 x4 : Int} (h0 : x1 = x2) (h1 : x3 = x2) (h2 : x4 + 1 ≤ x2) (h3 : 0 ≤ x4) : (Int.toNat x1) = (Int.toNat (x3)) := by omega
theorem q_455a230cc9 {x1 x2 x3 x4 x5 : Int} (h0 : x1 = x2 + 1) (h1 : x3 ≤ 6) (h2 : x1 - x4 ≤ 0) (h3 : x4 - x5 ≤ 0) (h4 : x5 = x3 - 1) : x2 ≤ 5 := by omega
theorem q_4722d6bc15 {x1 x2 x3 : Int} (h0 : x1 + 1 ≤ 0) (h1 : x2 - x1 ≤ 0) (h2 : x2 = 0) : -x3 + 1 ≤ 0 := by omega
theorem q_aa523e793f {x1 x2 : Int} (h0 : x1 + 1 ≤ x2) (h1 : 0 ≤ x1) : 10 ≤ 155 + 2 * x2 := by omega
theorem q_46219f8613 {x1 x2 x3 x4 x5 : Int} (h0 : x1 = x2 + 1) (h1 : x2 - x3 ≤ 0) (h2 : x4 = x3) (h3 : x4 = x5) (h4 : x5 ≤ 1600) : x1 ≤ 1601 := by omega
theorem q_22845dd982 {x1 x2 x3 x4 : Int} (h0 : x1 = x2 + 1) (h1 : x2 - x3 ≤ 0) (h2 : x4 = x3) (h3 : -x2 + x3 ≤ 0) : x4 + 1 = x1 := by omega
theorem q_9a57a185f3 {x1 x2 x3 x4 x5 x6 : Int} (h0 : x1 = x2 + 1) (h1 : x3 = x4 + 1) (h2 : -x4 + x5 ≤ 0) (h3 : x2 - x5 + x6 ≤ 0) : x1 - x3 + x6 ≤ 0 := by omega
theorem q_0ac7bd1cd9 {x1 x2 x3 x4 x5 x6 : Int} (h0 : x1 = x2 + 1) (h1 : x3 = x4 + 1) (h2 : x4 - x5 ≤ 0) (h3 : -x6 - x2 + x5 ≤ 0) : -x6 - x1 + x3 ≤ 0 := by omega
theorem q_9ddf9968de {x1 x2 x3 : Int} (h0 : x1 = x2 + 1) (h1 : x3 = x2) : (x1 = x2 + 1) ∧ (x3 + 1 = x2 + 1) := by omega
theorem q_fd6720277d {x1 x2 : Int} (h0 : x1 = x2) (h1 : x2 = 3) : x1 = 3 := by omega
theorem q_9bb24b9614 {x1 x2 x3 : Int} (h0 : -x1 + x2 ≤ 0) (h1 : -x3 - x2 ≤ 0) : -x3 - x1 ≤ 0 := by omega
theorem q_f752096d76 {x1 x2 x3 : Int} (h0 : -x1 + 1 ≤ 0) (h1 : x2 = 0) (h2 : -x3 - x2 ≤ 0) : -x3 - x1 ≤ 0 := by omega
theorem q_68b4389ff1 {x1 : Int} : (x1 - x1 ≤ 0) ∧ (-x1 + x1 ≤ 0) := by omega
theorem q_a9162359ad {x1 x2 : Int} (h0 : x1 = 0) (h1 : -x2 ≤ 0) : -x2 - x1 ≤ 0 := by omega
theorem q_70193772ad {x1 x2 : Int} (h0 : x1 = 0) : x1 - x2 + x2 ≤ 0 := by omega
theorem q_5abeeef05c {x1 x2 : Int} (h0 : x1 = 0) : -x2 - x1 + x2 ≤ 0 := by omega
theorem q_9ab7013364 {x1 x2 x3 : Int} (h0 : x1 ≠ x2) (h1 : x1 = x3) : x3 ≠ x2 := by omega
theorem q_6aeb8f39ce {x1 : Int} (h0 : x1 ≤ 16) : x1 ≤ 30 := by omega
theorem q_9f8ced71a0 {x1 x2 : Int} (h0 : x1 = x2) (h1 : x2 ≤ 32768) : x1 ≤ 65535 := by omega
theorem q_227fb2011d {x1 x2 x3 : Int} (h0 : x1 = x2) (h1 : x2 < x3) (h2 : x3 = 65536) : x1 ≤ 65535 := by omega
theorem q_92d0d2f668 {x1 : Int} (h0 : x1 ≤ 80) (h1 : 81 ≤ x1) : False := by omega
theorem q_080070e6d5 {x1 x2 : Int} (h0 : (x1 ≠ 0) → (x2 = 0)) (h1 : (x1 = 0) → (x2 = 1)) (h2 : 0 ≤ x1) (h3 : x1 ≠ 0) : x2 = 0 := by omega
theorem q_3d03bff604 {x1 x2 : Int} (h0 : x1 = 0) (h1 : 0 ≤ x2) : x1 - x2 - 1 ≤ 0 := by omega
theorem q_92da5bf787 {x1 : Int} (h0 : x1 ≤ 4) : x1 ≤ 30 := by omega
theorem q_1ef955e832 {x1 x2 : Int} (h0 : x1 = x2) (h1 : x2 ≤ 16) : x1 ≤ 16 := by omega
theorem q_3431e9be85 {x1 x2 : Int} (h0 : x1 < x2) (h1 : x2 - x1 - 1 ≤ 0) : x2 = x1 + 1 := by omega
theorem q_e17d4ea60b {x1 x2 x3 : Int} (h0 : x1 < x2) (h1 : x2 = x3) (h2 : x3 ≤ 16) : x1 ≤ 15 := by omega
theorem q_de592af7ee {x1 x2 x3 x4 : Int} (h0 : x1 = x2 + 1) (h1 : x2 < x3) (h2 : x3 = x4) (h3 : x4 ≤ 16) : x1 ≤ 16 := by omega
theorem q_ca2c16d1b2 {x1 x2 : Int} (h0 : x1 = x2) (h1 : 1 ≤ x2) : 0 ≤ x1 := by omega
theorem q_2301251086 {x1 x2 : Int} : x1 - x2 = x1 - x2 := by omega
theorem q_805540dc3e {x1 x2 x3 : Int} (h0 : 8 * x1 - x2 - 8 * x3 + 24 ≤ 0) (h1 : x2 + 8 * x3 - 8 * x1 - 24 ≤ 0) : x2 = 24 - 8 * (x3 - x1) := by omega
theorem q_9d81620b4b {x1 x2 x3 : Int} (h0 : 8 * x1 - x2 - 8 * x3 + 24 ≤ 0) (h1 : x2 ≤ 24) : 0 ≤ x3 - x1 := by omega
theorem q_c49a9ec1a4 {x1 x2 x3 : Int} (h0 : x1 + 8 * x2 - 8 * x3 - 24 ≤ 0) (h1 : 0 ≤ x1) : x2 - x3 ≤ 3 := by omega
theorem q_b9dc873e80 {x1 x2 : Int} : x1 = x2 + (x1 - x2) := by omega
theorem q_d565b18410 {x1 x2 x3 : Int} (h0 : x1 = x2 + 1) : x1 - x3 = x2 - x3 + 1 := by omega
theorem q_3d5cf09218 {x1 x2 : Int} (h0 : x1 = 24) : x1 + 8 * x2 - 8 * x2 - 24 ≤ 0 := by omega
theorem q_d7b10a56d5 {x1 x2 : Int} (h0 : x1 = 24) : 8 * x2 - x1 - 8 * x2 + 24 ≤ 0 := by omega
theorem q_15757f85f8 {x1 : Int} : x1 - x1 = 0 := by omega
theorem q_6f61c1a31d {x1 : Int} (h0 : x1 < 0) : (x1 < 0) ∨ (2 < x1) := by omega
theorem q_abfa98c663 {x1 x2 : Int} (h0 : x1 < 0) : (x1 < 0) ∨ ((2 < x1) ∨ (x2 = 0)) := by omega
theorem q_e3cbcd8e5d {x1 : Int} (h0 : x1 < 3) (h1 : 0 ≤ x1) : (Int.toNat x1) < 3 := by omega
theorem q_be4f147e40 {x1 : Int} (h0 : x1 < 3) : x1 < 3 := by omega
theorem q_43beb155e0 {x1 : Int} (h0 : 3 ≤ x1) : (x1 < 0) ∨ (2 < x1) := by omega
theorem q_a4f6c86315 {x1 x2 : Int} (h0 : 3 ≤ x1) : (x1 < 0) ∨ ((2 < x1) ∨ (x2 = 0)) := by omega
theorem q_8d5ddb67ca {x1 : Int} (h0 : x1 - 3 ≤ 0) : x1 < 4 := by omega
theorem q_382253bcd5 {x1 : Int} (h0 : -x1 ≤ 0) : 10 ≤ 13 + 4 * x1 := by omega
theorem q_ba6cc6d49c {x1 : Int} (h0 : x1 - 3 ≤ 0) : 13 + 4 * x1 < 26 := by omega
theorem q_1c4c3f73fc {x1 : Int} (h0 : -x1 ≤ 0) : 0 ≤ 13 + 4 * x1 := by omega
theorem q_62d9ce9da4 {x1 : Int} (h0 : x1 - 3 ≤ 0) : 13 + 4 * x1 < 226 := by omega
theorem q_7be328e355 {x1 x2 : Int} (h0 : x1 = 1) (h1 : x2 = 0) : ((x1 = 1) ∧ ((x2 = 0) ∨ (x2 = 1))) ∨ ((x1 = 0) ∧ ((x2 ≠ 0) ∧ (x2 ≠ 1))) := by omega
theorem q_c19f7ca08b {x1 x2 : Int} (h0 : x1 = 0) (h1 : x2 ≠ 0) (h2 : x2 ≠ 1) : ((x1 = 1) ∧ ((x2 = 0) ∨ (x2 = 1))) ∨ ((x1 = 0) ∧ ((x2 ≠ 0) ∧ (x2 ≠ 1))) := by omega
theorem q_bd9a409a27 {x1 x2 : Int} (h0 : x1 = 1) (h1 : x2 = 1) : ((x1 = 1) ∧ ((x2 = 0) ∨ (x2 = 1))) ∨ ((x1 = 0) ∧ ((x2 ≠ 0) ∧ (x2 ≠ 1))) := by omega
theorem q_6d469c2a5b {x1 x2 : Int} (h0 : x1 - x2 - 4 ≤ 0) (h1 : -x1 + x2 + 4 ≤ 0) : 4 = x1 - x2 := by omega
theorem q_2b8e8f4628 {x1 x2 : Int} (h0 : x1 - x2 - 4 ≤ 0) (h1 : -x1 + x2 + 4 ≤ 0) : x2 + 4 = x1 := by omega
theorem q_9cd09e675b {x1 x2 x3 : Int} (h0 : x1 - x2 - 4 ≤ 0) (h1 : x2 - x3 - 4 ≤ 0) (h2 : -x1 + x2 + 4 ≤ 0) (h3 : -x2 + x3 + 4 ≤ 0) : x3 + 8 = x1 := by omega
theorem q_9a46764495 {x1 x2 x3 x4 : Int} (h0 : x1 - x2 - 4 ≤ 0) (h1 : x2 - x3 - 4 ≤ 0) (h2 : x3 - x4 - 4 ≤ 0) (h3 : -x1 + x2 + 4 ≤ 0) (h4 : -x2 + x3 + 4 ≤ 0) (h5 : -x3 + x4 + 4 ≤ 0) : x4 + 12 = x1 := by omega
theorem q_970825857d {x1 x2 x3 x4 x5 : Int} (h0 : x1 - x2 - 4 ≤ 0) (h1 : x2 - x3 - 4 ≤ 0) (h2 : x3 - x4 - 4 ≤ 0) (h3 : x4 - x5 - 4 ≤ 0) (h4 : -x1 + x2 + 4 ≤ 0) (h5 : -x2 + x3 + 4 ≤ 0) (h6 : -x3 + x4 + 4 ≤ 0) (h7 : -x4 + x5 + 4 ≤ 0) : x5 + 16 = x1 := by omega
theorem q_6e29a91d15 {x1 : Int} (h0 : 0 ≤ x1) : 10 ≤ 12 + 4 * x1 := by omega
theorem q_aaaa2c939f {x1 : Int} (h0 : x1 ≤ 3) : 12 + 4 * x1 < 26 := by omega
theorem q_cbe048ef7f {x1 : Int} (h0 : x1 ≤ 3) : 12 + 4 * x1 < 226 := by omega
theorem q_58cf49402e {x1 x2 : Int} (h0 : x1 = x2) (h1 : x1 ≤ 12) : x2 ≤ 12 := by omega
theorem q_66f7d0e86a {x1 x2 : Int} (h0 : -x1 + x2 + 1 ≤ 0) (h1 : x1 - x2 - 1 ≤ 0) : x1 = x2 + 1 := by omega
theorem q_96492c9dfd {x1 x2 x3 x4 x5 x6 : Int} (h0 : ((x1 = 1) ∧ ((0 < x2) ∧ ((0 ≤ x3) ∧ (x3 < x4)))) ∨ ((x1 = 0) ∧ ((x2 ≤ 0) ∨ ((x3 < 0) ∨ (x4 ≤ x3))))) (h1 : x1 = 0) (h2 : x5 = x2) (h3 : 0 < x5) (h4 : 0 ≤ x3) (h5 : x3 < x6) (h6 : x6 = x4) : False := by omega
theorem q_c985511048 {x1 x2 : Int} (h0 : ((x1 = 1) ∧ ((x2 = 0) ∨ (x2 = 1))) ∨ ((x1 = 0) ∧ ((x2 ≠ 0) ∧ (x2 ≠ 1)))) (h1 : x1 = 0) (h2 : 0 ≤ x2) (h3 : x2 ≤ 1) : False := by omega
theorem q_466b301702 {x1 x2 x3 : Int} (h0 : x1 - x2 + 1 ≤ 0) (h1 : x3 = x2) : x1 < x3 := by omega
theorem q_493efe2cb9 {x1 x2 x3 x4 x5 : Int} (h0 : ((x1 = 1) ∧ ((0 < x2) ∧ ((0 ≤ x3) ∧ (x3 < x4)))) ∨ ((x1 = 0) ∧ ((x2 ≤ 0) ∨ ((x3 < 0) ∨ (x4 ≤ x3))))) (h1 : x5 = x4) (h2 : x1 ≠ 0) (h3 : -x1 ≤ 0) : x3 < x5 := by omega
theorem q_10d71e5472 {x1 x2 x3 : Int} (h0 : x1 - x2 + 1 ≤ 0) (h1 : x3 = x2) : x1 - x3 + 1 ≤ 0 := by omega
theorem q_6d22ed47f7 {x1 : Int} (h0 : -x1 ≤ 0) : 10 ≤ 12 + 4 * x1 := by omega
theorem q_5b707eb5f4 {x1 : Int} (h0 : x1 - 3 ≤ 0) : 12 + 4 * x1 < 26 := by omega
theorem q_5dbedad6a8 {x1 : Int} (h0 : -x1 ≤ 0) : 0 ≤ 12 + 4 * x1 := by omega
theorem q_0eebe16c6b {x1 : Int} (h0 : x1 - 3 ≤ 0) : 12 + 4 * x1 < 226 := by omega
theorem q_87beaf67f3 {x1 x2 : Int} (h0 : x1 < x2) (h1 : x2 ≤ 12) : x1 < 12 := by omega
theorem q_8e4ea5d59c {x1 x2 : Int} (h0 : 0 ≤ x1) (h1 : -x2 ≤ 0) : 0 ≤ 26 + 24 * x2 + 2 * x1 := by omega
theorem q_4533a86dc2 {x1 x2 : Int} (h0 : x1 ≤ 12) (h1 : x2 - 3 ≤ 0) : 26 + 24 * x2 + 2 * x1 < 226 := by omega
theorem q_79d89e2a32 {x1 x2 : Int} (h0 : 0 ≤ x1) (h1 : x2 = x1) : (Int.toNat x1) = (Int.toNat (x2)) := by omega
theorem q_4c0a844662 {x1 x2 : Int} (h0 : 0 ≤ x1) (h1 : -x2 ≤ 0) : 0 ≤ 26 + 24 * x2 + 2 * x1 + 1 := by omega
theorem q_82874cb883 {x1 x2 : Int} (h0 : x1 ≤ 12) (h1 : x2 - 3 ≤ 0) : 26 + 24 * x2 + 2 * x1 + 1 < 226 := by omega
theorem q_a0764cdbc0 {x1 x2 : Int} (h0 : -x1 + x2 - 1 ≤ 0) (h1 : x1 - x2 + 1 ≤ 0) : x1 = x2 - 1 := by omega
theorem q_7d26572085 {x1 x2 x3 : Int} (h0 : x1 < x2) (h1 : x2 - x3 ≤ 0) : x1 < x3 := by omega
theorem q_9114e958d1 {x1 x2 x3 : Int} (h0 : 0 ≤ x1) (h1 : x2 ≠ 0) (h2 : x2 = x3) (h3 : x3 = 0) : x1 = -4 := by omega
theorem q_25e70accc1 {x1 x2 x3 : Int} (h0 : (x1 = 0) → (x2 = x3)) (h1 : x1 = 0) : x3 = x2 := by omega
theorem q_93a92eb35f {x1 x2 : Int} (h0 : x1 = x2) (h1 : x2 < 12) : x1 < 12 := by omega
theorem q_708c3f68a0 {x1 x2 : Int} (h0 : x1 = x2) (h1 : x2 < 60) : x1 < 60 := by omega
theorem q_c2414470fa {x1 x2 x3 : Int} (h0 : -x1 + x2 + 1 ≤ 0) (h1 : x3 = x2) (h2 : x1 - x2 - 1 ≤ 0) : x1 = x3 + 1 := by omega
theorem q_e56392348a {x1 : Int} (h0 : x1 < 12) : x1 < 12 := by omega
theorem q_a85447a2f1 {x1 : Int} (h0 : x1 < 60) : x1 < 60 := by omega
theorem q_2435625c22 {x1 x2 : Int} (h0 : x1 < 60) (h1 : 60 ≤ x2) (h2 : x1 = x2) : False := by omega
theorem q_ffd089d7ca {x1 x2 : Int} (h0 : x1 = x2) (h1 : 60 ≤ x2) : 60 ≤ x1 := by omega
theorem q_2a4cdb83e8 {x1 x2 : Int} (h0 : x1 < 12) (h1 : 12 ≤ x2) (h2 : x1 = x2) : False := by omega
theorem q_f9af3acb4d {x1 : Int} (h0 : -x1 ≤ 0) : 10 ≤ 11 + 4 * x1 := by omega
theorem q_2a3e75215a {x1 : Int} (h0 : x1 - 3 ≤ 0) : 11 + 4 * x1 < 26 := by omega
theorem q_9bf92c1d9a {x1 : Int} (h0 : -x1 ≤ 0) : 0 ≤ 11 + 4 * x1 := by omega
theorem q_194cfe03cb {x1 : Int} (h0 : x1 - 3 ≤ 0) : 11 + 4 * x1 < 226 := by omega
theorem q_e05a4032a9 {x1 x2 : Int} (h0 : x1 - 1 ≤ 0) (h1 : x1 ≠ 0) (h2 : -x1 ≤ 0) : 11 + 4 * x2 = 10 + 4 * x2 + x1 := by omega
theorem q_340d14a6a9 {x1 : Int} (h0 : -x1 ≤ 0) : 10 ≤ 10 + 4 * x1 := by omega
theorem q_87c43ff325 {x1 : Int} (h0 : x1 - 3 ≤ 0) : 10 + 4 * x1 < 26 := by omega
theorem q_de0a6499fa {x1 : Int} (h0 : -x1 ≤ 0) : 0 ≤ 10 + 4 * x1 := by omega
theorem q_0222358eb5 {x1 : Int} (h0 : x1 - 3 ≤ 0) : 10 + 4 * x1 < 226 := by omega
theorem q_dd1386e005 {x1 : Int} (h0 : x1 = 1) : 1 = (Int.toNat (x1)) := by omega
theorem q_6e5b3f20c0 {x1 x2 : Int} (h0 : ((x1 - 1 ≤ 0) ∧ (-x1 + 1 ≤ 0)) → ((-x2 ≤ 0) ∧ (x2 - 2 ≤ 0))) (h1 : x1 - 1 ≤ 0) (h2 : x1 ≠ 0) (h3 : -x1 ≤ 0) : 0 ≤ x2 := by omega
theorem q_796a713934 {x1 x2 : Int} (h0 : ((x1 - 1 ≤ 0) ∧ (-x1 + 1 ≤ 0)) → ((-x2 ≤ 0) ∧ (x2 - 2 ≤ 0))) (h1 : x1 - 1 ≤ 0) (h2 : x1 ≠ 0) (h3 : -x1 ≤ 0) : x2 ≤ 2 := by omega
theorem q_a97003fb0b {x1 x2 : Int} (h0 : x1 = 0) : 10 + 4 * x2 = 10 + 4 * x2 + x1 := by omega
theorem q_eb6c276d2e {x1 x2 : Int} (h0 : x1 = x2 - 1) (h1 : x2 ≤ 60) : x1 < 60 := by omega
theorem q_02054ab1e2 {x1 : Int} (h0 : 0 < x1) : 0 ≤ x1 - 1 := by omega
theorem q_0955510df9 {x1 : Int} (h0 : x1 ≤ 60) : x1 - 1 < 60 := by omega
theorem q_fafa88d5cc {x1 : Int} (h0 : 0 < x1) : 166 ≤ 166 + (x1 - 1) := by omega
theorem q_34f238947f {x1 x2 : Int} (h0 : x1 = x2) : 166 + (x2 - 1) - 166 < x1 := by omega
theorem q_920c47e104 {x1 : Int} (h0 : 0 < x1) : 0 ≤ 166 + (x1 - 1) := by omega
theorem q_b103d8a89c {x1 : Int} (h0 : x1 ≤ 60) : 166 + (x1 - 1) < 226 := by omega
theorem q_866e53b9d5 {x1 x2 x3 : Int} (h0 : x1 = x2 - 1) (h1 : 0 < x2) (h2 : x3 = x2 - 1) : (Int.toNat x1) = (Int.toNat (x3)) := by omega
theorem q_a06b50da1e {x1 x2 : Int} (h0 : x1 = x2) : x2 - 1 < x1 := by omega
theorem q_8b52c73b7a {x1 x2 : Int} (h0 : x1 = x2) (h1 : -x2 + 1 ≤ 0) : ¬(x1 ≤ 0) := by omega
theorem q_42b2d62fac {x1 x2 : Int} (h0 : x1 = x2) (h1 : 0 < x2) : ¬(x1 ≤ 0) := by omega
theorem q_bebb93df0f {x1 x2 : Int} (h0 : x1 = x2) (h1 : x2 ≤ 0) : x1 ≤ 0 := by omega
theorem q_ef6c6b7365 {x1 x2 x3 : Int} (h0 : (-x1 + 1 ≤ 0) → (-x2 + 1 ≤ 0)) (h1 : x3 = x1) (h2 : x2 = 0) : x3 ≤ 0 := by omega
end
