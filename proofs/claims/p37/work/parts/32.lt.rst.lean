/-! rests -/
section RST
variable {w w' : Int → Int} {P : Int → Prop} {k o D : Int → Int}
theorem or_ltK {x q : Int} (n : Nat) (x0 : 0 ≤ x) (x1 : x < pI (n : Int)) (hq : q = pI (n : Int)) : oN x q < pI ((n : Int) + 1) := by
  have p := pI_pos (n : Int)
  have s := pI_s (Y := (n : Int)) (by omega)
  have e : pI ((n : Int) + 1) = ((2 ^ (n + 1) : Nat) : Int) := by
    unfold pI
    rw [show ((n : Int) + 1).toNat = n + 1 by omega]
  have l := oN_lt (X := x) (Y := q) (n + 1) x0 (by omega) (by rw [← e]; omega) (by rw [← e]; omega)
  rw [e]; exact l.2
theorem DOf_ltK (m v : Int) : ∀ n : Nat, n ≤ 16 → DOf m v n < pI (n : Int) := by
  intro n
  induction n with
  | zero => intro _; show (0 : Int) < pI 0; exact Int.lt_of_lt_of_le (by decide) (pI_pos 0)
  | succ n ih =>
    intro h
    have z := ih (by omega)
    have r := DOf_rg m v n (by omega)
    have s := pI_s (Y := (n : Int)) (by omega)
    have p := pI_pos (n : Int)
    show (if aN (n : Int) m = v then oN (DOf m v n) (pI (n : Int)) else DOf m v n) < pI (((n + 1 : Nat)) : Int)
    rw [show (((n + 1 : Nat)) : Int) = (n : Int) + 1 by omega]
    split
    · exact or_ltK n r.1 z rfl
    · omega
theorem LBT_ltK {way n : Int} : ∀ x : Nat, x ≤ 16 → LBT way k o n x < pI (x : Int) := by
  intro x
  induction x with
  | zero => intro _; show (0 : Int) < pI 0; exact Int.lt_of_lt_of_le (by decide) (pI_pos 0)
  | succ x ih =>
    intro h
    have z := ih (by omega)
    have r := LBT_rg (way := way) (k := k) (o := o) (n := n) x (by omega)
    have s := pI_s (Y := (x : Int)) (by omega)
    have p := pI_pos (x : Int)
    show (if BYL way k n (x : Int) ≠ -1 ∧ o (BYL way k n (x : Int)) = 1 then oN (LBT way k o n x) (pI (x : Int)) else LBT way k o n x) < pI (((x + 1 : Nat)) : Int)
    rw [show (((x + 1 : Nat)) : Int) = (x : Int) + 1 by omega]
    split
    · exact or_ltK x r.1 z rfl
    · omega
theorem WDw_ltK {d y : Int} (h0 : 0 ≤ w 0) (h4 : w 0 ≤ 4) : WDw w d y < pI (pI (w 0)) := by
  have r := pI_rng h0 h4
  have e : (((pI (w 0)).toNat : Nat) : Int) = pI (w 0) := by omega
  unfold WDw LRN
  split
  · split
    · exact Int.lt_of_lt_of_le (by decide) (pI_pos _)
    · have := DOf_ltK (ruM (pI (w 0)) (FIR (fun i => ASP (ruD (pI (w 0)) i) (lkW w d) (loW w d) (w (12 + 4 * d))) (nR (w 0)).toNat)) (ruV (pI (w 0)) (FIR (fun i => ASP (ruD (pI (w 0)) i) (lkW w d) (loW w d) (w (12 + 4 * d))) (nR (w 0)).toNat)) (pI (w 0)).toNat (by omega)
      rw [e] at this; exact this
  · have := LBT_ltK (way := y) (k := lkW w d) (o := loW w d) (n := w (12 + 4 * d)) (pI (w 0)).toNat (by omega)
    rw [e] at this; exact this
/-- no other knock gains more by that way, by no other way that knock gains less -/
def RSP (w : Int → Int) (d y q : Int) : Prop := (∀ k : Int, 0 ≤ k → k < pI (w 0) → btI (owD w) k = 0 → btI (WDw w d y) k ≤ btI (WDw w d y) q) ∧ ∀ v : Int, 0 ≤ v → v < 3 → btI (WDw w d y) q ≤ btI (WDw w d v) q
def rsP (w : Int → Int) (d y q : Int) : Prop := btI (owD w) q = 0 ∧ RSP w d y q
theorem rsP_own {d y q b : Int} (hb : b = btI (owD w) q) (e : b = 1) : ¬ rsP w d y q := fun h => by have := h.1; omega
/-- where nothing is gained -/
theorem rsP_0 {d y q b x : Int} (h0 : 0 ≤ w 0) (h4 : w 0 ≤ 4) (hq : btI (owD w) q = 0) (hx : x = WDw w d y - aN (WDw w d y) (owD w)) (hb : b = btI x q) (e : b = 0) : rsP w d y q ↔ x = 0 := by
  have a := WDw_rg (w := w) (d := d) (way := y) ⟨h0, h4⟩
  have b' := owD_rg (w := w) h0 h4
  have c := WDw_ltK (w := w) (d := d) (y := y) h0 h4
  have e2 : btI (WDw w d y) q = 0 := by rw [← btI_sub a.1 a.2 b'.1 b'.2 hq, ← hx, ← hb]; exact e
  have s := sub_tb (O := WDw w d y) (D := owD w) a.1 b'.1
  rw [hx]
  constructor
  · intro h
    rw [s]
    intro j hj
    cases z : (owD w).toNat.testBit j with
    | true => rfl
    | false =>
      exfalso
      by_cases l : (j : Int) < pI (w 0)
      · have g := h.2.1 (j : Int) (by omega) l (by rw [btI_tb b'.1, Int.toNat_natCast, z]; rfl)
        rw [e2, btI_tb a.1, Int.toNat_natCast, hj] at g
        simp at g
      · have t : (WDw w d y).toNat.testBit j = false := by
          apply Nat.testBit_lt_two_pow
          have p := pI_mono (X := pI (w 0)) (Y := (j : Int)) (by omega)
          have q : pI (j : Int) = ((2 ^ j : Nat) : Int) := by unfold pI; rw [Int.toNat_natCast]
          omega
        rw [t] at hj; cases hj
  · intro h
    rw [s] at h
    refine ⟨hq, fun k k0 k1 hk => ?_, fun v v0 v3 => ?_⟩
    · rw [e2]
      rw [btI_tb b'.1] at hk
      rw [btI_tb a.1]
      cases z : (WDw w d y).toNat.testBit k.toNat with
      | false => simp
      | true => rw [h _ z] at hk; simp at hk
    · rw [e2]; exact (btI_rng _ _).1
/-- where it gains -/
def NW (w : Int → Int) (d q i : Int) : Prop := ∀ v : Int, 0 ≤ v → v < i → btI (WDw w d v) q = 1
theorem NW_0 {d q i : Int} (h : i = 0) : NW w d q i := fun v v0 v1 => by omega
theorem stl_bit {d y q b x : Int} (h0 : 0 ≤ w 0) (h4 : w 0 ≤ 4) (hq : btI (owD w) q = 0) (hx : x = WDw w d y - aN (WDw w d y) (owD w)) (hb : b = btI x q) : b = btI (WDw w d y) q := by
  have a := WDw_rg (w := w) (d := d) (way := y) ⟨h0, h4⟩
  have b' := owD_rg (w := w) h0 h4
  rw [hb, hx, btI_sub a.1 a.2 b'.1 b'.2 hq]
theorem NW_s {d q i I b : Int} (H : NW w d q i) (hb : b = btI (WDw w d i) q) (e : b ≠ 0) (hI : I = i + 1) : NW w d q I := fun v v0 v1 => by
  have r := btI_rng (WDw w d i) q
  by_cases z : v = i
  · rw [z]; omega
  · exact H v v0 (by omega)
theorem rsP_y {d y q i b : Int} (hq : btI (owD w) q = 0) (hb : b = btI (WDw w d y) q) (e : b ≠ 0) (H : NW w d q i) (hi : 3 ≤ i) : rsP w d y q := by
  have r := btI_rng (WDw w d y) q
  refine ⟨hq, fun k k0 k1 hk => ?_, fun v v0 v3 => ?_⟩
  · have r2 := btI_rng (WDw w d y) k
    omega
  · rw [H v v0 (by omega)]; omega
theorem rsP_n {d y q i b c : Int} (hb : b = btI (WDw w d y) q) (e : b ≠ 0) (hc : c = btI (WDw w d i) q) (i0 : 0 ≤ i) (i3 : i < 3) (z : c = 0) : ¬ rsP w d y q := fun h => by
  have r := btI_rng (WDw w d y) q
  have := h.2.2 i i0 i3
  omega
/-- the model's way -/
def RK1 (w : Int → Int) (d y g i : Int) : Prop := ∀ k : Int, 0 ≤ k → k < i → btI (owD w) k = 0 → btI (WDw w d y) k ≤ g
theorem RK1_0 {d y g i : Int} (h : i = 0) : RK1 w d y g i := fun k k0 k1 => by omega
theorem RK1_n {d y g i I : Int} (H : RK1 w d y g i) (e : btI (owD w) i ≠ 0) (hI : I = i + 1) : RK1 w d y g I := fun k k0 k1 hk => by
  by_cases z : k = i
  · rw [z] at hk; exact absurd hk e
  · exact H k k0 (by omega) hk
theorem RK1_y {d y g i I b : Int} (H : RK1 w d y g i) (hb : b = btI (WDw w d y) i) (e : b ≤ g) (hI : I = i + 1) : RK1 w d y g I := fun k k0 k1 hk => by
  by_cases z : k = i
  · rw [z]; omega
  · exact H k k0 (by omega) hk
def RK2 (w : Int → Int) (d q g i : Int) : Prop := ∀ v : Int, 0 ≤ v → v < i → g ≤ btI (WDw w d v) q
theorem RK2_0 {d q g i : Int} (h : i = 0) : RK2 w d q g i := fun v v0 v1 => by omega
theorem RK2_s {d q g i I b : Int} (H : RK2 w d q g i) (hb : b = btI (WDw w d i) q) (e : g ≤ b) (hI : I = i + 1) : RK2 w d q g I := fun v v0 v1 => by
  by_cases z : v = i
  · rw [z]; omega
  · exact H v v0 (by omega)
theorem RSP_y {d y q g i j : Int} (hg : g = btI (WDw w d y) q) (H : RK1 w d y g i) (hi : pI (w 0) ≤ i) (H2 : RK2 w d q g j) (hj : 3 ≤ j) : RSP w d y q := by
  subst hg
  exact ⟨fun k k0 k1 hk => H k k0 (by omega) hk, fun v v0 v3 => H2 v v0 (by omega)⟩
theorem RSP_1 {d y q g k b : Int} (hg : g = btI (WDw w d y) q) (k0 : 0 ≤ k) (k1 : k < pI (w 0)) (hk : btI (owD w) k = 0) (hb : b = btI (WDw w d y) k) (e : g < b) : ¬ RSP w d y q := fun h => by
  have := h.1 k k0 k1 hk
  omega
theorem RSP_2 {d y q g v b : Int} (hg : g = btI (WDw w d y) q) (v0 : 0 ≤ v) (v3 : v < 3) (hb : b = btI (WDw w d v) q) (e : b < g) : ¬ RSP w d y q := fun h => by
  have := h.2 v v0 v3
  omega
/-- how many -/
noncomputable def RSs (w : Int → Int) (d : Int) : Nat → Int
  | 0 => 0
  | n + 1 => RSs w d n + CNT (rsP w d (n : Int)) (pI (w 0)).toNat
theorem RSs_0 {d x i : Int} (hx : x = 0) (hi : i = 0) : x = RSs w d i.toNat := by subst hx hi; rfl
noncomputable def RSc (w : Int → Int) (d y q : Int) : Int := RSs w d y.toNat + CNT (rsP w d y) q.toNat
theorem RSc_0 {d x y q : Int} (h : x = RSs w d y.toNat) (hq : q = 0) : x = RSc w d y q := by
  subst hq
  show x = RSs w d y.toNat + 0
  omega
theorem RSc_y {d x X y q Q : Int} (q0 : 0 ≤ q) (h : x = RSc w d y q) (e : rsP w d y q) (hX : X = x + 1) (hQ : Q = q + 1) : X = RSc w d y Q := by
  have a := CNT_y (P := rsP w d y) (x := CNT (rsP w d y) q.toNat) (X := CNT (rsP w d y) q.toNat + 1) q0 rfl e rfl hQ
  unfold RSc at h ⊢
  omega
theorem RSc_n {d x X y q Q : Int} (q0 : 0 ≤ q) (h : x = RSc w d y q) (e : ¬ rsP w d y q) (hX : X = x) (hQ : Q = q + 1) : X = RSc w d y Q := by
  have a := CNT_n (P := rsP w d y) (x := CNT (rsP w d y) q.toNat) (X := CNT (rsP w d y) q.toNat) q0 rfl e rfl hQ
  unfold RSc at h ⊢
  omega
theorem RSs_s {d x X y Y q : Int} (y0 : 0 ≤ y) (h : x = RSc w d y q) (hq : q = pI (w 0)) (hX : X = x) (hY : Y = y + 1) : X = RSs w d Y.toNat := by
  subst hq
  rw [tn_s y0 hY]
  show X = RSs w d y.toNat + CNT (rsP w d ((y.toNat : Nat) : Int)) (pI (w 0)).toNat
  rw [tn_c y0, hX]; exact h
theorem CNT_le {P : Int → Prop} : ∀ n : Nat, 0 ≤ CNT P n ∧ CNT P n ≤ (n : Int) := by
  intro n
  induction n with
  | zero => exact ⟨Int.le_refl 0, Int.le_refl 0⟩
  | succ n ih =>
    by_cases z : P (n : Int)
    · have e := CNT_y (P := P) (x := CNT P n) (i := (n : Int)) (I := (n : Int) + 1) (by omega) rfl z rfl rfl
      rw [show ((n : Int) + 1).toNat = n + 1 by omega] at e
      omega
    · have e := CNT_n (P := P) (x := CNT P n) (i := (n : Int)) (I := (n : Int) + 1) (by omega) rfl z rfl rfl
      rw [show ((n : Int) + 1).toNat = n + 1 by omega] at e
      omega
theorem RSs_rg {d : Int} (h0 : 0 ≤ w 0) (h4 : w 0 ≤ 4) : ∀ n : Nat, 0 ≤ RSs w d n ∧ RSs w d n ≤ 16 * (n : Int) := by
  intro n
  induction n with
  | zero => exact ⟨Int.le_refl 0, Int.le_refl 0⟩
  | succ n ih =>
    have p := pI_rng h0 h4
    have c := CNT_le (P := rsP w d (n : Int)) (pI (w 0)).toNat
    show 0 ≤ RSs w d n + CNT (rsP w d (n : Int)) (pI (w 0)).toNat ∧ RSs w d n + CNT (rsP w d (n : Int)) (pI (w 0)).toNat ≤ _
    omega
theorem RSc_rg {d x y q : Int} (h0 : 0 ≤ w 0) (h4 : w 0 ≤ 4) (y0 : 0 ≤ y) (q0 : 0 ≤ q) (h : x = RSc w d y q) : 0 ≤ x ∧ x ≤ 16 * y + q := by
  have a := RSs_rg (d := d) h0 h4 y.toNat
  have c := CNT_le (P := rsP w d y) q.toNat
  unfold RSc at h
  omega
noncomputable def rzR (w : Int → Int) (d : Int) : Int := iR (0 ≤ d ∧ d < w 2) (RSs w d 3)
theorem rzR_y {d r y : Int} (h : 0 ≤ d ∧ d < w 2) (hy : y = 3) (e : r = RSs w d y.toNat) : r = rzR w d := by subst hy; exact iR_y h e
theorem rzR_n {d r : Int} (h : ¬ (0 ≤ d ∧ d < w 2)) (e : r = -2) : r = rzR w d := iR_n h e
theorem rzR_cg {d d' : Int} (h : w' = w) (a : d' = d) : rzR w' d' = rzR w d := by subst h a; rfl
/-- the first -/
def NR2 (w : Int → Int) (d y q : Int) : Prop := (∀ v k : Int, 0 ≤ v → v < y → 0 ≤ k → k < pI (w 0) → ¬ rsP w d v k) ∧ ∀ k : Int, 0 ≤ k → k < q → ¬ rsP w d y k
theorem NR2_0 {d y q : Int} (hy : y = 0) (hq : q = 0) : NR2 w d y q := ⟨fun v k v0 v1 => by omega, fun k k0 k1 => by omega⟩
theorem NR2_s {d y q Q : Int} (H : NR2 w d y q) (e : ¬ rsP w d y q) (hQ : Q = q + 1) : NR2 w d y Q := ⟨H.1, fun k k0 k1 => by
  by_cases z : k = q
  · rw [z]; exact e
  · exact H.2 k k0 (by omega)⟩
theorem NR2_y {d y q Y : Int} (H : NR2 w d y q) (hq : pI (w 0) ≤ q) (hY : Y = y + 1) (Q : Int) (hQ : Q = 0) : NR2 w d Y Q := ⟨fun v k v0 v1 k0 k1 => by
  by_cases z : v = y
  · rw [z]; exact H.2 k k0 (by omega)
  · exact H.1 v k v0 (by omega) k0 k1, fun k k0 k1 => by omega⟩
def RTP (w : Int → Int) (d r : Int) : Prop := (r = -1 ∧ ∀ v k : Int, 0 ≤ v → v < 3 → 0 ≤ k → k < pI (w 0) → ¬ rsP w d v k) ∨ ∃ y q : Int, r = 100 * y + q ∧ 0 ≤ y ∧ y < 3 ∧ 0 ≤ q ∧ q < pI (w 0) ∧ rsP w d y q ∧ NR2 w d y q
theorem RTP_u {d r s : Int} (h0 : 0 ≤ w 0) (h4 : w 0 ≤ 4) (H : RTP w d r) (K : RTP w d s) : r = s := by
  have p := pI_rng h0 h4
  rcases H with ⟨a, b⟩ | ⟨y, q, a, y0, y3, q0, q1, e, n⟩
  · rcases K with ⟨c, _⟩ | ⟨z, t, c, z0, z3, t0, t1, f, m⟩
    · omega
    · exact absurd f (b z t z0 z3 t0 t1)
  · rcases K with ⟨c, g⟩ | ⟨z, t, c, z0, z3, t0, t1, f, m⟩
    · exact absurd e (g y q y0 y3 q0 q1)
    · by_cases l : y = z
      · subst l
        by_cases l2 : q = t
        · omega
        · rcases Int.lt_or_gt_of_ne l2 with l3 | l3
          · exact absurd e (m.2 q q0 l3)
          · exact absurd f (n.2 t t0 l3)
      · rcases Int.lt_or_gt_of_ne l with l3 | l3
        · exact absurd e (m.1 y q y0 l3 q0 q1)
        · exact absurd f (n.1 z t z0 l3 t0 t1)
noncomputable def rtN (w : Int → Int) (d : Int) : Int := @dite Int (∃ r, RTP w d r) (Classical.propDecidable _) (fun h => Classical.choose h) (fun _ => 0)
theorem rtN_of {d r : Int} (h0 : 0 ≤ w 0) (h4 : w 0 ≤ 4) (H : RTP w d r) : r = rtN w d := by
  unfold rtN
  have e : ∃ r, RTP w d r := ⟨r, H⟩
  rw [dif_pos e]
  exact RTP_u h0 h4 H (Classical.choose_spec e)
noncomputable def rtR (w : Int → Int) (d : Int) : Int := iR (0 ≤ d ∧ d < w 2) (rtN w d)
theorem rtR_y {d r y q : Int} (h : 0 ≤ d ∧ d < w 2) (h0 : 0 ≤ w 0) (h4 : w 0 ≤ 4) (y0 : 0 ≤ y) (y3 : y < 3) (q0 : 0 ≤ q) (q1 : q < pI (w 0)) (e : rsP w d y q) (n : NR2 w d y q) (hr : r = 100 * y + q) : r = rtR w d := iR_y h (rtN_of h0 h4 (Or.inr ⟨y, q, hr, y0, y3, q0, q1, e, n⟩))
theorem rtR_0 {d r y q : Int} (h : 0 ≤ d ∧ d < w 2) (h0 : 0 ≤ w 0) (h4 : w 0 ≤ 4) (n : NR2 w d y q) (hy : 3 ≤ y) (hr : r = -1) : r = rtR w d := iR_y h (rtN_of h0 h4 (Or.inl ⟨hr, fun v k v0 v3 => n.1 v k v0 (by omega)⟩))
theorem rtR_n {d r : Int} (h : ¬ (0 ≤ d ∧ d < w 2)) (e : r = -2) : r = rtR w d := iR_n h e
theorem rtR_cg {d d' : Int} (h : w' = w) (a : d' = d) : rtR w' d' = rtR w d := by subst h a; rfl
end RST
