/-! what the owner and the houses say; who is fooled; ways -/
section OWN
variable {w w' : Int → Int} {σ : SG} {k o : Int → Int}
def owD (w : Int → Int) : Int := DOf (w 8) (w 9) (pI (w 0)).toNat
def hoD (w : Int → Int) (h : Int) : Int := DOf (w (146 + 2 * h)) (w (146 + 2 * h + 1)) (pI (w 0)).toNat
theorem owD_of {m v K r : Int} (hm : w 8 = m) (hv : w 9 = v) (hK : K = pI (w 0)) (e : r = DOf m v K.toNat) : r = owD w := by subst hm hv hK; exact e
theorem hoD_of {h m v K r : Int} (hm : w (146 + 2 * h) = m) (hv : w (146 + 2 * h + 1) = v) (hK : K = pI (w 0)) (e : r = DOf m v K.toNat) : r = hoD w h := by subst hm hv hK; exact e
theorem owD_rg (h0 : 0 ≤ w 0) (h4 : w 0 ≤ 4) : 0 ≤ owD w ∧ owD w < 65536 := DOf_rg _ _ _ (by have := pI_rng h0 h4; omega)
theorem owD_cg (h : w' = w) : owD w' = owD w := by subst h; rfl
noncomputable def owR (w : Int → Int) (m v : Int) : Int := iR (rlOK w m v) (owD w)
theorem owR_y {m v r : Int} (h : rlOK w m v) (e : r = owD w) : r = owR w m v := iR_y h e
theorem owR_n {m v r : Int} (h : ¬ rlOK w m v) (e : r = -2) : r = owR w m v := iR_n h e
theorem owR_cg {m m' v v' : Int} (h : w' = w) (a : m' = m) (b : v' = v) : owR w' m' v' = owR w m v := by subst h a b; rfl
/-- whom it opens to, though the owner does not -/
noncomputable def foN (w : Int → Int) (d : Int) : Int := DDw w d - aN (DDw w d) (owD w)
theorem foN_of {d x y r : Int} (hx : x = DDw w d) (hy : y = owD w) (e : r = x - aN x y) : r = foN w d := by subst hx hy; exact e
noncomputable def fdR (w : Int → Int) (d q : Int) : Int := iR (0 ≤ d ∧ d < w 2 ∧ 0 ≤ q ∧ q ≤ 1) (if q = 0 then foN w d else owD w - aN (owD w) (DDw w d))
theorem fdR_0 {d q r : Int} (h : 0 ≤ d ∧ d < w 2 ∧ 0 ≤ q ∧ q ≤ 1) (hq : q = 0) (e : r = foN w d) : r = fdR w d q := iR_y h (by rw [if_pos hq]; exact e)
theorem fdR_1 {d q r x y : Int} (h : 0 ≤ d ∧ d < w 2 ∧ 0 ≤ q ∧ q ≤ 1) (hq : q ≠ 0) (hx : x = DDw w d) (hy : y = owD w) (e : r = y - aN y x) : r = fdR w d q := by
  subst hx hy
  exact iR_y h (by rw [if_neg hq]; exact e)
theorem fdR_n {d q r : Int} (h : ¬ (0 ≤ d ∧ d < w 2 ∧ 0 ≤ q ∧ q ≤ 1)) (e : r = -2) : r = fdR w d q := iR_n h e
theorem fdR_cg {d d' q q' : Int} (h : w' = w) (a : d' = d) (b : q' = q) : fdR w' d' q' = fdR w d q := by subst h a b; rfl
/-- the knock that is nearest, of those to which it opens -/
def TRf (q f : Int) : Int := if f = -1 then 5 else bcI (xN f q)
def TRK (D q : Int) : Nat → Int
  | 0 => -1
  | n + 1 => if btI D (n : Int) = 1 ∧ bcI (xN (n : Int) q) < TRf q (TRK D q n) then (n : Int) else TRK D q n
theorem TRK_s {D q i I : Int} (i0 : 0 ≤ i) (hI : I = i + 1) : TRK D q I.toNat = if btI D i = 1 ∧ bcI (xN i q) < TRf q (TRK D q i.toNat) then i else TRK D q i.toNat := by
  rw [tn_s i0 hI]
  show (if btI D ((i.toNat : Nat) : Int) = 1 ∧ bcI (xN ((i.toNat : Nat) : Int) q) < TRf q (TRK D q i.toNat) then ((i.toNat : Nat) : Int) else TRK D q i.toNat) = _
  rw [tn_c i0]
theorem TRK_0 {D q i f : Int} (hi : i = 0) (hf : f = -1) : f = TRK D q i.toNat := by subst hi hf; rfl
def TRC (D q i f l : Int) : Prop := f = TRK D q i.toNat ∧ l = TRf q f
theorem TRC_0 {D q i f l : Int} (hi : i = 0) (hf : f = -1) (hl : l = 5) : TRC D q i f l := by subst hi hf hl; exact ⟨rfl, rfl⟩
theorem TRC_y {D q i f l b x u I F L : Int} (H : TRC D q i f l) (i0 : 0 ≤ i) (hb : b = btI D i) (b1 : b = 1) (hx : x = xN i q) (hu : u = bcI x) (lt : u < l) (hI : I = i + 1) (hF : F = i) (hL : L = u) : TRC D q I F L := by
  obtain ⟨e, g⟩ := H
  subst hx hu hF hL
  refine ⟨?_, ?_⟩
  · rw [TRK_s i0 hI, ← e, ← g, if_pos ⟨by omega, lt⟩]
  · unfold TRf; rw [if_neg (by omega)]
theorem TRC_n {D q i f l b x u I F L : Int} (H : TRC D q i f l) (i0 : 0 ≤ i) (hb : b = btI D i) (hx : x = xN i q) (hu : u = bcI x) (ng : b ≠ 1 ∨ l ≤ u) (hI : I = i + 1) (hF : F = f) (hL : L = l) : TRC D q I F L := by
  obtain ⟨e, g⟩ := H
  subst hx hu hF hL
  refine ⟨?_, g⟩
  rw [TRK_s i0 hI, ← e, ← g, if_neg (fun z => by omega)]
theorem TRM_0 {D q i f b I F : Int} (h : f = TRK D q i.toNat) (i0 : 0 ≤ i) (hb : b = btI D i) (b1 : b ≠ 1) (hI : I = i + 1) (hF : F = f) : F = TRK D q I.toNat := by
  rw [TRK_s i0 hI, if_neg (fun z => by omega), ← h]; exact hF
theorem TRM_1 {D q i f b I F : Int} (h : f = TRK D q i.toNat) (i0 : 0 ≤ i) (hb : b = btI D i) (b1 : b = 1) (hf : f = -1) (hI : I = i + 1) (hF : F = i) : F = TRK D q I.toNat := by
  have := bcI_rng (xN i q)
  rw [TRK_s i0 hI, ← h]
  unfold TRf
  rw [if_pos hf, if_pos ⟨by omega, by omega⟩]; exact hF
theorem TRM_y {D q i f b u v x y I F : Int} (h : f = TRK D q i.toNat) (i0 : 0 ≤ i) (hb : b = btI D i) (b1 : b = 1) (hf : f ≠ -1) (hx : x = xN i q) (hu : u = bcI x) (hy : y = xN f q) (hv : v = bcI y) (lt : u < v) (hI : I = i + 1) (hF : F = i) : F = TRK D q I.toNat := by
  subst hx hu hy hv
  rw [TRK_s i0 hI, ← h]
  unfold TRf
  rw [if_neg hf, if_pos ⟨by omega, lt⟩]; exact hF
theorem TRM_n {D q i f b u v x y I F : Int} (h : f = TRK D q i.toNat) (i0 : 0 ≤ i) (hb : b = btI D i) (hf : f ≠ -1) (hx : x = xN i q) (hu : u = bcI x) (hy : y = xN f q) (hv : v = bcI y) (ge : v ≤ u) (hI : I = i + 1) (hF : F = f) : F = TRK D q I.toNat := by
  subst hx hu hy hv
  rw [TRK_s i0 hI, ← h]
  unfold TRf
  rw [if_neg hf, if_neg (fun z => by omega)]; exact hF
theorem TRK_rg {D q : Int} : ∀ n : Nat, -1 ≤ TRK D q n ∧ TRK D q n < (n : Int) := by
  intro n
  induction n with
  | zero => exact ⟨Int.le_refl _, by show (-1 : Int) < 0; omega⟩
  | succ n ih =>
    show -1 ≤ (if btI D (n : Int) = 1 ∧ bcI (xN (n : Int) q) < TRf q (TRK D q n) then (n : Int) else TRK D q n) ∧ (if btI D (n : Int) = 1 ∧ bcI (xN (n : Int) q) < TRf q (TRK D q n) then (n : Int) else TRK D q n) < _
    split <;> omega
noncomputable def tkM (w : Int → Int) (d q : Int) : Int := TRK (DDw w d) q (pI (w 0)).toNat
theorem tkM_of {D d q i r : Int} (hD : D = DDw w d) (hi : i = pI (w 0)) (e : r = TRK D q i.toNat) : r = tkM w d q := by subst hD hi; exact e
theorem tkM_rg {d q : Int} : -1 ≤ tkM w d q ∧ tkM w d q < pI (w 0) := by
  have := TRK_rg (D := DDw w d) (q := q) (pI (w 0)).toNat
  have := pI_pos (w 0)
  unfold tkM; omega
noncomputable def tkR (w : Int → Int) (d q : Int) : Int := iR (dkC w d q) (tkM w d q)
theorem tkR_y {d q r : Int} (h : dkC w d q) (e : r = tkM w d q) : r = tkR w d q := iR_y h e
theorem tkR_n {d q r : Int} (h : ¬ dkC w d q) (e : r = -2) : r = tkR w d q := iR_n h e
theorem tkR_cg {d d' q q' : Int} (h : w' = w) (a : d' = d) (b : q' = q) : tkR w' d' q' = tkR w d q := by subst h a b; rfl
noncomputable def tsN (w : Int → Int) (d q : Int) : Int := if tkM w d q = -1 then -1 else bcI (xN (tkM w d q) q)
noncomputable def tsR (w : Int → Int) (d q : Int) : Int := iR (dkC w d q) (tsN w d q)
theorem tsN_0 {d q t r : Int} (ht : t = tkM w d q) (e : t = -1) (hr : r = -1) : r = tsN w d q := by unfold tsN; rw [← ht, if_pos e]; exact hr
theorem tsN_1 {d q t x r : Int} (ht : t = tkM w d q) (e : t ≠ -1) (hx : x = xN t q) (hr : r = bcI x) : r = tsN w d q := by subst hx; unfold tsN; rw [← ht, if_neg e]; exact hr
theorem tsR_y {d q r : Int} (h : dkC w d q) (e : r = tsN w d q) : r = tsR w d q := iR_y h e
theorem tsR_n {d q r : Int} (h : ¬ dkC w d q) (e : r = -2) : r = tsR w d q := iR_n h e
theorem tsR_cg {d d' q q' : Int} (h : w' = w) (a : d' = d) (b : q' = q) : tsR w' d' q' = tsR w d q := by subst h a b; rfl
theorem tkR_ps {d q r : Int} (e : r = tkR w d q) (p : 0 ≤ r) : dkC w d q ∧ r = tkM w d q := by
  by_cases h : dkC w d q
  · exact ⟨h, by rw [e]; unfold tkR iR; rw [if_pos h]⟩
  · exfalso
    have : tkR w d q = -2 := by unfold tkR iR; rw [if_neg h]
    omega
theorem tsR_neg {d q r R : Int} (e : r = tkR w d q) (n : r < 0) (hR : R = r) : R = tsR w d q := by
  by_cases h : dkC w d q
  · have a : tkR w d q = tkM w d q := by unfold tkR iR; rw [if_pos h]
    have b := tkM_rg (w := w) (d := d) (q := q)
    exact tsR_y h (tsN_0 (a ▸ e) (by omega) (by omega))
  · have a : tkR w d q = -2 := by unfold tkR iR; rw [if_neg h]
    exact tsR_n h (by omega)
theorem tsR_pos {d q r x R : Int} (e : r = tkR w d q) (p : 0 ≤ r) (hx : x = xN r q) (hR : R = bcI x) : R = tsR w d q := by
  have a := tkR_ps e p
  exact tsR_y a.1 (tsN_1 a.2 (by omega) hx hR)
/-- not as a house's rule -/
noncomputable def amN (w : Int → Int) (d h : Int) : Int := pcI (xN (DDw w d) (hoD w h))
theorem amN_of {d h x y z r : Int} (hx : x = DDw w d) (hy : y = hoD w h) (hz : z = xN x y) (e : r = pcI z) : r = amN w d h := by subst hx hy hz; exact e
noncomputable def amR (w : Int → Int) (d h : Int) : Int := iR (0 ≤ d ∧ d < w 2 ∧ 0 ≤ h ∧ h < w 4) (amN w d h)
theorem amR_y {d h r : Int} (c : 0 ≤ d ∧ d < w 2 ∧ 0 ≤ h ∧ h < w 4) (e : r = amN w d h) : r = amR w d h := iR_y c e
theorem amR_n {d h r : Int} (c : ¬ (0 ≤ d ∧ d < w 2 ∧ 0 ≤ h ∧ h < w 4)) (e : r = -2) : r = amR w d h := iR_n c e
theorem amR_cg {d d' h h' : Int} (e : w' = w) (a : d' = d) (b : h' = h) : amR w' d' h' = amR w d h := by subst e a b; rfl
/-- the way by which fewest are done amiss -/
noncomputable def wyU (w : Int → Int) (d i : Int) : Int := pcI (xN (WDw w d i) (owD w))
theorem wyU_of {d i x y z r : Int} (hx : x = WDw w d i) (hy : y = owD w) (hz : z = xN x y) (e : r = pcI z) : r = wyU w d i := by subst hx hy hz; exact e
noncomputable def WYB (w : Int → Int) (d : Int) : Nat → Int × Int
  | 0 => (0, 17)
  | n + 1 => if wyU w d (n : Int) < (WYB w d n).2 then ((n : Int), wyU w d (n : Int)) else WYB w d n
theorem WYB_s {d i I : Int} (i0 : 0 ≤ i) (hI : I = i + 1) : WYB w d I.toNat = if wyU w d i < (WYB w d i.toNat).2 then (i, wyU w d i) else WYB w d i.toNat := by
  rw [tn_s i0 hI]
  show (if wyU w d ((i.toNat : Nat) : Int) < (WYB w d i.toNat).2 then (((i.toNat : Nat) : Int), wyU w d ((i.toNat : Nat) : Int)) else WYB w d i.toNat) = _
  rw [tn_c i0]
def WYI (w : Int → Int) (d i f l l0 : Int) : Prop := (i = 0 ∧ l = l0) ∨ (0 < i ∧ f = (WYB w d i.toNat).1 ∧ l = (WYB w d i.toNat).2)
theorem WYI_0 {d i f l l0 : Int} (hi : i = 0) (hl : l = l0) : WYI w d i f l l0 := Or.inl ⟨hi, hl⟩
theorem WYI_y {d i f l l0 v I F L : Int} (H : WYI w d i f l l0) (i0 : 0 ≤ i) (hv : v = wyU w d i) (lt : v < l) (hI : I = i + 1) (hF : F = i) (hL : L = v) : WYI w d I F L l0 := by
  have r := pcI_rng (xN (WDw w d i) (owD w))
  refine Or.inr ⟨by omega, ?_⟩
  have e : wyU w d i < (WYB w d i.toNat).2 := by
    rcases H with ⟨h1, h2⟩ | ⟨h1, h2, h3⟩
    · subst h1
      show wyU w d 0 < 17
      unfold wyU; omega
    · omega
  rw [WYB_s i0 hI, if_pos e]
  exact ⟨hF, by rw [hL]; exact hv⟩
theorem WYI_n {d i f l l0 v I F L : Int} (H : WYI w d i f l l0) (h0 : 17 ≤ l0) (i0 : 0 ≤ i) (hv : v = wyU w d i) (ge : l ≤ v) (hI : I = i + 1) (hF : F = f) (hL : L = l) : WYI w d I F L l0 := by
  have r := pcI_rng (xN (WDw w d i) (owD w))
  have r2 : wyU w d i ≤ 16 := r.2
  rcases H with ⟨h1, h2⟩ | ⟨h1, h2, h3⟩
  · omega
  · refine Or.inr ⟨by omega, ?_⟩
    rw [WYB_s i0 hI, if_neg (by omega)]
    exact ⟨by rw [hF]; exact h2, by rw [hL]; exact h3⟩
noncomputable def wyR (w : Int → Int) (d q : Int) : Int := iR (0 ≤ d ∧ d < w 2 ∧ 0 ≤ q ∧ q ≤ 1) (if q = 0 then (WYB w d 3).1 else (WYB w d 3).2)
theorem wyR_0 {d q r i f l l0 : Int} (h : 0 ≤ d ∧ d < w 2 ∧ 0 ≤ q ∧ q ≤ 1) (hq : q = 0) (H : WYI w d i f l l0) (hi : i = 3) (e : r = f) : r = wyR w d q := by
  subst hi
  rcases H with ⟨h1, h2⟩ | ⟨h1, h2, h3⟩
  · omega
  · exact iR_y h (by rw [if_pos hq, e]; exact h2)
theorem wyR_1 {d q r i f l l0 : Int} (h : 0 ≤ d ∧ d < w 2 ∧ 0 ≤ q ∧ q ≤ 1) (hq : q ≠ 0) (H : WYI w d i f l l0) (hi : i = 3) (e : r = l) : r = wyR w d q := by
  subst hi
  rcases H with ⟨h1, h2⟩ | ⟨h1, h2, h3⟩
  · omega
  · exact iR_y h (by rw [if_neg hq, e]; exact h3)
theorem wyR_n {d q r : Int} (h : ¬ (0 ≤ d ∧ d < w 2 ∧ 0 ≤ q ∧ q ≤ 1)) (e : r = -2) : r = wyR w d q := iR_n h e
theorem wyR_cg {d d' q q' : Int} (h : w' = w) (a : d' = d) (b : q' = q) : wyR w' d' q' = wyR w d q := by subst h a b; rfl
/-- bits without others -/
theorem sub_tbN {a b j : Nat} (ha : a < 4294967296) (hb : b < 4294967296) : (a - (a &&& b)).testBit j = (a.testBit j && !b.testBit j) := by
  have s := bv_sum (BitVec.ofNat 32 a) (BitVec.ofNat 32 b)
  rw [BitVec.toNat_and, BitVec.toNat_ofNat, BitVec.toNat_ofNat, Nat.mod_eq_of_lt ha, Nat.mod_eq_of_lt hb] at s
  have e : a - (a &&& b) = (BitVec.ofNat 32 a &&& (BitVec.ofNat 32 b ^^^ 4294967295#32)).toNat := by omega
  rw [e, BitVec.testBit_toNat, BitVec.getLsbD_and, BitVec.getLsbD_xor]
  rw [← BitVec.testBit_toNat (BitVec.ofNat 32 a), ← BitVec.testBit_toNat (BitVec.ofNat 32 b), BitVec.toNat_ofNat, BitVec.toNat_ofNat, Nat.mod_eq_of_lt ha, Nat.mod_eq_of_lt hb]
  by_cases z : j < 32
  · rw [ones32 j z]
    cases a.testBit j <;> cases b.testBit j <;> rfl
  · have q : a.testBit j = false := Nat.testBit_lt_two_pow (Nat.lt_of_lt_of_le ha (by
      have : 2 ^ 32 ≤ 2 ^ j := Nat.pow_le_pow_right (by decide) (by omega)
      have e : (2 : Nat) ^ 32 = 4294967296 := by decide
      omega))
    rw [q]; rfl
theorem sub_tb2 {x y : Int} (x0 : 0 ≤ x) (x1 : x < 65536) (y1 : y < 65536) (j : Nat) : (x - aN x y).toNat.testBit j = (x.toNat.testBit j && !y.toNat.testBit j) := by
  have e : (x - aN x y).toNat = x.toNat - (x.toNat &&& y.toNat) := by unfold aN; omega
  rw [e]; exact sub_tbN (by omega) (by omega)
theorem btI_sub {x y q : Int} (x0 : 0 ≤ x) (x1 : x < 65536) (y0 : 0 ≤ y) (y1 : y < 65536) (e : btI y q = 0) : btI (x - aN x y) q = btI x q := by
  have l : aN x y ≤ x := (aN_le x0 y0).2.1
  rw [btI_tb (by omega), btI_tb x0, sub_tb2 x0 x1 y1]
  rw [btI_tb y0] at e
  have : y.toNat.testBit q.toNat = false := by
    cases z : y.toNat.testBit q.toNat with
    | false => rfl
    | true => rw [z, if_pos rfl] at e; omega
  rw [this]; simp
/-- what a burglar gains -/
abbrev gmC (w : Int → Int) (d y q : Int) : Prop := 0 ≤ d ∧ d < w 2 ∧ 0 ≤ y ∧ y ≤ 2 ∧ 0 < w 7 ∧ 0 ≤ q ∧ q < pI (w 0) ∧ btI (owD w) q = 0
noncomputable def gmR (w : Int → Int) (d y q : Int) : Int := iR (gmC w d y q) (btI (WDw w d y) q)
theorem gmR_y {d y q r x : Int} (h : gmC w d y q) (hx : x = WDw w d y) (e : r = btI x q) : r = gmR w d y q := by subst hx; exact iR_y h e
theorem gmR_s {d y q r x : Int} (h : gmC w d y q) (h0 : 0 ≤ w 0) (h4 : w 0 ≤ 4) (hx : x = WDw w d y - aN (WDw w d y) (owD w)) (e : r = btI x q) : r = gmR w d y q := by
  have a := WDw_rg (w := w) (d := d) (way := y) ⟨h0, h4⟩
  have b := owD_rg (w := w) h0 h4
  subst hx
  rw [btI_sub a.1 a.2 b.1 b.2 h.2.2.2.2.2.2.2] at e
  exact iR_y h e
theorem gmR_n {d y q r : Int} (h : ¬ gmC w d y q) (e : r = -2) : r = gmR w d y q := iR_n h e
theorem gmR_cg {d d' y y' q q' : Int} (h : w' = w) (a : d' = d) (b : y' = y) (c : q' = q) : gmR w' d' y' q' = gmR w d y q := by subst h a b c; rfl
theorem btI_cg {x y q : Int} (h : x = y) : btI x q = btI y q := by subst h; rfl
/-! exams that no door does right -/
theorem AAS_ext {P : Int → Prop} {n : Nat} {x : Int} (x0 : 0 ≤ x) (h : ∀ j : Nat, x.toNat.testBit j = true ↔ j < n ∧ P (j : Int)) : x = AAS P n := by
  have b := AAS_bit (P := P) n
  have e : x.toNat = (AAS P n).toNat := by
    apply Nat.eq_of_testBit_eq
    intro j
    have h1 := h j
    have h2 := b.2 j
    cases y : x.toNat.testBit j with
    | true =>
      rw [y] at h1
      exact (h2.mpr (h1.mp rfl)).symm
    | false =>
      cases z : (AAS P n).toNat.testBit j with
      | false => rfl
      | true =>
        have := h1.mpr (h2.mp z)
        rw [y] at this; cases this
  omega
theorem AAS_lt {P : Int → Prop} (n : Nat) (h : n ≤ 16) : AAS P n < 65536 := by
  have : ∀ m : Nat, m ≤ 16 → 0 ≤ AAS P m ∧ AAS P m < 65536 := by
    intro m
    induction m with
    | zero => intro _; exact ⟨Int.le_refl 0, by show (0 : Int) < 65536; omega⟩
    | succ m ih =>
      intro l
      have z := ih (by omega)
      have p := pI16 (x := (m : Int)) (by omega)
      show 0 ≤ @ite _ (P (m : Int)) (Classical.propDecidable _) (oN (AAS P m) (pI (m : Int))) (AAS P m) ∧ @ite _ (P (m : Int)) (Classical.propDecidable _) (oN (AAS P m) (pI (m : Int))) (AAS P m) < 65536
      split
      · exact or16 z.1 z.2 (by omega) p.2
      · exact z
  exact (this n h).2
theorem AAS_all {n x : Int} (n0 : 0 ≤ n) {P : Int → Prop} (hP : ∀ j : Int, P j) (hx : x = pI n - 1) : x = AAS P n.toNat := by
  have p := pI_pos n
  refine AAS_ext (by omega) (fun j => ?_)
  have e : x.toNat = 2 ^ n.toNat - 1 := by rw [hx]; unfold pI; omega
  rw [e, Nat.testBit_two_pow_sub_one, decide_eq_true_eq]
  exact ⟨fun h => ⟨h, hP _⟩, fun h => h.1⟩
theorem AAS_sub {P Q R : Int → Prop} {n : Nat} {x y X : Int} (h : n ≤ 16) (hx : x = AAS P n) (hy : y = AAS Q n) (hX : X = x - aN x y) (hR : ∀ j : Int, 0 ≤ j → j < (n : Int) → (R j ↔ P j ∧ ¬ Q j)) : X = AAS R n := by
  have bx := AAS_bit (P := P) n
  have bY := AAS_bit (P := Q) n
  have lx := AAS_lt (P := P) n h
  have ly := AAS_lt (P := Q) n h
  subst hx hy
  have l := aN_le bx.1 bY.1
  refine AAS_ext (by omega) (fun j => ?_)
  rw [hX, sub_tb2 bx.1 lx ly, Bool.and_eq_true, bx.2 j]
  have e : (!(AAS Q n).toNat.testBit j) = true ↔ ¬ (j < n ∧ Q (j : Int)) := by
    rw [← bY.2 j]
    cases (AAS Q n).toNat.testBit j <;> simp
  rw [e]
  constructor
  · rintro ⟨⟨h1, h2⟩, h3⟩
    exact ⟨h1, (hR j (by omega) (by omega)).mpr ⟨h2, fun q => h3 ⟨h1, q⟩⟩⟩
  · rintro ⟨h1, h2⟩
    have := (hR j (by omega) (by omega)).mp h2
    exact ⟨⟨h1, this.1⟩, fun q => this.2 q.2⟩
theorem AAS_one {e : Int} {n : Nat} (e0 : 0 ≤ e) (l : e < (n : Int)) : pI e = AAS (fun j => j = e) n := by
  have p := pI_pos e
  refine AAS_ext (by omega) (fun j => ?_)
  have q : (pI e).toNat = 2 ^ e.toNat := by unfold pI; rw [Int.toNat_natCast]
  rw [q, Nat.testBit_two_pow, decide_eq_true_eq]
  constructor
  · intro h; exact ⟨by omega, by omega⟩
  · intro h; omega
def hrQ (w : Int → Int) (i j : Int) : Prop := ∀ d : Int, 0 ≤ d → d < i → ¬ RIG (DDw w d) (exK w) (exO w) j
theorem hrQ_s {i I j : Int} (i0 : 0 ≤ i) (hI : I = i + 1) : hrQ w I j ↔ hrQ w i j ∧ ¬ RIG (DDw w i) (exK w) (exO w) j := by
  constructor
  · intro h; exact ⟨fun d d0 d1 => h d d0 (by omega), h i i0 (by omega)⟩
  · rintro ⟨h, g⟩ d d0 d1
    by_cases z : d = i
    · rw [z]; exact g
    · exact h d d0 (by omega)
noncomputable def HRD (w : Int → Int) (i : Int) : Int := AAS (hrQ w i) (w 3).toNat
theorem HRD_0 {i x n : Int} (hi : i = 0) (hn : w 3 = n) (n0 : 0 ≤ n) (hx : x = pI n - 1) : x = HRD w i := by
  subst hi hn
  exact AAS_all n0 (fun j d d0 d1 => by omega) hx
theorem HRD_s {i x a X I n D : Int} (i0 : 0 ≤ i) (H : x = HRD w i) (hn : n = w 3) (n0 : 0 ≤ n) (n16 : n ≤ 16) (hk : ∀ j : Int, 0 ≤ j → j < n → k j = exK w j) (ho : ∀ j : Int, 0 ≤ j → j < n → o j = exO w j) (hD : D = DDw w i) (ha : a = AAS (RIG D k o) n.toNat) (hX : X = x - aN x a) (hI : I = i + 1) : X = HRD w I := by
  subst hn hD
  have a2 : a = AAS (RIG (DDw w i) (exK w) (exO w)) (w 3).toNat := by
    rw [ha]
    exact AAS_cg _ (fun j j0 j1 => RIG_cg rfl (hk j j0 (by omega)) (ho j j0 (by omega)))
  exact AAS_sub (by omega) H a2 hX (fun j j0 j1 => hrQ_s i0 hI)
def hrI (w : Int → Int) (i e j : Int) : Prop := hrQ w i j ∧ ¬ (j < e ∧ RIG (DDw w i) (exK w) (exO w) j)
noncomputable def HRI (w : Int → Int) (i e : Int) : Int := AAS (hrI w i e) (w 3).toNat
theorem HRI_0 {i e x X : Int} (H : x = HRD w i) (he : e = 0) (hX : X = x) : X = HRI w i e := by
  subst he hX
  rw [H]
  exact AAS_cg _ (fun j j0 j1 => ⟨fun h => ⟨h, fun z => by omega⟩, fun h => h.1⟩)
theorem HRI_y {i e x q X E D : Int} (e0 : 0 ≤ e) (e1 : e < w 3) (n16 : w 3 ≤ 16) (H : x = HRI w i e) (hD : D = DDw w i) (g : RIG D (exK w) (exO w) e) (hq : q = pI e) (hX : X = x - aN x q) (hE : E = e + 1) : X = HRI w i E := by
  subst hq hD
  refine AAS_sub (by omega) H (AAS_one e0 (by omega)) hX (fun j j0 j1 => ?_)
  constructor
  · rintro ⟨h1, h2⟩
    exact ⟨⟨h1, fun z => h2 ⟨by omega, z.2⟩⟩, fun z => h2 ⟨by omega, by rw [z]; exact g⟩⟩
  · rintro ⟨⟨h1, h2⟩, h3⟩
    exact ⟨h1, fun z => h2 ⟨by omega, z.2⟩⟩
theorem HRI_n {i e x X E D : Int} (H : x = HRI w i e) (hD : D = DDw w i) (g : ¬ RIG D (exK w) (exO w) e) (hX : X = x) (hE : E = e + 1) : X = HRI w i E := by
  subst hX hD
  rw [H]
  refine AAS_cg _ (fun j j0 j1 => ⟨fun h => ⟨h.1, fun z => ?_⟩, fun h => ⟨h.1, fun z => h.2 ⟨by omega, z.2⟩⟩⟩)
  by_cases y : j = e
  · rw [y] at z; exact g z.2
  · exact h.2 ⟨by omega, z.2⟩
theorem HRI_e {i e x X I : Int} (i0 : 0 ≤ i) (H : x = HRI w i e) (he : w 3 ≤ e) (hX : X = x) (hI : I = i + 1) : X = HRD w I := by
  subst hX
  rw [H]
  refine AAS_cg _ (fun j j0 j1 => ?_)
  rw [hrQ_s i0 hI]
  exact ⟨fun h => ⟨h.1, fun z => h.2 ⟨by omega, z⟩⟩, fun h => ⟨h.1, fun z => h.2 z.2⟩⟩
noncomputable def hdR (w : Int → Int) : Int := iR (0 < w 7) (HRD w (w 2))
theorem hdR_y {r i x : Int} (h : 0 < w 7) (hi : i = w 2) (H : x = HRD w i) (e : r = x) : r = hdR w := by subst hi; exact iR_y h (by rw [e]; exact H)
theorem hdR_n {r : Int} (h : ¬ 0 < w 7) (e : r = -2) : r = hdR w := iR_n h e
theorem hdR_cg (h : w' = w) : hdR w' = hdR w := by subst h; rfl
end OWN
