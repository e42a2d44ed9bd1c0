/-! a door's lessons in the midst of a change -/
section MID
variable {w w' : Int → Int} {σ σ0 σ1 σ2 : SG} {p : Nat} {k o D : Int → Int}
/-- what counts, but the lessons of one door -/
def actD (w : Int → Int) (d i : Int) : Prop := i < 10 ∨ (10 ≤ i ∧ i < 26 ∧ (i - 10) / 4 < w 2 ∧ i ≠ 12 + 4 * d) ∨ (26 ≤ i ∧ i < 122 ∧ (i - 26) / 24 < w 2 ∧ ((i - 26) % 24) / 2 < w (12 + 4 * ((i - 26) / 24)) ∧ (i - 26) / 24 ≠ d) ∨ (122 ≤ i ∧ i < 146 ∧ (i - 122) / 2 < w 3) ∨ (146 ≤ i ∧ act w i)
theorem actD_act {d i : Int} (h : actD w d i) : act w i := by
  unfold actD at h
  rcases h with h | h | h | h | h
  · exact Or.inl h
  · exact Or.inr (Or.inl ⟨h.1, h.2.1, h.2.2.1⟩)
  · exact Or.inr (Or.inr (Or.inl ⟨h.1, h.2.1, h.2.2.1, h.2.2.2.1⟩))
  · exact Or.inr (Or.inr (Or.inr (Or.inl h)))
  · exact h.2
theorem KN_aD {d : Int} (H : KN σ p w (act w)) : KN σ p w (actD w d) := KN_sub H (fun _ _ _ h => actD_act h)
theorem KN_ekD {kn : Nat} {n d : Int} (H : KN σ p w (actD w d)) (hn : n = w 3) (n12 : n ≤ 12) (e : kn = p + 3) : ∀ i : Int, 0 ≤ i → i < n → ci σ kn i = exK w i := fun i i0 i1 => by
  have l := lc_e (m := i) i0 (by omega)
  have x : actD w d (122 + 2 * i) := Or.inr (Or.inr (Or.inr (Or.inl ⟨by omega, by omega, by omega⟩)))
  have q := H (122 + 2 * i) (by omega) (by omega) x
  rw [l.1, l.2.2.1] at q
  rw [e]; exact q
theorem KN_eoD {op : Nat} {n d : Int} (H : KN σ p w (actD w d)) (hn : n = w 3) (n12 : n ≤ 12) (e : op = p + 4) : ∀ i : Int, 0 ≤ i → i < n → ci σ op i = exO w i := fun i i0 i1 => by
  have l := lc_e (m := i) i0 (by omega)
  have x : actD w d (122 + 2 * i + 1) := Or.inr (Or.inr (Or.inr (Or.inl ⟨by omega, by omega, by omega⟩)))
  have q := H (122 + 2 * i + 1) (by omega) (by omega) x
  rw [l.2.1, l.2.2.2] at q
  rw [e]; exact q
theorem KN_lkD {kn : Nat} {d r n : Int} (H : KN σ p w (actD w d)) (h : r ≠ d) (r0 : 0 ≤ r) (r4 : r < 4) (r2 : r < w 2) (hn : n = w (12 + 4 * r)) (n12 : n ≤ 12) (e : kn = p + 12 + 4 * r.toNat) : ∀ i : Int, 0 ≤ i → i < n → ci σ kn i = lkW w r i := fun i i0 i1 => by
  have l := lc_l (d := r) (m := i) r0 r4 i0 (by omega)
  have x : actD w d (26 + 24 * r + 2 * i) := by
    refine Or.inr (Or.inr (Or.inl ⟨by omega, by omega, by omega, ?_, by omega⟩))
    rw [show (26 + 24 * r + 2 * i - 26) / 24 = r by omega, show ((26 + 24 * r + 2 * i - 26) % 24) / 2 = i by omega]; omega
  have q := H (26 + 24 * r + 2 * i) (by omega) (by omega) x
  rw [l.1, l.2.2.1] at q
  rw [e, show p + 12 + 4 * r.toNat = p + (12 + 4 * r.toNat) by omega]; exact q
theorem KN_loD {op : Nat} {d r n : Int} (H : KN σ p w (actD w d)) (h : r ≠ d) (r0 : 0 ≤ r) (r4 : r < 4) (r2 : r < w 2) (hn : n = w (12 + 4 * r)) (n12 : n ≤ 12) (e : op = p + 13 + 4 * r.toNat) : ∀ i : Int, 0 ≤ i → i < n → ci σ op i = loW w r i := fun i i0 i1 => by
  have l := lc_l (d := r) (m := i) r0 r4 i0 (by omega)
  have x : actD w d (26 + 24 * r + 2 * i + 1) := by
    refine Or.inr (Or.inr (Or.inl ⟨by omega, by omega, by omega, ?_, by omega⟩))
    rw [show (26 + 24 * r + 2 * i + 1 - 26) / 24 = r by omega, show ((26 + 24 * r + 2 * i + 1 - 26) % 24) / 2 = i by omega]; omega
  have q := H (26 + 24 * r + 2 * i + 1) (by omega) (by omega) x
  rw [l.2.1, l.2.2.2] at q
  rw [e, show p + 13 + 4 * r.toNat = p + (13 + 4 * r.toNat) by omega]; exact q
/-- the plan shows the world, but for the lessons of one door, which are told -/
def DLS (σ : SG) (p : Nat) (w : Int → Int) (d n : Int) (k o : Int → Int) : Prop := KN σ p w (actD w d) ∧ ci σ (p + 11 + 4 * d.toNat) 2 = n ∧ (∀ i : Int, 0 ≤ i → i < n → ci σ (p + 12 + 4 * d.toNat) i = k i) ∧ ∀ i : Int, 0 ≤ i → i < n → ci σ (p + 13 + 4 * d.toNat) i = o i
def apF (f : Int → Int) (n x i : Int) : Int := if i = n then x else f i
def rmF (f : Int → Int) (i j : Int) : Int := if j < i then f j else f (j + 1)
theorem actD_no {d i : Int} (d0 : 0 ≤ d) (d4 : d < 4) (i0 : 0 ≤ i) (i1 : i < 226) (h : actD w d i) : i ≠ 12 + 4 * d ∧ lcO i ≠ 12 + 4 * d.toNat ∧ lcO i ≠ 13 + 4 * d.toNat := by
  have c := lc_ins ⟨i.toNat, by omega⟩ ⟨d.toNat, by omega⟩
  simp only at c
  rw [show ((i.toNat : Nat) : Int) = i by omega] at c
  unfold actD at h
  refine ⟨?_, fun e => ?_, fun e => ?_⟩
  · rcases h with h | h | h | h | h <;> omega
  · have c := c (by omega)
    rcases h with h | h | h | h | h <;> omega
  · have c := c (by omega)
    rcases h with h | h | h | h | h <;> omega
theorem DLS_add {s kn op : Nat} {d m x y : Int} (H : KN σ0 p w (act w)) (hm : w (12 + 4 * d) = m) (m12 : m ≤ 12) (P : ADDp σ0 σ1 s kn op m x y) (hs : s = p + 11 + 4 * d.toNat) (hk : kn = p + 12 + 4 * d.toNat) (ho : op = p + 13 + 4 * d.toNat) (d0 : 0 ≤ d) (d4 : d < 4) (dn : d < w 2) (m0 : 0 ≤ m) : DLS σ1 p w d (m + 1) (apF (lkW w d) m x) (apF (loW w d) m y) := by
  have S := lsz (p := p) d0 d4
  refine ⟨fun i i0 i1 z => ?_, by rw [← hs]; exact P.2.2.1, fun i i0 i1 => ?_, fun i i0 i1 => ?_⟩
  · obtain ⟨n1, n2, n3⟩ := actD_no d0 d4 i0 i1 z
    rw [← H i i0 i1 (actD_act z)]
    exact ci_eq (P.2.2.2 _ _ (fun y => n2 (by omega)) (fun y => n3 (by omega)) (fun y => n1 (lc_uniq i0 i1 (by omega) (by omega) (by omega) (by omega))))
  · unfold apF
    rw [← hk]
    by_cases z : i = m
    · rw [if_pos z, z]; exact P.1
    · rw [if_neg z, ← KN_lk H d0 d4 dn hm.symm m12 hk i i0 (by omega)]
      exact ci_eq (P.2.2.2 _ _ (by omega) (by omega) (by omega))
  · unfold apF
    rw [← ho]
    by_cases z : i = m
    · rw [if_pos z, z]; exact P.2.1
    · rw [if_neg z, ← KN_lo H d0 d4 dn hm.symm m12 ho i i0 (by omega)]
      exact ci_eq (P.2.2.2 _ _ (by omega) (by omega) (by omega))
theorem DLS_tko {s kn op : Nat} {d i m : Int} (H : KN σ0 p w (act w)) (hm : w (12 + 4 * d) = m) (m12 : m ≤ 12) (P : TKO σ0 σ1 s kn op i m) (hs : s = p + 11 + 4 * d.toNat) (hk : kn = p + 12 + 4 * d.toNat) (ho : op = p + 13 + 4 * d.toNat) (d0 : 0 ≤ d) (d4 : d < 4) (dn : d < w 2) (j0 : 0 ≤ i) (jm : i < m) : DLS σ1 p w d (m - 1) (rmF (lkW w d) i) (rmF (loW w d) i) := by
  have S := lsz (p := p) d0 d4
  obtain ⟨P1, P2, P3, P4⟩ := P
  refine ⟨fun t i0 i1 z => ?_, by rw [← hs]; exact P1, fun t i0 i1 => ?_, fun t i0 i1 => ?_⟩
  · obtain ⟨n1, n2, n3⟩ := actD_no d0 d4 i0 i1 z
    rw [← H t i0 i1 (actD_act z)]
    exact ci_eq (P4 _ _ (fun y => n2 (by omega)) (fun y => n3 (by omega)) (fun y => n1 (lc_uniq i0 i1 (by omega) (by omega) (by omega) (by omega))))
  · rw [← hk, P2 t i0]
    unfold rmF
    by_cases z : t < i
    · rw [if_pos z, if_neg (by omega)]; exact KN_lk H d0 d4 dn hm.symm m12 hk t i0 (by omega)
    · rw [if_neg z, if_pos (by omega)]; exact KN_lk H d0 d4 dn hm.symm m12 hk (t + 1) (by omega) (by omega)
  · rw [← ho, P3 t i0]
    unfold rmF
    by_cases z : t < i
    · rw [if_pos z, if_neg (by omega)]; exact KN_lo H d0 d4 dn hm.symm m12 ho t i0 (by omega)
    · rw [if_neg z, if_pos (by omega)]; exact KN_lo H d0 d4 dn hm.symm m12 ho (t + 1) (by omega) (by omega)
/-- what a door does, where one door's lessons are told -/
noncomputable def LRd (w : Int → Int) (d n : Int) (k o : Int → Int) : Int := LRN (w (10 + 4 * d)) (pI (w 0)) (nR (w 0)) n k o (ruD (pI (w 0)))
noncomputable def DLN (w : Int → Int) (d n : Int) (k o : Int → Int) (a : Int) : Int := if rlW w a = d then LRd w d n k o else DDw w a
theorem DLN_rg {d n a : Int} (h0 : 0 ≤ w 0) (h4 : w 0 ≤ 4) : 0 ≤ DLN w d n k o a ∧ DLN w d n k o a < 65536 := by
  unfold DLN LRd
  split
  · exact LRN_rg (pI_rng h0 h4).2 (fun i => ruD_rg (pI_rng h0 h4).2)
  · exact DDw_rg h0 h4
theorem DLN_of {d n a r way K z sz R : Int} {ls kn op : Nat} (H : DLS σ p w d n k o) (hr : r = rlW w a) (e1 : w (10 + 4 * r) = way) (hK : K = pI (w 0)) (hz : z = nR (w 0)) (r0 : 0 ≤ r) (r4 : r < 4) (r2 : r < w 2) (hls : ls = p + 11 + 4 * r.toNat) (hkn : kn = p + 12 + 4 * r.toNat) (hop : op = p + 13 + 4 * r.toNat) (hsz : ci σ ls 2 = sz) (s0 : 0 ≤ sz) (m12 : w (12 + 4 * r) ≤ 12) (hD : ∀ i : Int, 0 ≤ i → i < z → D i = ruD (pI (w 0)) i) (e : R = LRN way K z sz (ci σ kn) (ci σ op) D) : R = DLN w d n k o a := by
  obtain ⟨H1, H2, H3, H4⟩ := H
  unfold DLN
  rw [← hr]
  by_cases y : r = d
  · subst y
    have en : sz = n := by rw [← hsz, hls]; exact H2
    rw [if_pos rfl, e]
    unfold LRd
    subst en
    exact LRN_cg e1.symm hK hz rfl s0 (fun i i0 i1 => by rw [hkn]; exact H3 i i0 i1) (fun i i0 i1 => by rw [hop]; exact H4 i i0 i1) (by rw [← hz]; exact hD)
  · rw [if_neg y]
    have S := lsz (p := p) r0 r4
    have q := H1 (12 + 4 * r) (by omega) (by omega) (Or.inr (Or.inl ⟨by omega, by omega, by omega, by omega⟩))
    rw [S.1, S.2, ← hls, hsz] at q
    exact DDw_of hr e1 q.symm hK hz s0 (KN_lkD H1 y r0 r4 r2 q (by omega) hkn) (KN_loD H1 y r0 r4 r2 q (by omega) hop) hD e
/-- with a lesson more -/
noncomputable def DDx (w : Int → Int) (d q v : Int) : Int := DLN w d (w (12 + 4 * d) + 1) (apF (lkW w d) (w (12 + 4 * d)) q) (apF (loW w d) (w (12 + 4 * d)) v) d
theorem DDx_of {d m n q v R : Int} (hm : w (12 + 4 * d) = m) (hn : n = m + 1) (e : R = DLN w d n (apF (lkW w d) m q) (apF (loW w d) m v) d) : R = DDx w d q v := by subst hm hn; exact e
theorem DDx_rg {d q v : Int} (h0 : 0 ≤ w 0) (h4 : w 0 ≤ 4) : 0 ≤ DDx w d q v ∧ DDx w d q v < 65536 := DLN_rg h0 h4
theorem DDx_n {d q v R : Int} (h : rlW w d ≠ d) (e : R = DDw w d) : R = DDx w d q v := by unfold DDx DLN; rw [if_neg h]; exact e
theorem DDx_y {d q v way m n K z R : Int} (h : rlW w d = d) (e1 : w (10 + 4 * d) = way) (hm : w (12 + 4 * d) = m) (hn : n = m + 1) (n0 : 0 ≤ n) (hK : K = pI (w 0)) (hz : z = nR (w 0)) (hk : ∀ i : Int, 0 ≤ i → i < n → k i = apF (lkW w d) m q i) (ho : ∀ i : Int, 0 ≤ i → i < n → o i = apF (loW w d) m v i) (hD : ∀ i : Int, 0 ≤ i → i < z → D i = ruD (pI (w 0)) i) (e : R = LRN way K z n k o D) : R = DDx w d q v := by
  unfold DDx DLN LRd
  rw [if_pos h, e, hm]
  exact LRN_cg e1.symm hK hz hn (by omega) (fun i i0 i1 => hk i i0 (by omega)) (fun i i0 i1 => ho i i0 (by omega)) (by rw [← hz]; exact hD)
/-- marks more -/
noncomputable def gnN (w : Int → Int) (d q v : Int) : Int := mkN w (DDx w d q v) - mkN w (DDw w d)
theorem gnN_of {d q v x y X Y r : Int} (hx : x = DDw w d) (hX : X = mkN w x) (hy : y = DDx w d q v) (hY : Y = mkN w y) (e : r = Y - X) : r = gnN w d q v := by subst hx hX hy hY; exact e
noncomputable def gnR (w : Int → Int) (d q v : Int) : Int := @ite _ (okL w d q v) (Classical.propDecidable _) (gnN w d q v) (-1000)
theorem gnR_y {d q v r : Int} (h : okL w d q v) (e : r = gnN w d q v) : r = gnR w d q v := by unfold gnR; rw [if_pos h]; exact e
theorem gnR_n {d q v r : Int} (h : ¬ okL w d q v) (e : r = -1000) : r = gnR w d q v := by unfold gnR; rw [if_neg h]; exact e
theorem gnR_cg {d d' q q' v v' : Int} (h : w' = w) (a : d' = d) (b : q' = q) (c : v' = v) : gnR w' d' q' v' = gnR w d q v := by subst h a b c; rfl
noncomputable def HLP (w : Int → Int) (d : Int) : Nat → Int × Int
  | 0 => (-1, 0)
  | n + 1 => if (HLP w d n).2 < gnN w d ((n : Int) / 2) ((n : Int) % 2) then ((n : Int), gnN w d ((n : Int) / 2) ((n : Int) % 2)) else HLP w d n
theorem HLP_s {d i I : Int} (i0 : 0 ≤ i) (hI : I = i + 1) : HLP w d I.toNat = if (HLP w d i.toNat).2 < gnN w d (i / 2) (i % 2) then (i, gnN w d (i / 2) (i % 2)) else HLP w d i.toNat := by
  rw [tn_s i0 hI]
  show (if (HLP w d i.toNat).2 < gnN w d (((i.toNat : Nat) : Int) / 2) (((i.toNat : Nat) : Int) % 2) then (((i.toNat : Nat) : Int), gnN w d (((i.toNat : Nat) : Int) / 2) (((i.toNat : Nat) : Int) % 2)) else HLP w d i.toNat) = _
  rw [tn_c i0]
def HLI (w : Int → Int) (d i f l : Int) : Prop := f = (HLP w d i.toNat).1 ∧ l = (HLP w d i.toNat).2
theorem HLI_0 {d i f l : Int} (hi : i = 0) (hf : f = -1) (hl : l = 0) : HLI w d i f l := by subst hi hf hl; exact ⟨rfl, rfl⟩
theorem HLI_y {d i f l q v g I F L : Int} (H : HLI w d i f l) (i0 : 0 ≤ i) (hq : q = i / 2) (hv : v = i % 2) (hg : g = gnN w d q v) (lt : l < g) (hI : I = i + 1) (hF : F = i) (hL : L = g) : HLI w d I F L := by
  subst hq hv hg hF hL
  unfold HLI
  rw [HLP_s i0 hI, ← H.2, if_pos lt]
  exact ⟨rfl, rfl⟩
theorem HLI_n {d i f l q v g I F L : Int} (H : HLI w d i f l) (i0 : 0 ≤ i) (hq : q = i / 2) (hv : v = i % 2) (hg : g = gnN w d q v) (ge : g ≤ l) (hI : I = i + 1) (hF : F = f) (hL : L = l) : HLI w d I F L := by
  subst hq hv hg hF hL
  unfold HLI
  rw [HLP_s i0 hI, ← H.2, if_neg (by omega)]
  exact ⟨H.1, H.2⟩
noncomputable def hlR (w : Int → Int) (d : Int) : Int := iR (0 ≤ d ∧ d < w 2) (HLP w d (2 * pI (w 0)).toNat).1
theorem hlR_y {d r i f l : Int} (h : 0 ≤ d ∧ d < w 2) (H : HLI w d i f l) (hi : i = 2 * pI (w 0)) (e : r = f) : r = hlR w d := by subst hi; exact iR_y h (by rw [e]; exact H.1)
theorem hlR_n {d r : Int} (h : ¬ (0 ≤ d ∧ d < w 2)) (e : r = -2) : r = hlR w d := iR_n h e
theorem hlR_cg {d d' : Int} (h : w' = w) (a : d' = d) : hlR w' d' = hlR w d := by subst h a; rfl
/-- lessons against fooling -/
noncomputable def hdV (w : Int → Int) (d q : Int) : Int := pcI (DDx w d q (btI (owD w) q) - aN (DDx w d q (btI (owD w) q)) (owD w))
theorem hdV_of {d q v x y z r : Int} (hv : v = btI (owD w) q) (hx : x = DDx w d q v) (hy : y = owD w) (hz : z = x - aN x y) (e : r = pcI z) : r = hdV w d q := by subst hv hx hy hz; exact e
noncomputable def fon (w : Int → Int) (d : Int) : Int := pcI (foN w d)
theorem fon_of {d x r : Int} (hx : x = foN w d) (e : r = pcI x) : r = fon w d := by subst hx; exact e
theorem fon_2 {d x y z r : Int} (hx : x = DDw w d) (hy : y = owD w) (hz : z = x - aN x y) (e : r = pcI z) : r = fon w d := by subst hx hy hz; exact e
noncomputable def HDN (w : Int → Int) (d : Int) : Nat → Int × Int
  | 0 => (-1, fon w d)
  | n + 1 => if hdV w d (n : Int) < (HDN w d n).2 then ((n : Int), hdV w d (n : Int)) else HDN w d n
theorem HDN_s {d i I : Int} (i0 : 0 ≤ i) (hI : I = i + 1) : HDN w d I.toNat = if hdV w d i < (HDN w d i.toNat).2 then (i, hdV w d i) else HDN w d i.toNat := by
  rw [tn_s i0 hI]
  show (if hdV w d ((i.toNat : Nat) : Int) < (HDN w d i.toNat).2 then (((i.toNat : Nat) : Int), hdV w d ((i.toNat : Nat) : Int)) else HDN w d i.toNat) = _
  rw [tn_c i0]
def HDI (w : Int → Int) (d i f l : Int) : Prop := f = (HDN w d i.toNat).1 ∧ l = (HDN w d i.toNat).2
theorem HDI_0 {d i f l : Int} (hi : i = 0) (hf : f = -1) (hl : l = fon w d) : HDI w d i f l := by subst hi hf hl; exact ⟨rfl, rfl⟩
theorem HDI_y {d i f l g I F L : Int} (H : HDI w d i f l) (i0 : 0 ≤ i) (hg : g = hdV w d i) (lt : g < l) (hI : I = i + 1) (hF : F = i) (hL : L = g) : HDI w d I F L := by
  subst hg hF hL
  unfold HDI
  rw [HDN_s i0 hI, ← H.2, if_pos lt]
  exact ⟨rfl, rfl⟩
theorem HDI_n {d i f l g I F L : Int} (H : HDI w d i f l) (i0 : 0 ≤ i) (hg : g = hdV w d i) (ge : l ≤ g) (hI : I = i + 1) (hF : F = f) (hL : L = l) : HDI w d I F L := by
  subst hg hF hL
  unfold HDI
  rw [HDN_s i0 hI, ← H.2, if_neg (by omega)]
  exact ⟨H.1, H.2⟩
theorem HDN_rg {d : Int} : ∀ n : Nat, -1 ≤ (HDN w d n).1 ∧ (HDN w d n).1 < (n : Int) ∧ ((HDN w d n).1 = -1 → (HDN w d n).2 = fon w d) ∧ ((HDN w d n).1 ≠ -1 → (HDN w d n).2 = hdV w d (HDN w d n).1) := by
  intro n
  induction n with
  | zero => exact ⟨Int.le_refl _, by show (-1 : Int) < 0; omega, fun _ => rfl, fun h => absurd rfl h⟩
  | succ n ih =>
    by_cases z : hdV w d (n : Int) < (HDN w d n).2
    · have e : HDN w d (n + 1) = ((n : Int), hdV w d (n : Int)) := if_pos z
      rw [e]
      exact ⟨by show (-1 : Int) ≤ (n : Int); omega, by show (n : Int) < _; omega, fun h => by have h : (n : Int) = -1 := h; omega, fun _ => rfl⟩
    · have e : HDN w d (n + 1) = HDN w d n := if_neg z
      rw [e]
      exact ⟨ih.1, by omega, ih.2.2⟩
noncomputable def hnN (w : Int → Int) (d : Int) : Int := (HDN w d (pI (w 0)).toNat).1
theorem hnN_rg {d : Int} : -1 ≤ hnN w d ∧ hnN w d < pI (w 0) := by
  have a := HDN_rg (w := w) (d := d) (pI (w 0)).toNat
  have b := pI_pos (w 0)
  unfold hnN; omega
noncomputable def hnR (w : Int → Int) (d : Int) : Int := iR (0 ≤ d ∧ d < w 2) (hnN w d)
theorem hnN_of {d r i f l : Int} (H : HDI w d i f l) (hi : i = pI (w 0)) (e : r = f) : r = hnN w d := by subst hi; rw [e]; exact H.1
theorem hnR_y {d r : Int} (h : 0 ≤ d ∧ d < w 2) (e : r = hnN w d) : r = hnR w d := iR_y h e
theorem hnR_n {d r : Int} (h : ¬ (0 ≤ d ∧ d < w 2)) (e : r = -2) : r = hnR w d := iR_n h e
theorem hnR_cg {d d' : Int} (h : w' = w) (a : d' = d) : hnR w' d' = hnR w d := by subst h a; rfl
theorem hnR_ge {d r : Int} (e : r = hnR w d) (h : r ≠ -2) : (0 ≤ d ∧ d < w 2) ∧ r = hnN w d := by
  by_cases z : 0 ≤ d ∧ d < w 2
  · exact ⟨z, by rw [e]; unfold hnR iR; rw [if_pos z]⟩
  · exfalso
    have : hnR w d = -2 := by unfold hnR iR; rw [if_neg z]
    omega
theorem hnR_lt {d r : Int} (e : r = hnR w d) (h : r = -2) : ¬ (0 ≤ d ∧ d < w 2) := fun z => by
  have : hnR w d = hnN w d := by unfold hnR iR; rw [if_pos z]
  have := hnN_rg (w := w) (d := d)
  omega
noncomputable def lfR (w : Int → Int) (d : Int) : Int := iR (0 ≤ d ∧ d < w 2) (if hnN w d = -1 then fon w d else hdV w d (hnN w d))
theorem lfR_0 {d r f : Int} (h : 0 ≤ d ∧ d < w 2) (hf : f = hnN w d) (e : f = -1) (hr : r = fon w d) : r = lfR w d := iR_y h (by rw [← hf, if_pos e]; exact hr)
theorem lfR_1 {d r f : Int} (h : 0 ≤ d ∧ d < w 2) (hf : f = hnN w d) (e : f ≠ -1) (hr : r = hdV w d f) : r = lfR w d := iR_y h (by rw [← hf, if_neg e]; exact hr)
theorem lfR_n {d r : Int} (h : ¬ (0 ≤ d ∧ d < w 2)) (e : r = -2) : r = lfR w d := iR_n h e
theorem lfR_cg {d d' : Int} (h : w' = w) (a : d' = d) : lfR w' d' = lfR w d := by subst h a; rfl
/-- idle lessons -/
noncomputable def DDo (w : Int → Int) (d i : Int) : Int := DLN w d (w (12 + 4 * d) - 1) (rmF (lkW w d) i) (rmF (loW w d) i) d
theorem DDo_of {d m n i R : Int} (hm : w (12 + 4 * d) = m) (hn : n = m - 1) (e : R = DLN w d n (rmF (lkW w d) i) (rmF (loW w d) i) d) : R = DDo w d i := by subst hm hn; exact e
theorem DDo_n {d i R : Int} (h : rlW w d ≠ d) (e : R = DDw w d) : R = DDo w d i := by unfold DDo DLN; rw [if_neg h]; exact e
def idP (w : Int → Int) (d i : Int) : Prop := DDo w d i = DDw w d
theorem idP_y {d i x y : Int} (hx : x = DDo w d i) (hy : y = DDw w d) (e : x = y) : idP w d i := by subst hx hy; exact e
theorem idP_n {d i x y : Int} (hx : x = DDo w d i) (hy : y = DDw w d) (e : x ≠ y) : ¬ idP w d i := by subst hx hy; exact e
theorem idP_t {d i : Int} (h : rlW w d ≠ d) : idP w d i := (DDo_n h rfl).symm
noncomputable def idR (w : Int → Int) (d : Int) : Int := iR (0 ≤ d ∧ d < w 2) (AAS (idP w d) (w (12 + 4 * d)).toNat)
theorem idR_y {d r i : Int} (h : 0 ≤ d ∧ d < w 2) (hi : (w (12 + 4 * d)).toNat = i.toNat) (e : r = AAS (idP w d) i.toNat) : r = idR w d := by rw [← hi] at e; exact iR_y h e
theorem idR_n {d r : Int} (h : ¬ (0 ≤ d ∧ d < w 2)) (e : r = -2) : r = idR w d := iR_n h e
theorem idR_cg {d d' : Int} (h : w' = w) (a : d' = d) : idR w' d' = idR w d := by subst h a; rfl
/-! the model's row of lessons, with one more, without one -/
theorem LSQ_ap {d m M q v : Int} (H : LSQ σ w d m) (A : ADQ σ σ1 m q v) (hM : M = m + 1) : (∀ i : Int, 0 ≤ i → i < M → ci σ1 169 i = apF (lkW w d) m q i) ∧ ∀ i : Int, 0 ≤ i → i < M → ci σ1 170 i = apF (loW w d) m v i := by
  subst hM
  refine ⟨fun i i0 i1 => ?_, fun i i0 i1 => ?_⟩
  · rw [(A i i0).1]
    unfold apF
    by_cases z : i = m
    · rw [if_pos z, if_pos z]
    · rw [if_neg z, if_neg z]; exact (H i i0 (by omega)).1
  · rw [(A i i0).2]
    unfold apF
    by_cases z : i = m
    · rw [if_pos z, if_pos z]
    · rw [if_neg z, if_neg z]; exact (H i i0 (by omega)).2
def LSO (σ : SG) (w : Int → Int) (d i m : Int) : Prop := ∀ j : Int, 0 ≤ j → j < m → ci σ 169 j = rmF (lkW w d) i j ∧ ci σ 170 j = rmF (loW w d) i j
theorem LSO_0 {d i m : Int} (h : m = 0) : LSO σ w d i m := fun j j0 j1 => by omega
theorem LSO_s {d i j m M x y : Int} (H : LSO σ w d i m) (A : ADQ σ σ1 m x y) (hx : x = lkW w d j) (hy : y = loW w d j) (hj : (j < i ∧ m = j) ∨ (i < j ∧ m = j - 1)) (hM : M = m + 1) : LSO σ1 w d i M := fun t t0 t1 => by
  subst hx hy
  rw [(A t t0).1, (A t t0).2]
  by_cases z : t = m
  · rw [if_pos z, if_pos z]
    unfold rmF
    rcases hj with ⟨a, b⟩ | ⟨a, b⟩
    · rw [if_pos (by omega), if_pos (by omega), z, b]; exact ⟨rfl, rfl⟩
    · rw [if_neg (by omega), if_neg (by omega), z, b, show j - 1 + 1 = j by omega]; exact ⟨rfl, rfl⟩
  · rw [if_neg z, if_neg z]; exact H t t0 (by omega)
theorem DDo_y {d i way m n K z R : Int} (h : rlW w d = d) (e1 : w (10 + 4 * d) = way) (hm : w (12 + 4 * d) = m) (hn : n = m - 1) (n0 : 0 ≤ n) (hK : K = pI (w 0)) (hz : z = nR (w 0)) (hk : ∀ j : Int, 0 ≤ j → j < n → k j = rmF (lkW w d) i j) (ho : ∀ j : Int, 0 ≤ j → j < n → o j = rmF (loW w d) i j) (hD : ∀ j : Int, 0 ≤ j → j < z → D j = ruD (pI (w 0)) j) (e : R = LRN way K z n k o D) : R = DDo w d i := by
  unfold DDo DLN LRd
  rw [if_pos h, e, hm]
  exact LRN_cg e1.symm hK hz hn (by omega) (fun j j0 j1 => hk j j0 (by omega)) (fun j j0 j1 => ho j j0 (by omega)) (by rw [← hz]; exact hD)
/-- what the model's learner holds behind a door -/
def LDN (σ : SG) (w : Int → Int) (d : Int) : Prop := ci σ 159 21 = w (12 + 4 * rlW w d) ∧ LSQ σ w (rlW w d) (w (12 + 4 * rlW w d)) ∧ ci σ 159 18 = nR (w 0) ∧ TB σ 166 167 168 (pI (w 0)) (nR (w 0))
theorem LDN_mk {d r K : Int} {lv rv : Int32} (hr : r = rlW w d) (hl : lv.toInt = w (12 + 4 * r)) (pl : (σ 159)[21]? = some (.int lv)) (L : LSQ σ w r lv.toInt) (hz : rv.toInt = nR (w 0)) (pz : (σ 159)[18]? = some (.int rv)) (hK : K = pI (w 0)) (T : TB σ 166 167 168 K rv.toInt) : LDN σ w d := by
  subst hr hK
  rw [hl] at L
  rw [hz] at T
  exact ⟨(ci_at (j := 21) pl rfl).trans hl, L, (ci_at (j := 18) pz rfl).trans hz, T⟩
theorem M12_w {d : Int} (hσ : WT σ) (d0 : 0 ≤ d) (d4 : d < 4) : wf σ (12 + 4 * d) ≤ 12 := (WFw_w hσ).2.2.2.2.2.2 d d0 d4
theorem pcI_cg {x y : Int} (h : x = y) : pcI x = pcI y := by subst h; rfl
end MID
