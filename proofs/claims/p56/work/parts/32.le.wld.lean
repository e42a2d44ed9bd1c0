section WCH
variable {σ0 σ σ' σ1 σ2 : SG} {W W' : List (Nat × Nat)} {p : Nat} {w f g : Int → Int}
/-! one number, two numbers of a plan -/
theorem KN_one {b q : Nat} {i v : Int} {y : Int32} (H : KN σ0 p w (act w)) (hp : PLB p) (q1 : (σ b)[q]? = some (.int y)) (q2 : ∀ b' q', (b' ≠ b ∨ q' ≠ q) → (σ b')[q']? = (σ0 b')[q']?) (i0 : 0 ≤ i) (i1 : i < 226) (hb : b = p + lcO i ∧ q = (lcB i).toNat) (hv : v = y.toInt) (hc : 10 ≤ i ∧ i < 26 ∧ (i - 10) % 4 ≠ 2) (ha : act w i) : KN σ p (uPd w i v) (act (uPd w i v)) ∧ OUT σ0 σ p := by
  refine ⟨KN_sub (KN_st H q1 q2 i0 i1 hb.1 hb.2 hv) (fun t _ _ z => Or.inl (act_in hc.1 (fun _ => hc.2.2) z)), OUT_st OUT_0 q2 ?_⟩
  have := lc_0 i0 i1
  omega
theorem KN_two {m v : Int32} (H : KN σ0 p w (act w)) (hp : PLB p) (q1 : (σ1 p)[6]? = some (.int m)) (q2 : ∀ b' q', (b' ≠ p ∨ q' ≠ 6) → (σ1 b')[q']? = (σ0 b')[q']?) (q3 : (σ2 p)[7]? = some (.int v)) (q4 : ∀ b' q', (b' ≠ p ∨ q' ≠ 7) → (σ2 b')[q']? = (σ1 b')[q']?) : KN σ2 p (uPd (uPd w 8 m.toInt) 9 v.toInt) (act (uPd (uPd w 8 m.toInt) 9 v.toInt)) ∧ OUT σ0 σ2 p := by
  have K1 := KN_st (j := 8) (v := m.toInt) H q1 q2 (by omega) (by omega) (by rw [lcO_lt (by decide) (by decide), Nat.add_zero]) (by decide) rfl
  have K2 := KN_st (j := 9) (v := v.toInt) K1 q3 q4 (by omega) (by omega) (by rw [lcO_lt (by decide) (by decide), Nat.add_zero]) (by decide) rfl
  refine ⟨KN_sub K2 (fun t _ _ z => Or.inl (Or.inl (act_low (by omega) (act_low (by omega) z)))), OUT_st (OUT_st OUT_0 q2 ?_) q4 ?_⟩ <;> omega
theorem DRP_e {s : Nat} {m m' : Int} (P : DRPp σ0 σ s m) (e : m = m') : DRPp σ0 σ s m' := by
  subst e
  exact P
/-! train(), owns(), copy() told of the numbers -/
abbrev trC (w : Int → Int) (d t n : Int) : Prop := 0 ≤ d ∧ d < w 2 ∧ ((t = 0 ∧ 0 ≤ n ∧ n ≤ 2) ∨ (t = 1 ∧ 0 ≤ n ∧ n ≤ 50))
noncomputable def trR (w : Int → Int) (d t n : Int) : Int := @ite _ (trC w d t n) (Classical.propDecidable _) (w (10 + 4 * d + t)) (-2)
noncomputable def trW (w : Int → Int) (d t n : Int) : Int → Int := @ite _ (trC w d t n) (Classical.propDecidable _) (uPd w (10 + 4 * d + t) n) w
theorem trR_n {d t n r : Int} (h : ¬ trC w d t n) (hr : r = -2) : r = trR w d t n := by unfold trR; rw [if_neg h]; exact hr
theorem trR_y {d t n r i : Int} (h : trC w d t n) (e : i = 10 + 4 * d + t) (hr : w i = r) : r = trR w d t n := by unfold trR; rw [if_pos h, ← e, hr]
theorem trW_n {d t n : Int} (h : ¬ trC w d t n) : trW w d t n = w := by unfold trW; rw [if_neg h]
theorem trW_y {d t n i : Int} (h : trC w d t n) (e : i = 10 + 4 * d + t) : trW w d t n = uPd w i n := by unfold trW; rw [if_pos h, ← e]
abbrev rlOK (w : Int → Int) (m v : Int) : Prop := 0 < w 7 ∧ 0 ≤ m ∧ m < pI (w 0) ∧ 0 ≤ v ∧ v ≤ 15 ∧ sbI v m = 1
noncomputable def owW (w : Int → Int) (m v : Int) : Int → Int := @ite _ (rlOK w m v) (Classical.propDecidable _) (uPd (uPd w 8 m) 9 v) w
theorem owW_n {m v : Int} (h : ¬ rlOK w m v) : owW w m v = w := by unfold owW; rw [if_neg h]
theorem owW_y {m v : Int} (h : rlOK w m v) : owW w m v = uPd (uPd w 8 m) 9 v := by unfold owW; rw [if_pos h]
abbrev cyC (w : Int → Int) (d o : Int) : Prop := 0 ≤ d ∧ d < w 2 ∧ o ≠ d ∧ (o = -1 ∨ (0 ≤ o ∧ o < w 2 ∧ w (13 + 4 * o) = -1)) ∧ cpI w d ≠ 1
noncomputable def cyW (w : Int → Int) (d o : Int) : Int → Int := @ite _ (cyC w d o) (Classical.propDecidable _) (uPd w (13 + 4 * d) o) w
theorem cyW_n {d o : Int} (h : ¬ cyC w d o) : cyW w d o = w := by unfold cyW; rw [if_neg h]
theorem cyW_y {d o : Int} (h : cyC w d o) : cyW w d o = uPd w (13 + 4 * d) o := by unfold cyW; rw [if_pos h]
/-! who is copied copies nobody -/
def TWo (w : Int → Int) : Prop := ∀ d : Int, 0 ≤ d → d < w 2 → d < 4 → cpI w d = 1 → w (13 + 4 * d) = -1
/-- and whom one copies is there -/
def TWN (w : Int → Int) : Prop := TWo w ∧ ∀ d : Int, 0 ≤ d → d < w 2 → d < 4 → w (13 + 4 * d) < w 2
theorem cpI_iff {a : Int} (n4 : w 2 ≤ 4) : cpI w a = 1 ↔ ∃ q : Int, 0 ≤ q ∧ q < w 2 ∧ w (13 + 4 * q) = a := by
  refine ⟨fun h => ?_, fun ⟨q, q0, q1, q2⟩ => (CPw_1 q0 q1 n4 q2 rfl).symm⟩
  unfold cpI at h
  split at h
  · rename_i z
    rcases z with z | z | z | z
    · exact ⟨0, by omega, z.1, z.2⟩
    · exact ⟨1, by omega, z.1, z.2⟩
    · exact ⟨2, by omega, z.1, z.2⟩
    · exact ⟨3, by omega, z.1, z.2⟩
  · omega
theorem TWN_eqv (H : TWN w) (e : ∀ i : Int, (i = 2 ∨ i = 13 ∨ i = 17 ∨ i = 21 ∨ i = 25) → f i = w i) : TWN f := by
  refine ⟨fun d d0 d1 d4 h => ?_, fun d d0 d1 d4 => ?_⟩
  · rw [e (13 + 4 * d) (by omega)]
    refine H.1 d d0 (by rw [← e 2 (by omega)]; exact d1) d4 ?_
    rw [← h]
    exact cpI_cg rfl (fun i hi => (e i hi).symm)
  · rw [e (13 + 4 * d) (by omega), e 2 (by omega)]
    exact H.2 d d0 (by rw [← e 2 (by omega)]; exact d1) d4
theorem cyW_twn {d o : Int} (H : TWN w) (n4 : w 2 ≤ 4) : TWN (cyW w d o) := by
  by_cases c : cyC w d o
  · rw [cyW_y c]
    obtain ⟨d0, d1, od, oc, nc⟩ := c
    have e2 : uPd w (13 + 4 * d) o 2 = w 2 := if_neg (by omega)
    refine ⟨fun x x0 x1 x4 h => ?_, fun x x0 x1 x4 => ?_⟩
    rotate_left
    · rw [e2] at x1 ⊢
      unfold uPd
      by_cases u : x = d
      · rw [if_pos (by omega)]; omega
      · rw [if_neg (by omega)]; exact H.2 x x0 x1 x4
    rw [e2] at x1
    have h := (cpI_iff (by rw [e2]; exact n4)).mp h
    obtain ⟨q, q0, q1, q2⟩ := h
    rw [e2] at q1
    unfold uPd at q2 ⊢
    by_cases z : q = d
    · subst z
      rw [if_pos rfl] at q2
      rw [if_neg (by omega)]
      subst q2
      rcases oc with oc | oc
      · omega
      · exact oc.2.2
    · rw [if_neg (by omega)] at q2
      have y := H.1 x x0 x1 x4 ((cpI_iff n4).mpr ⟨q, q0, q1, q2⟩)
      by_cases u : x = d
      · exfalso
        subst u
        exact nc ((cpI_iff n4).mpr ⟨q, q0, q1, q2⟩)
      · rw [if_neg (by omega)]; exact y
  · rw [cyW_n c]; exact H
/-- whose lessons came by teach(): doors that are there -/
def TGT (w : Int → Int) : Prop := ∀ j : Int, 0 ≤ j → j < w 6 → 0 ≤ w (166 + j) ∧ w (166 + j) < w 2
theorem TGT_eqv (H : TGT w) (h2 : f 2 = w 2) (h6 : f 6 = w 6) (e : ∀ i : Int, 166 ≤ i → f i = w i) : TGT f := fun j j0 j1 => by
  rw [h2, e (166 + j) (by omega)]
  exact H j j0 (by omega)
theorem TGT_0 (h : w 6 = 0) : TGT w := fun j j0 j1 => by omega
/-! the model's numbers behind a call -/
theorem tcM {d j m nt o x J1 J2 J3 J4 J5 y1 y2 y3 y4 y5 : Int} (h : ∀ i : Int, 0 ≤ i → g i = if i = J5 then y5 else if i = J4 then y4 else if i = J3 then y3 else if i = J2 then y2 else if i = J1 then y1 else f i) (hm : m = f (12 + 4 * d)) (hn : nt = f 6) (hok : okL f d x o) (m12 : m < 12) (n59 : nt ≤ 59) (hj : j = 26 + 24 * d + 2 * m) (e1 : J1 = j) (e2 : J2 = j + 1) (e3 : J3 = 12 + 4 * d) (e4 : J4 = 166 + nt) (e5 : J5 = 6) (v1 : y1 = x) (v2 : y2 = o) (v3 : y3 = m + 1) (v4 : y4 = d) (v5 : y5 = nt + 1) : ∀ i : Int, 0 ≤ i → i < 226 → g i = tcW f d x o i := fun i i0 _ => by
  rw [tcW_y hok (by omega) (by omega), h i i0]
  unfold tcU uPd
  subst e1 e2 e3 e4 e5 v1 v2 v3 v4 v5 hj hm hn
  rfl
theorem tcMn {d o x : Int} (h : ¬ (okL f d x o ∧ f (12 + 4 * d) < 12 ∧ f 6 < 60)) (e : ∀ i : Int, 0 ≤ i → i < 226 → g i = f i) : ∀ i : Int, 0 ≤ i → i < 226 → g i = tcW f d x o i := fun i i0 i1 => by
  rw [tcW_n h]; exact e i i0 i1
theorem utM {d m nt J1 J2 y1 y2 : Int} (h : ∀ i : Int, 0 ≤ i → g i = if i = J2 then y2 else if i = J1 then y1 else f i) (h7 : 0 < f 7) (hm : m = f (12 + 4 * d)) (hn : nt = f 6) (n1 : 1 ≤ nt) (hd : d = f (166 + (nt - 1))) (e1 : J1 = 6) (e2 : J2 = 12 + 4 * d) (v1 : y1 = nt - 1) (v2 : y2 = m - 1) : ∀ i : Int, 0 ≤ i → i < 226 → g i = utW f i := fun i i0 _ => by
  have e : utD f = d := by unfold utD; rw [← hn]; exact hd.symm
  unfold utW
  rw [if_neg (by omega), if_neg (by omega), h i i0]
  unfold utU uPd
  rw [e]
  subst e1 e2 v1 v2 hm hn
  rfl
theorem utMn (h : f 7 ≤ 0 ∨ f 6 ≤ 0) (e : ∀ i : Int, 0 ≤ i → i < 226 → g i = f i) : ∀ i : Int, 0 ≤ i → i < 226 → g i = utW f i := fun i i0 i1 => by
  unfold utW
  by_cases z : f 7 ≤ 0
  · rw [if_pos z]; exact e i i0 i1
  · rw [if_neg z, if_pos (by omega)]; exact e i i0 i1
theorem trM {d t n J y : Int} (h : ∀ i : Int, 0 ≤ i → g i = if i = J then y else f i) (c : trC f d t n) (e : J = 10 + 4 * d + t) (v : y = n) : ∀ i : Int, 0 ≤ i → i < 226 → g i = trW f d t n i := fun i i0 _ => by
  rw [trW_y c e, h i i0, v]; rfl
theorem trMn {d t n : Int} (c : ¬ trC f d t n) : ∀ i : Int, 0 ≤ i → i < 226 → f i = trW f d t n i := fun i _ _ => by rw [trW_n c]
theorem owM {m v J1 J2 y1 y2 : Int} (h : ∀ i : Int, 0 ≤ i → g i = if i = J2 then y2 else if i = J1 then y1 else f i) (c : rlOK f m v) (e1 : J1 = 8) (e2 : J2 = 9) (v1 : y1 = m) (v2 : y2 = v) : ∀ i : Int, 0 ≤ i → i < 226 → g i = owW f m v i := fun i i0 _ => by
  rw [owW_y c, h i i0, e1, e2, v1, v2]; rfl
theorem owMn {m v : Int} (c : ¬ rlOK f m v) : ∀ i : Int, 0 ≤ i → i < 226 → f i = owW f m v i := fun i _ _ => by rw [owW_n c]
/-- the reference lets one that is copied copy nobody: nothing changes by that -/
theorem cyM {d o J y : Int} (H : TWN f) (n4 : f 2 ≤ 4) (h : ∀ i : Int, 0 ≤ i → g i = if i = J then y else f i) (d0 : 0 ≤ d) (d1 : d < f 2) (od : o ≠ d) (oc : o = -1 ∨ (0 ≤ o ∧ o < f 2 ∧ f (13 + 4 * o) = -1 ∧ cpI f d ≠ 1)) (e : J = 13 + 4 * d) (v : y = o) : ∀ i : Int, 0 ≤ i → i < 226 → g i = cyW f d o i := fun i i0 _ => by
  subst e v
  rw [h i i0]
  by_cases c : cpI f d = 1
  · rw [cyW_n (fun q => q.2.2.2.2 c)]
    have z : y = -1 := by
      rcases oc with oc | oc
      · exact oc
      · exact absurd c oc.2.2.2
    by_cases u : i = 13 + 4 * d
    · rw [if_pos u, z, u]
      exact (H.1 d d0 d1 (by omega) c).symm
    · rw [if_neg u]
  · rw [cyW_y ⟨d0, d1, od, by
      rcases oc with oc | oc
      · exact Or.inl oc
      · exact Or.inr ⟨oc.1, oc.2.1, oc.2.2.1⟩, c⟩]
    rfl
theorem cyMn {d o : Int} (c : ¬ cyC f d o) : ∀ i : Int, 0 ≤ i → i < 226 → f i = cyW f d o i := fun i _ _ => by rw [cyW_n c]
end WCH
section WCG
variable {w w' : Int → Int} {d d' k k' o o' : Int}
theorem tcR_cg (h : w' = w) (a : d' = d) (b : k' = k) (c : o' = o) : tcR w' d' k' o' = tcR w d k o := by subst h a b c; rfl
theorem tcW_cg (h : w' = w) (a : d' = d) (b : k' = k) (c : o' = o) : tcW w' d' k' o' = tcW w d k o := by subst h a b c; rfl
theorem trR_cg (h : w' = w) (a : d' = d) (b : k' = k) (c : o' = o) : trR w' d' k' o' = trR w d k o := by subst h a b c; rfl
theorem trW_cg (h : w' = w) (a : d' = d) (b : k' = k) (c : o' = o) : trW w' d' k' o' = trW w d k o := by subst h a b c; rfl
theorem owW_cg (h : w' = w) (a : d' = d) (b : k' = k) : owW w' d' k' = owW w d k := by subst h a b; rfl
theorem cyW_cg (h : w' = w) (a : d' = d) (b : k' = k) : cyW w' d' k' = cyW w d k := by subst h a b; rfl
end WCG
