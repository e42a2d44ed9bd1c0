/-! 32.le.wld -/
section
section WCH
variable {σ0 σ σ' σ1 σ2 : SG} {W W' : List (Nat × Nat)} {p : Nat} {w f g : Int → Int}
/-! one number, two numbers of a plan -/
theorem KN_one {b q : Nat} {i v : Int} {y : Int32} (H : KN σ0 p w (act w)) (hp : PLB p) (q1 : (σ b)[q]? = some (Value.int y)) (q2 : ∀ b' q', (b' ≠ b ∨ q' ≠ q) → (σ b')[q']? = (σ0 b')[q']?) (i0 : 0 ≤ i) (i1 : i < 226) (hb : b = p + lcO i ∧ q = (lcB i).toNat) (hv : v = y.toInt) (hc : 10 ≤ i ∧ i < 26 ∧ (i - 10) % 4 ≠ 2) (ha : act w i) : KN σ p (uPd w i v) (act (uPd w i v)) ∧ OUT σ0 σ p := by
  refine ⟨KN_sub (KN_st H q1 q2 i0 i1 hb.1 hb.2 hv) (fun t _ _ z => Or.inl (act_in hc.1 (fun _ => hc.2.2) z)), OUT_st OUT_0 q2 ?_⟩
  have := lc_0 i0 i1
  omega
theorem KN_two {m v : Int32} (H : KN σ0 p w (act w)) (hp : PLB p) (q1 : (σ1 p)[6]? = some (Value.int m)) (q2 : ∀ b' q', (b' ≠ p ∨ q' ≠ 6) → (σ1 b')[q']? = (σ0 b')[q']?) (q3 : (σ2 p)[7]? = some (Value.int v)) (q4 : ∀ b' q', (b' ≠ p ∨ q' ≠ 7) → (σ2 b')[q']? = (σ1 b')[q']?) : KN σ2 p (uPd (uPd w 8 m.toInt) 9 v.toInt) (act (uPd (uPd w 8 m.toInt) 9 v.toInt)) ∧ OUT σ0 σ2 p := by
  have K1 := KN_st (j := 8) (v := m.toInt) H q1 q2 (by omega) (by omega) (by rw [lcO_lt (by decide) (by decide), Nat.add_zero]) (by decide) rfl
  have K2 := KN_st (j := 9) (v := v.toInt) K1 q3 q4 (by omega) (by omega) (by rw [lcO_lt (by decide) (by decide), Nat.add_zero]) (by decide) rfl
  refine ⟨KN_sub K2 (fun t _ _ z => Or.inl (Or.inl (act_low (by omega) (act_low (by omega) z)))), OUT_st (OUT_st OUT_0 q2 ?_) q4 ?_⟩ <;> omega
theorem DRP_e {s : Nat} {m m' : Int} (P : DRPp σ0 σ s m) (e : m = m') : DRPp σ0 σ s m' := by
  subst e
  exact P
/-! train(), owns(), copy() told of the numbers -/
abbrev trC (w : Int → Int) (d t n : Int) : Prop := 0 ≤ d ∧ d < w 2 ∧ ((t = 0 ∧ 0 ≤ n ∧ n ≤ 2) ∨ (t = 1 ∧ 0 ≤ n ∧ n ≤ 50))
noncomputable def trR (w : Int → Int) (d t n : Int) : Int := @ite _ (trC w d t n) (Classical.propDecidable _) (w (10 + 4 * d + t)) (-2)
noncomputable def trW (w : Int → Int) (d t n : Int) : Int → Int := @ite _ (trC w d t n) (Classical.propDecidable _) (uPd w (10 + 4 * d + t) n) w
theorem trR_n {d t n r : Int} (h : ¬ trC w d t n) (hr : r = -2) : r = trR w d t n := by unfold trR; rw [if_neg h]; exact hr
theorem trR_y {d t n r i : Int} (h : trC w d t n) (e : i = 10 + 4 * d + t) (hr : w i = r) : r = trR w d t n := by unfold trR; rw [if_pos h, ← e, hr]
theorem trW_n {d t n : Int} (h : ¬ trC w d t n) : trW w d t n = w := by unfold trW; rw [if_neg h]
theorem trW_y {d t n i : Int} (h : trC w d t n) (e : i = 10 + 4 * d + t) : trW w d t n = uPd w i n := by unfold trW; rw [if_pos h, ← e]
abbrev rlOK (w : Int → Int) (m v : Int) : Prop := 0 < w 7 ∧ 0 ≤ m ∧ m < pI (w 0) ∧ 0 ≤ v ∧ v ≤ 15 ∧ sbI v m = 1
noncomputable def owW (w : Int → Int) (m v : Int) : Int → Int := @ite _ (rlOK w m v) (Classical.propDecidable _) (uPd (uPd w 8 m) 9 v) w
theorem owW_n {m v : Int} (h : ¬ rlOK w m v) : owW w m v = w := by unfold owW; rw [if_neg h]
theorem owW_y {m v : Int} (h : rlOK w m v) : owW w m v = uPd (uPd w 8 m) 9 v := by unfold owW; rw [if_pos h]
abbrev cyC (w : Int → Int) (d o : Int) : Prop := 0 ≤ d ∧ d < w 2 ∧ o ≠ d ∧ (o = -1 ∨ (0 ≤ o ∧ o < w 2 ∧ w (13 + 4 * o) = -1)) ∧ cpI w d ≠ 1
noncomputable def cyW (w : Int → Int) (d o : Int) : Int → Int := @ite _ (cyC w d o) (Classical.propDecidable _) (uPd w (13 + 4 * d) o) w
theorem cyW_n {d o : Int} (h : ¬ cyC w d o) : cyW w d o = w := by unfold cyW; rw [if_neg h]
theorem cyW_y {d o : Int} (h : cyC w d o) : cyW w d o = uPd w (13 + 4 * d) o := by unfold cyW; rw [if_pos h]
/-! who is copied copies nobody -/
def TWo (w : Int → Int) : Prop := ∀ d : Int, 0 ≤ d → d < w 2 → d < 4 → cpI w d = 1 → w (13 + 4 * d) = -1
/-- and whom one copies is there -/
def TWN (w : Int → Int) : Prop := TWo w ∧ ∀ d : Int, 0 ≤ d → d < w 2 → d < 4 → w (13 + 4 * d) < w 2
theorem cpI_iff {a : Int} (n4 : w 2 ≤ 4) : cpI w a = 1 ↔ ∃ q : Int, 0 ≤ q ∧ q < w 2 ∧ w (13 + 4 * q) = a := by
  refine ⟨fun h => ?_, fun ⟨q, q0, q1, q2⟩ => (CPw_1 q0 q1 n4 q2 rfl).symm⟩
  unfold cpI at h
  split at h
  · rename_i z
    rcases z with z | z | z | z
    · exact ⟨0, by omega, z.1, z.2⟩
    · exact ⟨1, by omega, z.1, z.2⟩
    · exact ⟨2, by omega, z.1, z.2⟩
    · exact ⟨3, by omega, z.1, z.2⟩
  · omega
theorem TWN_eqv (H : TWN w) (e : ∀ i : Int, (i = 2 ∨ i = 13 ∨ i = 17 ∨ i = 21 ∨ i = 25) → f i = w i) : TWN f := by
  refine ⟨fun d d0 d1 d4 h => ?_, fun d d0 d1 d4 => ?_⟩
  · rw [e (13 + 4 * d) (by omega)]
    refine H.1 d d0 (by rw [← e 2 (by omega)]; exact d1) d4 ?_
    rw [← h]
    exact cpI_cg rfl (fun i hi => (e i hi).symm)
  · rw [e (13 + 4 * d) (by omega), e 2 (by omega)]
    exact H.2 d d0 (by rw [← e 2 (by omega)]; exact d1) d4
theorem cyW_twn {d o : Int} (H : TWN w) (n4 : w 2 ≤ 4) : TWN (cyW w d o) := by
  by_cases c : cyC w d o
  · rw [cyW_y c]
    obtain ⟨d0, d1, od, oc, nc⟩ := c
    have e2 : uPd w (13 + 4 * d) o 2 = w 2 := if_neg (by omega)
    refine ⟨fun x x0 x1 x4 h => ?_, fun x x0 x1 x4 => ?_⟩
    rotate_left
    · rw [e2] at x1 ⊢
      unfold uPd
      by_cases u : x = d
      · rw [if_pos (by omega)]; omega
      · rw [if_neg (by omega)]; exact H.2 x x0 x1 x4
    rw [e2] at x1
    have h := (cpI_iff (by rw [e2]; exact n4)).mp h
    obtain ⟨q, q0, q1, q2⟩ := h
    rw [e2] at q1
    unfold uPd at q2 ⊢
    by_cases z : q = d
    · subst z
      rw [if_pos rfl] at q2
      rw [if_neg (by omega)]
      subst q2
      rcases oc with oc | oc
      · omega
      · exact oc.2.2
    · rw [if_neg (by omega)] at q2
      have y := H.1 x x0 x1 x4 ((cpI_iff n4).mpr ⟨q, q0, q1, q2⟩)
      by_cases u : x = d
      · exfalso
        subst u
        exact nc ((cpI_iff n4).mpr ⟨q, q0, q1, q2⟩)
      · rw [if_neg (by omega)]; exact y
  · rw [cyW_n c]; exact H
/-- whose lessons came by teach(): doors that are there -/
def TGT (w : Int → Int) : Prop := ∀ j : Int, 0 ≤ j → j < w 6 → 0 ≤ w (166 + j) ∧ w (166 + j) < w 2
theorem TGT_eqv (H : TGT w) (h2 : f 2 = w 2) (h6 : f 6 = w 6) (e : ∀ i : Int, 166 ≤ i → f i = w i) : TGT f := fun j j0 j1 => by
  rw [h2, e (166 + j) (by omega)]
  exact H j j0 (by omega)
theorem TGT_0 (h : w 6 = 0) : TGT w := fun j j0 j1 => by omega
/-! the model's numbers behind a call -/
theorem tcM {d j m nt o x J1 J2 J3 J4 J5 y1 y2 y3 y4 y5 : Int} (h : ∀ i : Int, 0 ≤ i → g i = if i = J5 then y5 else if i = J4 then y4 else if i = J3 then y3 else if i = J2 then y2 else if i = J1 then y1 else f i) (hm : m = f (12 + 4 * d)) (hn : nt = f 6) (hok : okL f d x o) (m12 : m < 12) (n59 : nt ≤ 59) (hj : j = 26 + 24 * d + 2 * m) (e1 : J1 = j) (e2 : J2 = j + 1) (e3 : J3 = 12 + 4 * d) (e4 : J4 = 166 + nt) (e5 : J5 = 6) (v1 : y1 = x) (v2 : y2 = o) (v3 : y3 = m + 1) (v4 : y4 = d) (v5 : y5 = nt + 1) : ∀ i : Int, 0 ≤ i → i < 226 → g i = tcW f d x o i := fun i i0 _ => by
  rw [tcW_y hok (by omega) (by omega), h i i0]
  unfold tcU uPd
  subst e1 e2 e3 e4 e5 v1 v2 v3 v4 v5 hj hm hn
  rfl
theorem tcMn {d o x : Int} (h : ¬ (okL f d x o ∧ f (12 + 4 * d) < 12 ∧ f 6 < 60)) (e : ∀ i : Int, 0 ≤ i → i < 226 → g i = f i) : ∀ i : Int, 0 ≤ i → i < 226 → g i = tcW f d x o i := fun i i0 i1 => by
  rw [tcW_n h]; exact e i i0 i1
theorem utM {d m nt J1 J2 y1 y2 : Int} (h : ∀ i : Int, 0 ≤ i → g i = if i = J2 then y2 else if i = J1 then y1 else f i) (h7 : 0 < f 7) (hm : m = f (12 + 4 * d)) (hn : nt = f 6) (n1 : 1 ≤ nt) (hd : d = f (166 + (nt - 1))) (e1 : J1 = 6) (e2 : J2 = 12 + 4 * d) (v1 : y1 = nt - 1) (v2 : y2 = m - 1) : ∀ i : Int, 0 ≤ i → i < 226 → g i = utW f i := fun i i0 _ => by
  have e : utD f = d := by unfold utD; rw [← hn]; exact hd.symm
  unfold utW
  rw [if_neg (by omega), if_neg (by omega), h i i0]
  unfold utU uPd
  rw [e]
  subst e1 e2 v1 v2 hm hn
  rfl
theorem utMn (h : f 7 ≤ 0 ∨ f 6 ≤ 0) (e : ∀ i : Int, 0 ≤ i → i < 226 → g i = f i) : ∀ i : Int, 0 ≤ i → i < 226 → g i = utW f i := fun i i0 i1 => by
  unfold utW
  by_cases z : f 7 ≤ 0
  · rw [if_pos z]; exact e i i0 i1
  · rw [if_neg z, if_pos (by omega)]; exact e i i0 i1
theorem trM {d t n J y : Int} (h : ∀ i : Int, 0 ≤ i → g i = if i = J then y else f i) (c : trC f d t n) (e : J = 10 + 4 * d + t) (v : y = n) : ∀ i : Int, 0 ≤ i → i < 226 → g i = trW f d t n i := fun i i0 _ => by
  rw [trW_y c e, h i i0, v]; rfl
theorem trMn {d t n : Int} (c : ¬ trC f d t n) : ∀ i : Int, 0 ≤ i → i < 226 → f i = trW f d t n i := fun i _ _ => by rw [trW_n c]
theorem owM {m v J1 J2 y1 y2 : Int} (h : ∀ i : Int, 0 ≤ i → g i = if i = J2 then y2 else if i = J1 then y1 else f i) (c : rlOK f m v) (e1 : J1 = 8) (e2 : J2 = 9) (v1 : y1 = m) (v2 : y2 = v) : ∀ i : Int, 0 ≤ i → i < 226 → g i = owW f m v i := fun i i0 _ => by
  rw [owW_y c, h i i0, e1, e2, v1, v2]; rfl
theorem owMn {m v : Int} (c : ¬ rlOK f m v) : ∀ i : Int, 0 ≤ i → i < 226 → f i = owW f m v i := fun i _ _ => by rw [owW_n c]
/-- the reference lets one that is copied copy nobody: nothing changes by that -/
theorem cyM {d o J y : Int} (H : TWN f) (n4 : f 2 ≤ 4) (h : ∀ i : Int, 0 ≤ i → g i = if i = J then y else f i) (d0 : 0 ≤ d) (d1 : d < f 2) (od : o ≠ d) (oc : o = -1 ∨ (0 ≤ o ∧ o < f 2 ∧ f (13 + 4 * o) = -1 ∧ cpI f d ≠ 1)) (e : J = 13 + 4 * d) (v : y = o) : ∀ i : Int, 0 ≤ i → i < 226 → g i = cyW f d o i := fun i i0 _ => by
  subst e v
  rw [h i i0]
  by_cases c : cpI f d = 1
  · rw [cyW_n (fun q => q.2.2.2.2 c)]
    have z : y = -1 := by
      rcases oc with oc | oc
      · exact oc
      · exact absurd c oc.2.2.2
    by_cases u : i = 13 + 4 * d
    · rw [if_pos u, z, u]
      exact (H.1 d d0 d1 (by omega) c).symm
    · rw [if_neg u]
  · rw [cyW_y ⟨d0, d1, od, by
      rcases oc with oc | oc
      · exact Or.inl oc
      · exact Or.inr ⟨oc.1, oc.2.1, oc.2.2.1⟩, c⟩]
    rfl
theorem cyMn {d o : Int} (c : ¬ cyC f d o) : ∀ i : Int, 0 ≤ i → i < 226 → f i = cyW f d o i := fun i _ _ => by rw [cyW_n c]
end WCH
section WCG
variable {w w' : Int → Int} {d d' k k' o o' : Int}
theorem tcR_cg (h : w' = w) (a : d' = d) (b : k' = k) (c : o' = o) : tcR w' d' k' o' = tcR w d k o := by subst h a b c; rfl
theorem tcW_cg (h : w' = w) (a : d' = d) (b : k' = k) (c : o' = o) : tcW w' d' k' o' = tcW w d k o := by subst h a b c; rfl
theorem trR_cg (h : w' = w) (a : d' = d) (b : k' = k) (c : o' = o) : trR w' d' k' o' = trR w d k o := by subst h a b c; rfl
theorem trW_cg (h : w' = w) (a : d' = d) (b : k' = k) (c : o' = o) : trW w' d' k' o' = trW w d k o := by subst h a b c; rfl
theorem owW_cg (h : w' = w) (a : d' = d) (b : k' = k) : owW w' d' k' = owW w d k := by subst h a b; rfl
theorem cyW_cg (h : w' = w) (a : d' = d) (b : k' = k) : cyW w' d' k' = cyW w d k := by subst h a b; rfl
end WCG
end
/-! 32.lez.rel -/
section
/-! which images there are -/
def FLGs (σ : SG) : Prop := ∀ k : Int, 0 ≤ k → k < 3 → ci σ 71 k = ci σ 162 k
def BSET (σ0 σ : SG) (r : Nat) (a : Int) : Prop := ∀ k : Int, 0 ≤ k → k < 3 → ci σ r k = if k = a then 1 else ci σ0 r k
def SAMr (σ0 σ : SG) (r : Nat) : Prop := ∀ k : Int, ci σ r k = ci σ0 r k
theorem SAMr_0 {σ : SG} {r : Nat} : SAMr σ σ r := fun _ => rfl
theorem SAMr_st {σ0 σ σ' : SG} {r a n : Nat} (H : SAMr σ0 σ r) (h2 : ∀ b q, (b ≠ a ∨ q ≠ n) → (σ' b)[q]? = (σ b)[q]?) (h : r ≠ a) : SAMr σ0 σ' r := fun k => by rw [ci_ne h2 h]; exact H k
theorem BSET_no {σ0 σ : SG} {r : Nat} {a : Int} (H : SAMr σ0 σ r) (h : a < 0 ∨ 2 < a) : BSET σ0 σ r a := fun k k0 k3 => by rw [if_neg (by omega)]; exact H k
theorem BSET_st {σ0 σ σ' : SG} {r : Nat} {a : Int} {y : Int32} (H : SAMr σ0 σ r) (h1 : (σ' r)[a.toNat]? = some (Value.int y)) (h2 : ∀ b q, (b ≠ r ∨ q ≠ a.toNat) → (σ' b)[q]? = (σ b)[q]?) (hy : y.toInt = 1) (a0 : 0 ≤ a) : BSET σ0 σ' r a := fun k k0 k3 => by
  rw [ci_st h1 h2 a0 k k0]
  by_cases z : k = a
  · rw [if_pos z, if_pos z]; exact hy
  · rw [if_neg z, if_neg z]; exact H k
def BCK (f a r : Int) : Prop := (a < 0 ∨ 2 < a → r = -2) ∧ (0 ≤ a → a ≤ 2 → (f = 0 → r = -6) ∧ (f ≠ 0 → r = 0))
theorem FLG_fr {W W' : List (Nat × Nat)} {σ σ1 σ2 : SG} (H : FLGs σ) (h : Fr W σ σ1) (h' : Fr W' σ1 σ2) (hw : (decide (KD 30 ≠ 0) && !W.contains (30, 0)) = true) (hw2 : (decide (KD 38 ≠ 0) && !W.contains (38, 0)) = true) (hw' : (decide (KD 30 ≠ 0) && !W'.contains (30, 0)) = true) (hw2' : (decide (KD 38 ≠ 0) && !W'.contains (38, 0)) = true) : FLGs σ2 := fun k k0 k3 => by
  rw [ci_fr h' tgz_71 hw', ci_fr h tgz_71 hw, ci_fr h' tgz_162 hw2', ci_fr h tgz_162 hw2]
  exact H k k0 k3
theorem FLG_im {W W' : List (Nat × Nat)} {σ σ1 σ2 : SG} {a a' : Int} (H : FLGs σ) (h : Fr W σ σ1) (h' : Fr W' σ1 σ2) (hw2 : (decide (KD 38 ≠ 0) && !W.contains (38, 0)) = true) (hw' : (decide (KD 30 ≠ 0) && !W'.contains (30, 0)) = true) (B : BSET σ σ1 71 a) (B' : BSET σ1 σ2 162 a') (e : a' = a) : FLGs σ2 := fun k k0 k3 => by
  subst e
  rw [ci_fr h' tgz_71 hw', B k k0 k3, B' k k0 k3, ci_fr h tgz_162 hw2, H k k0 k3]
theorem BCK_eq {W : List (Nat × Nat)} {σ σ1 : SG} {a a' r r' : Int} (H : FLGs σ) (h : Fr W σ σ1) (hw2 : (decide (KD 38 ≠ 0) && !W.contains (38, 0)) = true) (B : BCK (ci σ 71 a) a r) (B' : BCK (ci σ1 162 a') a' r') (e : a' = a) : r' = r := by
  subst e
  rw [ci_fr h tgz_162 hw2] at B'
  obtain ⟨b1, b2⟩ := B
  obtain ⟨c1, c2⟩ := B'
  by_cases z : a' < 0 ∨ 2 < a'
  · rw [b1 z, c1 z]
  · obtain ⟨b3, b4⟩ := b2 (by omega) (by omega)
    obtain ⟨c3, c4⟩ := c2 (by omega) (by omega)
    have := H a' (by omega) (by omega)
    by_cases w : ci σ 71 a' = 0
    · rw [b3 w, c3 (by omega)]
    · rw [b4 w, c4 (by omega)]
theorem BCK_2 {f a r : Int} (h : a < 0 ∨ 2 < a) (hr : r = -2) : BCK f a r := ⟨fun _ => hr, fun a0 a2 => by omega⟩
theorem BCK_6 {f a r : Int} (a0 : 0 ≤ a) (a2 : a ≤ 2) (hf : f = 0) (hr : r = -6) : BCK f a r := ⟨fun z => by omega, fun _ _ => ⟨fun _ => hr, fun z => absurd hf z⟩⟩
theorem BCK_0 {f a r : Int} (a0 : 0 ≤ a) (a2 : a ≤ 2) (hf : f ≠ 0) (hr : r = 0) : BCK f a r := ⟨fun z => by omega, fun _ _ => ⟨fun z => absurd z hf, fun _ => hr⟩⟩
end
/-! 32.lf.twn -/
section
section TW6
variable {By : Int → Int} {Nb : Int} {S T : PS} {σ0 σ σ' : SG} {p p2 : Nat} {w w' : Int → Int}
/-! what a reading leaves alone: twins, lessons that came by teach() -/
def TW6 (w : Int → Int) : Prop := TWN w ∧ w 6 = 0
def EQ6 (w' w : Int → Int) : Prop := ∀ i : Int, (i = 2 ∨ i = 6 ∨ i = 13 ∨ i = 17 ∨ i = 21 ∨ i = 25) → w' i = w i
theorem EQ6_r (h : w' = w) : EQ6 w' w := fun i _ => by rw [h]
theorem EQ6_t {w'' : Int → Int} (h : EQ6 w'' w') (h' : EQ6 w' w) : EQ6 w'' w := fun i hi => (h i hi).trans (h' i hi)
theorem EQ6_u {j v : Int} (h : EQ6 w' w) (hj : j ≠ 2 ∧ j ≠ 6 ∧ j ≠ 13 ∧ j ≠ 17 ∧ j ≠ 21 ∧ j ≠ 25) : EQ6 (uPd w' j v) w := fun i hi => by
  have : uPd w' j v i = w' i := if_neg (by omega)
  rw [this]; exact h i hi
theorem TW6_e (h : EQ6 w' w) (H : TW6 w) : TW6 w' := ⟨TWN_eqv H.1 (fun i hi => h i (by omega)), (h 6 (by omega)).trans H.2⟩
def BND (w : Int → Int) : Prop := WFw w ∧ 0 ≤ w 2 ∧ 0 ≤ w 3 ∧ 0 ≤ w 4 ∧ 0 ≤ w 5 ∧ ∀ d : Int, 0 ≤ d → d < 4 → 0 ≤ w (12 + 4 * d)
theorem q_first : EQ6 (fFirst By Nb S).2.2.2 S.2.2.2 := by
  unfold fFirst
  dsimp only
  unfold wst
  dsimp only
  refine EQ6_u ?_ (by omega)
  rw [tN_w, pss_w]
  dsimp only
  refine EQ6_u ?_ (by omega)
  rw [tN_w, pss_w, pss_w]
  exact EQ6_r rfl
theorem q_said {i j : Int} (hi : 26 ≤ i) (hj : j ≠ 2 ∧ j ≠ 6 ∧ j ≠ 13 ∧ j ≠ 17 ∧ j ≠ 21 ∧ j ≠ 25) : EQ6 (fSaid By Nb i j S).2.2.2 S.2.2.2 := by
  unfold fSaid
  dsimp only
  split
  · unfold wst
    dsimp only
    refine EQ6_u (EQ6_u (EQ6_u ?_ (by omega)) (by omega)) hj
    unfold dD
    rw [pss_w, tN_w]
    exact EQ6_r rfl
  · unfold dD
    rw [pss_w, tN_w]
    exact EQ6_r rfl
theorem q_lesson (hb : BND S.2.2.2) : EQ6 (fLesson By Nb S).2.2.2 S.2.2.2 := by
  unfold fLesson
  dsimp only
  split
  · rw [nH_w, adv_w]; exact EQ6_r rfl
  · rename_i h1
    have h1 : (nH By Nb 0 (S.2.2.2 2 - 1) (adv By Nb S)).1 = 0 := Classical.not_not.mp h1
    have g := nH_gg h1
    split
    · rw [err_w, nH_w, adv_w]; exact EQ6_r rfl
    · have z := hb.2.2.2.2.2 (tV By Nb (adv By Nb S).2.2.1) (by omega) (by have := hb.1.2.2.1; omega)
      refine EQ6_t (q_said (by omega) (by omega)) ?_
      rw [adv_w, nH_w, adv_w]; exact EQ6_r rfl
theorem q_exam (hb : BND S.2.2.2) : EQ6 (fExam By Nb S).2.2.2 S.2.2.2 := by
  unfold fExam
  split
  · rw [err_w]; exact EQ6_r rfl
  · have := hb.2.2.1
    refine EQ6_t (q_said (by omega) (by omega)) ?_
    rw [adv_w]; exact EQ6_r rfl
theorem q_rule {i : Int} (hi : i = 8 ∨ 146 ≤ i) : EQ6 (fRule By Nb i S).2.2.2 S.2.2.2 := by
  unfold fRule
  dsimp only
  split
  · unfold wst
    dsimp only
    refine EQ6_u (EQ6_u ?_ (by omega)) (by omega)
    rw [tP_w, tN_w]; exact EQ6_r rfl
  · rw [tP_w, tN_w]; exact EQ6_r rfl
theorem q_owner : EQ6 (fOwner By Nb S).2.2.2 S.2.2.2 := by
  unfold fOwner
  refine EQ6_t (q_rule (by omega)) ?_
  rw [adv_w]; exact EQ6_r rfl
theorem q_house (hb : BND S.2.2.2) : EQ6 (fHouse By Nb S).2.2.2 S.2.2.2 := by
  unfold fHouse
  dsimp only
  have := hb.2.2.2.1
  split
  · rw [err_w]; exact EQ6_r rfl
  · have k : EQ6 (fRule By Nb (146 + 2 * S.2.2.2 4) (adv By Nb S)).2.2.2 S.2.2.2 := by
      refine EQ6_t (q_rule (by omega)) ?_
      rw [adv_w]; exact EQ6_r rfl
    split
    · unfold wst
      dsimp only
      exact EQ6_u k (by omega)
    · exact k
theorem q_course (hb : BND S.2.2.2) : EQ6 (fCourse By Nb S).2.2.2 S.2.2.2 := by
  unfold fCourse
  dsimp only
  have := hb.2.2.2.2.1
  split
  · rw [err_w]; exact EQ6_r rfl
  · split
    · unfold wst
      dsimp only
      refine EQ6_u (EQ6_u ?_ (by omega)) (by omega)
      rw [tN_w, pss_w, adv_w]; exact EQ6_r rfl
    · rw [tN_w, pss_w, adv_w]; exact EQ6_r rfl
theorem q_ahead : EQ6 (fAhead By Nb S).2.2.2 S.2.2.2 := by
  unfold fAhead
  dsimp only
  split
  · rename_i h
    have g := tN_gg h
    unfold wst
    dsimp only
    refine EQ6_u ?_ (by have g2 := tN_gg g.1; omega)
    rw [tN_w, tN_w, adv_w]; exact EQ6_r rfl
  · rw [tN_w, tN_w, adv_w]; exact EQ6_r rfl
/-- a door more copies nobody, and nobody copies it -/
theorem t_door (hb : BND S.2.2.2) (H : TW6 S.2.2.2) : TW6 (fDoor By Nb S).2.2.2 := by
  unfold fDoor
  dsimp only
  have b2 := hb.2.1
  split
  · rw [err_w]; exact H
  · rename_i h4
    split
    · unfold wst
      dsimp only
      rw [tN_w, pss_w, tW_w, adv_w]
      generalize hf : S.2.2.2 = f at *
      have e : ∀ A B x : Int, uPd (uPd (uPd (uPd (uPd f (10 + 4 * f 2) A) (10 + 4 * f 2 + 1) B) (10 + 4 * f 2 + 2) 0) (10 + 4 * f 2 + 3) (-1)) 2 (f 2 + 1) x = if x = 2 then f 2 + 1 else if x = 10 + 4 * f 2 + 3 then -1 else if x = 10 + 4 * f 2 + 2 then 0 else if x = 10 + 4 * f 2 + 1 then B else if x = 10 + 4 * f 2 then A else f x := fun A B x => rfl
      refine ⟨⟨fun d d0 d1 d4 hd => ?_, fun d d0 d1 d4 => ?_⟩, ?_⟩
      rotate_left
      · rw [e] at d1
        rw [if_pos rfl] at d1
        rw [e, e, if_pos rfl, if_neg (by omega)]
        by_cases z : d = f 2
        · rw [if_pos (by omega)]; omega
        · rw [if_neg (by omega), if_neg (by omega), if_neg (by omega), if_neg (by omega)]
          have := H.1.2 d d0 (by omega) d4
          omega
      rotate_left
      · rw [e] at d1
        rw [if_pos rfl] at d1
        obtain ⟨q, q0, q1, q2⟩ := (cpI_iff (by rw [e, if_pos rfl]; omega)).mp hd
        rw [e, if_pos rfl] at q1
        rw [e] at q2 ⊢
        rw [if_neg (by omega)] at q2 ⊢
        by_cases z : d = f 2
        · rw [if_pos (by omega)]
        · rw [if_neg (by omega), if_neg (by omega), if_neg (by omega), if_neg (by omega)]
          by_cases y : q = f 2
          · rw [if_pos (by omega)] at q2; omega
          · rw [if_neg (by omega), if_neg (by omega), if_neg (by omega), if_neg (by omega)] at q2
            exact H.1.1 d d0 (by omega) d4 ((cpI_iff (by omega)).mpr ⟨q, q0, by omega, q2⟩)
      · have : ∀ A B : Int, uPd (uPd (uPd (uPd (uPd f (10 + 4 * f 2) A) (10 + 4 * f 2 + 1) B) (10 + 4 * f 2 + 2) 0) (10 + 4 * f 2 + 3) (-1)) 2 (f 2 + 1) 6 = f 6 := fun A B => by
          unfold uPd
          rw [if_neg (by omega), if_neg (by omega), if_neg (by omega), if_neg (by omega), if_neg (by omega)]
        rw [this]; exact H.2
    · rw [tN_w, pss_w, tW_w, adv_w]; exact H
theorem tw1_w : (tw1 By Nb S).2.2.2 = S.2.2.2 := by unfold tw1; split; exact err_w; exact nH_w
theorem tw2_w {a : Int} : (tw2 By Nb a S).2.2.2 = S.2.2.2 := by unfold tw2; split; exact err_w; exact nH_w
theorem tw1_g (h : (tw1 By Nb S).1 = 0) : (nH By Nb 0 (S.2.2.2 2 - 1) S).1 = 0 ∧ S.2.2.2 (13 + 4 * tV By Nb S.2.2.1) = -1 ∧ cpI S.2.2.2 (tV By Nb S.2.2.1) ≠ 1 := by
  unfold tw1 at h
  split at h
  · exact absurd h (err_ne (by omega))
  · rename_i c
    exact ⟨h, Classical.byContradiction fun z => c ⟨h, Or.inl z⟩, fun z => c ⟨h, Or.inr z⟩⟩
theorem tw2_g {a : Int} (h : (tw2 By Nb a S).1 = 0) : (nH By Nb 0 (S.2.2.2 2 - 1) S).1 = 0 ∧ tV By Nb S.2.2.1 ≠ a ∧ S.2.2.2 (13 + 4 * tV By Nb S.2.2.1) = -1 := by
  unfold tw2 at h
  split at h
  · exact absurd h (err_ne (by omega))
  · rename_i c
    exact ⟨h, fun z => c ⟨h, Or.inl z⟩, Classical.byContradiction fun z => c ⟨h, Or.inr z⟩⟩
theorem t_twin (hb : BND S.2.2.2) (H : TW6 S.2.2.2) : TW6 (fTwin By Nb S).2.2.2 := by
  unfold fTwin
  dsimp only
  split
  · rw [tw1_w, adv_w]; exact H
  · rename_i h1
    have h1 := tw1_g (Classical.not_not.mp h1)
    have g1 := nH_gg h1.1
    rw [adv_w] at h1 g1
    split
    · rw [tw2_w, adv_w, tw1_w, adv_w]; exact H
    · rename_i h2
      have h2 := tw2_g (Classical.not_not.mp h2)
      have g2 := nH_gg h2.1
      rw [adv_w, tw1_w, adv_w] at h2 g2
      rw [adv_w]
      unfold wst
      dsimp only
      rw [tw2_w, adv_w, tw1_w, adv_w]
      obtain ⟨-, c1, c2⟩ := h1
      obtain ⟨-, c3, c4⟩ := h2
      obtain ⟨-, -, a0, a1⟩ := g1
      obtain ⟨-, -, b0, b1⟩ := g2
      generalize tV By Nb (adv By Nb S).2.2.1 = a at *
      generalize tV By Nb (adv By Nb (tw1 By Nb (adv By Nb S))).2.2.1 = b at *
      have n4 := hb.1.2.2.1
      refine ⟨?_, ?_⟩
      · have k := cyW_twn (d := a) (o := b) H.1 n4
        rw [cyW_y ⟨by omega, by omega, c3, Or.inr ⟨by omega, by omega, c4⟩, c2⟩] at k
        exact k
      · have : uPd S.2.2.2 (13 + 4 * a) b 6 = S.2.2.2 6 := if_neg (by omega)
        rw [this]; exact H.2
theorem t_next (hb : BND S.2.2.2) (H : TW6 S.2.2.2) : TW6 (fNext By Nb S).2.2.2 := by
  unfold fNext
  split
  · exact t_door hb H
  · split
    · exact TW6_e (q_lesson hb) H
    · split
      · exact TW6_e (q_exam hb) H
      · split
        · exact t_twin hb H
        · split
          · exact TW6_e q_owner H
          · split
            · exact TW6_e (q_house hb) H
            · split
              · exact TW6_e (q_course hb) H
              · split
                · exact TW6_e q_ahead H
                · rw [err_w]; exact H
theorem t_line (hb : BND S.2.2.2) (H : TW6 S.2.2.2) : TW6 (fLine By Nb S).2.2.2 := by
  unfold fLine
  dsimp only
  unfold wst
  dsimp only
  rw [pss_w]
  have k : TW6 (if S.2.2.2 7 = 0 then fFirst By Nb S else fNext By Nb S).2.2.2 := by
    split
    · exact TW6_e q_first H
    · exact t_next hb H
  exact TW6_e (EQ6_u (EQ6_r rfl) (by omega)) k
theorem BND_of (hσ : WT σ) (H : ML By Nb σ S) (z : S.1 = 0) : BND S.2.2.2 := by
  have w := (H.2.2.2 z).2
  have a2 := fr_ty (l := 0) (u := 4) (i := 2) hσ 2 rfl (by decide +kernel) (by decide +kernel)
  have a3 := fr_ty (l := 0) (u := 12) (i := 3) hσ 3 rfl (by decide +kernel) (by decide +kernel)
  have a4 := fr_ty (l := 0) (u := 4) (i := 4) hσ 4 rfl (by decide +kernel) (by decide +kernel)
  have a5 := fr_ty (l := 0) (u := 6) (i := 5) hσ 5 rfl (by decide +kernel) (by decide +kernel)
  have b0 := fr_ty (l := 0) (u := 12) (i := 12) hσ 12 rfl (by decide +kernel) (by decide +kernel)
  have b1 := fr_ty (l := 0) (u := 12) (i := 16) hσ 16 rfl (by decide +kernel) (by decide +kernel)
  have b2 := fr_ty (l := 0) (u := 12) (i := 20) hσ 20 rfl (by decide +kernel) (by decide +kernel)
  have b3 := fr_ty (l := 0) (u := 12) (i := 24) hσ 24 rfl (by decide +kernel) (by decide +kernel)
  have e2 := w 2 (by omega) (by omega)
  have e3 := w 3 (by omega) (by omega)
  have e4 := w 4 (by omega) (by omega)
  have e5 := w 5 (by omega) (by omega)
  have f0 := w 12 (by omega) (by omega)
  have f1 := w 16 (by omega) (by omega)
  have f2 := w 20 (by omega) (by omega)
  have f3 := w 24 (by omega) (by omega)
  refine ⟨(WFw_of hσ H z).1, by omega, by omega, by omega, by omega, fun d d0 d4 => ?_⟩
  rcases (show d = 0 ∨ d = 1 ∨ d = 2 ∨ d = 3 by omega) with h | h | h | h <;> subst h
  · show 0 ≤ S.2.2.2 12; omega
  · show 0 ≤ S.2.2.2 16; omega
  · show 0 ≤ S.2.2.2 20; omega
  · show 0 ≤ S.2.2.2 24; omega
/-- the loop over the lines, and what twins are told so far -/
def LPJ (By : Int → Int) (Nb : Int) (σ : SG) : Prop := ∃ (S : PS) (f : Nat), ML By Nb σ S ∧ fRead By Nb f S = fRead By Nb 1601 S00 ∧ (S.1 = 0 → (f : Int) + S.2.2.2 7 = 1601) ∧ (S.1 = 0 → TW6 S.2.2.2)
theorem TW6_0 : TW6 S00.2.2.2 := by
  have z : S00.2.2.2 2 = 0 := rfl
  exact ⟨⟨fun d d0 d1 _ _ => by omega, fun d d0 d1 _ => by omega⟩, rfl⟩
theorem LPJ_0 {P : Int} {k q : Int32} (hK : TPm By Nb σ ∧ TKm By Nb P σ) (hp : P = 0) (h12 : (σ 159)[12]? = some (Value.int k)) (hk : k.toInt = 0) (h13 : (σ 159)[13]? = some (Value.int q)) (hq : q.toInt = -1) (hc : CLF σ 226) : LPJ By Nb σ := by
  subst hp
  refine ⟨S00, 1601, ⟨hK.1, ?_, ?_, fun _ => ⟨hK.2, fun i i0 i1 => hc i i0 i1⟩⟩, rfl, fun _ => rfl, fun _ => TW6_0⟩
  · rw [ci_at (i := 12) (j := 12) h12 rfl, hk]; rfl
  · rw [ci_at (i := 13) (j := 13) h13 rfl, hq]; rfl
theorem LPJ_s {f : Nat} (H : ML By Nb σ S) (hσ : WT σ) (z : S.1 = 0) (tk : tK By Nb S.2.2.1 ≠ 0) (e1 : fRead By Nb f S = fRead By Nb 1601 S00) (e2 : S.1 = 0 → (f : Int) + S.2.2.2 7 = 1601) (e3 : S.1 = 0 → TW6 S.2.2.2) (G : ML By Nb σ' (gLine By Nb S)) : LPJ By Nb σ' := by
  obtain ⟨hw, l0, l1⟩ := WFw_of hσ H z
  have e4 := e2 z
  obtain ⟨g, rfl⟩ : ∃ g, f = g + 1 := ⟨f - 1, by omega⟩
  refine ⟨fLine By Nb S, g, ML_eqv G (eq_line z hw), ?_, fun _ => ?_, fun _ => t_line (BND_of hσ H z) (e3 z)⟩
  · rw [← e1]
    conv => rhs; unfold fRead
    rw [if_pos ⟨z, tk⟩]
  · have : (fLine By Nb S).2.2.2 7 = S.2.2.2 7 + 1 := by
      unfold fLine; dsimp only [wst, uPd]; exact if_pos rfl
    omega
theorem TW6_x {f : Nat} (e1 : fRead By Nb f S = fRead By Nb 1601 S00) (z : S.1 = 0) (tk : tK By Nb S.2.2.1 = 0) (e3 : S.1 = 0 → TW6 S.2.2.2) : TW6 (fRead By Nb 1601 S00).2.2.2 := by
  rw [← e1, fRead_x (Or.inr tk)]
  exact e3 z
/-- the plan that is there behind a reading -/
def SPL (By : Int → Int) (Nb : Int) (σ : SG) (p p2 : Nat) : Prop := ((fRead By Nb 1601 S00).1 ≠ 0 → (σ 0)[9]? = some (Value.ref p)) ∧ ((fRead By Nb 1601 S00).1 = 0 → (σ 0)[9]? = some (Value.ref p2) ∧ KN σ p2 (fRead By Nb 1601 S00).2.2.2 (act (fRead By Nb 1601 S00).2.2.2))
end TW6
section IMG
variable {σ0 σ σ' σ1 σ2 : SG} {W W' : List (Nat × Nat)} {a p : Nat} {w w' : Int → Int}
/-! images: three plans, each behind its flag -/
def IMX (σ : SG) : Prop := ∀ k : Nat, k < 3 → (σ 70)[k]? = some (Value.ref (72 + 26 * k)) ∧ FXP σ (72 + 26 * k)
theorem PLI_k {k : Nat} (h : k < 3) : PLI (72 + 26 * k) := by
  unfold PLI
  omega
theorem SEP_i {k : Nat} (h : k < 3) (hp : PLA p) : SEP (72 + 26 * k) p ∧ SEP p (72 + 26 * k) := by
  have i := PLI_B (PLI_k h)
  have j := PLA_B hp
  unfold PLA at hp
  exact ⟨⟨i, j, by omega⟩, ⟨j, i, by omega⟩⟩
/-- image(k): the block of image k shows what the plan shows, its flag is up; else nothing -/
def IMC (σ0 σ : SG) (p : Nat) (k : Int) : Prop := (0 ≤ k → k < 3 → ∀ i : Int, 0 ≤ i → i < 226 → ci σ (72 + 26 * k.toNat + lcO i) (lcB i) = ci σ0 (p + lcO i) (lcB i)) ∧ (∀ b q : Nat, 18 ≤ b → b < 150 → b ≠ 71 → (0 ≤ k → k < 3 → b < 72 + 26 * k.toNat ∨ 72 + 26 * k.toNat + 26 ≤ b) → (σ b)[q]? = (σ0 b)[q]?) ∧ BSET σ0 σ 71 k
theorem IMC_no {k : Int} (h : k < 0 ∨ 2 < k) : IMC σ σ p k := ⟨fun _ _ => by omega, fun _ _ _ _ _ _ => rfl, BSET_no SAMr_0 h⟩
theorem IMC_ok {k : Int} {y : Int32} (k0 : 0 ≤ k) (k2 : k < 3) (C : CPD σ0 σ1 a p (fun _ => True)) (ha : a = 72 + 26 * k.toNat) (h1 : (σ2 71)[k.toNat]? = some (Value.int y)) (h2 : ∀ b q, (b ≠ 71 ∨ q ≠ k.toNat) → (σ2 b)[q]? = (σ1 b)[q]?) (hy : y.toInt = 1) : IMC σ0 σ2 p k := by
  subst ha
  refine ⟨fun _ _ i i0 i1 => ?_, fun b q b0 b1 b2 b3 => ?_, ?_⟩
  · rw [← C.1 i i0 i1 trivial]
    have := lc_0 i0 i1
    exact ci_eq (h2 _ _ (Or.inl (by omega)))
  · rw [h2 b q (Or.inl b2)]
    exact C.2 b q b0 b1 (b3 k0 k2)
  · exact BSET_st (σ := σ1) (fun j => by
      unfold ci
      rw [C.2 71 _ (by omega) (by omega) (by omega)]) h1 h2 hy k0
/-- back(k) -/
def BKC (σ0 σ : SG) (p : Nat) (k f : Int) : Prop := (0 ≤ k → k < 3 → f ≠ 0 → (∀ i : Int, 0 ≤ i → i < 226 → ci σ (p + lcO i) (lcB i) = ci σ0 (72 + 26 * k.toNat + lcO i) (lcB i)) ∧ OUT σ0 σ p) ∧ ((k < 0 ∨ 2 < k ∨ f = 0) → ∀ b q : Nat, 18 ≤ b → b < 150 → (σ b)[q]? = (σ0 b)[q]?)
theorem BKC_no {k f : Int} (h : k < 0 ∨ 2 < k ∨ f = 0) : BKC σ σ p k f := ⟨fun _ _ _ => by omega, fun _ _ _ _ _ => rfl⟩
theorem BKC_ok {k f : Int} (k0 : 0 ≤ k) (k2 : k < 3) (hf : f ≠ 0) (C : CPD σ0 σ1 p a (fun _ => True)) (ha : a = 72 + 26 * k.toNat) (h : Fr W σ1 σ2) (hw : OTW W = true) (hp : PLB p) : BKC σ0 σ2 p k f := by
  subst ha
  refine ⟨fun _ _ _ => ⟨fun i i0 i1 => ?_, OUT_fr C.2 h hw⟩, fun z => by omega⟩
  rw [← C.1 i i0 i1 trivial]
  have := lc_0 i0 i1
  unfold PLB at hp
  exact ci_eq (h _ _ (OTW_n hw (by omega) (by omega)))
end IMG
section IMM
variable {σ0 σ σ' : SG} {k i : Int}
/-! images of the model -/
def IMW (σ0 σ : SG) (k : Int) : Prop := (0 ≤ k → k < 3 → CPI σ0 σ k 226) ∧ ((k < 0 ∨ 2 < k) → ∀ y : Int, ci σ 161 y = ci σ0 161 y) ∧ ∀ y : Int, ci σ 160 y = ci σ0 160 y
theorem IMW_no (h : k < 0 ∨ 2 < k) : IMW σ σ k := ⟨fun _ _ => by omega, fun _ _ => rfl, fun _ => rfl⟩
theorem IMW_ok {a n : Nat} (H : CPI σ0 σ k i) (hi : i = 226) (k0 : 0 ≤ k) (k2 : k < 3) (hw : SWd σ0 σ) (h2 : ∀ b q, (b ≠ a ∨ q ≠ n) → (σ' b)[q]? = (σ b)[q]?) (ha : 160 ≠ a ∧ 161 ≠ a) : IMW σ0 σ' k := by
  subst hi
  refine ⟨fun _ _ => ⟨fun x x0 x1 => ?_, fun y y0 y1 => ?_⟩, fun z => by omega, fun y => ?_⟩
  · rw [ci_ne h2 ha.2]; exact H.1 x x0 x1
  · rw [ci_ne h2 ha.2]; exact H.2 y y0 y1
  · rw [ci_ne h2 ha.1]; exact hw y
def BKM (σ0 σ : SG) (k f : Int) : Prop := (0 ≤ k → k < 3 → f ≠ 0 → ∀ i : Int, 0 ≤ i → i < 226 → wf σ i = imf σ0 k i) ∧ ((k < 0 ∨ 2 < k ∨ f = 0) → ∀ i : Int, wf σ i = wf σ0 i)
theorem BKM_no {f : Int} (h : k < 0 ∨ 2 < k ∨ f = 0) : BKM σ σ k f := ⟨fun _ _ _ => by omega, fun _ _ => rfl⟩
theorem BKM_ok {f : Int} (H : CPB σ0 σ k i) (hi : 226 ≤ i) (k0 : 0 ≤ k) (k2 : k < 3) (hf : f ≠ 0) : BKM σ0 σ k f := ⟨fun _ _ _ x x0 x1 => H x x0 (by omega), fun z => by omega⟩
end IMM
end
/-! 32.lg.ful -/
section
section FLL
variable {By : Int → Int} {Nb : Int} {σ σ1 σ2 : SG} {W W' : List (Nat × Nat)} {p p2 : Nat} {f w : Int → Int}
/-- the whole relation: tapes, faults, plans' own rows; flags; images; the plan that is there shows the model's numbers; twins; whose lessons came by teach(); what the images show -/
def FUL (σ : SG) : Prop := RDL σ ∧ FLGs σ ∧ IMX σ ∧ (∀ p : Nat, (σ 0)[9]? = some (Value.ref p) → PLA p ∧ KN σ p (wf σ) (act (wf σ))) ∧ TWN (wf σ) ∧ TGT (wf σ) ∧ ∀ k : Nat, k < 3 → ci σ 71 (k : Int) ≠ 0 → KN σ (72 + 26 * k) (imf σ (k : Int)) (act (imf σ (k : Int))) ∧ TWN (imf σ (k : Int)) ∧ TGT (imf σ (k : Int))
theorem wf_fr (h : Fr W σ σ1) (hw : (!W.contains (36, 0)) = true) : wf σ1 = wf σ := by
  funext i
  exact ci_fr h tgz_160 (by rw [Bool.and_eq_true]; exact ⟨by decide +kernel, hw⟩) i
theorem imf_fr (h : Fr W σ σ1) (hw : (!W.contains (37, 0)) = true) (k : Int) : imf σ1 k = imf σ k := by
  funext i
  exact ci_fr h tgz_161 (by rw [Bool.and_eq_true]; exact ⟨by decide +kernel, hw⟩) _
theorem IMX_fr (H : IMX σ) (h : Fr W σ σ1) (hw : (FXI W && !W.contains (29, 0)) = true) : IMX σ1 := fun k k3 => by
  rw [Bool.and_eq_true] at hw
  obtain ⟨a, b⟩ := H k k3
  exact ⟨(h _ _ (inWa tgz_70 (by rw [Bool.and_eq_true]; exact ⟨by decide +kernel, hw.2⟩))).trans a, FXI_fr (PLI_k k3) b h hw.1⟩
theorem KNb_fr {A : Int → Prop} {k : Nat} (hk : PLB k) (H : KN σ k w A) (h : Fr W σ σ1) (hw : OTW W = true) : KN σ1 k w A := fun i i0 i1 x => by
  rw [← H i i0 i1 x]
  have l := lc_0 i0 i1
  unfold PLB at hk
  exact ci_eq (h _ _ (OTW_n hw (by omega) (by omega)))
theorem p9_fr (h : Fr W σ σ1) (hw : (!W.contains (0, 9)) = true) : (σ1 0)[9]? = (σ 0)[9]? := h _ _ (inW tgz_0 (nq _ hw))
theorem flg_fr (h : Fr W σ σ1) (hw : (!W.contains (30, 0)) = true) (k : Int) : ci σ1 71 k = ci σ 71 k := ci_fr h tgz_71 (by rw [Bool.and_eq_true]; exact ⟨by decide +kernel, hw⟩) k
theorem wf_ty {l u i : Int} (hσ : WT σ) (j : Nat) (e : ((j : Nat) : Int) = i) (hj : (decide ((36 : Nat) < 900) && decide (j < LN 36)) = true) (ht : FT 36 j = (0, l, u)) : l ≤ wf σ i ∧ wf σ i ≤ u := by
  subst e
  obtain ⟨y, h, h1, h2⟩ := WT_peekI hσ tgz_160 ht hj
  have : wf σ (j : Int) = y.toInt := by
    show ci σ 160 (j : Int) = _
    unfold ci; rw [show ((j : Int)).toNat = j by omega, h]
  omega
theorem WFw_w (hσ : WT σ) : WFw (wf σ) := by
  have a0 := wf_ty (l := 0) (u := 4) (i := 0) hσ 0 rfl (by decide +kernel) (by decide +kernel)
  have a2 := wf_ty (l := 0) (u := 4) (i := 2) hσ 2 rfl (by decide +kernel) (by decide +kernel)
  have a3 := wf_ty (l := 0) (u := 12) (i := 3) hσ 3 rfl (by decide +kernel) (by decide +kernel)
  have a4 := wf_ty (l := 0) (u := 4) (i := 4) hσ 4 rfl (by decide +kernel) (by decide +kernel)
  have a5 := wf_ty (l := 0) (u := 6) (i := 5) hσ 5 rfl (by decide +kernel) (by decide +kernel)
  have b0 := wf_ty (l := 0) (u := 12) (i := 12) hσ 12 rfl (by decide +kernel) (by decide +kernel)
  have b1 := wf_ty (l := 0) (u := 12) (i := 16) hσ 16 rfl (by decide +kernel) (by decide +kernel)
  have b2 := wf_ty (l := 0) (u := 12) (i := 20) hσ 20 rfl (by decide +kernel) (by decide +kernel)
  have b3 := wf_ty (l := 0) (u := 12) (i := 24) hσ 24 rfl (by decide +kernel) (by decide +kernel)
  refine ⟨by omega, by omega, by omega, by omega, by omega, by omega, fun d d0 d4 => ?_⟩
  rcases (show d = 0 ∨ d = 1 ∨ d = 2 ∨ d = 3 by omega) with h | h | h | h <;> subst h
  · show wf σ 12 ≤ 12; omega
  · show wf σ 16 ≤ 12; omega
  · show wf σ 20 ≤ 12; omega
  · show wf σ 24 ≤ 12; omega
theorem wf6_rng (hσ : WT σ) : 0 ≤ wf σ 6 ∧ wf σ 6 ≤ 60 := wf_ty (l := 0) (u := 60) (i := 6) hσ 6 rfl (by decide +kernel) (by decide +kernel)
theorem im6_all : ∀ k : Fin 3, FT 37 (226 * k.val + 6) = (0, 0, 60) := by decide +kernel
theorem imf6 {k : Nat} (hσ : WT σ) (h : k < 3) : imf σ (k : Int) 6 ≤ 60 := by
  have t := im6_all ⟨k, h⟩
  simp only at t
  obtain ⟨y, g, h1, h2⟩ := WT_peekI hσ tgz_161 t (by
    have : LN 37 = 678 := by decide +kernel
    rw [this]
    simp
    omega)
  have : imf σ (k : Int) 6 = y.toInt := by
    show ci σ 161 (226 * (k : Int) + 6) = _
    unfold ci; rw [show (226 * (k : Int) + 6).toNat = 226 * k + 6 by omega, g]
  omega
/-- what a call may write that leaves plans, images and the model's numbers alone -/
def FKW (W : List (Nat × Nat)) : Bool := OTW W && !W.contains (0, 9) && !W.contains (36, 0) && !W.contains (37, 0) && !W.contains (38, 0)
theorem OTW_m {q : Nat × Nat} (hw : OTW W = true) (h : 18 ≤ q.1 ∧ q.1 ≤ 31) : W.contains q = false := by
  unfold OTW at hw
  rw [List.all_eq_true] at hw
  rw [Bool.eq_false_iff]
  intro z
  have z2 := hw _ (List.elem_iff.mp z)
  simp only [Bool.or_eq_true, decide_eq_true_eq] at z2
  omega
theorem OTW_x (hw : OTW W = true) : (FXI W && !W.contains (29, 0)) = true ∧ (!W.contains (30, 0)) = true := by
  have k (a b : Nat) (h : 18 ≤ a ∧ a ≤ 31) : (!W.contains (a, b)) = true := by rw [OTW_m (q := (a, b)) hw h]; rfl
  unfold FXI
  rw [k 31 4 (by omega), k 31 5 (by omega), k 31 9 (by omega), k 31 10 (by omega), k 31 12 (by omega), k 31 13 (by omega), k 31 15 (by omega), k 19 0 (by omega), k 20 0 (by omega), k 20 1 (by omega), k 28 0 (by omega), k 29 0 (by omega), k 30 0 (by omega)]
  exact ⟨rfl, rfl⟩
/-- the images, kept over a call that writes no plan, or one plan's block alone -/
theorem IMK_fr (H : ∀ k : Nat, k < 3 → ci σ 71 (k : Int) ≠ 0 → KN σ (72 + 26 * k) (imf σ (k : Int)) (act (imf σ (k : Int))) ∧ TWN (imf σ (k : Int)) ∧ TGT (imf σ (k : Int))) (h : Fr W σ σ1) (hw : OTW W = true) (hw' : (!W.contains (37, 0)) = true) : ∀ k : Nat, k < 3 → ci σ1 71 (k : Int) ≠ 0 → KN σ1 (72 + 26 * k) (imf σ1 (k : Int)) (act (imf σ1 (k : Int))) ∧ TWN (imf σ1 (k : Int)) ∧ TGT (imf σ1 (k : Int)) := fun k k3 z => by
  rw [flg_fr h (OTW_x hw).2] at z
  rw [imf_fr h hw']
  obtain ⟨a, b⟩ := H k k3 z
  exact ⟨KNb_fr (PLI_B (PLI_k k3)) a h hw, b⟩
theorem IMK_out (H : ∀ k : Nat, k < 3 → ci σ 71 (k : Int) ≠ 0 → KN σ (72 + 26 * k) (imf σ (k : Int)) (act (imf σ (k : Int))) ∧ TWN (imf σ (k : Int)) ∧ TGT (imf σ (k : Int))) (h : Fr W σ σ1) (hP : PLA p) (O : OUT σ σ1 p) (hw' : (!W.contains (37, 0)) = true) : ∀ k : Nat, k < 3 → ci σ1 71 (k : Int) ≠ 0 → KN σ1 (72 + 26 * k) (imf σ1 (k : Int)) (act (imf σ1 (k : Int))) ∧ TWN (imf σ1 (k : Int)) ∧ TGT (imf σ1 (k : Int)) := fun k k3 z => by
  have e : ci σ1 71 (k : Int) = ci σ 71 (k : Int) := by
    unfold PLA at hP
    exact ci_eq (O 71 _ (by omega) (by omega) (by omega))
  rw [e] at z
  rw [imf_fr h hw']
  obtain ⟨a, b⟩ := H k k3 z
  exact ⟨KN_out (PLI_B (PLI_k k3)) (PL_sep hP (PLI_k k3)) a O, b⟩
/-- calls that change nothing of all this -/
theorem FUL_kp (H : FUL σ) (h : Fr W σ σ1) (h' : Fr W' σ1 σ2) (kw : FKW W = true) (kw' : FKW W' = true) (R : RDL σ2) : FUL σ2 := by
  obtain ⟨-, F, X, K, T, G, I⟩ := H
  unfold FKW at kw kw'
  simp only [Bool.and_eq_true] at kw kw'
  obtain ⟨⟨⟨⟨a1, a2⟩, a3⟩, a4⟩, a5⟩ := kw
  obtain ⟨⟨⟨⟨b1, b2⟩, b3⟩, b4⟩, b5⟩ := kw'
  have e : wf σ2 = wf σ := (wf_fr h' b3).trans (wf_fr h a3)
  have d (g : Nat) (V : List (Nat × Nat)) (x : (!V.contains (g, 0)) = true) (y : decide (KD g ≠ 0) = true) : (decide (KD g ≠ 0) && !V.contains (g, 0)) = true := by rw [Bool.and_eq_true]; exact ⟨y, x⟩
  refine ⟨R, FLG_fr F h h' (d 30 W (OTW_x a1).2 (by decide +kernel)) (d 38 W a5 (by decide +kernel)) (d 30 W' (OTW_x b1).2 (by decide +kernel)) (d 38 W' b5 (by decide +kernel)), IMX_fr (IMX_fr X h (OTW_x a1).1) h' (OTW_x b1).1, fun p hp => ?_, by rw [e]; exact T, by rw [e]; exact G, IMK_fr (IMK_fr I h a1 a4) h' b1 b4⟩
  rw [p9_fr h' b2, p9_fr h a2] at hp
  rw [e]
  obtain ⟨P, K⟩ := K p hp
  exact ⟨P, KNb_fr (PLA_B P) (KNb_fr (PLA_B P) K h a1) h' b1⟩
/-- calls that change the plan and the model's numbers alike -/
theorem FUL_ch (H : FUL σ) (hσ2 : WT σ2) (hp : (σ 0)[9]? = some (Value.ref p)) (h : Fr W σ σ1) (h' : Fr W' σ1 σ2) (R : RDL σ2) (kw : (FXI W && !W.contains (29, 0) && !W.contains (0, 9) && !W.contains (37, 0) && !W.contains (38, 0) && !W.contains (30, 0)) = true) (kw' : (OTW W' && !W'.contains (0, 9) && !W'.contains (37, 0) && !W'.contains (38, 0)) = true) (K : KN σ1 p f (act f) ∧ OUT σ σ1 p) (hf : ∀ i : Int, 0 ≤ i → i < 226 → wf σ2 i = f i) (tw : TWN f) (tg : TGT f) : FUL σ2 := by
  obtain ⟨-, F, X, K0, -, -, I⟩ := H
  simp only [Bool.and_eq_true] at kw kw'
  obtain ⟨⟨⟨⟨⟨a1, a2⟩, a3⟩, a4⟩, a5⟩, a6⟩ := kw
  obtain ⟨⟨⟨b1, b2⟩, b3⟩, b4⟩ := kw'
  have P := (K0 p hp).1
  have d (g : Nat) (V : List (Nat × Nat)) (x : (!V.contains (g, 0)) = true) (y : decide (KD g ≠ 0) = true) : (decide (KD g ≠ 0) && !V.contains (g, 0)) = true := by rw [Bool.and_eq_true]; exact ⟨y, x⟩
  refine ⟨R, FLG_fr F h h' (d 30 W a6 (by decide +kernel)) (d 38 W a5 (by decide +kernel)) (d 30 W' (OTW_x b1).2 (by decide +kernel)) (d 38 W' b4 (by decide +kernel)), IMX_fr (IMX_fr X h (by rw [Bool.and_eq_true]; exact ⟨a1, a2⟩)) h' (OTW_x b1).1, fun q hq => ?_, ?_, ?_, IMK_fr (IMK_out I h P K.2 a4) h' b1 b3⟩
  · rw [p9_fr h' b2, p9_fr h a3, hp] at hq
    injection hq with hq
    injection hq with hq
    subst hq
    exact ⟨P, KN_cg (KNb_fr (PLA_B P) K.1 h' b1) hf⟩
  · exact TWN_eqv tw (fun i hi => hf i (by omega) (by omega))
  · refine fun j j0 j1 => ?_
    have e6 := hf 6 (by omega) (by omega)
    have e2 := hf 2 (by omega) (by omega)
    have k := tg j j0 (by omega)
    have n6 := wf6_rng hσ2
    rw [hf (166 + j) (by omega) (by omega), e2]; exact k
/-! the changes keep twins, and whose lessons came by teach() -/
def NNw (w : Int → Int) : Prop := 0 ≤ w 6 ∧ w 2 ≤ 4 ∧ ∀ d : Int, 0 ≤ d → d < 4 → 0 ≤ w (12 + 4 * d)
theorem NNw_w (hσ : WT σ) : NNw (wf σ) := by
  have a2 := wf_ty (l := 0) (u := 4) (i := 2) hσ 2 rfl (by decide +kernel) (by decide +kernel)
  have b0 := wf_ty (l := 0) (u := 12) (i := 12) hσ 12 rfl (by decide +kernel) (by decide +kernel)
  have b1 := wf_ty (l := 0) (u := 12) (i := 16) hσ 16 rfl (by decide +kernel) (by decide +kernel)
  have b2 := wf_ty (l := 0) (u := 12) (i := 20) hσ 20 rfl (by decide +kernel) (by decide +kernel)
  have b3 := wf_ty (l := 0) (u := 12) (i := 24) hσ 24 rfl (by decide +kernel) (by decide +kernel)
  refine ⟨(wf6_rng hσ).1, a2.2, fun d d0 d4 => ?_⟩
  rcases (show d = 0 ∨ d = 1 ∨ d = 2 ∨ d = 3 by omega) with h | h | h | h <;> subst h
  · exact b0.1
  · exact b1.1
  · exact b2.1
  · exact b3.1
theorem tcU_e {d k o : Int} (hn : NNw w) (d0 : 0 ≤ d) (d4 : d < 4) (x : Int) : tcU w d k o x = if x = 6 then w 6 + 1 else if x = 166 + w 6 then d else if x = 12 + 4 * d then w (12 + 4 * d) + 1 else if x = 26 + 24 * d + 2 * w (12 + 4 * d) + 1 then o else if x = 26 + 24 * d + 2 * w (12 + 4 * d) then k else w x := rfl
theorem tc_tw {d k o : Int} (H : TWN w) (hn : NNw w) : TWN (tcW w d k o) := by
  unfold tcW
  split
  · rename_i c
    obtain ⟨⟨d0, d1, -⟩, -⟩ := c
    have m0 := hn.2.2 d d0 (by have := hn.2.1; omega)
    have n0 := hn.1
    have d4 : d < 4 := by have := hn.2.1; omega
    refine TWN_eqv H (fun i hi => ?_)
    rw [tcU_e hn d0 d4, if_neg (by omega), if_neg (by omega), if_neg (by omega), if_neg (by omega), if_neg (by omega)]
  · exact H
theorem tc_tg {d k o : Int} (H : TGT w) (hn : NNw w) : TGT (tcW w d k o) := by
  unfold tcW
  split
  · rename_i c
    obtain ⟨⟨d0, d1, -⟩, c2, c3⟩ := c
    have m0 := hn.2.2 d d0 (by have := hn.2.1; omega)
    have n0 := hn.1
    have d4 : d < 4 := by have := hn.2.1; omega
    intro j j0 j1
    rw [tcU_e hn d0 d4, if_pos rfl] at j1
    rw [tcU_e hn d0 d4, tcU_e hn d0 d4, if_neg (by omega)]
    have e2 : (if (2 : Int) = 6 then w 6 + 1 else if (2 : Int) = 166 + w 6 then d else if (2 : Int) = 12 + 4 * d then w (12 + 4 * d) + 1 else if (2 : Int) = 26 + 24 * d + 2 * w (12 + 4 * d) + 1 then o else if (2 : Int) = 26 + 24 * d + 2 * w (12 + 4 * d) then k else w 2) = w 2 := by
      rw [if_neg (by omega), if_neg (by omega), if_neg (by omega), if_neg (by omega), if_neg (by omega)]
    rw [e2]
    by_cases z : j = w 6
    · rw [if_pos (by omega)]; omega
    · have := H j j0 (by omega)
      rw [if_neg (by omega), if_neg (by omega), if_neg (by omega), if_neg (by omega)]
      exact this
  · exact H
theorem ut_tw (H : TWN w) (hn : NNw w) (hg : TGT w) : TWN (utW w) := by
  unfold utW
  split
  · exact H
  · split
    · exact H
    · refine TWN_eqv H (fun i hi => ?_)
      have g := hg (w 6 - 1) (by omega) (by omega)
      have e : utU w i = if i = 12 + 4 * utD w then w (12 + 4 * utD w) - 1 else if i = 6 then w 6 - 1 else w i := rfl
      unfold utD at e
      rw [e, if_neg (by omega), if_neg (by omega)]
theorem ut_tg (H : TGT w) (hn : NNw w) : TGT (utW w) := by
  unfold utW
  split
  · exact H
  · split
    · exact H
    · have g := H (w 6 - 1) (by omega) (by omega)
      have e (i : Int) : utU w i = if i = 12 + 4 * w (166 + (w 6 - 1)) then w (12 + 4 * w (166 + (w 6 - 1))) - 1 else if i = 6 then w 6 - 1 else w i := rfl
      intro j j0 j1
      rw [e, if_neg (by omega), if_pos rfl] at j1
      have := H j j0 (by omega)
      have b := hn.2.1
      rw [e, e, if_neg (by omega), if_neg (by omega), if_neg (by omega), if_neg (by omega)]
      exact this
theorem tr_tw {d t n : Int} (H : TWN w) : TWN (trW w d t n) := by
  unfold trW
  split
  · rename_i c
    refine TWN_eqv H (fun i hi => ?_)
    exact if_neg (by omega)
  · exact H
theorem tr_tg {d t n : Int} (H : TGT w) (hn : NNw w) : TGT (trW w d t n) := by
  unfold trW
  split
  · rename_i c
    have b := hn.2.1
    refine TGT_eqv H (if_neg (by omega)) (if_neg (by omega)) (fun i hi => if_neg (by omega))
  · exact H
theorem ow_tw {m v : Int} (H : TWN w) : TWN (owW w m v) := by
  unfold owW
  split
  · refine TWN_eqv H (fun i hi => ?_)
    unfold uPd
    rw [if_neg (by omega), if_neg (by omega)]
  · exact H
theorem ow_tg {m v : Int} (H : TGT w) : TGT (owW w m v) := by
  unfold owW
  split
  · refine TGT_eqv H ?_ ?_ (fun i hi => ?_) <;>
    · unfold uPd
      rw [if_neg (by omega), if_neg (by omega)]
  · exact H
theorem cy_tg {d o : Int} (H : TGT w) (hn : NNw w) : TGT (cyW w d o) := by
  unfold cyW
  split
  · rename_i c
    have b := hn.2.1
    refine TGT_eqv H (if_neg (by omega)) (if_neg (by omega)) (fun i hi => if_neg (by omega))
  · exact H
theorem TGT_cg (H : TGT w) (e : ∀ i : Int, 0 ≤ i → i < 226 → f i = w i) (n6 : w 6 ≤ 60) : TGT f := fun j j0 j1 => by
  have e6 := e 6 (by omega) (by omega)
  rw [e 2 (by omega) (by omega), e (166 + j) (by omega) (by omega)]
  exact H j j0 (by omega)
/-- image() of both -/
theorem FUL_im {k k' : Int} (H : FUL σ) (hσ : WT σ) (hp : (σ 0)[9]? = some (Value.ref p)) (h : Fr W σ σ1) (h' : Fr W' σ1 σ2) (R : RDL σ2) (kw : (FXI W && !W.contains (29, 0) && !W.contains (0, 9) && !W.contains (36, 0) && !W.contains (37, 0) && !W.contains (38, 0)) = true) (kw' : (OTW W' && !W'.contains (0, 9)) = true) (C : IMC σ σ1 p k) (B : BSET σ1 σ2 162 k') (M : IMW σ1 σ2 k') (e : k' = k) : FUL σ2 := by
  subst e
  obtain ⟨-, F, X, K, T, G, I⟩ := H
  obtain ⟨P, K⟩ := K p hp
  simp only [Bool.and_eq_true] at kw kw'
  obtain ⟨⟨⟨⟨⟨a1, a2⟩, a3⟩, a4⟩, a5⟩, a6⟩ := kw
  obtain ⟨b1, b2⟩ := kw'
  obtain ⟨C1, C2, C3⟩ := C
  have d (g : Nat) (V : List (Nat × Nat)) (x : (!V.contains (g, 0)) = true) (y : decide (KD g ≠ 0) = true) : (decide (KD g ≠ 0) && !V.contains (g, 0)) = true := by rw [Bool.and_eq_true]; exact ⟨y, x⟩
  have w1 : wf σ1 = wf σ := wf_fr h a4
  have w2 : wf σ2 = wf σ := by
    rw [← w1]
    funext i
    exact M.2.2 i
  have n6 := (wf6_rng hσ).2
  have kp : KN σ1 p (wf σ) (act (wf σ)) := fun i i0 i1 x => by
    rw [← K i i0 i1 x]
    have := lc_0 i0 i1
    unfold PLA at P
    exact ci_eq (C2 _ _ (by omega) (by omega) (by omega) (fun _ _ => by omega))
  refine ⟨R, FLG_im F h h' (d 38 W a6 (by decide +kernel)) (d 30 W' (OTW_x b1).2 (by decide +kernel)) C3 B rfl, IMX_fr (IMX_fr X h (by rw [Bool.and_eq_true]; exact ⟨a1, a2⟩)) h' (OTW_x b1).1, fun q hq => ?_, by rw [w2]; exact T, by rw [w2]; exact G, fun j j3 z => ?_⟩
  · rw [p9_fr h' b2, p9_fr h a3, hp] at hq
    injection hq with hq
    injection hq with hq
    subst hq
    rw [w2]
    exact ⟨P, KNb_fr (PLA_B P) kp h' b1⟩
  · rw [flg_fr h' (OTW_x b1).2, C3 (j : Int) (by omega) (by omega)] at z
    by_cases y : (j : Int) = k'
    · have e : ∀ i : Int, 0 ≤ i → i < 226 → imf σ2 (j : Int) i = wf σ i := fun i i0 i1 => by
        have := (M.1 (by omega) (by omega)).1 i i0 i1
        show ci σ2 161 (226 * (j : Int) + i) = _
        rw [y, this, ← w1]
        rfl
      have kj : KN σ1 (72 + 26 * j) (wf σ) (act (wf σ)) := fun i i0 i1 x => by
        have c := C1 (by omega) (by omega) i i0 i1
        rw [show k'.toNat = j by omega] at c
        rw [c]
        exact K i i0 i1 x
      exact ⟨KN_cg (KNb_fr (PLI_B (PLI_k j3)) kj h' b1) e, TWN_eqv T (fun i hi => e i (by omega) (by omega)), TGT_cg G e n6⟩
    · rw [if_neg y] at z
      obtain ⟨a, b, c⟩ := I j j3 z
      have e : ∀ i : Int, 0 ≤ i → i < 226 → imf σ2 (j : Int) i = imf σ (j : Int) i := fun i i0 i1 => by
        rw [← imf_fr h a5 (j : Int)]
        show ci σ2 161 (226 * (j : Int) + i) = ci σ1 161 (226 * (j : Int) + i)
        by_cases x : 0 ≤ k' ∧ k' < 3
        · exact (M.1 x.1 x.2).2 _ (by omega) (by omega)
        · exact M.2.1 (by omega) _
      have kj : KN σ1 (72 + 26 * j) (imf σ (j : Int)) (act (imf σ (j : Int))) := fun i i0 i1 x => by
        rw [← a i i0 i1 x]
        have := lc_0 i0 i1
        exact ci_eq (C2 _ _ (by omega) (by omega) (by omega) (fun _ _ => by omega))
      refine ⟨KN_cg (KNb_fr (PLI_B (PLI_k j3)) kj h' b1) e, TWN_eqv b (fun i hi => e i (by omega) (by omega)), fun x x0 x1 => ?_⟩
      have e6 := e 6 (by omega) (by omega)
      have e2 := e 2 (by omega) (by omega)
      have g := c x x0 (by omega)
      have l : imf σ (j : Int) 6 ≤ 60 := imf6 hσ j3
      rw [e (166 + x) (by omega) (by omega), e2]; exact g
/-- back() of both -/
theorem FUL_bk {k k' : Int} (H : FUL σ) (hσ : WT σ) (hσ2 : WT σ2) (hp : (σ 0)[9]? = some (Value.ref p)) (h : Fr W σ σ1) (h' : Fr W' σ1 σ2) (R : RDL σ2) (kw : (FXI W && !W.contains (29, 0) && !W.contains (0, 9) && !W.contains (37, 0) && !W.contains (38, 0) && !W.contains (30, 0)) = true) (kw' : (OTW W' && !W'.contains (0, 9) && !W'.contains (37, 0) && !W'.contains (38, 0)) = true) (kx : (!W.contains (36, 0)) = true) (C : BKC σ σ1 p k (ci σ 71 k)) (M : BKM σ1 σ2 k' (ci σ1 162 k')) (e : k' = k) : FUL σ2 := by
  subst e
  have F := H.2.1
  have I := H.2.2.2.2.2.2
  obtain ⟨P, K⟩ := H.2.2.2.1 p hp
  have kw0 := kw
  simp only [Bool.and_eq_true] at kw0
  obtain ⟨⟨⟨⟨⟨a1, a2⟩, a3⟩, a4⟩, a5⟩, a6⟩ := kw0
  have w1 : wf σ1 = wf σ := wf_fr h kx
  have f1 : ci σ1 162 k' = ci σ 162 k' := ci_fr h tgz_162 (by rw [Bool.and_eq_true]; exact ⟨by decide +kernel, a5⟩) k'
  rw [f1] at M
  by_cases c : 0 ≤ k' ∧ k' < 3 ∧ ci σ 71 k' ≠ 0
  · obtain ⟨k0, k3, kf⟩ := c
    have fl := F k' k0 k3
    obtain ⟨C1, C2⟩ := C.1 k0 k3 kf
    have m := M.1 k0 k3 (by omega)
    rw [imf_fr h a4] at m
    have ek : ((k'.toNat : Nat) : Int) = k' := by omega
    obtain ⟨x, y, z⟩ := I k'.toNat (by omega) (by rw [ek]; exact kf)
    rw [ek] at x y z
    refine FUL_ch H hσ2 hp h h' R kw kw' ⟨fun i i0 i1 q => ?_, C2⟩ m y z
    rw [C1 i i0 i1]
    exact x i i0 i1 q
  · have s := C.2 (by omega)
    have fl : 0 ≤ k' → k' < 3 → ci σ 71 k' = ci σ 162 k' := fun x y => F k' x y
    have m := M.2 (by omega)
    refine FUL_ch H hσ2 hp h h' R kw kw' ⟨fun i i0 i1 q => ?_, fun b q b0 b1 _ => s b q b0 b1⟩ (fun i _ _ => by rw [m, w1]) H.2.2.2.2.1 H.2.2.2.2.2.1
    rw [← K i i0 i1 q]
    have := lc_0 i0 i1
    unfold PLA at P
    exact ci_eq (s _ _ (by omega) (by omega))
/-- school() of both -/
theorem FUL_sc {r r' : Int} (H : FUL σ) (hp : (σ 0)[9]? = some (Value.ref p)) (hP2 : PLA p2) (hne : p ≠ p2) (h : Fr W σ σ1) (h' : Fr W' σ1 σ2) (R : RDL σ2) (kw : (FXI W && !W.contains (29, 0) && !W.contains (36, 0) && !W.contains (37, 0) && !W.contains (38, 0) && !W.contains (30, 0)) = true) (kw' : (OTW W' && !W'.contains (0, 9) && !W'.contains (37, 0) && !W'.contains (38, 0)) = true) (O : OUT σ σ1 p2) (L : SPL By Nb σ1 p p2) (M : MSC By Nb σ1 σ2 r') (T6 : (fRead By Nb 1601 S00).1 = 0 → TW6 (fRead By Nb 1601 S00).2.2.2) : FUL σ2 := by
  obtain ⟨-, F, X, K, T, G, I⟩ := H
  obtain ⟨P, K⟩ := K p hp
  simp only [Bool.and_eq_true] at kw kw'
  obtain ⟨⟨⟨⟨⟨a1, a2⟩, a3⟩, a4⟩, a5⟩, a6⟩ := kw
  obtain ⟨⟨⟨b1, b2⟩, b3⟩, b4⟩ := kw'
  have d (g : Nat) (V : List (Nat × Nat)) (x : (!V.contains (g, 0)) = true) (y : decide (KD g ≠ 0) = true) : (decide (KD g ≠ 0) && !V.contains (g, 0)) = true := by rw [Bool.and_eq_true]; exact ⟨y, x⟩
  have w1 : wf σ1 = wf σ := wf_fr h a3
  have fl := FLG_fr F h h' (d 30 W a6 (by decide +kernel)) (d 38 W a5 (by decide +kernel)) (d 30 W' (OTW_x b1).2 (by decide +kernel)) (d 38 W' b4 (by decide +kernel))
  have ix := IMX_fr (IMX_fr X h (by rw [Bool.and_eq_true]; exact ⟨a1, a2⟩)) h' (OTW_x b1).1
  have im := IMK_fr (IMK_out I h hP2 O a4) h' b1 b3
  by_cases z : (fRead By Nb 1601 S00).1 = 0
  · obtain ⟨l1, l2⟩ := L.2 z
    have m := (M.2.2.2 z).2
    have t := T6 z
    refine ⟨R, fl, ix, fun q hq => ?_, TWN_eqv t.1 (fun i hi => m i (by omega) (by omega)), TGT_0 ((m 6 (by omega) (by omega)).trans t.2), im⟩
    rw [p9_fr h' b2, l1] at hq
    injection hq with hq
    injection hq with hq
    subst hq
    exact ⟨hP2, KN_cg (KNb_fr (PLA_B hP2) l2 h' b1) m⟩
  · have l1 := L.1 z
    have m := (M.2.2.1 z).2
    have w2 : wf σ2 = wf σ := by
      rw [← w1]
      funext i
      exact m i
    refine ⟨R, fl, ix, fun q hq => ?_, by rw [w2]; exact T, by rw [w2]; exact G, im⟩
    rw [p9_fr h' b2, l1] at hq
    injection hq with hq
    injection hq with hq
    subst hq
    rw [w2]
    have sp : p + 26 ≤ p2 ∨ p2 + 26 ≤ p := by
      unfold PLA at P hP2
      omega
    exact ⟨P, KNb_fr (PLA_B P) (KN_out (PLA_B P) sp K O) h' b1⟩
end FLL
end
/-! 32.lh.look -/
section
/-! what is only asked: door, lesson, exam -/
section LOOK
variable {w w' : Int → Int}
end LOOK
end
/-! 32.li.lrn -/
section
/-! what comes of lessons: by heart, by the shortest rule, by what is nearest -/
section LRN
variable {k k' o o' D D' : Int → Int} {σ σ1 σ2 : SG} {W W' : List (Nat × Nat)}
theorem tn_s {i I : Int} (h : 0 ≤ i) (e : I = i + 1) : I.toNat = i.toNat + 1 := by omega
theorem tn_c {i : Int} (h : 0 ≤ i) : ((i.toNat : Nat) : Int) = i := by omega
/-! deeds of a rule -/
def DOf (m v : Int) : Nat → Int
  | 0 => 0
  | n + 1 => if aN (n : Int) m = v then oN (DOf m v n) (pI (n : Int)) else DOf m v n
theorem DOf_0 {m v x i : Int} (hx : x = 0) (hi : i = 0) : x = DOf m v i.toNat := by subst hx hi; rfl
theorem DOf_y {m v x q X i I : Int} (i0 : 0 ≤ i) (h : x = DOf m v i.toNat) (e : aN i m = v) (hq : q = pI i) (hX : X = oN x q) (hI : I = i + 1) : X = DOf m v I.toNat := by
  rw [tn_s i0 hI]
  show _ = if aN ((i.toNat : Nat) : Int) m = v then oN (DOf m v i.toNat) (pI ((i.toNat : Nat) : Int)) else DOf m v i.toNat
  rw [tn_c i0, if_pos e, ← h, ← hq]; exact hX
theorem DOf_n {m v x X i I : Int} (i0 : 0 ≤ i) (h : x = DOf m v i.toNat) (e : aN i m ≠ v) (hX : X = x) (hI : I = i + 1) : X = DOf m v I.toNat := by
  rw [tn_s i0 hI]
  show _ = if aN ((i.toNat : Nat) : Int) m = v then oN (DOf m v i.toNat) (pI ((i.toNat : Nat) : Int)) else DOf m v i.toNat
  rw [tn_c i0, if_neg e, ← h]; exact hX
theorem DOf_z {m v x q X i I : Int} (i0 : 0 ≤ i) (h : x = DOf m v i.toNat) (e : aN i m ≠ v) (hq : q = 0) (x0 : 0 ≤ x) (hX : X = oN x q) (hI : I = i + 1) : X = DOf m v I.toNat := by
  subst hq
  rw [oN_0 x0] at hX
  exact DOf_n i0 h e hX hI
/-! the row of rules of so many knocks, in order -/
def RLS (K : Nat) : List (Nat × Nat) := ((List.range 5).map fun n => (((List.range K).filter fun m => bcN m == n).map fun m => ((List.range (m + 1)).filter fun v => sbN v m).map fun v => (m, v)).flatten).flatten
def ruM (K i : Int) : Int := (((RLS K.toNat).getD i.toNat (0, 0)).1 : Int)
def ruV (K i : Int) : Int := (((RLS K.toNat).getD i.toNat (0, 0)).2 : Int)
def ruD (K i : Int) : Int := DOf (ruM K i) (ruV K i) K.toNat
theorem RLS_all : ∀ s : Fin 5, ∀ m v : Fin 16, m.val < 2 ^ s.val → v.val ≤ m.val → sbN v.val m.val = true → (RLS (2 ^ s.val))[GN (2 ^ s.val) (bcN m.val) m.val v.val]? = some (m.val, v.val) := by decide +kernel
theorem GN_end : ∀ s : Fin 5, GN (2 ^ s.val) (s.val + 1) 0 0 = 3 ^ s.val := by decide +kernel
/-- how many rules there are -/
def nR (s : Int) : Int := ((3 ^ s.toNat : Nat) : Int)
/-- the first rows show the rules -/
def TB (σ : SG) (a b c : Nat) (K r : Int) : Prop := ∀ i : Int, 0 ≤ i → i < r → ci σ a i = ruM K i ∧ ci σ b i = ruV K i ∧ ci σ c i = ruD K i
theorem TB_0 {a b c : Nat} {K r : Int} (h : r = 0) : TB σ a b c K r := fun i i0 i1 => by omega
theorem TB_eq {a b c : Nat} {K r R : Int} (H : TB σ a b c K r) (h : R = r) : TB σ a b c K R := by subst h; exact H
theorem TB_ne {a b c x n : Nat} {K r : Int} (H : TB σ a b c K r) (h : ∀ b' i', (b' ≠ x ∨ i' ≠ n) → (σ1 b')[i']? = (σ b')[i']?) (ha : a ≠ x) (hb : b ≠ x) (hc : c ≠ x) : TB σ1 a b c K r := fun i i0 i1 => by
  rw [ci_ne h ha, ci_ne h hb, ci_ne h hc]; exact H i i0 i1
/-- a place in the order of rules is a power of two's number of knocks -/
def P2 (K : Int) : Prop := ∃ s : Nat, s ≤ 4 ∧ K = ((2 ^ s : Nat) : Int)
theorem P2_pI {s : Int} (h0 : 0 ≤ s) (h1 : s ≤ 4) : P2 (pI s) := ⟨s.toNat, by omega, rfl⟩
theorem RV_ent {K n m v r : Int} (hK : P2 K) (h : RV K n m v r) (hv : v ≤ m) (hs : sbI v m = 1) : ruM K r = m ∧ ruV K r = v := by
  obtain ⟨s, hs4, eK⟩ := hK
  obtain ⟨K', N, M, V, e1, e2, e3, e5, h1, h2, h3, hb, h4, e4⟩ := h
  have eq : K' = 2 ^ s := by
    have : (K' : Int) = ((2 ^ s : Nat) : Int) := by rw [← e1]; exact eK
    exact Int.ofNat.inj this
  subst e3 e5
  unfold sbI at hs
  rw [Int.toNat_natCast, Int.toNat_natCast] at hs
  have hsb : sbN V M = true := by
    by_cases z : sbN V M = true
    · exact z
    · rw [if_neg z] at hs; omega
  have g := RLS_all ⟨s, by omega⟩ ⟨M, by omega⟩ ⟨V, by omega⟩ (by show M < 2 ^ s; rw [← eq]; exact h3) (by show V ≤ M; omega) hsb
  have g : (RLS (2 ^ s))[GN (2 ^ s) (bcN M) M V]? = some (M, V) := g
  have er : r.toNat = GN (2 ^ s) (bcN M) M V := by rw [e4, Int.toNat_natCast, hb, eq]
  have eKn : K.toNat = 2 ^ s := by rw [eK, Int.toNat_natCast]
  unfold ruM ruV
  rw [eKn, er, List.getD_eq_getElem?_getD, g]
  exact ⟨rfl, rfl⟩
/-- a rule more -/
theorem TB_put {σ3 : SG} {a b c : Nat} {K n m v r R J1 J2 J3 : Int} {y1 y2 y3 : Int32} (H : TB σ a b c K r) (hK : P2 K) (h : RV K n m v r) (hv : v ≤ m) (hs : sbI v m = 1)
    (p1 : (σ1 a)[J1.toNat]? = some (Value.int y1)) (f1 : ∀ b' i', (b' ≠ a ∨ i' ≠ J1.toNat) → (σ1 b')[i']? = (σ b')[i']?)
    (p2 : (σ2 b)[J2.toNat]? = some (Value.int y2)) (f2 : ∀ b' i', (b' ≠ b ∨ i' ≠ J2.toNat) → (σ2 b')[i']? = (σ1 b')[i']?)
    (p3 : (σ3 c)[J3.toNat]? = some (Value.int y3)) (f3 : ∀ b' i', (b' ≠ c ∨ i' ≠ J3.toNat) → (σ3 b')[i']? = (σ2 b')[i']?)
    (ab : a ≠ b) (ac : a ≠ c) (bc : b ≠ c) (r0 : 0 ≤ r) (j1 : J1 = r) (j2 : J2 = r) (j3 : J3 = r) (w1 : y1.toInt = m) (w2 : y2.toInt = v) (w3 : y3.toInt = DOf m v K.toNat) (hR : R = r + 1) : TB σ3 a b c K R := fun i i0 i1 => by
  have e := RV_ent hK h hv hs
  subst j1 j2 j3
  have ca : ci σ3 a i = if i = J3 then y1.toInt else ci σ a i := by
    rw [ci_ne f3 ac, ci_ne f2 ab, ci_st p1 f1 r0 i i0]
  have cb : ci σ3 b i = if i = J3 then y2.toInt else ci σ b i := by
    rw [ci_ne f3 bc, ci_st p2 f2 r0 i i0, ci_ne f1 (Ne.symm ab)]
  have cc : ci σ3 c i = if i = J3 then y3.toInt else ci σ c i := by
    rw [ci_st p3 f3 r0 i i0, ci_ne f2 (Ne.symm bc), ci_ne f1 (Ne.symm ac)]
  rw [ca, cb, cc]
  by_cases z : i = J3
  · rw [if_pos z, if_pos z, if_pos z, z]
    unfold ruD
    rw [e.1, e.2]
    exact ⟨w1, w2, w3⟩
  · rw [if_neg z, if_neg z, if_neg z]
    exact H i i0 (by omega)
theorem RN_end {K n m r s : Int} (h0 : 0 ≤ s) (h1 : s ≤ 4) (eK : K = pI s) (h : RN K n m r) (hn : n = s + 1) (hm : m = 0) : r = nR s := by
  obtain ⟨K', N, M, e1, e2, e3, g1, g2, g3, e4⟩ := h
  have k := GN_end ⟨s.toNat, by omega⟩
  have k : GN (2 ^ s.toNat) (s.toNat + 1) 0 0 = 3 ^ s.toNat := k
  have eq : K' = 2 ^ s.toNat := by
    have : (K' : Int) = ((2 ^ s.toNat : Nat) : Int) := by rw [← e1]; exact eK
    exact Int.ofNat.inj this
  have eN : N = s.toNat + 1 := by omega
  have eM : M = 0 := by omega
  rw [e4, eq, eN, eM, k]
  rfl
/-! what lessons say, as bits -/
/-! a rule does as the lessons say: by bits, and one by one -/
def ASP (d : Int) (k o : Int → Int) (n : Int) : Prop := ∀ i : Int, 0 ≤ i → i < n → btI d (k i) = o i
/-! the first that is so -/
noncomputable def FIR (P : Int → Prop) : Nat → Int
  | 0 => -1
  | n + 1 => if FIR P n ≠ -1 then FIR P n else @ite _ (P (n : Int)) (Classical.propDecidable _) (n : Int) (-1)
/-! the latest lesson of a knock -/
def LAT (k : Int → Int) (x : Int) : Nat → Int
  | 0 => -1
  | n + 1 => if k (n : Int) = x then (n : Int) else LAT k x n
/-! the nearest lesson -/
def NEf (k : Int → Int) (x f : Int) : Int := if f = -1 then 5 else bcI (xN (k f) x)
def NER (k : Int → Int) (x : Int) : Nat → Int
  | 0 => -1
  | n + 1 => if bcI (xN (k (n : Int)) x) < NEf k x (NER k x n) then (n : Int) else NER k x n
/-! what a way brings -/
def BYL (way : Int) (k : Int → Int) (n x : Int) : Int := if way = 0 then LAT k x n.toNat else NER k x n.toNat
def LBT (way : Int) (k o : Int → Int) (n : Int) : Nat → Int
  | 0 => 0
  | x + 1 => if BYL way k n (x : Int) ≠ -1 ∧ o (BYL way k n (x : Int)) = 1 then oN (LBT way k o n x) (pI (x : Int)) else LBT way k o n x
noncomputable def LRN (way K z n : Int) (k o D : Int → Int) : Int := if way = 1 then (if FIR (fun i => ASP (D i) k o n) z.toNat = -1 then 0 else D (FIR (fun i => ASP (D i) k o n) z.toNat)) else LBT way k o n K.toNat
/-! by a world's numbers -/
def lkW (w : Int → Int) (d i : Int) : Int := w (26 + 24 * d + 2 * i)
def loW (w : Int → Int) (d i : Int) : Int := w (26 + 24 * d + 2 * i + 1)
end LRN
end
/-! 32.lj.lea -/
section
/-! the rules of the class stand for the signs that are there -/
section LEA
variable {k k' o o' D D' : Int → Int} {σ0 σ σ' σ1 σ2 : SG} {W W' : List (Nat × Nat)} {w : Int → Int} {By : Int → Int} {Nb : Int}
def RULx (σ : SG) (s : Int) : Prop := ci σ 4 0 = pI s ∧ ci σ 4 1 = nR s ∧ TB σ 5 6 7 (pI s) (nR s)
def RSAM (σ0 σ : SG) : Prop := ∀ b q : Nat, 4 ≤ b → b ≤ 7 → (σ b)[q]? = (σ0 b)[q]?
def RUW (W : List (Nat × Nat)) : Bool := W.all (fun q => decide (q.1 < 4) || decide (7 < q.1))
theorem rul_tags : ∀ b : Fin 8, 4 ≤ b.val → TG b.val = b.val := by decide +kernel
theorem RSAM_0 : RSAM σ σ := fun _ _ _ _ => rfl
theorem RSAM_tr (H : RSAM σ0 σ) (H' : RSAM σ σ1) : RSAM σ0 σ1 := fun b q h1 h2 => (H' b q h1 h2).trans (H b q h1 h2)
theorem RSAM_fr (h : Fr W σ σ1) (hw : RUW W = true) : RSAM σ σ1 := fun b q h1 h2 => by
  refine h b q ?_
  rw [rul_tags ⟨b, by omega⟩ h1]
  unfold RUW at hw
  rw [List.all_eq_true] at hw
  rw [Bool.eq_false_iff]
  intro z
  have z2 := hw _ (List.elem_iff.mp z)
  simp only [Bool.or_eq_true, decide_eq_true_eq] at z2
  omega
theorem RSAM_ne {x n : Nat} (H : RSAM σ0 σ) (h : ∀ b' i', (b' ≠ x ∨ i' ≠ n) → (σ1 b')[i']? = (σ b')[i']?) (hx : x < 4 ∨ 7 < x) : RSAM σ0 σ1 := fun b q h1 h2 => (h b q (Or.inl (by omega))).trans (H b q h1 h2)
theorem RULx_sam {s : Int} (H : RULx σ s) (h : RSAM σ σ1) : RULx σ1 s := by
  obtain ⟨a, b, c⟩ := H
  refine ⟨(ci_eq (h 4 _ (by omega) (by omega))).trans a, (ci_eq (h 4 _ (by omega) (by omega))).trans b, fun i i0 i1 => ?_⟩
  rw [ci_eq (h 5 _ (by omega) (by omega)), ci_eq (h 6 _ (by omega) (by omega)), ci_eq (h 7 _ (by omega) (by omega))]
  exact c i i0 i1
theorem RULx_eq {s s' : Int} (H : RULx σ s) (e : s' = s) : RULx σ s' := by subst e; exact H
def RUT (σ : SG) : Prop := 0 < wf σ 7 → RULx σ (wf σ 0)
/-- doors are there with a school alone -/
def QX (w : Int → Int) : Prop := 0 < w 2 → 0 < w 7
def QXS (σ : SG) : Prop := QX (wf σ) ∧ ∀ k : Nat, k < 3 → ci σ 71 (k : Int) ≠ 0 → QX (imf σ (k : Int))
def LEA (σ : SG) : Prop := FUL σ ∧ RUT σ ∧ QXS σ
theorem QX_e {f : Int → Int} (H : QX w) (h2 : f 2 = w 2) (h7 : f 7 = w 7) : QX f := fun z => by have := H (by omega); omega
def QXW (W : List (Nat × Nat)) : Bool := !W.contains (37, 0) && !W.contains (30, 0)
theorem QXI_fr (H : ∀ k : Nat, k < 3 → ci σ 71 (k : Int) ≠ 0 → QX (imf σ (k : Int))) (h : Fr W σ σ1) (hw : QXW W = true) : ∀ k : Nat, k < 3 → ci σ1 71 (k : Int) ≠ 0 → QX (imf σ1 (k : Int)) := fun k k3 z => by
  unfold QXW at hw
  rw [Bool.and_eq_true] at hw
  rw [flg_fr h hw.2] at z
  rw [imf_fr h hw.1]; exact H k k3 z
theorem QXS_ch (H : QXS σ) (h : Fr W σ σ1) (h' : Fr W' σ1 σ2) (hw : QXW W = true) (hw' : QXW W' = true) (e2 : wf σ2 2 = wf σ 2) (e7 : wf σ2 7 = wf σ 7) : QXS σ2 := ⟨QX_e H.1 e2 e7, QXI_fr (QXI_fr H.2 h hw) h' hw'⟩
theorem QXS_fr (H : QXS σ) (h : Fr W σ σ1) (h' : Fr W' σ1 σ2) (hw : (QXW W && !W.contains (36, 0)) = true) (hw' : (QXW W' && !W'.contains (36, 0)) = true) : QXS σ2 := by
  rw [Bool.and_eq_true] at hw hw'
  have e : wf σ2 = wf σ := (wf_fr h' hw'.2).trans (wf_fr h hw.2)
  exact QXS_ch H h h' hw.1 hw'.1 (by rw [e]) (by rw [e])
theorem QXS_w {f : Int → Int} (H : QXS σ) (h : Fr W σ σ1) (h' : Fr W' σ1 σ2) (hw : QXW W = true) (hw' : QXW W' = true) (hf : ∀ i : Int, 0 ≤ i → i < 226 → wf σ2 i = f i) (e2 : f 2 = wf σ 2) (e7 : f 7 = wf σ 7) : QXS σ2 := QXS_ch H h h' hw hw' ((hf 2 (by omega) (by omega)).trans e2) ((hf 7 (by omega) (by omega)).trans e7)
theorem fRead_7 : ∀ (f : Nat) (S : PS), S.2.2.2 7 ≤ (fRead By Nb f S).2.2.2 7 ∧ ((fRead By Nb f S).2.2.2 7 = S.2.2.2 7 → fRead By Nb f S = S) := by
  intro f
  induction f with
  | zero => intro S; exact ⟨Int.le_refl _, fun _ => rfl⟩
  | succ f ih =>
    intro S
    have e : (fLine By Nb S).2.2.2 7 = S.2.2.2 7 + 1 := by
      unfold fLine; dsimp only [wst, uPd]; exact if_pos rfl
    show S.2.2.2 7 ≤ (if S.1 = 0 ∧ tK By Nb S.2.2.1 ≠ 0 then fRead By Nb f (fLine By Nb S) else S).2.2.2 7 ∧ ((if S.1 = 0 ∧ tK By Nb S.2.2.1 ≠ 0 then fRead By Nb f (fLine By Nb S) else S).2.2.2 7 = S.2.2.2 7 → (if S.1 = 0 ∧ tK By Nb S.2.2.1 ≠ 0 then fRead By Nb f (fLine By Nb S) else S) = S)
    split
    · have k := (ih (fLine By Nb S)).1
      exact ⟨by omega, fun z => by omega⟩
    · exact ⟨Int.le_refl _, fun _ => rfl⟩
theorem fRead_q : QX (fRead By Nb 1601 S00).2.2.2 := fun z => by
  have k := fRead_7 (By := By) (Nb := Nb) 1601 S00
  have z7 : S00.2.2.2 7 = 0 := rfl
  have z2 : S00.2.2.2 2 = 0 := rfl
  rcases Int.lt_or_le 0 ((fRead By Nb 1601 S00).2.2.2 7) with y | y
  · exact y
  · rw [k.2 (by omega)] at z; omega
theorem QXS_sc {r' : Int} (H : QXS σ) (h : Fr W σ σ1) (h' : Fr W' σ1 σ2) (hw : (QXW W && !W.contains (36, 0)) = true) (hw' : QXW W' = true) (M : MSC By Nb σ1 σ2 r') : QXS σ2 := by
  rw [Bool.and_eq_true] at hw
  refine ⟨?_, QXI_fr (QXI_fr H.2 h hw.1) h' hw'⟩
  by_cases z : (fRead By Nb 1601 S00).1 = 0
  · have m := (M.2.2.2 z).2
    exact QX_e fRead_q (m 2 (by omega) (by omega)) (m 7 (by omega) (by omega))
  · have w2 : wf σ2 = wf σ := by
      rw [← wf_fr h hw.2]
      funext i
      exact (M.2.2.1 z).2 i
    rw [w2]; exact H.1
theorem QXS_im {p : Nat} {k k' : Int} (H : QXS σ) (h : Fr W σ σ1) (h' : Fr W' σ1 σ2) (hw : (!W.contains (36, 0) && !W.contains (37, 0)) = true) (hw' : (!W'.contains (30, 0)) = true) (C : IMC σ σ1 p k) (M : IMW σ1 σ2 k') (e : k' = k) : QXS σ2 := by
  subst e
  rw [Bool.and_eq_true] at hw
  have w1 : wf σ1 = wf σ := wf_fr h hw.1
  have w2 : wf σ2 = wf σ := by
    rw [← w1]
    funext i
    exact M.2.2 i
  refine ⟨by rw [w2]; exact H.1, fun j j3 z => ?_⟩
  rw [flg_fr h' hw', C.2.2 (j : Int) (by omega) (by omega)] at z
  by_cases y : (j : Int) = k'
  · have e : ∀ i : Int, 0 ≤ i → i < 226 → imf σ2 (j : Int) i = wf σ i := fun i i0 i1 => by
      have := (M.1 (by omega) (by omega)).1 i i0 i1
      show ci σ2 161 (226 * (j : Int) + i) = _
      rw [y, this, ← w1]
      rfl
    exact QX_e H.1 (e 2 (by omega) (by omega)) (e 7 (by omega) (by omega))
  · rw [if_neg y] at z
    have e : ∀ i : Int, 0 ≤ i → i < 226 → imf σ2 (j : Int) i = imf σ (j : Int) i := fun i i0 i1 => by
      rw [← imf_fr h hw.2 (j : Int)]
      show ci σ2 161 (226 * (j : Int) + i) = ci σ1 161 (226 * (j : Int) + i)
      by_cases x : 0 ≤ k' ∧ k' < 3
      · exact (M.1 x.1 x.2).2 _ (by omega) (by omega)
      · exact M.2.1 (by omega) _
    exact QX_e (H.2 j j3 z) (e 2 (by omega) (by omega)) (e 7 (by omega) (by omega))
theorem RUT_kp (H : RUT σ) (h : Fr W σ σ1) (h' : Fr W' σ1 σ2) (hw : RUW W = true) (hw' : RUW W' = true) (e0 : wf σ2 0 = wf σ 0) (e7 : wf σ2 7 = wf σ 7) : RUT σ2 := fun z => by
  rw [e0]
  exact RULx_sam (RULx_sam (H (by omega)) (RSAM_fr h hw)) (RSAM_fr h' hw')
theorem RUT_fr (H : RUT σ) (h : Fr W σ σ1) (h' : Fr W' σ1 σ2) (hw : (RUW W && !W.contains (36, 0)) = true) (hw' : (RUW W' && !W'.contains (36, 0)) = true) : RUT σ2 := by
  rw [Bool.and_eq_true] at hw hw'
  have e : wf σ2 = wf σ := (wf_fr h' hw'.2).trans (wf_fr h hw.2)
  exact RUT_kp H h h' hw.1 hw'.1 (by rw [e]) (by rw [e])
theorem RUT_ch {f : Int → Int} (H : RUT σ) (h : Fr W σ σ1) (h' : Fr W' σ1 σ2) (hw : (RUW W && !W.contains (36, 0)) = true) (hw' : RUW W' = true) (hf : ∀ i : Int, 0 ≤ i → i < 226 → wf σ2 i = f i) (e0 : f 0 = wf σ 0) (e7 : f 7 = wf σ 7) : RUT σ2 := by
  rw [Bool.and_eq_true] at hw
  exact RUT_kp H h h' hw.1 hw' ((hf 0 (by omega) (by omega)).trans e0) ((hf 7 (by omega) (by omega)).trans e7)
/-- a plan that is there shows its signs -/
theorem FUL_sg {q : Nat} (F : FUL σ2) (hq : (σ2 0)[9]? = some (Value.ref q)) : PLA q ∧ ci σ2 q 1 = wf σ2 0 := by
  obtain ⟨-, -, -, K, -⟩ := F
  obtain ⟨P, K⟩ := K q hq
  have e := K 0 (by omega) (by omega) (Or.inl (by omega))
  rw [lcO_lt (by decide) (by decide), Nat.add_zero] at e
  exact ⟨P, e⟩
theorem RUT_new {q : Nat} (F : FUL σ2) (hq : (σ1 0)[9]? = some (Value.ref q)) (h' : Fr W' σ1 σ2) (kw : (OTW W' && !W'.contains (0, 9) && RUW W') = true) (R : RULx σ1 (ci σ1 q 1)) : RUT σ2 := fun _ => by
  rw [Bool.and_eq_true, Bool.and_eq_true] at kw
  obtain ⟨P, e⟩ := FUL_sg F ((p9_fr h' kw.1.2).trans hq)
  have hb : 18 ≤ q ∧ q < 150 := by unfold PLA at P; omega
  have e2 : ci σ2 q 1 = ci σ1 q 1 := ci_eq (h' _ _ (OTW_n kw.1.1 hb.1 hb.2))
  rw [← e, e2]
  exact RULx_sam R (RSAM_fr h' kw.2)
def RSC (By : Int → Int) (Nb : Int) (σ0 σ : SG) (p2 : Nat) : Prop := ((fRead By Nb 1601 S00).1 = 0 → RULx σ (ci σ p2 1)) ∧ ((fRead By Nb 1601 S00).1 ≠ 0 → RSAM σ0 σ)
theorem RUT_sch {p p2 : Nat} {r' : Int} (H : RUT σ) (F : FUL σ2) (h : Fr W σ σ1) (h' : Fr W' σ1 σ2) (kw : (!W.contains (36, 0)) = true) (kw' : (OTW W' && !W'.contains (0, 9) && RUW W') = true) (L : SPL By Nb σ1 p p2) (M : MSC By Nb σ1 σ2 r') (R : RSC By Nb σ σ1 p2) : RUT σ2 := by
  by_cases z : (fRead By Nb 1601 S00).1 = 0
  · exact RUT_new F (L.2 z).1 h' kw' (R.1 z)
  · have w2 : wf σ2 = wf σ := by
      rw [← wf_fr h kw]
      funext i
      exact (M.2.2.1 z).2 i
    rw [Bool.and_eq_true, Bool.and_eq_true] at kw'
    intro y
    rw [w2] at y ⊢
    exact RULx_sam (RULx_sam (H y) (R.2 z)) (RSAM_fr h' kw'.2)
def RBK (σ0 σ : SG) (p : Nat) (k f : Int) : Prop := (0 ≤ k → k < 3 → f ≠ 0 → RULx σ (ci σ p 1)) ∧ ((k < 0 ∨ 2 < k ∨ f = 0) → RSAM σ0 σ)
theorem RUT_bk {p : Nat} {k k' f f' : Int} (H : RUT σ) (F : FUL σ2) (hp : (σ 0)[9]? = some (Value.ref p)) (h : Fr W σ σ1) (h' : Fr W' σ1 σ2) (kw : (!W.contains (36, 0) && !W.contains (0, 9)) = true) (kw' : (OTW W' && !W'.contains (0, 9) && RUW W') = true) (M : BKM σ1 σ2 k' f') (R : RBK σ σ1 p k f) (e : k' = k) (ef : f' = f) : RUT σ2 := by
  rw [Bool.and_eq_true] at kw
  by_cases z : 0 ≤ k ∧ k < 3 ∧ f ≠ 0
  · exact RUT_new F ((p9_fr h kw.2).trans hp) h' kw' (R.1 z.1 z.2.1 z.2.2)
  · have z' : k < 0 ∨ 2 < k ∨ f = 0 := by omega
    have w2 : wf σ2 = wf σ := by
      rw [← wf_fr h kw.1]
      funext i
      exact M.2 (by omega) i
    rw [Bool.and_eq_true, Bool.and_eq_true] at kw'
    intro y
    rw [w2] at y ⊢
    exact RULx_sam (RULx_sam (H y) (R.2 z')) (RSAM_fr h' kw'.2)
theorem flg_eq {j : Int} (H : FUL σ) (h : Fr W σ σ1) (hw : (!W.contains (38, 0)) = true) (j0 : 0 ≤ j) (j3 : j < 3) : ci σ1 162 j = ci σ 71 j := by
  obtain ⟨-, F, -⟩ := H
  rw [F j j0 j3]
  exact ci_fr h tgz_162 (by rw [Bool.and_eq_true]; exact ⟨by decide +kernel, hw⟩) j
theorem RUT_bk2 {p : Nat} {k k' : Int} (H : RUT σ) (F0 : FUL σ) (F : FUL σ2) (hp : (σ 0)[9]? = some (Value.ref p)) (h : Fr W σ σ1) (h' : Fr W' σ1 σ2) (kw : (!W.contains (36, 0) && !W.contains (0, 9)) = true) (kx : (!W.contains (38, 0)) = true) (kw' : (OTW W' && !W'.contains (0, 9) && RUW W') = true) (M : BKM σ1 σ2 k' (ci σ1 162 k')) (R : RBK σ σ1 p k (ci σ 71 k)) (e : k' = k) : RUT σ2 := by
  subst e
  by_cases z : 0 ≤ k' ∧ k' < 3
  · exact RUT_bk H F hp h h' kw kw' M R rfl (flg_eq F0 h kx z.1 z.2)
  · have M' : BKM σ1 σ2 k' (ci σ 71 k') := ⟨fun a b _ => absurd ⟨a, b⟩ z, fun _ => M.2 (by omega)⟩
    exact RUT_bk H F hp h h' kw kw' M' R rfl rfl
theorem QXS_bk {k' : Int} (H : QXS σ) (F0 : FUL σ) (h : Fr W σ σ1) (h' : Fr W' σ1 σ2) (hw : (QXW W && !W.contains (36, 0) && !W.contains (38, 0)) = true) (hw' : QXW W' = true) (M : BKM σ1 σ2 k' (ci σ1 162 k')) : QXS σ2 := by
  rw [Bool.and_eq_true, Bool.and_eq_true] at hw
  refine ⟨?_, QXI_fr (QXI_fr H.2 h hw.1.1) h' hw'⟩
  have w1 : wf σ1 = wf σ := wf_fr h hw.1.2
  by_cases z : 0 ≤ k' ∧ k' < 3 ∧ ci σ1 162 k' ≠ 0
  · have m := M.1 z.1 z.2.1 z.2.2
    have f := flg_eq F0 h hw.2 z.1 z.2.1
    have ek : ((k'.toNat : Nat) : Int) = k' := by omega
    have q := H.2 k'.toNat (by omega) (by rw [ek, ← f]; exact z.2.2)
    have w37 := hw.1.1
    unfold QXW at w37
    rw [Bool.and_eq_true] at w37
    rw [ek, ← imf_fr h w37.1] at q
    exact QX_e q (m 2 (by omega) (by omega)) (m 7 (by omega) (by omega))
  · have m := M.2 (by omega)
    exact QX_e H.1 ((m 2).trans (by rw [w1])) ((m 7).trans (by rw [w1]))
/-! lessons of a plan -/
/-! lessons as their rows are typed -/
/-- a row more of the learner's -/
def ADQ (σ0 σ : SG) (m x y : Int) : Prop := ∀ i : Int, 0 ≤ i → ci σ 169 i = (if i = m then x else ci σ0 169 i) ∧ ci σ 170 i = (if i = m then y else ci σ0 170 i)
theorem DOf_e {m v x i n X : Int} (h : x = DOf m v i.toNat) (e : n = i) (hX : X = x) : X = DOf m v n.toNat := by subst e hX; exact h
end LEA
end
/-! 32.lk.ask -/
section
/-! what is asked of doors, and what changes leave alone -/
section ASK
variable {w w' : Int → Int}
theorem up7 {i v : Int} (h : i ≠ 0 ∧ i ≠ 2 ∧ i ≠ 7) (f : Int → Int) : uPd f i v 0 = f 0 ∧ uPd f i v 2 = f 2 ∧ uPd f i v 7 = f 7 := ⟨if_neg (by omega), if_neg (by omega), if_neg (by omega)⟩
theorem tc7 {d k o : Int} (hn : NNw w) : tcW w d k o 0 = w 0 ∧ tcW w d k o 2 = w 2 ∧ tcW w d k o 7 = w 7 := by
  unfold tcW
  split
  · rename_i h
    obtain ⟨⟨d0, d2, -⟩, -, -⟩ := h
    have n2 := hn.2.1
    have m0 := hn.2.2 d d0 (by omega)
    have n6 := hn.1
    unfold tcU
    have a := up7 (i := 26 + 24 * d + 2 * w (12 + 4 * d)) (v := k) (by omega) w
    have b := up7 (i := 26 + 24 * d + 2 * w (12 + 4 * d) + 1) (v := o) (by omega) (uPd w (26 + 24 * d + 2 * w (12 + 4 * d)) k)
    have c := up7 (i := 12 + 4 * d) (v := w (12 + 4 * d) + 1) (by omega) (uPd (uPd w (26 + 24 * d + 2 * w (12 + 4 * d)) k) (26 + 24 * d + 2 * w (12 + 4 * d) + 1) o)
    have e := up7 (i := 166 + w 6) (v := d) (by omega) (uPd (uPd (uPd w (26 + 24 * d + 2 * w (12 + 4 * d)) k) (26 + 24 * d + 2 * w (12 + 4 * d) + 1) o) (12 + 4 * d) (w (12 + 4 * d) + 1))
    have f := up7 (i := 6) (v := w 6 + 1) (by omega) (uPd (uPd (uPd (uPd w (26 + 24 * d + 2 * w (12 + 4 * d)) k) (26 + 24 * d + 2 * w (12 + 4 * d) + 1) o) (12 + 4 * d) (w (12 + 4 * d) + 1)) (166 + w 6) d)
    refine ⟨?_, ?_, ?_⟩ <;> omega
  · exact ⟨rfl, rfl, rfl⟩
theorem ut7 (hn : NNw w) (hg : TGT w) : utW w 0 = w 0 ∧ utW w 2 = w 2 ∧ utW w 7 = w 7 := by
  unfold utW
  split
  · exact ⟨rfl, rfl, rfl⟩
  · split
    · exact ⟨rfl, rfl, rfl⟩
    · have g := hg (w 6 - 1) (by omega) (by omega)
      unfold utU
      have z : 0 ≤ utD w := g.1
      have a := up7 (i := 6) (v := w 6 - 1) (by omega) w
      have b := up7 (i := 12 + 4 * utD w) (v := w (12 + 4 * utD w) - 1) (by omega) (uPd w 6 (w 6 - 1))
      refine ⟨?_, ?_, ?_⟩ <;> omega
theorem tr7 {d t n : Int} : trW w d t n 0 = w 0 ∧ trW w d t n 2 = w 2 ∧ trW w d t n 7 = w 7 := by
  unfold trW
  split
  · rename_i h
    exact up7 (i := 10 + 4 * d + t) (v := n) (by omega) w
  · exact ⟨rfl, rfl, rfl⟩
theorem ow7 {m v : Int} : owW w m v 0 = w 0 ∧ owW w m v 2 = w 2 ∧ owW w m v 7 = w 7 := by
  unfold owW
  split
  · have a := up7 (i := 8) (v := m) (by omega) w
    have b := up7 (i := 9) (v := v) (by omega) (uPd w 8 m)
    refine ⟨?_, ?_, ?_⟩ <;> omega
  · exact ⟨rfl, rfl, rfl⟩
theorem cy7 {d o : Int} : cyW w d o 0 = w 0 ∧ cyW w d o 2 = w 2 ∧ cyW w d o 7 = w 7 := by
  unfold cyW
  split
  · rename_i h
    exact up7 (i := 13 + 4 * d) (v := o) (by have := h.1; omega) w
  · exact ⟨rfl, rfl, rfl⟩
end ASK
end
/-! 32.lm.one -/
section
/-! what is asked of one door and one knock, of a rule -/
section ONE
variable {w w' : Int → Int} {k : Int → Int}
noncomputable def iR (c : Prop) (v : Int) : Int := @ite _ c (Classical.propDecidable c) v (-2)
theorem iR_y {c : Prop} {v r : Int} (h : c) (e : r = v) : r = iR c v := by unfold iR; rw [if_pos h]; exact e
theorem iR_n {c : Prop} {v r : Int} (h : ¬ c) (e : r = -2) : r = iR c v := by unfold iR; rw [if_neg h]; exact e
end ONE
end
/-! 32.ln.rul -/
section
/-! rules by what they do, and by what lessons say -/
section RUL
variable {w w' : Int → Int} {k o D : Int → Int} {σ : SG}
noncomputable def CNT (P : Int → Prop) : Nat → Int
  | 0 => 0
  | n + 1 => CNT P n + @ite _ (P (n : Int)) (Classical.propDecidable _) 1 0
/-- the rules that do as a door's own lessons say -/
def ruP (w : Int → Int) (d : Int) (i : Int) : Prop := ASP (ruD (pI (w 0)) i) (lkW w d) (loW w d) (w (12 + 4 * d))
noncomputable def fr1 (w : Int → Int) (d : Int) : Int := FIR (ruP w d) (nR (w 0)).toNat
end RUL
end
/-! 32.lo.exm -/
section
/-! exams, and how many signs -/
section EXM
variable {w w' : Int → Int} {σ : SG} {k o : Int → Int} {W : List (Nat × Nat)}
/-! bits reckoned over natural numbers -/
end EXM
end
/-! 32.loz.bit -/
section
/-! the count of 16 signs, over a table of 256 by 256 -/
section BFM
end BFM
end
/-! 32.lp.alk -/
section
/-! who does alike; houses -/
section ALK
variable {w w' : Int → Int}
end ALK
end
/-! 32.lq.own -/
section
/-! what the owner and the houses say; who is fooled; ways -/
section OWN
variable {w w' : Int → Int} {σ : SG} {k o : Int → Int}
def owD (w : Int → Int) : Int := DOf (w 8) (w 9) (pI (w 0)).toNat
theorem owD_of {m v K r : Int} (hm : w 8 = m) (hv : w 9 = v) (hK : K = pI (w 0)) (e : r = DOf m v K.toNat) : r = owD w := by subst hm hv hK; exact e
noncomputable def owR (w : Int → Int) (m v : Int) : Int := iR (rlOK w m v) (owD w)
theorem owR_y {m v r : Int} (h : rlOK w m v) (e : r = owD w) : r = owR w m v := iR_y h e
theorem owR_n {m v r : Int} (h : ¬ rlOK w m v) (e : r = -2) : r = owR w m v := iR_n h e
theorem owR_cg {m m' v v' : Int} (h : w' = w) (a : m' = m) (b : v' = v) : owR w' m' v' = owR w m v := by subst h a b; rfl
/-! exams that no door does right -/
end OWN
end
/-! 32.lwy.una -/
section
section
def INVT : List Nat := [999, 1, 2, 3, 4, 5, 6, 7, 8, 9, 10, 11, 12, 13, 14, 15, 16, 17, 999, 999, 999, 999, 999, 999, 999, 999, 999, 999, 999, 70, 71, 999, 150, 999, 999, 999, 160, 161, 162, 163, 164, 165, 166, 167, 168, 169, 170, 171, 172, 173, 174, 175, 999, 177, 178, 179, 180]
theorem inv_all : ((List.range NCEL).all fun b => decide (INVT.getD (TG b) 999 = 999) || decide (INVT.getD (TG b) 999 = b)) = true := by decide +kernel
theorem un_of {g u : Nat} (h : INVT.getD g 999 = u) (hg : g < 900) (hu : u ≠ 999) : (decide (g < 900) && (List.range NCEL).all (fun b => decide (TG b = g → b = u))) = true := by
  rw [Bool.and_eq_true]
  refine ⟨decide_eq_true hg, List.all_eq_true.mpr fun b hb => decide_eq_true fun e => ?_⟩
  have q := List.all_eq_true.mp inv_all b hb
  rw [Bool.or_eq_true, decide_eq_true_eq, decide_eq_true_eq, e, h] at q
  exact q.elim (fun c => absurd c hu) Eq.symm
theorem un_1_1 : (decide (1 < 900) && (List.range NCEL).all (fun b => decide (TG b = 1 → b = 1))) = true := un_of rfl (by decide) (by decide)
theorem un_2_2 : (decide (2 < 900) && (List.range NCEL).all (fun b => decide (TG b = 2 → b = 2))) = true := un_of rfl (by decide) (by decide)
theorem un_3_3 : (decide (3 < 900) && (List.range NCEL).all (fun b => decide (TG b = 3 → b = 3))) = true := un_of rfl (by decide) (by decide)
theorem un_4_4 : (decide (4 < 900) && (List.range NCEL).all (fun b => decide (TG b = 4 → b = 4))) = true := un_of rfl (by decide) (by decide)
theorem un_5_5 : (decide (5 < 900) && (List.range NCEL).all (fun b => decide (TG b = 5 → b = 5))) = true := un_of rfl (by decide) (by decide)
theorem un_6_6 : (decide (6 < 900) && (List.range NCEL).all (fun b => decide (TG b = 6 → b = 6))) = true := un_of rfl (by decide) (by decide)
theorem un_7_7 : (decide (7 < 900) && (List.range NCEL).all (fun b => decide (TG b = 7 → b = 7))) = true := un_of rfl (by decide) (by decide)
theorem un_8_8 : (decide (8 < 900) && (List.range NCEL).all (fun b => decide (TG b = 8 → b = 8))) = true := un_of rfl (by decide) (by decide)
theorem un_9_9 : (decide (9 < 900) && (List.range NCEL).all (fun b => decide (TG b = 9 → b = 9))) = true := un_of rfl (by decide) (by decide)
theorem un_10_10 : (decide (10 < 900) && (List.range NCEL).all (fun b => decide (TG b = 10 → b = 10))) = true := un_of rfl (by decide) (by decide)
theorem un_11_11 : (decide (11 < 900) && (List.range NCEL).all (fun b => decide (TG b = 11 → b = 11))) = true := un_of rfl (by decide) (by decide)
theorem un_12_12 : (decide (12 < 900) && (List.range NCEL).all (fun b => decide (TG b = 12 → b = 12))) = true := un_of rfl (by decide) (by decide)
theorem un_13_13 : (decide (13 < 900) && (List.range NCEL).all (fun b => decide (TG b = 13 → b = 13))) = true := un_of rfl (by decide) (by decide)
theorem un_14_14 : (decide (14 < 900) && (List.range NCEL).all (fun b => decide (TG b = 14 → b = 14))) = true := un_of rfl (by decide) (by decide)
theorem un_15_15 : (decide (15 < 900) && (List.range NCEL).all (fun b => decide (TG b = 15 → b = 15))) = true := un_of rfl (by decide) (by decide)
theorem un_16_16 : (decide (16 < 900) && (List.range NCEL).all (fun b => decide (TG b = 16 → b = 16))) = true := un_of rfl (by decide) (by decide)
theorem un_17_17 : (decide (17 < 900) && (List.range NCEL).all (fun b => decide (TG b = 17 → b = 17))) = true := un_of rfl (by decide) (by decide)
theorem un_29_70 : (decide (29 < 900) && (List.range NCEL).all (fun b => decide (TG b = 29 → b = 70))) = true := un_of rfl (by decide) (by decide)
theorem un_30_71 : (decide (30 < 900) && (List.range NCEL).all (fun b => decide (TG b = 30 → b = 71))) = true := un_of rfl (by decide) (by decide)
theorem un_32_150 : (decide (32 < 900) && (List.range NCEL).all (fun b => decide (TG b = 32 → b = 150))) = true := un_of rfl (by decide) (by decide)
theorem un_36_160 : (decide (36 < 900) && (List.range NCEL).all (fun b => decide (TG b = 36 → b = 160))) = true := un_of rfl (by decide) (by decide)
theorem un_37_161 : (decide (37 < 900) && (List.range NCEL).all (fun b => decide (TG b = 37 → b = 161))) = true := un_of rfl (by decide) (by decide)
theorem un_38_162 : (decide (38 < 900) && (List.range NCEL).all (fun b => decide (TG b = 38 → b = 162))) = true := un_of rfl (by decide) (by decide)
theorem un_39_163 : (decide (39 < 900) && (List.range NCEL).all (fun b => decide (TG b = 39 → b = 163))) = true := un_of rfl (by decide) (by decide)
theorem un_40_164 : (decide (40 < 900) && (List.range NCEL).all (fun b => decide (TG b = 40 → b = 164))) = true := un_of rfl (by decide) (by decide)
theorem un_41_165 : (decide (41 < 900) && (List.range NCEL).all (fun b => decide (TG b = 41 → b = 165))) = true := un_of rfl (by decide) (by decide)
theorem un_42_166 : (decide (42 < 900) && (List.range NCEL).all (fun b => decide (TG b = 42 → b = 166))) = true := un_of rfl (by decide) (by decide)
theorem un_43_167 : (decide (43 < 900) && (List.range NCEL).all (fun b => decide (TG b = 43 → b = 167))) = true := un_of rfl (by decide) (by decide)
theorem un_44_168 : (decide (44 < 900) && (List.range NCEL).all (fun b => decide (TG b = 44 → b = 168))) = true := un_of rfl (by decide) (by decide)
theorem un_45_169 : (decide (45 < 900) && (List.range NCEL).all (fun b => decide (TG b = 45 → b = 169))) = true := un_of rfl (by decide) (by decide)
theorem un_46_170 : (decide (46 < 900) && (List.range NCEL).all (fun b => decide (TG b = 46 → b = 170))) = true := un_of rfl (by decide) (by decide)
theorem un_47_171 : (decide (47 < 900) && (List.range NCEL).all (fun b => decide (TG b = 47 → b = 171))) = true := un_of rfl (by decide) (by decide)
theorem un_48_172 : (decide (48 < 900) && (List.range NCEL).all (fun b => decide (TG b = 48 → b = 172))) = true := un_of rfl (by decide) (by decide)
theorem un_49_173 : (decide (49 < 900) && (List.range NCEL).all (fun b => decide (TG b = 49 → b = 173))) = true := un_of rfl (by decide) (by decide)
theorem un_50_174 : (decide (50 < 900) && (List.range NCEL).all (fun b => decide (TG b = 50 → b = 174))) = true := un_of rfl (by decide) (by decide)
theorem un_51_175 : (decide (51 < 900) && (List.range NCEL).all (fun b => decide (TG b = 51 → b = 175))) = true := un_of rfl (by decide) (by decide)
theorem un_53_177 : (decide (53 < 900) && (List.range NCEL).all (fun b => decide (TG b = 53 → b = 177))) = true := un_of rfl (by decide) (by decide)
theorem un_54_178 : (decide (54 < 900) && (List.range NCEL).all (fun b => decide (TG b = 54 → b = 178))) = true := un_of rfl (by decide) (by decide)
theorem un_55_179 : (decide (55 < 900) && (List.range NCEL).all (fun b => decide (TG b = 55 → b = 179))) = true := un_of rfl (by decide) (by decide)
theorem un_56_180 : (decide (56 < 900) && (List.range NCEL).all (fun b => decide (TG b = 56 → b = 180))) = true := un_of rfl (by decide) (by decide)
theorem awl : (TY 36).2.2.2.all (fun x => decide (x.1 = 0)) = true := by decide +kernel
theorem aw_of {g n : Nat} {L : List (Nat × Int × Int)} (h : L.all (fun x => decide (x.1 = 0)) = true) (hl : n ≤ L.length) (hf : ∀ q, FT g q = L.getD q (9, 0, 0)) : (List.range n).all (fun q => decide ((FT g q).1 = 0)) = true :=
  List.all_eq_true.mpr fun q hq => decide_eq_true (by
    have hq2 := List.mem_range.mp hq
    rw [hf q, List.getD_eq_getElem?_getD, List.getElem?_eq_getElem (by omega)]
    exact of_decide_eq_true (List.all_eq_true.mp h _ (List.getElem_mem _)))
theorem aw_36 : (List.range 226).all (fun q => decide ((FT 36 q).1 = 0)) = true := aw_of awl (by have := tyW.2.2.1; omega) (fun _ => ft_36)
theorem aw_41 : (List.range 226).all (fun q => decide ((FT 41 q).1 = 0)) = true := aw_of awl (by have := tyW.2.2.1; omega) (fun _ => ft_41)
theorem aw_37 : (List.range 678).all (fun q => decide ((FT 37 q).1 = 0)) = true := aw_of (L := (TY 36).2.2.2 ++ ((TY 36).2.2.2 ++ (TY 36).2.2.2)) (by rw [List.all_append, List.all_append, awl]; rfl) (by have := tyW.2.2.1; rw [List.length_append, List.length_append]; omega) (fun _ => ft_37)
theorem bd_280 {J : Int} {y : Int32} (h0 : 26 ≤ J) (h1 : J ≤ 121) (h : vOK (FT 36 J.toNat) (.int y)) : 0 ≤ y.toInt ∧ y.toInt ≤ 15 := by
  have q : (List.range 96).all (fun k => decide (0 ≤ (FT 36 (26 + k)).2.1 ∧ (FT 36 (26 + k)).2.2 ≤ 15)) = true := by decide +kernel
  have w := of_decide_eq_true (List.all_eq_true.mp q (J.toNat - 26) (List.mem_range.mpr (by omega)))
  rw [show 26 + (J.toNat - 26) = J.toNat by omega] at w
  have h2 := h.2
  omega
end
end
