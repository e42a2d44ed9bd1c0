section ADP
variable {By : Int → Int} {Nb : Int} {Sp S T : PS} {σ0 σ σ' σ1 σ2 σ3 σ4 : SG} {W : List (Nat × Nat)} {a : Nat}
/-- one lesson is put behind the others -/
def ADDp (σ0 σ : SG) (s kn op : Nat) (m x y : Int) : Prop := ci σ kn m = x ∧ ci σ op m = y ∧ ci σ s 2 = m + 1 ∧ ∀ b q : Nat, ¬ (b = kn ∧ q = m.toNat) → ¬ (b = op ∧ q = m.toNat) → ¬ (b = s ∧ q = 2) → (σ b)[q]? = (σ0 b)[q]?
theorem ADD_mk {s kn op : Nat} {J x y : Int} {u v w : Int32} (k1 : (σ1 kn)[J.toNat]? = some (.int u)) (n1 : ∀ b q, (b ≠ kn ∨ q ≠ J.toNat) → (σ1 b)[q]? = (σ0 b)[q]?) (k2 : (σ2 op)[J.toNat]? = some (.int v)) (n2 : ∀ b q, (b ≠ op ∨ q ≠ J.toNat) → (σ2 b)[q]? = (σ1 b)[q]?) (k3 : (σ3 s)[2]? = some (.int w)) (n3 : ∀ b q, (b ≠ s ∨ q ≠ 2) → (σ3 b)[q]? = (σ2 b)[q]?) (ts : TG s = 20) (tk : TG kn = 21) (to : TG op = 22) (hx : x = u.toInt) (hy : y = v.toInt) (hw : w.toInt = J + 1) : ADDp σ0 σ3 s kn op J x y := by
  have d1 : kn ≠ op := fun e => by rw [e, to] at tk; omega
  have d2 : kn ≠ s := fun e => by rw [e, ts] at tk; omega
  have d3 : op ≠ s := fun e => by rw [e, ts] at to; omega
  refine ⟨?_, ?_, ?_, fun b q a1 a2 a3 => ?_⟩
  · unfold ci; rw [n3 _ _ (Or.inl d2), n2 _ _ (Or.inl d1), k1, hx]
  · unfold ci; rw [n3 _ _ (Or.inl d3), k2, hy]
  · unfold ci; rw [show (2 : Int).toNat = 2 from rfl, k3]; exact hw
  · rw [n3 b q (by omega), n2 b q (by omega), n1 b q (by omega)]
theorem KN_add {w : Int → Int} {A : Int → Prop} {s kn op : Nat} {m x y i i' j : Int} (H : KN σ a w A) (P : ADDp σ σ' s kn op m x y) (i0 : 0 ≤ i) (e' : i' = i + 1) (i1 : i' < 226) (j0 : 0 ≤ j) (j1 : j < 226) (hs : s = a + lcO j) (hs2 : lcB j = 2) (hk : kn = a + lcO i) (hk2 : lcB i = m) (ho : op = a + lcO i') (ho2 : lcB i' = m) (m0 : 0 ≤ m) : KN σ' a (uPd (uPd (uPd w i x) i' y) j (m + 1)) (fun t => ((A t ∨ t = i) ∨ t = i') ∨ t = j) := fun t t0 t1 h => by
  obtain ⟨p1, p2, p3, p4⟩ := P
  unfold uPd
  by_cases e3 : t = j
  · rw [if_pos e3, e3, ← hs, hs2]; exact p3
  · rw [if_neg e3]
    by_cases e2 : t = i'
    · rw [if_pos e2, e2, ← ho, ho2]; exact p2
    · rw [if_neg e2]
      by_cases e1 : t = i
      · rw [if_pos e1, e1, ← hk, hk2]; exact p1
      · rw [if_neg e1]
        have h : A t := by rcases h with ((h | h) | h) | h; exact h; exact absurd h e1; exact absurd h e2; exact absurd h e3
        rw [← H t t0 t1 h]
        refine ci_eq (p4 _ _ ?_ ?_ ?_)
        · intro z; exact e1 (lc_uniq t0 t1 i0 (by omega) (by omega) (by omega))
        · intro z; exact e2 (lc_uniq t0 t1 (by omega) i1 (by omega) (by omega))
        · intro z; exact e3 (lc_uniq t0 t1 j0 j1 (by omega) (by omega))
/-- a door begins -/
def BGNp (σ0 σ : SG) (s l : Nat) (x y : Int) : Prop := ci σ s 1 = x ∧ ci σ s 2 = y ∧ ci σ s 3 = -1 ∧ ci σ l 2 = 0 ∧ ∀ b q : Nat, ¬ (b = s ∧ q = 1) → ¬ (b = s ∧ q = 2) → ¬ (b = s ∧ q = 3) → ¬ (b = l ∧ q = 2) → (σ b)[q]? = (σ0 b)[q]?
theorem BGN_mk {s l : Nat} {x y : Int} {u v c z : Int32} (k1 : (σ1 s)[1]? = some (.int u)) (n1 : ∀ b q, (b ≠ s ∨ q ≠ 1) → (σ1 b)[q]? = (σ0 b)[q]?) (k2 : (σ2 s)[2]? = some (.int v)) (n2 : ∀ b q, (b ≠ s ∨ q ≠ 2) → (σ2 b)[q]? = (σ1 b)[q]?) (k3 : (σ3 s)[3]? = some (.int c)) (n3 : ∀ b q, (b ≠ s ∨ q ≠ 3) → (σ3 b)[q]? = (σ2 b)[q]?) (k4 : (σ4 l)[2]? = some (.int z)) (n4 : ∀ b q, (b ≠ l ∨ q ≠ 2) → (σ4 b)[q]? = (σ3 b)[q]?) (ts : TG s = 28) (tl : TG l = 20) (hx : x = u.toInt) (hy : y = v.toInt) (hc : c.toInt = -1) (hz : z.toInt = 0) : BGNp σ0 σ4 s l x y := by
  have d1 : s ≠ l := fun e => by rw [e, tl] at ts; omega
  refine ⟨?_, ?_, ?_, ?_, fun b q a1 a2 a3 a4 => ?_⟩
  · unfold ci; rw [show (1 : Int).toNat = 1 from rfl, n4 _ _ (Or.inl d1), n3 _ _ (Or.inr (by decide)), n2 _ _ (Or.inr (by decide)), k1, hx]
  · unfold ci; rw [show (2 : Int).toNat = 2 from rfl, n4 _ _ (Or.inl d1), n3 _ _ (Or.inr (by decide)), k2, hy]
  · unfold ci; rw [show (3 : Int).toNat = 3 from rfl, n4 _ _ (Or.inl d1), k3]; exact hc
  · unfold ci; rw [show (2 : Int).toNat = 2 from rfl, k4]; exact hz
  · rw [n4 b q (by omega), n3 b q (by omega), n2 b q (by omega), n1 b q (by omega)]
theorem KN_bgn {w : Int → Int} {A : Int → Prop} {s l : Nat} {d x y : Int} (H : KN σ a w A) (P : BGNp σ σ' s l x y) (d0 : 0 ≤ d) (d4 : d < 4) (hs : s = a + 10 + 4 * d.toNat) (hl : l = a + 11 + 4 * d.toNat) : KN σ' a (uPd (uPd (uPd (uPd w (10 + 4 * d) x) (10 + 4 * d + 1) y) (10 + 4 * d + 2) 0) (10 + 4 * d + 3) (-1)) (fun t => (((A t ∨ t = 10 + 4 * d) ∨ t = 10 + 4 * d + 1) ∨ t = 10 + 4 * d + 2) ∨ t = 10 + 4 * d + 3) := fun t t0 t1 h => by
  obtain ⟨p1, p2, p3, p4, p5⟩ := P
  have L := lc_d d0 d4
  rw [show 11 + 4 * d = 10 + 4 * d + 1 by omega, show 12 + 4 * d = 10 + 4 * d + 2 by omega, show 13 + 4 * d = 10 + 4 * d + 3 by omega] at L
  obtain ⟨o0, o1, o2, o3, b0, b1, b2, b3⟩ := L
  unfold uPd
  by_cases e3 : t = 10 + 4 * d + 3
  · rw [if_pos e3, e3, o3, b3, ← Nat.add_assoc, ← hs]; exact p3
  · rw [if_neg e3]
    by_cases e2 : t = 10 + 4 * d + 2
    · rw [if_pos e2, e2, o2, b2, ← Nat.add_assoc, ← hl]; exact p4
    · rw [if_neg e2]
      by_cases e1 : t = 10 + 4 * d + 1
      · rw [if_pos e1, e1, o1, b1, ← Nat.add_assoc, ← hs]; exact p2
      · rw [if_neg e1]
        by_cases e0 : t = 10 + 4 * d
        · rw [if_pos e0, e0, o0, b0, ← Nat.add_assoc, ← hs]; exact p1
        · rw [if_neg e0]
          have h : A t := by rcases h with (((h | h) | h) | h) | h; exact h; exact absurd h e0; exact absurd h e1; exact absurd h e2; exact absurd h e3
          rw [← H t t0 t1 h]
          refine ci_eq (p5 _ _ ?_ ?_ ?_ ?_)
          · intro z; exact e0 (lc_uniq t0 t1 (by omega) (by omega) (by omega) (by rw [b0]; omega))
          · intro z; exact e1 (lc_uniq t0 t1 (by omega) (by omega) (by omega) (by rw [b1]; omega))
          · intro z; exact e3 (lc_uniq t0 t1 (by omega) (by omega) (by omega) (by rw [b3]; omega))
          · intro z; exact e2 (lc_uniq t0 t1 (by omega) (by omega) (by omega) (by rw [b2]; omega))
theorem CT_ne {b n : Nat} (H : CT By Nb σ S) (h2 : ∀ b' q', (b' ≠ b ∨ q' ≠ n) → (σ' b')[q']? = (σ b')[q']?) (hb : 3 < b) : CT By Nb σ' S := by
  obtain ⟨⟨a1, a2, a3, a4⟩, b1, c, d⟩ := H
  have n1 (j : Int) : ci σ' 1 j = ci σ 1 j := ci_ne h2 (by omega) j
  have n2 (j : Int) : ci σ' 2 j = ci σ 2 j := ci_ne h2 (by omega) j
  have n3 (j : Int) : ci σ' 3 j = ci σ 3 j := ci_ne h2 (by omega) j
  refine ⟨⟨a1, a2, by rw [n1]; exact a3, fun i i0 i1 => by rw [n2]; exact a4 i i0 i1⟩, by rw [n3]; exact b1, by rw [n3]; exact c, fun z => ?_⟩
  obtain ⟨p0, p1, q1, q2, q3, q4⟩ := d z
  exact ⟨p0, p1, by rw [n3]; exact q1, by rw [n3]; exact q2, by rw [n3]; exact q3, fun y => by rw [n3]; exact q4 y⟩
/-! doors and lessons, from the plan on -/
theorem DRc {s q z : Nat} {d : Int} (hX : FXP σ s) (hd : (σ s)[4]? = some (.ref q)) (hz : (σ q)[d.toNat]? = some (.ref z)) (d0 : 0 ≤ d) (d4 : d < 4) : z = s + 10 + 4 * d.toNat := by
  have e := ref_uniq hd hX.1
  subst e
  exact ref_uniq hz (hX.2.2.2.2.2.2.2.2.2 d.toNat (by omega)).1
theorem DLc {s z l : Nat} {d : Int} (hX : FXP σ s) (hz : z = s + 10 + 4 * d.toNat) (hl : (σ z)[0]? = some (.ref l)) (d0 : 0 ≤ d) (d4 : d < 4) : l = s + 11 + 4 * d.toNat := by
  subst hz
  exact ref_uniq hl (hX.2.2.2.2.2.2.2.2.2 d.toNat (by omega)).2.1
/-- whom nobody copies so far -/
def NCw (w : Int → Int) (a y : Int) : Prop := ∀ q : Int, 0 ≤ q → q < y → w (13 + 4 * q) ≠ a
theorem NCw_s {w : Int → Int} {a y y' : Int} (g : NCw w a y) (h : w (13 + 4 * y) ≠ a) (e : y' = y + 1) : NCw w a y' := fun q q0 q1 => by
  by_cases z : q = y
  · rw [z]; exact h
  · exact g q q0 (by omega)
theorem CPw_1 {w : Int → Int} {a y r : Int} (y0 : 0 ≤ y) (yn : y < w 2) (n4 : w 2 ≤ 4) (h : w (13 + 4 * y) = a) (hr : r = 1) : r = cpI w a := by
  unfold cpI
  rcases (show y = 0 ∨ y = 1 ∨ y = 2 ∨ y = 3 by omega) with e | e | e | e <;> subst e <;> simp only [Int.mul_zero, Int.add_zero, Int.mul_one, Int.reduceMul, Int.reduceAdd] at h <;> rw [if_pos (by omega)] <;> exact hr
theorem CPw_n {w : Int → Int} {a y r : Int} (g : NCw w a y) (yn : w 2 ≤ y) (hr : r = 0) : r = cpI w a := by
  unfold cpI
  rw [if_neg]
  · exact hr
  · intro q
    rcases q with q | q | q | q
    · exact g 0 (by omega) (by omega) q.2
    · exact g 1 (by omega) (by omega) q.2
    · exact g 2 (by omega) (by omega) q.2
    · exact g 3 (by omega) (by omega) q.2
end ADP
section ADQ
variable {By : Int → Int} {Nb : Int} {Sp S T : PS} {σ0 σ σ' : SG} {W : List (Nat × Nat)} {a : Nat}
/-- a row of lessons: where its size, its knocks and its deeds lie -/
def LSN (σ : SG) (a b : Nat) (w : Int → Int) (ix jx : Int) : Prop := b = a + lcO jx ∧ lcB jx = 2 ∧ b + 1 = a + lcO ix ∧ lcB ix = w jx ∧ b + 2 = a + lcO (ix + 1) ∧ lcB (ix + 1) = w jx ∧ 0 ≤ ix ∧ ix + 1 < 226 ∧ 0 ≤ jx ∧ jx < 226 ∧ act w jx ∧ (σ b)[0]? = some (.ref (b + 1)) ∧ (σ b)[1]? = some (.ref (b + 2)) ∧ 0 ≤ w jx ∧ w jx ≤ 11
theorem LSN_e {b : Nat} {w : Int → Int} {m : Int} (hX : FXP σ a) (hb : b = a + 2) (hm : w 3 = m) (m0 : 0 ≤ m) (m1 : m ≤ 11) : LSN σ a b w (122 + 2 * m) 3 := by
  have l := lc_e (m := m) (by omega) (by omega)
  subst hb
  exact ⟨by rw [lcO_3], by decide, by rw [l.1], by rw [l.2.2.1, hm], by rw [l.2.1], by rw [l.2.2.2, hm], by omega, by omega, by omega, by omega, Or.inl (by omega), hX.2.2.2.2.2.2.2.1, hX.2.2.2.2.2.2.2.2.1, by omega, by omega⟩
theorem LSN_d {b : Nat} {w : Int → Int} {m d : Int} (hX : FXP σ a) (d0 : 0 ≤ d) (d4 : d < 4) (dn : d < w 2) (hb : b = a + 11 + 4 * d.toNat) (hm : w (12 + 4 * d) = m) (m0 : 0 ≤ m) (m1 : m ≤ 11) : LSN σ a b w (26 + 24 * d + 2 * m) (12 + 4 * d) := by
  have l := lc_l (d := d) (m := m) d0 d4 (by omega) (by omega)
  have k := lc_d d0 d4
  have x := hX.2.2.2.2.2.2.2.2.2 d.toNat (by omega)
  subst hb
  exact ⟨by rw [k.2.2.1]; omega, k.2.2.2.2.2.2.1, by rw [l.1]; omega, by rw [l.2.2.1, hm], by rw [l.2.1]; omega, by rw [l.2.2.2, hm], by omega, by omega, by omega, by omega, Or.inr (Or.inl ⟨by omega, by omega, by omega⟩), by have e : a + 12 + 4 * d.toNat = a + 11 + 4 * d.toNat + 1 := (by omega); rw [← e]; exact x.2.2.1, by have e : a + 13 + 4 * d.toNat = a + 11 + 4 * d.toNat + 2 := (by omega); rw [← e]; exact x.2.2.2, by omega, by omega⟩
theorem uPd3_cg {w : Int → Int} {i i' j x y m x' y' m' : Int} (hx : x = x') (hy : y = y') (hm : m = m') : uPd (uPd (uPd w i x) i' y) j (m + 1) = uPd (uPd (uPd w i x') i' y') j (m' + 1) := by subst hx hy hm; rfl
theorem uPd4_cg {w : Int → Int} {i i' i2 i3 x y x' y' : Int} (hx : x = x') (hy : y = y') : uPd (uPd (uPd (uPd w i x) i' y) i2 0) i3 (-1) = uPd (uPd (uPd (uPd w i x') i' y') i2 0) i3 (-1) := by subst hx hy; rfl
theorem dDc {c : Int} (h : S.1 = 0 → (c = 1 ∧ (iW By Nb 8 S = 1 ∨ iW By Nb 12 S = 1)) ∨ (c = 0 ∧ iW By Nb 8 S = 0 ∧ iW By Nb 12 S = 0)) : pss By Nb c S = dD By Nb S := by
  unfold dD
  refine pss_cg2 (fun z => ?_)
  unfold orI
  rcases h z with ⟨h1, h2⟩ | ⟨h1, h2, h3⟩
  · rcases h2 with h2 | h2 <;> simp [h1, h2]
  · simp [h1, h2, h3]
theorem tP_cg2 {m m' : Int} (h : S.1 = 0 → m = m') : tP By Nb m S = tP By Nb m' S := by
  by_cases z : S.1 = 0
  · rw [h z]
  · rw [tP_bad z, tP_bad z]
theorem tP_w {m : Int} : (tP By Nb m S).2.2.2 = S.2.2.2 := by unfold tP; split; exact err_w; exact tN_w
theorem tP_g {m : Int} (h : (tP By Nb m S).1 = 0) : S.1 = 0 := by
  by_cases z : S.1 = 0
  · exact z
  · rw [tP_bad z] at h; exact absurd h z
theorem tW_w : (tW By Nb S).2.2.2 = S.2.2.2 := by unfold tW; exact pss_w
theorem tW_g (h : (tW By Nb S).1 = 0) : S.1 = 0 := by unfold tW at h; exact (pss_g h).1
theorem fSaid_w {i j : Int} (h : (fSaid By Nb i j S).1 = 0) : ∃ x o : Int, (fSaid By Nb i j S).2.2.2 = uPd (uPd (uPd S.2.2.2 i x) (i + 1) o) j (S.2.2.2 j + 1) := by
  unfold fSaid at h ⊢
  dsimp only at h ⊢
  by_cases z : (dD By Nb (tN By Nb 0 (pI (S.2.2.2 0) - 1) S)).1 = 0
  · rw [if_pos z]
    refine ⟨tV By Nb S.2.2.1, iW By Nb 8 (tN By Nb 0 (pI (S.2.2.2 0) - 1) S), ?_⟩
    have e : (dD By Nb (tN By Nb 0 (pI (S.2.2.2 0) - 1) S)).2.2.2 = S.2.2.2 := by unfold dD; rw [pss_w, tN_w]
    show uPd (uPd (uPd (dD By Nb (tN By Nb 0 (pI (S.2.2.2 0) - 1) S)).2.2.2 _ _) _ _) _ _ = _
    rw [e]
  · rw [if_neg z] at h; exact absurd h z
theorem KN_exm {i m : Int} (h : (fSaid By Nb i 3 S).1 = 0) (H : KN σ a (fSaid By Nb i 3 S).2.2.2 (fun t => ((act S.2.2.2 t ∨ t = i) ∨ t = i + 1) ∨ t = 3)) (hi : i = 122 + 2 * m) (hm : S.2.2.2 3 = m) (m0 : 0 ≤ m) : KN σ a (fSaid By Nb i 3 S).2.2.2 (act (fSaid By Nb i 3 S).2.2.2) := by
  obtain ⟨x, o, e⟩ := fSaid_w h
  refine KN_sub H (fun t t0 t1 y => ?_)
  rw [e] at y
  have e3 : uPd (uPd S.2.2.2 i x) (i + 1) o 3 = m := by unfold uPd; rw [if_neg (by omega), if_neg (by omega)]; exact hm
  rcases act_n3 e3 (by rw [hm]) y with q | q | q
  · exact Or.inl (Or.inl (Or.inl (act_in (by omega) (by omega) (act_in (by omega) (by omega) q))))
  · exact Or.inl (Or.inl (Or.inr (by omega)))
  · exact Or.inl (Or.inr (by omega))
theorem KN_les {i j m d : Int} (h : (fSaid By Nb i j S).1 = 0) (H : KN σ a (fSaid By Nb i j S).2.2.2 (fun t => ((act S.2.2.2 t ∨ t = i) ∨ t = i + 1) ∨ t = j)) (d0 : 0 ≤ d) (d4 : d < 4) (hj : j = 12 + 4 * d) (hi : i = 26 + 24 * d + 2 * m) (hm : S.2.2.2 j = m) (m0 : 0 ≤ m) : KN σ a (fSaid By Nb i j S).2.2.2 (act (fSaid By Nb i j S).2.2.2) := by
  obtain ⟨x, o, e⟩ := fSaid_w h
  refine KN_sub H (fun t t0 t1 y => ?_)
  rw [e] at y
  subst hj
  have e3 : uPd (uPd S.2.2.2 i x) (i + 1) o (12 + 4 * d) = m := by unfold uPd; rw [if_neg (by omega), if_neg (by omega)]; exact hm
  rcases act_ls d0 d4 e3 (by rw [hm]) y with q | q | q
  · exact Or.inl (Or.inl (Or.inl (act_in (by omega) (by omega) (act_in (by omega) (by omega) q))))
  · exact Or.inl (Or.inl (Or.inr (by omega)))
  · exact Or.inl (Or.inr (by omega))
theorem tw1_p {d : Int} (h : (nH By Nb 0 (S.2.2.2 2 - 1) S).1 = 0) (hd : d = tV By Nb S.2.2.1) (c : S.2.2.2 (13 + 4 * d) ≠ -1 ∨ cpI S.2.2.2 d = 1) : tw1 By Nb S = err By Nb 2 (nH By Nb 0 (S.2.2.2 2 - 1) S) := by
  subst hd; unfold tw1; rw [if_pos ⟨h, c⟩, nH_id h]
theorem tw1_n {d : Int} (h : (nH By Nb 0 (S.2.2.2 2 - 1) S).1 = 0 → d = tV By Nb S.2.2.1 ∧ S.2.2.2 (13 + 4 * d) = -1 ∧ cpI S.2.2.2 d ≠ 1) : tw1 By Nb S = nH By Nb 0 (S.2.2.2 2 - 1) S := by
  unfold tw1
  rw [if_neg]
  intro q
  obtain ⟨rfl, h2, h3⟩ := h q.1
  rcases q.2 with q | q
  · exact q h2
  · exact h3 q
theorem tw2_p {c d : Int} (h : (nH By Nb 0 (S.2.2.2 2 - 1) S).1 = 0) (hd : d = tV By Nb S.2.2.1) (q : d = c ∨ S.2.2.2 (13 + 4 * d) ≠ -1) : tw2 By Nb c S = err By Nb 2 (nH By Nb 0 (S.2.2.2 2 - 1) S) := by
  subst hd; unfold tw2; rw [if_pos ⟨h, q⟩, nH_id h]
theorem tw2_n {c d : Int} (h : (nH By Nb 0 (S.2.2.2 2 - 1) S).1 = 0 → d = tV By Nb S.2.2.1 ∧ d ≠ c ∧ S.2.2.2 (13 + 4 * d) = -1) : tw2 By Nb c S = nH By Nb 0 (S.2.2.2 2 - 1) S := by
  unfold tw2
  rw [if_neg]
  intro q
  obtain ⟨rfl, h2, h3⟩ := h q.1
  rcases q.2 with q | q
  · exact h2 q
  · exact q h3
end ADQ
section ADR
theorem ADr {P : Prop} {t k : Int} (h : P ∨ t = k ∨ t = k + 1 ∨ t = k + 2 ∨ t = k + 3) : ((((P ∨ t = k) ∨ t = k + 1) ∨ t = k + 2) ∨ t = k + 3) ∨ t = 2 := by
  rcases h with q | q | q | q | q
  · exact Or.inl (Or.inl (Or.inl (Or.inl (Or.inl q))))
  · exact Or.inl (Or.inl (Or.inl (Or.inl (Or.inr q))))
  · exact Or.inl (Or.inl (Or.inl (Or.inr q)))
  · exact Or.inl (Or.inl (Or.inr q))
  · exact Or.inl (Or.inr q)
theorem ACs {w : Int → Int} {v t : Int} (w0 : 0 ≤ w 5) (h : act (uPd (uPd w (154 + 2 * w 5) v) 5 (w 5 + 1)) t) : (act w t ∨ t = 154 + 2 * w 5) ∨ t = 5 := by
  have e : uPd w (154 + 2 * w 5) v 5 = w 5 := if_neg (by omega)
  rcases act_n5 e rfl h with q | q
  · exact Or.inl (Or.inl (act_in (by omega) (by omega) q))
  · exact Or.inl (Or.inr q)
theorem AHs {w : Int → Int} {v x t : Int} (w0 : 0 ≤ w 4) (h : act (uPd (uPd (uPd w (146 + 2 * w 4) v) (146 + 2 * w 4 + 1) x) 4 (w 4 + 1)) t) : ((act w t ∨ t = 146 + 2 * w 4) ∨ t = 146 + 2 * w 4 + 1) ∨ t = 4 := by
  have e : uPd (uPd w (146 + 2 * w 4) v) (146 + 2 * w 4 + 1) x 4 = w 4 := by unfold uPd; rw [if_neg (by omega), if_neg (by omega)]
  rcases act_n4 e rfl h with q | q | q
  · exact Or.inl (Or.inl (Or.inl (act_in (by omega) (by omega) (act_in (by omega) (by omega) q))))
  · exact Or.inl (Or.inl (Or.inr q))
  · exact Or.inl (Or.inr q)
end ADR
section ADS
variable {By : Int → Int} {Nb : Int} {Sp S T : PS} {σ0 σ σ' : SG} {W : List (Nat × Nat)} {a s : Nat}
def FZi (σ : SG) (a : Nat) (y : Int) : Prop := ∀ k : Int, 0 ≤ k → k < y → ci σ a k = 0
theorem FZi_0 {y : Int} (h : y = 0) : FZi σ a y := fun k k0 k1 => absurd k0 (by omega)
theorem FZi_s {y y' J : Int} {z : Int32} (g : FZi σ a y) (h1 : (σ' a)[J.toNat]? = some (.int z)) (h2 : ∀ b q, (b ≠ a ∨ q ≠ J.toNat) → (σ' b)[q]? = (σ b)[q]?) (hz : z.toInt = 0) (J0 : 0 ≤ J ∧ J = y) (e : y' = y + 1) : FZi σ' a y' := fun k k0 k1 => by
  rw [ci_st h1 h2 J0.1 k k0]
  by_cases q : k = J
  · rw [if_pos q]; exact hz
  · rw [if_neg q]; exact g k k0 (by omega)
theorem FZi_x {y : Int} (g : FZi σ a y) (h : 6 ≤ y) : ∀ k : Int, 0 ≤ k → k < 6 → ci σ a k = 0 := fun k k0 k1 => g k k0 (by omega)
theorem lc_z : ∀ i : Fin 226, i.val < 10 ∨ (154 ≤ i.val ∧ i.val < 166 ∧ i.val % 2 = 1) → (lcO (i.val : Int), lcB (i.val : Int)) ∈ [(0, 0), (0, 1), (0, 2), (0, 3), (2, 2), (0, 6), (0, 7), (0, 8), (0, 11), (0, 14), (8, 0), (8, 1), (8, 2), (8, 3), (8, 4), (8, 5)] := by decide +kernel
theorem KN_clr (h0 : ci σ s 0 = 0) (h1 : ci σ s 1 = 0) (h2 : ci σ s 2 = 0) (h3 : ci σ s 3 = 0) (h4 : ci σ (s + 2) 2 = 0) (h6 : ci σ s 6 = 0) (h7 : ci σ s 7 = 0) (h8 : ci σ s 8 = 0) (h11 : ci σ s 11 = 0) (h14 : ci σ s 14 = 0) (ha : ∀ k : Int, 0 ≤ k → k < 6 → ci σ (s + 8) k = 0) : KN σ s (fun _ => 0) (act (fun _ => 0)) := fun i i0 i1 x => by
  have x2 : i < 10 ∨ (154 ≤ i ∧ i < 166 ∧ i % 2 = 1) := by unfold act at x; (try dsimp only at x); omega
  have m := lc_z ⟨i.toNat, by omega⟩ (by simp only; omega)
  simp only at m
  rw [show ((i.toNat : Nat) : Int) = i by omega] at m
  show ci σ (s + lcO i) (lcB i) = 0
  simp only [List.mem_cons, Prod.mk.injEq, List.not_mem_nil, or_false] at m
  rcases m with ⟨a, b⟩ | ⟨a, b⟩ | ⟨a, b⟩ | ⟨a, b⟩ | ⟨a, b⟩ | ⟨a, b⟩ | ⟨a, b⟩ | ⟨a, b⟩ | ⟨a, b⟩ | ⟨a, b⟩ | ⟨a, b⟩ | ⟨a, b⟩ | ⟨a, b⟩ | ⟨a, b⟩ | ⟨a, b⟩ | ⟨a, b⟩ <;> rw [a, b] <;> first | assumption | exact ha _ (by omega) (by omega)
end ADS
section ADT
variable {By : Int → Int} {Nb : Int} {Sp S S3 T : PS} {σ0 σ σ' : SG} {W : List (Nat × Nat)} {a s : Nat}
/-- what a whole reading leaves -/
def RDC (By : Int → Int) (Nb : Int) (a : Nat) (σ : SG) : Prop := CT By Nb σ (fRead By Nb 1601 S00) ∧ ((fRead By Nb 1601 S00).1 = 0 → KN σ a (fRead By Nb 1601 S00).2.2.2 (act (fRead By Nb 1601 S00).2.2.2))
def RLI (By : Int → Int) (Nb : Int) (a : Nat) (σ : SG) (y : Int) : Prop := ∃ (S : PS) (f : Nat), CT By Nb σ S ∧ (S.1 = 0 → KN σ a S.2.2.2 (act S.2.2.2) ∧ S.2.2.2 7 = y) ∧ fRead By Nb f S = fRead By Nb 1601 S00 ∧ (f : Int) + y = 1601
theorem RLI_0 {p y : Int} {k q : Int32} (hK : TPc By Nb σ ∧ TKc By Nb p σ) (hp : p = 0) (h5 : (σ 3)[5]? = some (.int k)) (hk : k.toInt = 0) (h6 : (σ 3)[6]? = some (.int q)) (hq : q.toInt = -1) (hN : KN σ a (fun _ => 0) (act (fun _ => 0))) (hy : y = 0) : RLI By Nb a σ y := by
  subst hp hy
  refine ⟨S00, 1601, ⟨hK.1, ?_, ?_, fun _ => hK.2⟩, fun _ => ⟨hN, rfl⟩, rfl, rfl⟩
  · rw [ci_at (i := 5) (j := 5) h5 rfl, hk]; rfl
  · rw [ci_at (i := 6) (j := 6) h6 rfl, hq]; rfl
theorem RLI_s {f : Nat} {y y' : Int} (e1 : fRead By Nb f S = fRead By Nb 1601 S00) (e2 : (f : Int) + y = 1601) (h : y ≤ 1600) (z : S.1 = 0) (tk : tK By Nb S.2.2.1 ≠ 0) (eL : fLine By Nb S = S3) (c : CT By Nb σ S3) (k : Imp (S3.1 = 0) (KN σ a S3.2.2.2 (act S3.2.2.2))) {w : Int} (l : S3.2.2.2 7 = w) (e : y' = y + 1 ∧ w = y + 1) : RLI By Nb a σ y' := by
  obtain ⟨g, rfl⟩ : ∃ g, f = g + 1 := ⟨f - 1, by omega⟩
  refine ⟨S3, g, c, fun q => ⟨Imp_m k q, by omega⟩, ?_, by omega⟩
  rw [← e1]
  conv => rhs; unfold fRead
  rw [if_pos ⟨z, tk⟩, eL]
theorem RLI_x {f : Nat} {y : Int} (c : CT By Nb σ S) (k : S.1 = 0 → KN σ a S.2.2.2 (act S.2.2.2) ∧ S.2.2.2 7 = y) (e1 : fRead By Nb f S = fRead By Nb 1601 S00) (h : S.1 = 0 → (f : Int) = 0 ∨ tK By Nb S.2.2.1 = 0) : RDC By Nb a σ := by
  have e : fRead By Nb f S = S := by
    by_cases z : S.1 = 0
    · rcases h z with q | q
      · have : f = 0 := by omega
        subst this; rfl
      · exact fRead_x (Or.inr q)
    · exact fRead_x (Or.inl z)
  unfold RDC
  rw [← e1, e]
  exact ⟨c, fun z => (k z).1⟩
def SCC (By : Int → Int) (Nb : Int) (σ : SG) (r : Int) : Prop := ci σ 3 5 = (fRead By Nb 1601 S00).1 ∧ ci σ 3 6 = (fRead By Nb 1601 S00).2.1 ∧ ((fRead By Nb 1601 S00).1 ≠ 0 → r = -4) ∧ ((fRead By Nb 1601 S00).1 = 0 → r = (fRead By Nb 1601 S00).2.2.2 7)
theorem fNx_2  (h2 : iW By Nb 2 S = 1) : fNext By Nb S = fDoor By Nb S := by
  unfold fNext
  rw [if_pos h2]
theorem fNx_6 (h2 : iW By Nb 2 S = 0) (h6 : iW By Nb 6 S = 1) : fNext By Nb S = fLesson By Nb S := by
  unfold fNext
  rw [if_neg (by omega), if_pos h6]
theorem fNx_3 (h2 : iW By Nb 2 S = 0) (h6 : iW By Nb 6 S = 0) (h3 : iW By Nb 3 S = 1) : fNext By Nb S = fExam By Nb S := by
  unfold fNext
  rw [if_neg (by omega), if_neg (by omega), if_pos h3]
theorem fNx_17 (h2 : iW By Nb 2 S = 0) (h6 : iW By Nb 6 S = 0) (h3 : iW By Nb 3 S = 0) (h17 : iW By Nb 17 S = 1) : fNext By Nb S = fTwin By Nb S := by
  unfold fNext
  rw [if_neg (by omega), if_neg (by omega), if_neg (by omega), if_pos h17]
theorem fNx_9 (h2 : iW By Nb 2 S = 0) (h6 : iW By Nb 6 S = 0) (h3 : iW By Nb 3 S = 0) (h17 : iW By Nb 17 S = 0) (h9 : iW By Nb 9 S = 1) : fNext By Nb S = fOwner By Nb S := by
  unfold fNext
  rw [if_neg (by omega), if_neg (by omega), if_neg (by omega), if_neg (by omega), if_pos h9]
theorem fNx_5 (h2 : iW By Nb 2 S = 0) (h6 : iW By Nb 6 S = 0) (h3 : iW By Nb 3 S = 0) (h17 : iW By Nb 17 S = 0) (h9 : iW By Nb 9 S = 0) (h5 : iW By Nb 5 S = 1) : fNext By Nb S = fHouse By Nb S := by
  unfold fNext
  rw [if_neg (by omega), if_neg (by omega), if_neg (by omega), if_neg (by omega), if_neg (by omega), if_pos h5]
theorem fNx_1 (h2 : iW By Nb 2 S = 0) (h6 : iW By Nb 6 S = 0) (h3 : iW By Nb 3 S = 0) (h17 : iW By Nb 17 S = 0) (h9 : iW By Nb 9 S = 0) (h5 : iW By Nb 5 S = 0) (h1 : iW By Nb 1 S = 1) : fNext By Nb S = fCourse By Nb S := by
  unfold fNext
  rw [if_neg (by omega), if_neg (by omega), if_neg (by omega), if_neg (by omega), if_neg (by omega), if_neg (by omega), if_pos h1]
theorem fNx_0 (h2 : iW By Nb 2 S = 0) (h6 : iW By Nb 6 S = 0) (h3 : iW By Nb 3 S = 0) (h17 : iW By Nb 17 S = 0) (h9 : iW By Nb 9 S = 0) (h5 : iW By Nb 5 S = 0) (h1 : iW By Nb 1 S = 0) (h0 : iW By Nb 0 S = 1) : fNext By Nb S = fAhead By Nb S := by
  unfold fNext
  rw [if_neg (by omega), if_neg (by omega), if_neg (by omega), if_neg (by omega), if_neg (by omega), if_neg (by omega), if_neg (by omega), if_pos h0]
theorem fNx_n (h2 : iW By Nb 2 S = 0) (h6 : iW By Nb 6 S = 0) (h3 : iW By Nb 3 S = 0) (h17 : iW By Nb 17 S = 0) (h9 : iW By Nb 9 S = 0) (h5 : iW By Nb 5 S = 0) (h1 : iW By Nb 1 S = 0) (h0 : iW By Nb 0 S = 0) : fNext By Nb S = err By Nb 1 S := by
  unfold fNext
  rw [if_neg (by omega), if_neg (by omega), if_neg (by omega), if_neg (by omega), if_neg (by omega), if_neg (by omega), if_neg (by omega), if_neg (by omega)]
def fL1 (By : Int → Int) (Nb : Int) (S : PS) : PS := if S.2.2.2 7 = 0 then fFirst By Nb S else fNext By Nb S
theorem fL_line {S2 S3 : PS} (e2 : S2 = pss By Nb (if tK By Nb (fL1 By Nb S).2.2.1 = 3 then 1 else 0) (fL1 By Nb S)) (e3 : S3 = wst S2 7 (S.2.2.2 7 + 1)) : fLine By Nb S = S3 := by subst e3 e2; rfl
theorem fL1_0 (h : S.2.2.2 7 = 0) : fL1 By Nb S = fFirst By Nb S := by unfold fL1; rw [if_pos h]
theorem fL1_1 (h : S.2.2.2 7 ≠ 0) : fL1 By Nb S = fNext By Nb S := by unfold fL1; rw [if_neg h]
end ADT
