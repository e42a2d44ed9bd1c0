section CPX
variable {fr lo : Nat} {scr : AS} {F : MR} {P : PO} {pc pc' len tgt : Nat} {i : Instr} {lv lv' : ALv} {st st' r : List Value} {σ σ0 : SG} {W : List (Nat × Nat)}
theorem cpyl_in {l0 l1 : List Value} {sp dp n q : Nat} (hq : q < n) (h0 : sp + n ≤ l0.length) (h1 : dp + n ≤ l1.length) : (cpyl l0 l1 sp dp n)[dp + q]? = l0[sp + q]? := by
  unfold cpyl
  rw [List.getElem?_map, List.getElem?_range (by omega)]
  show some (if dp ≤ dp + q ∧ dp + q < dp + n then l0.getD (sp + (dp + q - dp)) Value.null else l1.getD (dp + q) Value.null) = _
  rw [if_pos (by omega), show sp + (dp + q - dp) = sp + q by omega, List.getD_eq_getElem?_getD, List.getElem?_eq_getElem (by omega)]
  rfl
theorem En_copyX {a0 a1 g0 g1 : Nat} {n dp sp : Int32} {N D S : Int} {kd id : Nat} {pos : Nat × Nat} (hN : n.toInt = N) (hD : dp.toInt = D) (hS : sp.toInt = S) (hf : fc F pc = some (i, len, tgt)) (hk : ikind i = 3) (he : fnd (mcl F) (callIx i) = some (kd, id, pos)) (hb : (decide (1 ≤ fr) && decide (cats r + 40 ≤ lo)) = true) (h0 : TG a0 = g0) (h1 : TG a1 = g1) (hkd : (callKd i kd && (kd == 8)) = true) (hg : (KD g0 == KD g1 && CL g0 == CL g1 && (KD g0 == 1 && CL g0 == 0 || KD g0 == 2 && CL g0 == 1) && decide (g0 < 900) && decide (g1 < 900)) = true)
    (ht : (decide ((TY g0).2.2.2.length = 1) && decide ((TY g1).2.2.2.length = 1) && decide (FT g0 0 = FT g1 0)) = true) {n0 n1 : Nat} (hl0 : LN g0 = n0) (hl1 : LN g1 = n1) (b1 : 0 ≤ N) (b2 : 0 ≤ D) (b3 : 0 ≤ S) (b4 : S + N ≤ (n0 : Int)) (b5 : D + N ≤ (n1 : Int)) (hσ : WT σ) (hF : Fr W σ0 σ) (hW : W.contains (g1, 0) = true)
    (k : ∀ σ' : SG, WT σ' → Fr W σ0 σ' → (∀ b q : Nat, b ≠ a1 → (σ' b)[q]? = (σ b)[q]?) → (∀ q : Nat, q < N.toNat → (σ' a1)[D.toNat + q]? = (σ a0)[S.toNat + q]?) → En fr lo scr F P (pc + 3) lv r σ') : En fr lo scr F P pc lv (.int n :: .int dp :: .ref a1 :: .int sp :: .ref a0 :: r) σ := by
  simp only [Bool.and_eq_true, Bool.or_eq_true, beq_iff_eq, decide_eq_true_eq] at hg ht hkd
  obtain ⟨⟨⟨⟨g1', g2'⟩, g3⟩, g4⟩, g5⟩ := hg
  obtain ⟨⟨t1, t2⟩, t3⟩ := ht
  have k0 : KD g0 ≠ 0 := by rcases g3 with z | z <;> omega
  have hff : ∀ i j, FT g0 i = FT g1 j := fun i j => by rw [FT_one k0 t1, FT_one (by omega) t2, t3]
  have hw := WT_cpy (sp := S.toNat) (dp := D.toNat) (n := N.toNat) hσ h0 h1 g4 g5 hff (by omega)
  have hne : ∀ b q : Nat, b ≠ a1 → (pt σ a1 (cpyl (σ a0) (σ a1) S.toNat D.toNat N.toNat) b)[q]? = (σ b)[q]? := fun b q hb => by unfold pt; rw [if_neg hb]
  have hsl : ∀ q, SL g1 q = 0 := fun q => by unfold SL; rw [if_neg (by omega)]
  have hfr : Fr W σ0 (pt σ a1 (cpyl (σ a0) (σ a1) S.toNat D.toNat N.toNat)) := by
    intro b q hb
    by_cases e : b = a1
    · subst e
      rw [h1, hsl, hW] at hb
      cases hb
    · rw [hne b q e]; exact hF b q hb
  have l0 := WT_len hσ h0 g4
  have l1 := WT_len hσ h1 g5
  have hin : ∀ q : Nat, q < N.toNat → (pt σ a1 (cpyl (σ a0) (σ a1) S.toNat D.toNat N.toNat) a1)[D.toNat + q]? = (σ a0)[S.toNat + q]? := fun q hq => by
    unfold pt
    rw [if_pos rfl]
    exact cpyl_in hq (by omega) (by omega)
  obtain ⟨w, σ', gg, hp⟩ := k _ hw hfr hne hin
  have hc0 := HP_get (σ := σ) (shp h0 g4)
  have hc1 := HP_get (σ := σ) (shp h1 g5)
  refine ⟨w, σ', Go_copy (idx := (0, 0)) (pos := (0, 0)) hf hk he hkd.1 hkd.2 (st2 := r) (h' := HP (pt σ a1 (cpyl (σ a0) (σ a1) S.toNat D.toNat N.toNat))) ?_ hb gg, hp⟩
  unfold acopy
  refine oB_mk hc0 (oB_mk hc1 (oC_mk ?_ ?_))
  · dsimp only
    simp only [Bool.and_eq_true, Bool.or_eq_true, beq_iff_eq, decide_eq_true_eq]
    rw [toNat32 hN, toNat32 hD, toNat32 hS]
    exact ⟨⟨⟨⟨⟨⟨⟨nonneg32 hS b3, nonneg32 hD b2⟩, nonneg32 hN b1⟩, g1'⟩, g2'⟩, g3⟩, by omega⟩, by omega⟩
  · dsimp only
    rw [toNat32 hN, toNat32 hD, toNat32 hS, HP_set (shp h1 g5)]
end CPX
section CPD
variable {σ0 σ σ' σ1 σ2 σ3 σ4 σ5 σ6 : SG} {W W' : List (Nat × Nat)} {s a : Nat}
/-- a row is copied whole -/
def ROWc (σ σ' : SG) (d t n : Nat) : Prop := (∀ k : Int, 0 ≤ k → k < (n : Int) → ci σ' d k = ci σ t k) ∧ ∀ b q : Nat, b ≠ d → (σ' b)[q]? = (σ b)[q]?
theorem ROW_mk {d t n : Nat} {N D S : Int} (h : ∀ b q : Nat, b ≠ d → (σ' b)[q]? = (σ b)[q]?) (h2 : ∀ q : Nat, q < N.toNat → (σ' d)[D.toNat + q]? = (σ t)[S.toNat + q]?) (hN : N = n) (hD : D = 0) (hS : S = 0) : ROWc σ σ' d t n := by
  subst hN hD hS
  refine ⟨fun k k0 k1 => ?_, h⟩
  have := h2 k.toNat (by omega)
  rw [show (0 : Int).toNat = 0 from rfl, Nat.zero_add] at this
  unfold ci
  rw [this]
/-- lessons are copied whole -/
def LTF (σ0 σ : SG) (s kn op t tk to : Nat) : Prop := ci σ s 2 = ci σ0 t 2 ∧ (∀ k : Int, 0 ≤ k → k < 13 → ci σ kn k = ci σ0 tk k) ∧ (∀ k : Int, 0 ≤ k → k < 13 → ci σ op k = ci σ0 to k) ∧ ∀ b q : Nat, b ≠ kn → b ≠ op → ¬ (b = s ∧ q = 2) → (σ b)[q]? = (σ0 b)[q]?
theorem LTF_mk {s kn op t tk to : Nat} {v : Int32} (h0 : (σ0 t)[2]? = some (.int v)) (k1 : (σ1 s)[2]? = some (.int v)) (n1 : ∀ b q, (b ≠ s ∨ q ≠ 2) → (σ1 b)[q]? = (σ0 b)[q]?) (R1 : ROWc σ1 σ2 kn tk 13) (R2 : ROWc σ2 σ3 op to 13) (d1 : kn ≠ op) (d2 : kn ≠ s) (d3 : op ≠ s) (d4 : tk ≠ s) (d5 : to ≠ s) (d6 : to ≠ kn) : LTF σ0 σ3 s kn op t tk to := by
  refine ⟨?_, fun k k0 k1 => ?_, fun k k0 k1 => ?_, fun b q h1 h2 h3 => ?_⟩
  · unfold ci
    rw [show (2 : Int).toNat = 2 from rfl, R2.2 s 2 (Ne.symm d3), R1.2 s 2 (Ne.symm d2), k1, h0]
  · rw [ci_eq (R2.2 kn _ d1), R1.1 k k0 k1, ci_ne n1 d4 k]
  · rw [R2.1 k k0 k1, ci_eq (R1.2 to _ d6), ci_ne n1 d5 k]
  · rw [R2.2 b q h2, R1.2 b q h1, n1 b q (by omega)]
/-- a door is copied whole -/
def DTF (σ0 σ : SG) (s l kn op t tl tk to : Nat) : Prop := (∀ j : Int, 1 ≤ j → j ≤ 3 → ci σ s j = ci σ0 t j) ∧ ci σ l 2 = ci σ0 tl 2 ∧ (∀ k : Int, 0 ≤ k → k < 13 → ci σ kn k = ci σ0 tk k) ∧ (∀ k : Int, 0 ≤ k → k < 13 → ci σ op k = ci σ0 to k) ∧ ∀ b q : Nat, b ≠ s → b ≠ l → b ≠ kn → b ≠ op → (σ b)[q]? = (σ0 b)[q]?
theorem DTF_mk {s l kn op t tl tk to : Nat} {x y : Int} {v : Int32} (B : BGNp σ0 σ1 s l x y) (hx : ci σ0 t 1 = x) (hy : ci σ0 t 2 = y) (h3 : (σ0 t)[3]? = some (.int v)) (k1 : (σ2 s)[3]? = some (.int v)) (n1 : ∀ b q, (b ≠ s ∨ q ≠ 3) → (σ2 b)[q]? = (σ1 b)[q]?) (L : LTF σ2 σ3 l kn op tl tk to) (hs : l = s + 1 ∧ kn = s + 2 ∧ op = s + 3) (ht : tl = t + 1 ∧ tk = t + 2 ∧ to = t + 3) (d : s + 4 ≤ t ∨ t + 4 ≤ s) : DTF σ0 σ3 s l kn op t tl tk to := by
  obtain ⟨e1, e2, e3⟩ := hs
  obtain ⟨f1, f2, f3⟩ := ht
  obtain ⟨b1, b2, b3, b4, b5⟩ := B
  obtain ⟨l1, l2, l3, l4⟩ := L
  have g (b q : Nat) (h : b ≠ s ∧ b ≠ l) : (σ2 b)[q]? = (σ0 b)[q]? := by rw [n1 b q (Or.inl h.1), b5 b q (by omega) (by omega) (by omega) (by omega)]
  have c (b : Nat) (k : Int) (h : b ≠ s ∧ b ≠ l) : ci σ2 b k = ci σ0 b k := ci_eq (g b _ h)
  have m (q : Nat) : (σ3 s)[q]? = (σ2 s)[q]? := l4 s q (by omega) (by omega) (by omega)
  refine ⟨fun j j0 j1 => ?_, ?_, fun k k0 k1 => ?_, fun k k0 k1 => ?_, fun b q h1 h2 h3 h4 => ?_⟩
  · rw [ci_eq (m j.toNat)]
    rcases (show j = 1 ∨ j = 2 ∨ j = 3 by omega) with z | z | z <;> subst z
    · rw [hx, ← b1]; exact ci_eq (n1 s _ (Or.inr (by decide)))
    · rw [hy, ← b2]; exact ci_eq (n1 s _ (Or.inr (by decide)))
    · unfold ci
      rw [show (3 : Int).toNat = 3 from rfl, k1, h3]
  · rw [l1]; exact c tl 2 (by omega)
  · rw [l2 k k0 k1]; exact c tk k (by omega)
  · rw [l3 k k0 k1]; exact c to k (by omega)
  · rw [l4 b q h3 h4 (by omega)]; exact g b q ⟨h1, h2⟩
/-- so much of a plan is copied -/
def CPD (σ0 σ : SG) (s a : Nat) (D : Int → Prop) : Prop := (∀ i : Int, 0 ≤ i → i < 226 → D i → ci σ (s + lcO i) (lcB i) = ci σ0 (a + lcO i) (lcB i)) ∧ OUT σ0 σ s
theorem CPD_0 : CPD σ σ s a (fun _ => False) := ⟨fun _ _ _ h => absurd h id, OUT_0⟩
def SEP (s a : Nat) : Prop := PLB s ∧ PLB a ∧ s ≠ a
theorem SEP_d (h : SEP s a) : 18 ≤ a ∧ a + 26 ≤ 150 ∧ 18 ≤ s ∧ s + 26 ≤ 150 ∧ (a + 26 ≤ s ∨ s + 26 ≤ a) := by
  unfold SEP PLB at h
  omega
theorem CPD_src {D : Int → Prop} {b q : Nat} (H : CPD σ0 σ s a D) (h : SEP s a) (h1 : a ≤ b) (h2 : b < a + 26) : (σ b)[q]? = (σ0 b)[q]? := by
  have := SEP_d h
  exact H.2 b q (by omega) (by omega) (by omega)
theorem CPD_put {D : Int → Prop} {i0 : Int} {q : Nat} {v : Int32} (H : CPD σ0 σ s a D) (h : SEP s a) (hv : (σ a)[q]? = some (.int v)) (k1 : (σ' s)[q]? = some (.int v)) (n1 : ∀ b q', (b ≠ s ∨ q' ≠ q) → (σ' b)[q']? = (σ b)[q']?) (o : lcO i0 = 0) (hb : lcB i0 = (q : Int)) (a0 : 0 ≤ i0) (a1 : i0 < 226) : CPD σ0 σ' s a (fun i => D i ∨ i = i0) := by
  have d := SEP_d h
  refine ⟨fun i i0' i1 x => ?_, OUT_st H.2 n1 (by omega)⟩
  by_cases e : i = i0
  · subst e
    rw [o, hb, Nat.add_zero, Nat.add_zero]
    unfold ci
    rw [show ((q : Int)).toNat = q by omega, k1, ← CPD_src H h (by omega) (by omega), hv]
  · have x : D i := by rcases x with x | x; exact x; exact absurd x e
    rw [← H.1 i i0' i1 x]
    refine ci_eq (n1 _ _ ?_)
    by_cases z : s + lcO i = s
    · refine Or.inr (fun z2 => e (lc_uniq i0' i1 a0 a1 (by omega) (by omega)))
    · exact Or.inl z
theorem CPD_row {D : Int → Prop} {o n d t : Nat} (H : CPD σ0 σ s a D) (h : SEP s a) (R : ROWc σ σ' d t n) (ed : d = s + o) (et : t = a + o) (o26 : o < 26) (hn : (List.range 226).all (fun i => !(lcO (i : Int) == o) || decide (lcB (i : Int) < (n : Int))) = true) : CPD σ0 σ' s a (fun i => D i ∨ lcO i = o) := by
  subst ed et
  have d := SEP_d h
  refine ⟨fun i i0 i1 x => ?_, OUT_cp H.2 R.2 (by omega)⟩
  have l := lc_0 i0 i1
  by_cases e : lcO i = o
  · have b := List.all_eq_true.mp hn i.toNat (List.mem_range.mpr (by omega))
    rw [show ((i.toNat : Nat) : Int) = i by omega, e] at b
    simp at b
    rw [e, R.1 _ l.2 b]
    exact ci_eq (CPD_src H h (by omega) (by omega))
  · have x : D i := by rcases x with x | x; exact x; exact absurd x e
    rw [← H.1 i i0 i1 x]
    exact ci_eq (R.2 _ _ (by omega))
theorem lc_b13 : ∀ i : Fin 226, (lcO (i.val : Int) = 3 ∨ lcO (i.val : Int) = 4 ∨ 10 ≤ lcO (i.val : Int)) → lcB (i.val : Int) < 13 := by decide +kernel
theorem lc_b2 : ∀ i : Fin 226, (lcO (i.val : Int) = 2 ∨ lcO (i.val : Int) = 11 ∨ lcO (i.val : Int) = 15 ∨ lcO (i.val : Int) = 19 ∨ lcO (i.val : Int) = 23) → lcB (i.val : Int) = 2 := by decide +kernel
theorem lc_b3 : ∀ i : Fin 226, (lcO (i.val : Int) = 10 ∨ lcO (i.val : Int) = 14 ∨ lcO (i.val : Int) = 18 ∨ lcO (i.val : Int) = 22) → 1 ≤ lcB (i.val : Int) ∧ lcB (i.val : Int) ≤ 3 := by decide +kernel
theorem lc_fi {Q : Int → Prop} (h : ∀ i : Fin 226, Q (i.val : Int)) {i : Int} (i0 : 0 ≤ i) (i1 : i < 226) : Q i := by
  have := h ⟨i.toNat, by omega⟩
  simp only at this
  rw [show ((i.toNat : Nat) : Int) = i by omega] at this; exact this
theorem lc_c13 {i : Int} (i0 : 0 ≤ i) (i1 : i < 226) : (lcO i = 3 ∨ lcO i = 4 ∨ 10 ≤ lcO i) → lcB i < 13 := lc_fi (Q := fun i => (lcO i = 3 ∨ lcO i = 4 ∨ 10 ≤ lcO i) → lcB i < 13) lc_b13 i0 i1
theorem lc_c2 {i : Int} (i0 : 0 ≤ i) (i1 : i < 226) : (lcO i = 2 ∨ lcO i = 11 ∨ lcO i = 15 ∨ lcO i = 19 ∨ lcO i = 23) → lcB i = 2 := lc_fi (Q := fun i => (lcO i = 2 ∨ lcO i = 11 ∨ lcO i = 15 ∨ lcO i = 19 ∨ lcO i = 23) → lcB i = 2) lc_b2 i0 i1
theorem lc_c3 {i : Int} (i0 : 0 ≤ i) (i1 : i < 226) : (lcO i = 10 ∨ lcO i = 14 ∨ lcO i = 18 ∨ lcO i = 22) → 1 ≤ lcB i ∧ lcB i ≤ 3 := lc_fi (Q := fun i => (lcO i = 10 ∨ lcO i = 14 ∨ lcO i = 18 ∨ lcO i = 22) → 1 ≤ lcB i ∧ lcB i ≤ 3) lc_b3 i0 i1
theorem CPD_ex {D : Int → Prop} {b b1 b2 t t1 t2 : Nat} (H : CPD σ0 σ s a D) (h : SEP s a) (L : LTF σ σ' b b1 b2 t t1 t2) (e1 : b = s + 2) (e2 : b1 = s + 3) (e3 : b2 = s + 4) (e4 : t = a + 2) (e5 : t1 = a + 3) (e6 : t2 = a + 4) : CPD σ0 σ' s a (fun i => D i ∨ (2 ≤ lcO i ∧ lcO i ≤ 4)) := by
  subst e1 e2 e3 e4 e5 e6
  have d := SEP_d h
  obtain ⟨l1, l2, l3, l4⟩ := L
  refine ⟨fun i i0 i1 x => ?_, fun b q h1 h2 h3 => ?_⟩
  · have l := lc_0 i0 i1
    have b13 := lc_c13 i0 i1
    have b2 := lc_c2 i0 i1
    by_cases e2 : lcO i = 2
    · rw [e2, b2 (Or.inl e2), l1]
      exact ci_eq (CPD_src H h (by omega) (by omega))
    · by_cases e3 : lcO i = 3
      · rw [e3, l2 _ l.2 (b13 (Or.inl e3))]
        exact ci_eq (CPD_src H h (by omega) (by omega))
      · by_cases e4 : lcO i = 4
        · rw [e4, l3 _ l.2 (b13 (Or.inr (Or.inl e4)))]
          exact ci_eq (CPD_src H h (by omega) (by omega))
        · have x : D i := by rcases x with x | x; exact x; exfalso; omega
          rw [← H.1 i i0 i1 x]
          exact ci_eq (l4 _ _ (by omega) (by omega) (by omega))
  · rw [l4 b q (by omega) (by omega) (by omega)]; exact H.2 b q h1 h2 h3
theorem CPD_dr {D : Int → Prop} {d : Nat} (H : CPD σ0 σ s a D) (h : SEP s a) (L : DTF σ σ' (s + 10 + 4 * d) (s + 11 + 4 * d) (s + 12 + 4 * d) (s + 13 + 4 * d) (a + 10 + 4 * d) (a + 11 + 4 * d) (a + 12 + 4 * d) (a + 13 + 4 * d)) (d4 : d < 4) : CPD σ0 σ' s a (fun i => D i ∨ (10 + 4 * d ≤ lcO i ∧ lcO i < 14 + 4 * d)) := by
  have p := SEP_d h
  obtain ⟨l1, l2, l3, l4, l5⟩ := L
  refine ⟨fun i i0 i1 x => ?_, fun b q h1 h2 h3 => ?_⟩
  · have l := lc_0 i0 i1
    have b13 := lc_c13 i0 i1
    have b2 := lc_c2 i0 i1
    have b3 := lc_c3 i0 i1
    by_cases e1 : lcO i = 10 + 4 * d
    · have b := b3 (by omega)
      rw [e1, ← Nat.add_assoc, ← Nat.add_assoc, l1 _ b.1 b.2]
      exact ci_eq (CPD_src H h (by omega) (by omega))
    · by_cases e2 : lcO i = 11 + 4 * d
      · rw [e2, ← Nat.add_assoc, ← Nat.add_assoc, b2 (by omega), l2]
        exact ci_eq (CPD_src H h (by omega) (by omega))
      · by_cases e3 : lcO i = 12 + 4 * d
        · rw [e3, ← Nat.add_assoc, ← Nat.add_assoc, l3 _ l.2 (b13 (by omega))]
          exact ci_eq (CPD_src H h (by omega) (by omega))
        · by_cases e4 : lcO i = 13 + 4 * d
          · rw [e4, ← Nat.add_assoc, ← Nat.add_assoc, l4 _ l.2 (b13 (by omega))]
            exact ci_eq (CPD_src H h (by omega) (by omega))
          · have x : D i := by rcases x with x | x; exact x; exfalso; omega
            rw [← H.1 i i0 i1 x]
            exact ci_eq (l5 _ _ (by omega) (by omega) (by omega) (by omega))
  · rw [l5 b q (by omega) (by omega) (by omega) (by omega)]; exact H.2 b q h1 h2 h3
theorem CPD_sub {D D' : Int → Prop} (H : CPD σ0 σ s a D) (h : ∀ i : Int, 0 ≤ i → i < 226 → D' i → D i) : CPD σ0 σ s a D' := ⟨fun i i0 i1 x => H.1 i i0 i1 (h i i0 i1 x), H.2⟩
/-- while the doors are copied -/
def LOW4 (i : Int) : Prop := i = 7 ∨ i = 0 ∨ i = 1 ∨ i = 2
def CPL (σ0 σ : SG) (s a : Nat) (y : Int) : Prop := CPD σ0 σ s a (fun i => LOW4 i ∨ (10 ≤ lcO i ∧ (lcO i : Int) < 10 + 4 * y))
theorem CPL_0 {y : Int} (H : CPD σ0 σ s a (fun i => (((False ∨ i = 7) ∨ i = 0) ∨ i = 1) ∨ i = 2)) (h : y = 0) : CPL σ0 σ s a y := CPD_sub H (fun i i0 i1 x => by
  unfold LOW4 at x
  have : i = 7 ∨ i = 0 ∨ i = 1 ∨ i = 2 := by omega
  rcases this with z | z | z | z
  · exact Or.inl (Or.inl (Or.inl (Or.inr z)))
  · exact Or.inl (Or.inl (Or.inr z))
  · exact Or.inl (Or.inr z)
  · exact Or.inr z)
theorem CPL_s {y y' : Int} {b b1 b2 b3 t t1 t2 t3 : Nat} (H : CPL σ0 σ s a y) (h : SEP s a) (L : DTF σ σ' b b1 b2 b3 t t1 t2 t3) (eb : b = s + 10 + 4 * y.toNat) (eb1 : b1 = s + 11 + 4 * y.toNat) (eb2 : b2 = s + 12 + 4 * y.toNat) (eb3 : b3 = s + 13 + 4 * y.toNat) (et : t = a + 10 + 4 * y.toNat) (et1 : t1 = a + 11 + 4 * y.toNat) (et2 : t2 = a + 12 + 4 * y.toNat) (et3 : t3 = a + 13 + 4 * y.toNat) (y0 : 0 ≤ y) (y4 : y < 4) (e : y' = y + 1) : CPL σ0 σ' s a y' := by
  subst eb eb1 eb2 eb3 et et1 et2 et3 e
  refine CPD_sub (CPD_dr H h L (by omega)) (fun i i0 i1 x => ?_)
  rcases x with x | x
  · exact Or.inl (Or.inl x)
  · by_cases z : (lcO i : Int) < 10 + 4 * y
    · exact Or.inl (Or.inr ⟨x.1, z⟩)
    · exact Or.inr (by omega)
theorem CPL_e {y y' : Int} (H : CPL σ0 σ s a y) (e : y = y') : CPL σ0 σ s a y' := by
  subst e
  exact H
theorem CPL_4 {y : Int} (H : CPL σ0 σ s a y) (e : y = 4) : CPD σ0 σ s a (fun i => LOW4 i ∨ (10 ≤ lcO i ∧ (lcO i : Int) < 10 + 4 * 4)) := by
  subst e
  exact H
theorem lc_low : ∀ i : Fin 226, lcO (i.val : Int) = 0 → (i.val : Int) < 10 := by decide +kernel
theorem lc_n1 : ∀ i : Fin 226, lcO (i.val : Int) ≠ 1 := by decide +kernel
/-- all is copied -/
theorem CPD_all (H : CPD σ0 σ s a (fun i => (((((((((((LOW4 i ∨ (10 ≤ lcO i ∧ (lcO i : Int) < 10 + 4 * 4)) ∨ (2 ≤ lcO i ∧ lcO i ≤ 4)) ∨ i = 8) ∨ i = 9) ∨ i = 4) ∨ lcO i = 5) ∨ lcO i = 6) ∨ i = 5) ∨ lcO i = 7) ∨ lcO i = 8) ∨ i = 6) ∨ lcO i = 9)) : CPD σ0 σ s a (fun _ => True) := CPD_sub H (fun i i0 i1 _ => by
  have l := lc_0 i0 i1
  have k := lc_fi (Q := fun i => lcO i = 0 → i < 10) lc_low i0 i1
  unfold LOW4
  by_cases z : lcO i = 0
  · have := k z
    have h3 : i ≠ 3 := fun e => by rw [e, lcO_3] at z; omega
    omega
  · have h1 : lcO i ≠ 1 := lc_fi (Q := fun i => lcO i ≠ 1) lc_n1 i0 i1
    omega)
end CPD
