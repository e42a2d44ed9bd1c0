/-! 32.ld.cpy -/
section
section CPX
variable {fr lo : Nat} {scr : AS} {F : MR} {P : PO} {pc pc' len tgt : Nat} {i : Instr} {lv lv' : ALv} {st st' r : List Value} {σ σ0 : SG} {W : List (Nat × Nat)}
theorem cpyl_in {l0 l1 : List Value} {sp dp n q : Nat} (hq : q < n) (h0 : sp + n ≤ l0.length) (h1 : dp + n ≤ l1.length) : (cpyl l0 l1 sp dp n)[dp + q]? = l0[sp + q]? := by
  unfold cpyl
  rw [List.getElem?_map, List.getElem?_range (by omega)]
  show some (if dp ≤ dp + q ∧ dp + q < dp + n then l0.getD (sp + (dp + q - dp)) Value.null else l1.getD (dp + q) Value.null) = _
  rw [if_pos (by omega), show sp + (dp + q - dp) = sp + q by omega, List.getD_eq_getElem?_getD, List.getElem?_eq_getElem (by omega)]
  rfl
theorem En_copyX {a0 a1 g0 g1 : Nat} {n dp sp : Int32} {N D S : Int} {kd id : Nat} {pos : Nat × Nat} (hN : n.toInt = N) (hD : dp.toInt = D) (hS : sp.toInt = S) (hf : fc F pc = some (i, len, tgt)) (hk : ikind i = 3) (he : fnd (mcl F) (callIx i) = some (kd, id, pos)) (hb : (decide (1 ≤ fr) && decide (cats r + 40 ≤ lo)) = true) (h0 : TG a0 = g0) (h1 : TG a1 = g1) (hkd : (callKd i kd && (kd == 8)) = true) (hg : (KD g0 == KD g1 && CL g0 == CL g1 && (KD g0 == 1 && CL g0 == 0 || KD g0 == 2 && CL g0 == 1) && decide (g0 < 900) && decide (g1 < 900)) = true)
    (ht : (decide ((TY g0).2.2.2.length = 1) && decide ((TY g1).2.2.2.length = 1) && decide (FT g0 0 = FT g1 0)) = true) {n0 n1 : Nat} (hl0 : LN g0 = n0) (hl1 : LN g1 = n1) (b1 : 0 ≤ N) (b2 : 0 ≤ D) (b3 : 0 ≤ S) (b4 : S + N ≤ (n0 : Int)) (b5 : D + N ≤ (n1 : Int)) (hσ : WT σ) (hF : Fr W σ0 σ) (hW : W.contains (g1, 0) = true)
    (k : ∀ σ' : SG, WT σ' → Fr W σ0 σ' → (∀ b q : Nat, b ≠ a1 → (σ' b)[q]? = (σ b)[q]?) → (∀ q : Nat, q < N.toNat → (σ' a1)[D.toNat + q]? = (σ a0)[S.toNat + q]?) → En fr lo scr F P (pc + 3) lv r σ') : En fr lo scr F P pc lv (.int n :: .int dp :: .ref a1 :: .int sp :: .ref a0 :: r) σ := by
  simp only [Bool.and_eq_true, Bool.or_eq_true, beq_iff_eq, decide_eq_true_eq] at hg ht hkd
  obtain ⟨⟨⟨⟨g1', g2'⟩, g3⟩, g4⟩, g5⟩ := hg
  obtain ⟨⟨t1, t2⟩, t3⟩ := ht
  have k0 : KD g0 ≠ 0 := by rcases g3 with z | z <;> omega
  have hff : ∀ i j, FT g0 i = FT g1 j := fun i j => by rw [FT_one k0 t1, FT_one (by omega) t2, t3]
  have hw := WT_cpy (sp := S.toNat) (dp := D.toNat) (n := N.toNat) hσ h0 h1 g4 g5 hff (by omega)
  have hne : ∀ b q : Nat, b ≠ a1 → (pt σ a1 (cpyl (σ a0) (σ a1) S.toNat D.toNat N.toNat) b)[q]? = (σ b)[q]? := fun b q hb => by unfold pt; rw [if_neg hb]
  have hsl : ∀ q, SL g1 q = 0 := fun q => by unfold SL; rw [if_neg (by omega)]
  have hfr : Fr W σ0 (pt σ a1 (cpyl (σ a0) (σ a1) S.toNat D.toNat N.toNat)) := by
    intro b q hb
    by_cases e : b = a1
    · subst e
      rw [h1, hsl, hW] at hb
      cases hb
    · rw [hne b q e]; exact hF b q hb
  have l0 := WT_len hσ h0 g4
  have l1 := WT_len hσ h1 g5
  have hin : ∀ q : Nat, q < N.toNat → (pt σ a1 (cpyl (σ a0) (σ a1) S.toNat D.toNat N.toNat) a1)[D.toNat + q]? = (σ a0)[S.toNat + q]? := fun q hq => by
    unfold pt
    rw [if_pos rfl]
    exact cpyl_in hq (by omega) (by omega)
  obtain ⟨w, σ', gg, hp⟩ := k _ hw hfr hne hin
  have hc0 := HP_get (σ := σ) (shp h0 g4)
  have hc1 := HP_get (σ := σ) (shp h1 g5)
  refine ⟨w, σ', Go_copy (idx := (0, 0)) (pos := (0, 0)) hf hk he hkd.1 hkd.2 (st2 := r) (h' := HP (pt σ a1 (cpyl (σ a0) (σ a1) S.toNat D.toNat N.toNat))) ?_ hb gg, hp⟩
  unfold acopy
  refine oB_mk hc0 (oB_mk hc1 (oC_mk ?_ ?_))
  · dsimp only
    simp only [Bool.and_eq_true, Bool.or_eq_true, beq_iff_eq, decide_eq_true_eq]
    rw [toNat32 hN, toNat32 hD, toNat32 hS]
    exact ⟨⟨⟨⟨⟨⟨⟨nonneg32 hS b3, nonneg32 hD b2⟩, nonneg32 hN b1⟩, g1'⟩, g2'⟩, g3⟩, by omega⟩, by omega⟩
  · dsimp only
    rw [toNat32 hN, toNat32 hD, toNat32 hS, HP_set (shp h1 g5)]
end CPX
section CPD
variable {σ0 σ σ' σ1 σ2 σ3 σ4 σ5 σ6 : SG} {W W' : List (Nat × Nat)} {s a : Nat}
/-- a row is copied whole -/
def ROWc (σ σ' : SG) (d t n : Nat) : Prop := (∀ k : Int, 0 ≤ k → k < (n : Int) → ci σ' d k = ci σ t k) ∧ ∀ b q : Nat, b ≠ d → (σ' b)[q]? = (σ b)[q]?
theorem ROW_mk {d t n : Nat} {N D S : Int} (h : ∀ b q : Nat, b ≠ d → (σ' b)[q]? = (σ b)[q]?) (h2 : ∀ q : Nat, q < N.toNat → (σ' d)[D.toNat + q]? = (σ t)[S.toNat + q]?) (hN : N = n) (hD : D = 0) (hS : S = 0) : ROWc σ σ' d t n := by
  subst hN hD hS
  refine ⟨fun k k0 k1 => ?_, h⟩
  have := h2 k.toNat (by omega)
  rw [show (0 : Int).toNat = 0 from rfl, Nat.zero_add] at this
  unfold ci
  rw [this]
/-- lessons are copied whole -/
def LTF (σ0 σ : SG) (s kn op t tk to : Nat) : Prop := ci σ s 2 = ci σ0 t 2 ∧ (∀ k : Int, 0 ≤ k → k < 13 → ci σ kn k = ci σ0 tk k) ∧ (∀ k : Int, 0 ≤ k → k < 13 → ci σ op k = ci σ0 to k) ∧ ∀ b q : Nat, b ≠ kn → b ≠ op → ¬ (b = s ∧ q = 2) → (σ b)[q]? = (σ0 b)[q]?
theorem LTF_mk {s kn op t tk to : Nat} {v : Int32} (h0 : (σ0 t)[2]? = some (Value.int v)) (k1 : (σ1 s)[2]? = some (Value.int v)) (n1 : ∀ b q, (b ≠ s ∨ q ≠ 2) → (σ1 b)[q]? = (σ0 b)[q]?) (R1 : ROWc σ1 σ2 kn tk 13) (R2 : ROWc σ2 σ3 op to 13) (d1 : kn ≠ op) (d2 : kn ≠ s) (d3 : op ≠ s) (d4 : tk ≠ s) (d5 : to ≠ s) (d6 : to ≠ kn) : LTF σ0 σ3 s kn op t tk to := by
  refine ⟨?_, fun k k0 k1 => ?_, fun k k0 k1 => ?_, fun b q h1 h2 h3 => ?_⟩
  · unfold ci
    rw [show (2 : Int).toNat = 2 from rfl, R2.2 s 2 (Ne.symm d3), R1.2 s 2 (Ne.symm d2), k1, h0]
  · rw [ci_eq (R2.2 kn _ d1), R1.1 k k0 k1, ci_ne n1 d4 k]
  · rw [R2.1 k k0 k1, ci_eq (R1.2 to _ d6), ci_ne n1 d5 k]
  · rw [R2.2 b q h2, R1.2 b q h1, n1 b q (by omega)]
/-- a door is copied whole -/
def DTF (σ0 σ : SG) (s l kn op t tl tk to : Nat) : Prop := (∀ j : Int, 1 ≤ j → j ≤ 3 → ci σ s j = ci σ0 t j) ∧ ci σ l 2 = ci σ0 tl 2 ∧ (∀ k : Int, 0 ≤ k → k < 13 → ci σ kn k = ci σ0 tk k) ∧ (∀ k : Int, 0 ≤ k → k < 13 → ci σ op k = ci σ0 to k) ∧ ∀ b q : Nat, b ≠ s → b ≠ l → b ≠ kn → b ≠ op → (σ b)[q]? = (σ0 b)[q]?
theorem DTF_mk {s l kn op t tl tk to : Nat} {x y : Int} {v : Int32} (B : BGNp σ0 σ1 s l x y) (hx : ci σ0 t 1 = x) (hy : ci σ0 t 2 = y) (h3 : (σ0 t)[3]? = some (Value.int v)) (k1 : (σ2 s)[3]? = some (Value.int v)) (n1 : ∀ b q, (b ≠ s ∨ q ≠ 3) → (σ2 b)[q]? = (σ1 b)[q]?) (L : LTF σ2 σ3 l kn op tl tk to) (hs : l = s + 1 ∧ kn = s + 2 ∧ op = s + 3) (ht : tl = t + 1 ∧ tk = t + 2 ∧ to = t + 3) (d : s + 4 ≤ t ∨ t + 4 ≤ s) : DTF σ0 σ3 s l kn op t tl tk to := by
  obtain ⟨e1, e2, e3⟩ := hs
  obtain ⟨f1, f2, f3⟩ := ht
  obtain ⟨b1, b2, b3, b4, b5⟩ := B
  obtain ⟨l1, l2, l3, l4⟩ := L
  have g (b q : Nat) (h : b ≠ s ∧ b ≠ l) : (σ2 b)[q]? = (σ0 b)[q]? := by rw [n1 b q (Or.inl h.1), b5 b q (by omega) (by omega) (by omega) (by omega)]
  have c (b : Nat) (k : Int) (h : b ≠ s ∧ b ≠ l) : ci σ2 b k = ci σ0 b k := ci_eq (g b _ h)
  have m (q : Nat) : (σ3 s)[q]? = (σ2 s)[q]? := l4 s q (by omega) (by omega) (by omega)
  refine ⟨fun j j0 j1 => ?_, ?_, fun k k0 k1 => ?_, fun k k0 k1 => ?_, fun b q h1 h2 h3 h4 => ?_⟩
  · rw [ci_eq (m j.toNat)]
    rcases (show j = 1 ∨ j = 2 ∨ j = 3 by omega) with z | z | z <;> subst z
    · rw [hx, ← b1]; exact ci_eq (n1 s _ (Or.inr (by decide)))
    · rw [hy, ← b2]; exact ci_eq (n1 s _ (Or.inr (by decide)))
    · unfold ci
      rw [show (3 : Int).toNat = 3 from rfl, k1, h3]
  · rw [l1]; exact c tl 2 (by omega)
  · rw [l2 k k0 k1]; exact c tk k (by omega)
  · rw [l3 k k0 k1]; exact c to k (by omega)
  · rw [l4 b q h3 h4 (by omega)]; exact g b q ⟨h1, h2⟩
/-- so much of a plan is copied -/
def CPD (σ0 σ : SG) (s a : Nat) (D : Int → Prop) : Prop := (∀ i : Int, 0 ≤ i → i < 226 → D i → ci σ (s + lcO i) (lcB i) = ci σ0 (a + lcO i) (lcB i)) ∧ OUT σ0 σ s
theorem CPD_0 : CPD σ σ s a (fun _ => False) := ⟨fun _ _ _ h => absurd h id, OUT_0⟩
def SEP (s a : Nat) : Prop := PLB s ∧ PLB a ∧ s ≠ a
theorem SEP_d (h : SEP s a) : 18 ≤ a ∧ a + 26 ≤ 150 ∧ 18 ≤ s ∧ s + 26 ≤ 150 ∧ (a + 26 ≤ s ∨ s + 26 ≤ a) := by
  unfold SEP PLB at h
  omega
theorem CPD_src {D : Int → Prop} {b q : Nat} (H : CPD σ0 σ s a D) (h : SEP s a) (h1 : a ≤ b) (h2 : b < a + 26) : (σ b)[q]? = (σ0 b)[q]? := by
  have := SEP_d h
  exact H.2 b q (by omega) (by omega) (by omega)
theorem CPD_put {D : Int → Prop} {i0 : Int} {q : Nat} {v : Int32} (H : CPD σ0 σ s a D) (h : SEP s a) (hv : (σ a)[q]? = some (Value.int v)) (k1 : (σ' s)[q]? = some (Value.int v)) (n1 : ∀ b q', (b ≠ s ∨ q' ≠ q) → (σ' b)[q']? = (σ b)[q']?) (o : lcO i0 = 0) (hb : lcB i0 = (q : Int)) (a0 : 0 ≤ i0) (a1 : i0 < 226) : CPD σ0 σ' s a (fun i => D i ∨ i = i0) := by
  have d := SEP_d h
  refine ⟨fun i i0' i1 x => ?_, OUT_st H.2 n1 (by omega)⟩
  by_cases e : i = i0
  · subst e
    rw [o, hb, Nat.add_zero, Nat.add_zero]
    unfold ci
    rw [show ((q : Int)).toNat = q by omega, k1, ← CPD_src H h (by omega) (by omega), hv]
  · have x : D i := by rcases x with x | x; exact x; exact absurd x e
    rw [← H.1 i i0' i1 x]
    refine ci_eq (n1 _ _ ?_)
    by_cases z : s + lcO i = s
    · refine Or.inr (fun z2 => e (lc_uniq i0' i1 a0 a1 (by omega) (by omega)))
    · exact Or.inl z
theorem CPD_row {D : Int → Prop} {o n d t : Nat} (H : CPD σ0 σ s a D) (h : SEP s a) (R : ROWc σ σ' d t n) (ed : d = s + o) (et : t = a + o) (o26 : o < 26) (hn : (List.range 226).all (fun i => !(lcO (i : Int) == o) || decide (lcB (i : Int) < (n : Int))) = true) : CPD σ0 σ' s a (fun i => D i ∨ lcO i = o) := by
  subst ed et
  have d := SEP_d h
  refine ⟨fun i i0 i1 x => ?_, OUT_cp H.2 R.2 (by omega)⟩
  have l := lc_0 i0 i1
  by_cases e : lcO i = o
  · have b := List.all_eq_true.mp hn i.toNat (List.mem_range.mpr (by omega))
    rw [show ((i.toNat : Nat) : Int) = i by omega, e] at b
    simp at b
    rw [e, R.1 _ l.2 b]
    exact ci_eq (CPD_src H h (by omega) (by omega))
  · have x : D i := by rcases x with x | x; exact x; exact absurd x e
    rw [← H.1 i i0 i1 x]
    exact ci_eq (R.2 _ _ (by omega))
theorem lc_b13 : ∀ i : Fin 226, (lcO (i.val : Int) = 3 ∨ lcO (i.val : Int) = 4 ∨ 10 ≤ lcO (i.val : Int)) → lcB (i.val : Int) < 13 := by decide +kernel
theorem lc_b2 : ∀ i : Fin 226, (lcO (i.val : Int) = 2 ∨ lcO (i.val : Int) = 11 ∨ lcO (i.val : Int) = 15 ∨ lcO (i.val : Int) = 19 ∨ lcO (i.val : Int) = 23) → lcB (i.val : Int) = 2 := by decide +kernel
theorem lc_b3 : ∀ i : Fin 226, (lcO (i.val : Int) = 10 ∨ lcO (i.val : Int) = 14 ∨ lcO (i.val : Int) = 18 ∨ lcO (i.val : Int) = 22) → 1 ≤ lcB (i.val : Int) ∧ lcB (i.val : Int) ≤ 3 := by decide +kernel
theorem lc_fi {Q : Int → Prop} (h : ∀ i : Fin 226, Q (i.val : Int)) {i : Int} (i0 : 0 ≤ i) (i1 : i < 226) : Q i := by
  have := h ⟨i.toNat, by omega⟩
  simp only at this
  rw [show ((i.toNat : Nat) : Int) = i by omega] at this; exact this
theorem lc_c13 {i : Int} (i0 : 0 ≤ i) (i1 : i < 226) : (lcO i = 3 ∨ lcO i = 4 ∨ 10 ≤ lcO i) → lcB i < 13 := lc_fi (Q := fun i => (lcO i = 3 ∨ lcO i = 4 ∨ 10 ≤ lcO i) → lcB i < 13) lc_b13 i0 i1
theorem lc_c2 {i : Int} (i0 : 0 ≤ i) (i1 : i < 226) : (lcO i = 2 ∨ lcO i = 11 ∨ lcO i = 15 ∨ lcO i = 19 ∨ lcO i = 23) → lcB i = 2 := lc_fi (Q := fun i => (lcO i = 2 ∨ lcO i = 11 ∨ lcO i = 15 ∨ lcO i = 19 ∨ lcO i = 23) → lcB i = 2) lc_b2 i0 i1
theorem lc_c3 {i : Int} (i0 : 0 ≤ i) (i1 : i < 226) : (lcO i = 10 ∨ lcO i = 14 ∨ lcO i = 18 ∨ lcO i = 22) → 1 ≤ lcB i ∧ lcB i ≤ 3 := lc_fi (Q := fun i => (lcO i = 10 ∨ lcO i = 14 ∨ lcO i = 18 ∨ lcO i = 22) → 1 ≤ lcB i ∧ lcB i ≤ 3) lc_b3 i0 i1
theorem CPD_ex {D : Int → Prop} {b b1 b2 t t1 t2 : Nat} (H : CPD σ0 σ s a D) (h : SEP s a) (L : LTF σ σ' b b1 b2 t t1 t2) (e1 : b = s + 2) (e2 : b1 = s + 3) (e3 : b2 = s + 4) (e4 : t = a + 2) (e5 : t1 = a + 3) (e6 : t2 = a + 4) : CPD σ0 σ' s a (fun i => D i ∨ (2 ≤ lcO i ∧ lcO i ≤ 4)) := by
  subst e1 e2 e3 e4 e5 e6
  have d := SEP_d h
  obtain ⟨l1, l2, l3, l4⟩ := L
  refine ⟨fun i i0 i1 x => ?_, fun b q h1 h2 h3 => ?_⟩
  · have l := lc_0 i0 i1
    have b13 := lc_c13 i0 i1
    have b2 := lc_c2 i0 i1
    by_cases e2 : lcO i = 2
    · rw [e2, b2 (Or.inl e2), l1]
      exact ci_eq (CPD_src H h (by omega) (by omega))
    · by_cases e3 : lcO i = 3
      · rw [e3, l2 _ l.2 (b13 (Or.inl e3))]
        exact ci_eq (CPD_src H h (by omega) (by omega))
      · by_cases e4 : lcO i = 4
        · rw [e4, l3 _ l.2 (b13 (Or.inr (Or.inl e4)))]
          exact ci_eq (CPD_src H h (by omega) (by omega))
        · have x : D i := by rcases x with x | x; exact x; exfalso; omega
          rw [← H.1 i i0 i1 x]
          exact ci_eq (l4 _ _ (by omega) (by omega) (by omega))
  · rw [l4 b q (by omega) (by omega) (by omega)]; exact H.2 b q h1 h2 h3
theorem CPD_dr {D : Int → Prop} {d : Nat} (H : CPD σ0 σ s a D) (h : SEP s a) (L : DTF σ σ' (s + 10 + 4 * d) (s + 11 + 4 * d) (s + 12 + 4 * d) (s + 13 + 4 * d) (a + 10 + 4 * d) (a + 11 + 4 * d) (a + 12 + 4 * d) (a + 13 + 4 * d)) (d4 : d < 4) : CPD σ0 σ' s a (fun i => D i ∨ (10 + 4 * d ≤ lcO i ∧ lcO i < 14 + 4 * d)) := by
  have p := SEP_d h
  obtain ⟨l1, l2, l3, l4, l5⟩ := L
  refine ⟨fun i i0 i1 x => ?_, fun b q h1 h2 h3 => ?_⟩
  · have l := lc_0 i0 i1
    have b13 := lc_c13 i0 i1
    have b2 := lc_c2 i0 i1
    have b3 := lc_c3 i0 i1
    by_cases e1 : lcO i = 10 + 4 * d
    · have b := b3 (by omega)
      rw [e1, ← Nat.add_assoc, ← Nat.add_assoc, l1 _ b.1 b.2]
      exact ci_eq (CPD_src H h (by omega) (by omega))
    · by_cases e2 : lcO i = 11 + 4 * d
      · rw [e2, ← Nat.add_assoc, ← Nat.add_assoc, b2 (by omega), l2]
        exact ci_eq (CPD_src H h (by omega) (by omega))
      · by_cases e3 : lcO i = 12 + 4 * d
        · rw [e3, ← Nat.add_assoc, ← Nat.add_assoc, l3 _ l.2 (b13 (by omega))]
          exact ci_eq (CPD_src H h (by omega) (by omega))
        · by_cases e4 : lcO i = 13 + 4 * d
          · rw [e4, ← Nat.add_assoc, ← Nat.add_assoc, l4 _ l.2 (b13 (by omega))]
            exact ci_eq (CPD_src H h (by omega) (by omega))
          · have x : D i := by rcases x with x | x; exact x; exfalso; omega
            rw [← H.1 i i0 i1 x]
            exact ci_eq (l5 _ _ (by omega) (by omega) (by omega) (by omega))
  · rw [l5 b q (by omega) (by omega) (by omega) (by omega)]; exact H.2 b q h1 h2 h3
theorem CPD_sub {D D' : Int → Prop} (H : CPD σ0 σ s a D) (h : ∀ i : Int, 0 ≤ i → i < 226 → D' i → D i) : CPD σ0 σ s a D' := ⟨fun i i0 i1 x => H.1 i i0 i1 (h i i0 i1 x), H.2⟩
/-- while the doors are copied -/
def LOW4 (i : Int) : Prop := i = 7 ∨ i = 0 ∨ i = 1 ∨ i = 2
def CPL (σ0 σ : SG) (s a : Nat) (y : Int) : Prop := CPD σ0 σ s a (fun i => LOW4 i ∨ (10 ≤ lcO i ∧ (lcO i : Int) < 10 + 4 * y))
theorem CPL_0 {y : Int} (H : CPD σ0 σ s a (fun i => (((False ∨ i = 7) ∨ i = 0) ∨ i = 1) ∨ i = 2)) (h : y = 0) : CPL σ0 σ s a y := CPD_sub H (fun i i0 i1 x => by
  unfold LOW4 at x
  have : i = 7 ∨ i = 0 ∨ i = 1 ∨ i = 2 := by omega
  rcases this with z | z | z | z
  · exact Or.inl (Or.inl (Or.inl (Or.inr z)))
  · exact Or.inl (Or.inl (Or.inr z))
  · exact Or.inl (Or.inr z)
  · exact Or.inr z)
theorem CPL_s {y y' : Int} {b b1 b2 b3 t t1 t2 t3 : Nat} (H : CPL σ0 σ s a y) (h : SEP s a) (L : DTF σ σ' b b1 b2 b3 t t1 t2 t3) (eb : b = s + 10 + 4 * y.toNat) (eb1 : b1 = s + 11 + 4 * y.toNat) (eb2 : b2 = s + 12 + 4 * y.toNat) (eb3 : b3 = s + 13 + 4 * y.toNat) (et : t = a + 10 + 4 * y.toNat) (et1 : t1 = a + 11 + 4 * y.toNat) (et2 : t2 = a + 12 + 4 * y.toNat) (et3 : t3 = a + 13 + 4 * y.toNat) (y0 : 0 ≤ y) (y4 : y < 4) (e : y' = y + 1) : CPL σ0 σ' s a y' := by
  subst eb eb1 eb2 eb3 et et1 et2 et3 e
  refine CPD_sub (CPD_dr H h L (by omega)) (fun i i0 i1 x => ?_)
  rcases x with x | x
  · exact Or.inl (Or.inl x)
  · by_cases z : (lcO i : Int) < 10 + 4 * y
    · exact Or.inl (Or.inr ⟨x.1, z⟩)
    · exact Or.inr (by omega)
theorem CPL_e {y y' : Int} (H : CPL σ0 σ s a y) (e : y = y') : CPL σ0 σ s a y' := by
  subst e
  exact H
theorem CPL_4 {y : Int} (H : CPL σ0 σ s a y) (e : y = 4) : CPD σ0 σ s a (fun i => LOW4 i ∨ (10 ≤ lcO i ∧ (lcO i : Int) < 10 + 4 * 4)) := by
  subst e
  exact H
theorem lc_low : ∀ i : Fin 226, lcO (i.val : Int) = 0 → (i.val : Int) < 10 := by decide +kernel
theorem lc_n1 : ∀ i : Fin 226, lcO (i.val : Int) ≠ 1 := by decide +kernel
/-- all is copied -/
theorem CPD_all (H : CPD σ0 σ s a (fun i => (((((((((((LOW4 i ∨ (10 ≤ lcO i ∧ (lcO i : Int) < 10 + 4 * 4)) ∨ (2 ≤ lcO i ∧ lcO i ≤ 4)) ∨ i = 8) ∨ i = 9) ∨ i = 4) ∨ lcO i = 5) ∨ lcO i = 6) ∨ i = 5) ∨ lcO i = 7) ∨ lcO i = 8) ∨ i = 6) ∨ lcO i = 9)) : CPD σ0 σ s a (fun _ => True) := CPD_sub H (fun i i0 i1 _ => by
  have l := lc_0 i0 i1
  have k := lc_fi (Q := fun i => lcO i = 0 → i < 10) lc_low i0 i1
  unfold LOW4
  by_cases z : lcO i = 0
  · have := k z
    have h3 : i ≠ 3 := fun e => by rw [e, lcO_3] at z; omega
    omega
  · have h1 : lcO i ≠ 1 := lc_fi (Q := fun i => lcO i ≠ 1) lc_n1 i0 i1
    omega)
end CPD
end
/-! 32.le.wld -/
section
section WCH
variable {σ0 σ σ' σ1 σ2 : SG} {W W' : List (Nat × Nat)} {p : Nat} {w f g : Int → Int}
/-! one number, two numbers of a plan -/
theorem KN_one {b q : Nat} {i v : Int} {y : Int32} (H : KN σ0 p w (act w)) (hp : PLB p) (q1 : (σ b)[q]? = some (Value.int y)) (q2 : ∀ b' q', (b' ≠ b ∨ q' ≠ q) → (σ b')[q']? = (σ0 b')[q']?) (i0 : 0 ≤ i) (i1 : i < 226) (hb : b = p + lcO i ∧ q = (lcB i).toNat) (hv : v = y.toInt) (hc : 10 ≤ i ∧ i < 26 ∧ (i - 10) % 4 ≠ 2) (ha : act w i) : KN σ p (uPd w i v) (act (uPd w i v)) ∧ OUT σ0 σ p := by
  refine ⟨KN_sub (KN_st H q1 q2 i0 i1 hb.1 hb.2 hv) (fun t _ _ z => Or.inl (act_in hc.1 (fun _ => hc.2.2) z)), OUT_st OUT_0 q2 ?_⟩
  have := lc_0 i0 i1
  omega
theorem KN_two {m v : Int32} (H : KN σ0 p w (act w)) (hp : PLB p) (q1 : (σ1 p)[6]? = some (Value.int m)) (q2 : ∀ b' q', (b' ≠ p ∨ q' ≠ 6) → (σ1 b')[q']? = (σ0 b')[q']?) (q3 : (σ2 p)[7]? = some (Value.int v)) (q4 : ∀ b' q', (b' ≠ p ∨ q' ≠ 7) → (σ2 b')[q']? = (σ1 b')[q']?) : KN σ2 p (uPd (uPd w 8 m.toInt) 9 v.toInt) (act (uPd (uPd w 8 m.toInt) 9 v.toInt)) ∧ OUT σ0 σ2 p := by
  have K1 := KN_st (j := 8) (v := m.toInt) H q1 q2 (by omega) (by omega) (by rw [lcO_lt (by decide) (by decide), Nat.add_zero]) (by decide) rfl
  have K2 := KN_st (j := 9) (v := v.toInt) K1 q3 q4 (by omega) (by omega) (by rw [lcO_lt (by decide) (by decide), Nat.add_zero]) (by decide) rfl
  refine ⟨KN_sub K2 (fun t _ _ z => Or.inl (Or.inl (act_low (by omega) (act_low (by omega) z)))), OUT_st (OUT_st OUT_0 q2 ?_) q4 ?_⟩ <;> omega
theorem DRP_e {s : Nat} {m m' : Int} (P : DRPp σ0 σ s m) (e : m = m') : DRPp σ0 σ s m' := by
  subst e
  exact P
/-! train(), owns(), copy() told of the numbers -/
abbrev trC (w : Int → Int) (d t n : Int) : Prop := 0 ≤ d ∧ d < w 2 ∧ ((t = 0 ∧ 0 ≤ n ∧ n ≤ 2) ∨ (t = 1 ∧ 0 ≤ n ∧ n ≤ 50))
noncomputable def trR (w : Int → Int) (d t n : Int) : Int := @ite _ (trC w d t n) (Classical.propDecidable _) (w (10 + 4 * d + t)) (-2)
noncomputable def trW (w : Int → Int) (d t n : Int) : Int → Int := @ite _ (trC w d t n) (Classical.propDecidable _) (uPd w (10 + 4 * d + t) n) w
theorem trR_n {d t n r : Int} (h : ¬ trC w d t n) (hr : r = -2) : r = trR w d t n := by unfold trR; rw [if_neg h]; exact hr
theorem trR_y {d t n r i : Int} (h : trC w d t n) (e : i = 10 + 4 * d + t) (hr : w i = r) : r = trR w d t n := by unfold trR; rw [if_pos h, ← e, hr]
theorem trW_n {d t n : Int} (h : ¬ trC w d t n) : trW w d t n = w := by unfold trW; rw [if_neg h]
theorem trW_y {d t n i : Int} (h : trC w d t n) (e : i = 10 + 4 * d + t) : trW w d t n = uPd w i n := by unfold trW; rw [if_pos h, ← e]
abbrev rlOK (w : Int → Int) (m v : Int) : Prop := 0 < w 7 ∧ 0 ≤ m ∧ m < pI (w 0) ∧ 0 ≤ v ∧ v ≤ 15 ∧ sbI v m = 1
noncomputable def owW (w : Int → Int) (m v : Int) : Int → Int := @ite _ (rlOK w m v) (Classical.propDecidable _) (uPd (uPd w 8 m) 9 v) w
theorem owW_n {m v : Int} (h : ¬ rlOK w m v) : owW w m v = w := by unfold owW; rw [if_neg h]
theorem owW_y {m v : Int} (h : rlOK w m v) : owW w m v = uPd (uPd w 8 m) 9 v := by unfold owW; rw [if_pos h]
abbrev cyC (w : Int → Int) (d o : Int) : Prop := 0 ≤ d ∧ d < w 2 ∧ o ≠ d ∧ (o = -1 ∨ (0 ≤ o ∧ o < w 2 ∧ w (13 + 4 * o) = -1)) ∧ cpI w d ≠ 1
noncomputable def cyW (w : Int → Int) (d o : Int) : Int → Int := @ite _ (cyC w d o) (Classical.propDecidable _) (uPd w (13 + 4 * d) o) w
theorem cyW_n {d o : Int} (h : ¬ cyC w d o) : cyW w d o = w := by unfold cyW; rw [if_neg h]
theorem cyW_y {d o : Int} (h : cyC w d o) : cyW w d o = uPd w (13 + 4 * d) o := by unfold cyW; rw [if_pos h]
/-! who is copied copies nobody -/
def TWo (w : Int → Int) : Prop := ∀ d : Int, 0 ≤ d → d < w 2 → d < 4 → cpI w d = 1 → w (13 + 4 * d) = -1
/-- and whom one copies is there -/
def TWN (w : Int → Int) : Prop := TWo w ∧ ∀ d : Int, 0 ≤ d → d < w 2 → d < 4 → w (13 + 4 * d) < w 2
theorem cpI_iff {a : Int} (n4 : w 2 ≤ 4) : cpI w a = 1 ↔ ∃ q : Int, 0 ≤ q ∧ q < w 2 ∧ w (13 + 4 * q) = a := by
  refine ⟨fun h => ?_, fun ⟨q, q0, q1, q2⟩ => (CPw_1 q0 q1 n4 q2 rfl).symm⟩
  unfold cpI at h
  split at h
  · rename_i z
    rcases z with z | z | z | z
    · exact ⟨0, by omega, z.1, z.2⟩
    · exact ⟨1, by omega, z.1, z.2⟩
    · exact ⟨2, by omega, z.1, z.2⟩
    · exact ⟨3, by omega, z.1, z.2⟩
  · omega
theorem TWN_eqv (H : TWN w) (e : ∀ i : Int, (i = 2 ∨ i = 13 ∨ i = 17 ∨ i = 21 ∨ i = 25) → f i = w i) : TWN f := by
  refine ⟨fun d d0 d1 d4 h => ?_, fun d d0 d1 d4 => ?_⟩
  · rw [e (13 + 4 * d) (by omega)]
    refine H.1 d d0 (by rw [← e 2 (by omega)]; exact d1) d4 ?_
    rw [← h]
    exact cpI_cg rfl (fun i hi => (e i hi).symm)
  · rw [e (13 + 4 * d) (by omega), e 2 (by omega)]
    exact H.2 d d0 (by rw [← e 2 (by omega)]; exact d1) d4
theorem cyW_twn {d o : Int} (H : TWN w) (n4 : w 2 ≤ 4) : TWN (cyW w d o) := by
  by_cases c : cyC w d o
  · rw [cyW_y c]
    obtain ⟨d0, d1, od, oc, nc⟩ := c
    have e2 : uPd w (13 + 4 * d) o 2 = w 2 := if_neg (by omega)
    refine ⟨fun x x0 x1 x4 h => ?_, fun x x0 x1 x4 => ?_⟩
    rotate_left
    · rw [e2] at x1 ⊢
      unfold uPd
      by_cases u : x = d
      · rw [if_pos (by omega)]; omega
      · rw [if_neg (by omega)]; exact H.2 x x0 x1 x4
    rw [e2] at x1
    have h := (cpI_iff (by rw [e2]; exact n4)).mp h
    obtain ⟨q, q0, q1, q2⟩ := h
    rw [e2] at q1
    unfold uPd at q2 ⊢
    by_cases z : q = d
    · subst z
      rw [if_pos rfl] at q2
      rw [if_neg (by omega)]
      subst q2
      rcases oc with oc | oc
      · omega
      · exact oc.2.2
    · rw [if_neg (by omega)] at q2
      have y := H.1 x x0 x1 x4 ((cpI_iff n4).mpr ⟨q, q0, q1, q2⟩)
      by_cases u : x = d
      · exfalso
        subst u
        exact nc ((cpI_iff n4).mpr ⟨q, q0, q1, q2⟩)
      · rw [if_neg (by omega)]; exact y
  · rw [cyW_n c]; exact H
/-- whose lessons came by teach(): doors that are there -/
def TGT (w : Int → Int) : Prop := ∀ j : Int, 0 ≤ j → j < w 6 → 0 ≤ w (166 + j) ∧ w (166 + j) < w 2
theorem TGT_eqv (H : TGT w) (h2 : f 2 = w 2) (h6 : f 6 = w 6) (e : ∀ i : Int, 166 ≤ i → f i = w i) : TGT f := fun j j0 j1 => by
  rw [h2, e (166 + j) (by omega)]
  exact H j j0 (by omega)
theorem TGT_0 (h : w 6 = 0) : TGT w := fun j j0 j1 => by omega
/-! the model's numbers behind a call -/
theorem tcM {d j m nt o x J1 J2 J3 J4 J5 y1 y2 y3 y4 y5 : Int} (h : ∀ i : Int, 0 ≤ i → g i = if i = J5 then y5 else if i = J4 then y4 else if i = J3 then y3 else if i = J2 then y2 else if i = J1 then y1 else f i) (hm : m = f (12 + 4 * d)) (hn : nt = f 6) (hok : okL f d x o) (m12 : m < 12) (n59 : nt ≤ 59) (hj : j = 26 + 24 * d + 2 * m) (e1 : J1 = j) (e2 : J2 = j + 1) (e3 : J3 = 12 + 4 * d) (e4 : J4 = 166 + nt) (e5 : J5 = 6) (v1 : y1 = x) (v2 : y2 = o) (v3 : y3 = m + 1) (v4 : y4 = d) (v5 : y5 = nt + 1) : ∀ i : Int, 0 ≤ i → i < 226 → g i = tcW f d x o i := fun i i0 _ => by
  rw [tcW_y hok (by omega) (by omega), h i i0]
  unfold tcU uPd
  subst e1 e2 e3 e4 e5 v1 v2 v3 v4 v5 hj hm hn
  rfl
theorem tcMn {d o x : Int} (h : ¬ (okL f d x o ∧ f (12 + 4 * d) < 12 ∧ f 6 < 60)) (e : ∀ i : Int, 0 ≤ i → i < 226 → g i = f i) : ∀ i : Int, 0 ≤ i → i < 226 → g i = tcW f d x o i := fun i i0 i1 => by
  rw [tcW_n h]; exact e i i0 i1
theorem utM {d m nt J1 J2 y1 y2 : Int} (h : ∀ i : Int, 0 ≤ i → g i = if i = J2 then y2 else if i = J1 then y1 else f i) (h7 : 0 < f 7) (hm : m = f (12 + 4 * d)) (hn : nt = f 6) (n1 : 1 ≤ nt) (hd : d = f (166 + (nt - 1))) (e1 : J1 = 6) (e2 : J2 = 12 + 4 * d) (v1 : y1 = nt - 1) (v2 : y2 = m - 1) : ∀ i : Int, 0 ≤ i → i < 226 → g i = utW f i := fun i i0 _ => by
  have e : utD f = d := by unfold utD; rw [← hn]; exact hd.symm
  unfold utW
  rw [if_neg (by omega), if_neg (by omega), h i i0]
  unfold utU uPd
  rw [e]
  subst e1 e2 v1 v2 hm hn
  rfl
theorem utMn (h : f 7 ≤ 0 ∨ f 6 ≤ 0) (e : ∀ i : Int, 0 ≤ i → i < 226 → g i = f i) : ∀ i : Int, 0 ≤ i → i < 226 → g i = utW f i := fun i i0 i1 => by
  unfold utW
  by_cases z : f 7 ≤ 0
  · rw [if_pos z]; exact e i i0 i1
  · rw [if_neg z, if_pos (by omega)]; exact e i i0 i1
theorem trM {d t n J y : Int} (h : ∀ i : Int, 0 ≤ i → g i = if i = J then y else f i) (c : trC f d t n) (e : J = 10 + 4 * d + t) (v : y = n) : ∀ i : Int, 0 ≤ i → i < 226 → g i = trW f d t n i := fun i i0 _ => by
  rw [trW_y c e, h i i0, v]; rfl
theorem trMn {d t n : Int} (c : ¬ trC f d t n) : ∀ i : Int, 0 ≤ i → i < 226 → f i = trW f d t n i := fun i _ _ => by rw [trW_n c]
theorem owM {m v J1 J2 y1 y2 : Int} (h : ∀ i : Int, 0 ≤ i → g i = if i = J2 then y2 else if i = J1 then y1 else f i) (c : rlOK f m v) (e1 : J1 = 8) (e2 : J2 = 9) (v1 : y1 = m) (v2 : y2 = v) : ∀ i : Int, 0 ≤ i → i < 226 → g i = owW f m v i := fun i i0 _ => by
  rw [owW_y c, h i i0, e1, e2, v1, v2]; rfl
theorem owMn {m v : Int} (c : ¬ rlOK f m v) : ∀ i : Int, 0 ≤ i → i < 226 → f i = owW f m v i := fun i _ _ => by rw [owW_n c]
/-- the reference lets one that is copied copy nobody: nothing changes by that -/
theorem cyM {d o J y : Int} (H : TWN f) (n4 : f 2 ≤ 4) (h : ∀ i : Int, 0 ≤ i → g i = if i = J then y else f i) (d0 : 0 ≤ d) (d1 : d < f 2) (od : o ≠ d) (oc : o = -1 ∨ (0 ≤ o ∧ o < f 2 ∧ f (13 + 4 * o) = -1 ∧ cpI f d ≠ 1)) (e : J = 13 + 4 * d) (v : y = o) : ∀ i : Int, 0 ≤ i → i < 226 → g i = cyW f d o i := fun i i0 _ => by
  subst e v
  rw [h i i0]
  by_cases c : cpI f d = 1
  · rw [cyW_n (fun q => q.2.2.2.2 c)]
    have z : y = -1 := by
      rcases oc with oc | oc
      · exact oc
      · exact absurd c oc.2.2.2
    by_cases u : i = 13 + 4 * d
    · rw [if_pos u, z, u]
      exact (H.1 d d0 d1 (by omega) c).symm
    · rw [if_neg u]
  · rw [cyW_y ⟨d0, d1, od, by
      rcases oc with oc | oc
      · exact Or.inl oc
      · exact Or.inr ⟨oc.1, oc.2.1, oc.2.2.1⟩, c⟩]
    rfl
theorem cyMn {d o : Int} (c : ¬ cyC f d o) : ∀ i : Int, 0 ≤ i → i < 226 → f i = cyW f d o i := fun i _ _ => by rw [cyW_n c]
end WCH
section WCG
variable {w w' : Int → Int} {d d' k k' o o' : Int}
theorem tcR_cg (h : w' = w) (a : d' = d) (b : k' = k) (c : o' = o) : tcR w' d' k' o' = tcR w d k o := by subst h a b c; rfl
theorem tcW_cg (h : w' = w) (a : d' = d) (b : k' = k) (c : o' = o) : tcW w' d' k' o' = tcW w d k o := by subst h a b c; rfl
theorem trR_cg (h : w' = w) (a : d' = d) (b : k' = k) (c : o' = o) : trR w' d' k' o' = trR w d k o := by subst h a b c; rfl
theorem trW_cg (h : w' = w) (a : d' = d) (b : k' = k) (c : o' = o) : trW w' d' k' o' = trW w d k o := by subst h a b c; rfl
theorem owW_cg (h : w' = w) (a : d' = d) (b : k' = k) : owW w' d' k' = owW w d k := by subst h a b; rfl
theorem cyW_cg (h : w' = w) (a : d' = d) (b : k' = k) : cyW w' d' k' = cyW w d k := by subst h a b; rfl
end WCG
end
/-! 32.lez.rel -/
section
/-! which images there are -/
def FLGs (σ : SG) : Prop := ∀ k : Int, 0 ≤ k → k < 3 → ci σ 71 k = ci σ 162 k
def BSET (σ0 σ : SG) (r : Nat) (a : Int) : Prop := ∀ k : Int, 0 ≤ k → k < 3 → ci σ r k = if k = a then 1 else ci σ0 r k
def SAMr (σ0 σ : SG) (r : Nat) : Prop := ∀ k : Int, ci σ r k = ci σ0 r k
theorem SAMr_0 {σ : SG} {r : Nat} : SAMr σ σ r := fun _ => rfl
theorem SAMr_st {σ0 σ σ' : SG} {r a n : Nat} (H : SAMr σ0 σ r) (h2 : ∀ b q, (b ≠ a ∨ q ≠ n) → (σ' b)[q]? = (σ b)[q]?) (h : r ≠ a) : SAMr σ0 σ' r := fun k => by rw [ci_ne h2 h]; exact H k
theorem BSET_no {σ0 σ : SG} {r : Nat} {a : Int} (H : SAMr σ0 σ r) (h : a < 0 ∨ 2 < a) : BSET σ0 σ r a := fun k k0 k3 => by rw [if_neg (by omega)]; exact H k
theorem BSET_st {σ0 σ σ' : SG} {r : Nat} {a : Int} {y : Int32} (H : SAMr σ0 σ r) (h1 : (σ' r)[a.toNat]? = some (Value.int y)) (h2 : ∀ b q, (b ≠ r ∨ q ≠ a.toNat) → (σ' b)[q]? = (σ b)[q]?) (hy : y.toInt = 1) (a0 : 0 ≤ a) : BSET σ0 σ' r a := fun k k0 k3 => by
  rw [ci_st h1 h2 a0 k k0]
  by_cases z : k = a
  · rw [if_pos z, if_pos z]; exact hy
  · rw [if_neg z, if_neg z]; exact H k
def BCK (f a r : Int) : Prop := (a < 0 ∨ 2 < a → r = -2) ∧ (0 ≤ a → a ≤ 2 → (f = 0 → r = -6) ∧ (f ≠ 0 → r = 0))
theorem FLG_fr {W W' : List (Nat × Nat)} {σ σ1 σ2 : SG} (H : FLGs σ) (h : Fr W σ σ1) (h' : Fr W' σ1 σ2) (hw : (decide (KD 30 ≠ 0) && !W.contains (30, 0)) = true) (hw2 : (decide (KD 38 ≠ 0) && !W.contains (38, 0)) = true) (hw' : (decide (KD 30 ≠ 0) && !W'.contains (30, 0)) = true) (hw2' : (decide (KD 38 ≠ 0) && !W'.contains (38, 0)) = true) : FLGs σ2 := fun k k0 k3 => by
  rw [ci_fr h' tgz_71 hw', ci_fr h tgz_71 hw, ci_fr h' tgz_162 hw2', ci_fr h tgz_162 hw2]
  exact H k k0 k3
theorem FLG_im {W W' : List (Nat × Nat)} {σ σ1 σ2 : SG} {a a' : Int} (H : FLGs σ) (h : Fr W σ σ1) (h' : Fr W' σ1 σ2) (hw2 : (decide (KD 38 ≠ 0) && !W.contains (38, 0)) = true) (hw' : (decide (KD 30 ≠ 0) && !W'.contains (30, 0)) = true) (B : BSET σ σ1 71 a) (B' : BSET σ1 σ2 162 a') (e : a' = a) : FLGs σ2 := fun k k0 k3 => by
  subst e
  rw [ci_fr h' tgz_71 hw', B k k0 k3, B' k k0 k3, ci_fr h tgz_162 hw2, H k k0 k3]
theorem BCK_eq {W : List (Nat × Nat)} {σ σ1 : SG} {a a' r r' : Int} (H : FLGs σ) (h : Fr W σ σ1) (hw2 : (decide (KD 38 ≠ 0) && !W.contains (38, 0)) = true) (B : BCK (ci σ 71 a) a r) (B' : BCK (ci σ1 162 a') a' r') (e : a' = a) : r' = r := by
  subst e
  rw [ci_fr h tgz_162 hw2] at B'
  obtain ⟨b1, b2⟩ := B
  obtain ⟨c1, c2⟩ := B'
  by_cases z : a' < 0 ∨ 2 < a'
  · rw [b1 z, c1 z]
  · obtain ⟨b3, b4⟩ := b2 (by omega) (by omega)
    obtain ⟨c3, c4⟩ := c2 (by omega) (by omega)
    have := H a' (by omega) (by omega)
    by_cases w : ci σ 71 a' = 0
    · rw [b3 w, c3 (by omega)]
    · rw [b4 w, c4 (by omega)]
theorem BCK_2 {f a r : Int} (h : a < 0 ∨ 2 < a) (hr : r = -2) : BCK f a r := ⟨fun _ => hr, fun a0 a2 => by omega⟩
theorem BCK_6 {f a r : Int} (a0 : 0 ≤ a) (a2 : a ≤ 2) (hf : f = 0) (hr : r = -6) : BCK f a r := ⟨fun z => by omega, fun _ _ => ⟨fun _ => hr, fun z => absurd hf z⟩⟩
theorem BCK_0 {f a r : Int} (a0 : 0 ≤ a) (a2 : a ≤ 2) (hf : f ≠ 0) (hr : r = 0) : BCK f a r := ⟨fun z => by omega, fun _ _ => ⟨fun z => absurd z hf, fun _ => hr⟩⟩
end
/-! 32.lf.twn -/
section
section TW6
variable {By : Int → Int} {Nb : Int} {S T : PS} {σ0 σ σ' : SG} {p p2 : Nat} {w w' : Int → Int}
/-! what a reading leaves alone: twins, lessons that came by teach() -/
def TW6 (w : Int → Int) : Prop := TWN w ∧ w 6 = 0
def EQ6 (w' w : Int → Int) : Prop := ∀ i : Int, (i = 2 ∨ i = 6 ∨ i = 13 ∨ i = 17 ∨ i = 21 ∨ i = 25) → w' i = w i
theorem EQ6_r (h : w' = w) : EQ6 w' w := fun i _ => by rw [h]
theorem EQ6_t {w'' : Int → Int} (h : EQ6 w'' w') (h' : EQ6 w' w) : EQ6 w'' w := fun i hi => (h i hi).trans (h' i hi)
theorem EQ6_u {j v : Int} (h : EQ6 w' w) (hj : j ≠ 2 ∧ j ≠ 6 ∧ j ≠ 13 ∧ j ≠ 17 ∧ j ≠ 21 ∧ j ≠ 25) : EQ6 (uPd w' j v) w := fun i hi => by
  have : uPd w' j v i = w' i := if_neg (by omega)
  rw [this]; exact h i hi
theorem TW6_e (h : EQ6 w' w) (H : TW6 w) : TW6 w' := ⟨TWN_eqv H.1 (fun i hi => h i (by omega)), (h 6 (by omega)).trans H.2⟩
def BND (w : Int → Int) : Prop := WFw w ∧ 0 ≤ w 2 ∧ 0 ≤ w 3 ∧ 0 ≤ w 4 ∧ 0 ≤ w 5 ∧ ∀ d : Int, 0 ≤ d → d < 4 → 0 ≤ w (12 + 4 * d)
theorem q_first : EQ6 (fFirst By Nb S).2.2.2 S.2.2.2 := by
  unfold fFirst
  dsimp only
  unfold wst
  dsimp only
  refine EQ6_u ?_ (by omega)
  rw [tN_w, pss_w]
  dsimp only
  refine EQ6_u ?_ (by omega)
  rw [tN_w, pss_w, pss_w]
  exact EQ6_r rfl
theorem q_said {i j : Int} (hi : 26 ≤ i) (hj : j ≠ 2 ∧ j ≠ 6 ∧ j ≠ 13 ∧ j ≠ 17 ∧ j ≠ 21 ∧ j ≠ 25) : EQ6 (fSaid By Nb i j S).2.2.2 S.2.2.2 := by
  unfold fSaid
  dsimp only
  split
  · unfold wst
    dsimp only
    refine EQ6_u (EQ6_u (EQ6_u ?_ (by omega)) (by omega)) hj
    unfold dD
    rw [pss_w, tN_w]
    exact EQ6_r rfl
  · unfold dD
    rw [pss_w, tN_w]
    exact EQ6_r rfl
theorem q_lesson (hb : BND S.2.2.2) : EQ6 (fLesson By Nb S).2.2.2 S.2.2.2 := by
  unfold fLesson
  dsimp only
  split
  · rw [nH_w, adv_w]; exact EQ6_r rfl
  · rename_i h1
    have h1 : (nH By Nb 0 (S.2.2.2 2 - 1) (adv By Nb S)).1 = 0 := Classical.not_not.mp h1
    have g := nH_gg h1
    split
    · rw [err_w, nH_w, adv_w]; exact EQ6_r rfl
    · have z := hb.2.2.2.2.2 (tV By Nb (adv By Nb S).2.2.1) (by omega) (by have := hb.1.2.2.1; omega)
      refine EQ6_t (q_said (by omega) (by omega)) ?_
      rw [adv_w, nH_w, adv_w]; exact EQ6_r rfl
theorem q_exam (hb : BND S.2.2.2) : EQ6 (fExam By Nb S).2.2.2 S.2.2.2 := by
  unfold fExam
  split
  · rw [err_w]; exact EQ6_r rfl
  · have := hb.2.2.1
    refine EQ6_t (q_said (by omega) (by omega)) ?_
    rw [adv_w]; exact EQ6_r rfl
theorem q_rule {i : Int} (hi : i = 8 ∨ 146 ≤ i) : EQ6 (fRule By Nb i S).2.2.2 S.2.2.2 := by
  unfold fRule
  dsimp only
  split
  · unfold wst
    dsimp only
    refine EQ6_u (EQ6_u ?_ (by omega)) (by omega)
    rw [tP_w, tN_w]; exact EQ6_r rfl
  · rw [tP_w, tN_w]; exact EQ6_r rfl
theorem q_owner : EQ6 (fOwner By Nb S).2.2.2 S.2.2.2 := by
  unfold fOwner
  refine EQ6_t (q_rule (by omega)) ?_
  rw [adv_w]; exact EQ6_r rfl
theorem q_house (hb : BND S.2.2.2) : EQ6 (fHouse By Nb S).2.2.2 S.2.2.2 := by
  unfold fHouse
  dsimp only
  have := hb.2.2.2.1
  split
  · rw [err_w]; exact EQ6_r rfl
  · have k : EQ6 (fRule By Nb (146 + 2 * S.2.2.2 4) (adv By Nb S)).2.2.2 S.2.2.2 := by
      refine EQ6_t (q_rule (by omega)) ?_
      rw [adv_w]; exact EQ6_r rfl
    split
    · unfold wst
      dsimp only
      exact EQ6_u k (by omega)
    · exact k
theorem q_course (hb : BND S.2.2.2) : EQ6 (fCourse By Nb S).2.2.2 S.2.2.2 := by
  unfold fCourse
  dsimp only
  have := hb.2.2.2.2.1
  split
  · rw [err_w]; exact EQ6_r rfl
  · split
    · unfold wst
      dsimp only
      refine EQ6_u (EQ6_u ?_ (by omega)) (by omega)
      rw [tN_w, pss_w, adv_w]; exact EQ6_r rfl
    · rw [tN_w, pss_w, adv_w]; exact EQ6_r rfl
theorem q_ahead : EQ6 (fAhead By Nb S).2.2.2 S.2.2.2 := by
  unfold fAhead
  dsimp only
  split
  · rename_i h
    have g := tN_gg h
    unfold wst
    dsimp only
    refine EQ6_u ?_ (by have g2 := tN_gg g.1; omega)
    rw [tN_w, tN_w, adv_w]; exact EQ6_r rfl
  · rw [tN_w, tN_w, adv_w]; exact EQ6_r rfl
/-- a door more copies nobody, and nobody copies it -/
theorem t_door (hb : BND S.2.2.2) (H : TW6 S.2.2.2) : TW6 (fDoor By Nb S).2.2.2 := by
  unfold fDoor
  dsimp only
  have b2 := hb.2.1
  split
  · rw [err_w]; exact H
  · rename_i h4
    split
    · unfold wst
      dsimp only
      rw [tN_w, pss_w, tW_w, adv_w]
      generalize hf : S.2.2.2 = f at *
      have e : ∀ A B x : Int, uPd (uPd (uPd (uPd (uPd f (10 + 4 * f 2) A) (10 + 4 * f 2 + 1) B) (10 + 4 * f 2 + 2) 0) (10 + 4 * f 2 + 3) (-1)) 2 (f 2 + 1) x = if x = 2 then f 2 + 1 else if x = 10 + 4 * f 2 + 3 then -1 else if x = 10 + 4 * f 2 + 2 then 0 else if x = 10 + 4 * f 2 + 1 then B else if x = 10 + 4 * f 2 then A else f x := fun A B x => rfl
      refine ⟨⟨fun d d0 d1 d4 hd => ?_, fun d d0 d1 d4 => ?_⟩, ?_⟩
      rotate_left
      · rw [e] at d1
        rw [if_pos rfl] at d1
        rw [e, e, if_pos rfl, if_neg (by omega)]
        by_cases z : d = f 2
        · rw [if_pos (by omega)]; omega
        · rw [if_neg (by omega), if_neg (by omega), if_neg (by omega), if_neg (by omega)]
          have := H.1.2 d d0 (by omega) d4
          omega
      rotate_left
      · rw [e] at d1
        rw [if_pos rfl] at d1
        obtain ⟨q, q0, q1, q2⟩ := (cpI_iff (by rw [e, if_pos rfl]; omega)).mp hd
        rw [e, if_pos rfl] at q1
        rw [e] at q2 ⊢
        rw [if_neg (by omega)] at q2 ⊢
        by_cases z : d = f 2
        · rw [if_pos (by omega)]
        · rw [if_neg (by omega), if_neg (by omega), if_neg (by omega), if_neg (by omega)]
          by_cases y : q = f 2
          · rw [if_pos (by omega)] at q2; omega
          · rw [if_neg (by omega), if_neg (by omega), if_neg (by omega), if_neg (by omega)] at q2
            exact H.1.1 d d0 (by omega) d4 ((cpI_iff (by omega)).mpr ⟨q, q0, by omega, q2⟩)
      · have : ∀ A B : Int, uPd (uPd (uPd (uPd (uPd f (10 + 4 * f 2) A) (10 + 4 * f 2 + 1) B) (10 + 4 * f 2 + 2) 0) (10 + 4 * f 2 + 3) (-1)) 2 (f 2 + 1) 6 = f 6 := fun A B => by
          unfold uPd
          rw [if_neg (by omega), if_neg (by omega), if_neg (by omega), if_neg (by omega), if_neg (by omega)]
        rw [this]; exact H.2
    · rw [tN_w, pss_w, tW_w, adv_w]; exact H
theorem tw1_w : (tw1 By Nb S).2.2.2 = S.2.2.2 := by unfold tw1; split; exact err_w; exact nH_w
theorem tw2_w {a : Int} : (tw2 By Nb a S).2.2.2 = S.2.2.2 := by unfold tw2; split; exact err_w; exact nH_w
theorem tw1_g (h : (tw1 By Nb S).1 = 0) : (nH By Nb 0 (S.2.2.2 2 - 1) S).1 = 0 ∧ S.2.2.2 (13 + 4 * tV By Nb S.2.2.1) = -1 ∧ cpI S.2.2.2 (tV By Nb S.2.2.1) ≠ 1 := by
  unfold tw1 at h
  split at h
  · exact absurd h (err_ne (by omega))
  · rename_i c
    exact ⟨h, Classical.byContradiction fun z => c ⟨h, Or.inl z⟩, fun z => c ⟨h, Or.inr z⟩⟩
theorem tw2_g {a : Int} (h : (tw2 By Nb a S).1 = 0) : (nH By Nb 0 (S.2.2.2 2 - 1) S).1 = 0 ∧ tV By Nb S.2.2.1 ≠ a ∧ S.2.2.2 (13 + 4 * tV By Nb S.2.2.1) = -1 := by
  unfold tw2 at h
  split at h
  · exact absurd h (err_ne (by omega))
  · rename_i c
    exact ⟨h, fun z => c ⟨h, Or.inl z⟩, Classical.byContradiction fun z => c ⟨h, Or.inr z⟩⟩
theorem t_twin (hb : BND S.2.2.2) (H : TW6 S.2.2.2) : TW6 (fTwin By Nb S).2.2.2 := by
  unfold fTwin
  dsimp only
  split
  · rw [tw1_w, adv_w]; exact H
  · rename_i h1
    have h1 := tw1_g (Classical.not_not.mp h1)
    have g1 := nH_gg h1.1
    rw [adv_w] at h1 g1
    split
    · rw [tw2_w, adv_w, tw1_w, adv_w]; exact H
    · rename_i h2
      have h2 := tw2_g (Classical.not_not.mp h2)
      have g2 := nH_gg h2.1
      rw [adv_w, tw1_w, adv_w] at h2 g2
      rw [adv_w]
      unfold wst
      dsimp only
      rw [tw2_w, adv_w, tw1_w, adv_w]
      obtain ⟨-, c1, c2⟩ := h1
      obtain ⟨-, c3, c4⟩ := h2
      obtain ⟨-, -, a0, a1⟩ := g1
      obtain ⟨-, -, b0, b1⟩ := g2
      generalize tV By Nb (adv By Nb S).2.2.1 = a at *
      generalize tV By Nb (adv By Nb (tw1 By Nb (adv By Nb S))).2.2.1 = b at *
      have n4 := hb.1.2.2.1
      refine ⟨?_, ?_⟩
      · have k := cyW_twn (d := a) (o := b) H.1 n4
        rw [cyW_y ⟨by omega, by omega, c3, Or.inr ⟨by omega, by omega, c4⟩, c2⟩] at k
        exact k
      · have : uPd S.2.2.2 (13 + 4 * a) b 6 = S.2.2.2 6 := if_neg (by omega)
        rw [this]; exact H.2
theorem t_next (hb : BND S.2.2.2) (H : TW6 S.2.2.2) : TW6 (fNext By Nb S).2.2.2 := by
  unfold fNext
  split
  · exact t_door hb H
  · split
    · exact TW6_e (q_lesson hb) H
    · split
      · exact TW6_e (q_exam hb) H
      · split
        · exact t_twin hb H
        · split
          · exact TW6_e q_owner H
          · split
            · exact TW6_e (q_house hb) H
            · split
              · exact TW6_e (q_course hb) H
              · split
                · exact TW6_e q_ahead H
                · rw [err_w]; exact H
theorem t_line (hb : BND S.2.2.2) (H : TW6 S.2.2.2) : TW6 (fLine By Nb S).2.2.2 := by
  unfold fLine
  dsimp only
  unfold wst
  dsimp only
  rw [pss_w]
  have k : TW6 (if S.2.2.2 7 = 0 then fFirst By Nb S else fNext By Nb S).2.2.2 := by
    split
    · exact TW6_e q_first H
    · exact t_next hb H
  exact TW6_e (EQ6_u (EQ6_r rfl) (by omega)) k
theorem BND_of (hσ : WT σ) (H : ML By Nb σ S) (z : S.1 = 0) : BND S.2.2.2 := by
  have w := (H.2.2.2 z).2
  have a2 := fr_ty (l := 0) (u := 4) (i := 2) hσ 2 rfl (by decide +kernel) (by decide +kernel)
  have a3 := fr_ty (l := 0) (u := 12) (i := 3) hσ 3 rfl (by decide +kernel) (by decide +kernel)
  have a4 := fr_ty (l := 0) (u := 4) (i := 4) hσ 4 rfl (by decide +kernel) (by decide +kernel)
  have a5 := fr_ty (l := 0) (u := 6) (i := 5) hσ 5 rfl (by decide +kernel) (by decide +kernel)
  have b0 := fr_ty (l := 0) (u := 12) (i := 12) hσ 12 rfl (by decide +kernel) (by decide +kernel)
  have b1 := fr_ty (l := 0) (u := 12) (i := 16) hσ 16 rfl (by decide +kernel) (by decide +kernel)
  have b2 := fr_ty (l := 0) (u := 12) (i := 20) hσ 20 rfl (by decide +kernel) (by decide +kernel)
  have b3 := fr_ty (l := 0) (u := 12) (i := 24) hσ 24 rfl (by decide +kernel) (by decide +kernel)
  have e2 := w 2 (by omega) (by omega)
  have e3 := w 3 (by omega) (by omega)
  have e4 := w 4 (by omega) (by omega)
  have e5 := w 5 (by omega) (by omega)
  have f0 := w 12 (by omega) (by omega)
  have f1 := w 16 (by omega) (by omega)
  have f2 := w 20 (by omega) (by omega)
  have f3 := w 24 (by omega) (by omega)
  refine ⟨(WFw_of hσ H z).1, by omega, by omega, by omega, by omega, fun d d0 d4 => ?_⟩
  rcases (show d = 0 ∨ d = 1 ∨ d = 2 ∨ d = 3 by omega) with h | h | h | h <;> subst h
  · show 0 ≤ S.2.2.2 12; omega
  · show 0 ≤ S.2.2.2 16; omega
  · show 0 ≤ S.2.2.2 20; omega
  · show 0 ≤ S.2.2.2 24; omega
/-- the loop over the lines, and what twins are told so far -/
def LPJ (By : Int → Int) (Nb : Int) (σ : SG) : Prop := ∃ (S : PS) (f : Nat), ML By Nb σ S ∧ fRead By Nb f S = fRead By Nb 1601 S00 ∧ (S.1 = 0 → (f : Int) + S.2.2.2 7 = 1601) ∧ (S.1 = 0 → TW6 S.2.2.2)
theorem TW6_0 : TW6 S00.2.2.2 := by
  have z : S00.2.2.2 2 = 0 := rfl
  exact ⟨⟨fun d d0 d1 _ _ => by omega, fun d d0 d1 _ => by omega⟩, rfl⟩
theorem LPJ_0 {P : Int} {k q : Int32} (hK : TPm By Nb σ ∧ TKm By Nb P σ) (hp : P = 0) (h12 : (σ 159)[12]? = some (Value.int k)) (hk : k.toInt = 0) (h13 : (σ 159)[13]? = some (Value.int q)) (hq : q.toInt = -1) (hc : CLF σ 226) : LPJ By Nb σ := by
  subst hp
  refine ⟨S00, 1601, ⟨hK.1, ?_, ?_, fun _ => ⟨hK.2, fun i i0 i1 => hc i i0 i1⟩⟩, rfl, fun _ => rfl, fun _ => TW6_0⟩
  · rw [ci_at (i := 12) (j := 12) h12 rfl, hk]; rfl
  · rw [ci_at (i := 13) (j := 13) h13 rfl, hq]; rfl
theorem LPJ_s {f : Nat} (H : ML By Nb σ S) (hσ : WT σ) (z : S.1 = 0) (tk : tK By Nb S.2.2.1 ≠ 0) (e1 : fRead By Nb f S = fRead By Nb 1601 S00) (e2 : S.1 = 0 → (f : Int) + S.2.2.2 7 = 1601) (e3 : S.1 = 0 → TW6 S.2.2.2) (G : ML By Nb σ' (gLine By Nb S)) : LPJ By Nb σ' := by
  obtain ⟨hw, l0, l1⟩ := WFw_of hσ H z
  have e4 := e2 z
  obtain ⟨g, rfl⟩ : ∃ g, f = g + 1 := ⟨f - 1, by omega⟩
  refine ⟨fLine By Nb S, g, ML_eqv G (eq_line z hw), ?_, fun _ => ?_, fun _ => t_line (BND_of hσ H z) (e3 z)⟩
  · rw [← e1]
    conv => rhs; unfold fRead
    rw [if_pos ⟨z, tk⟩]
  · have : (fLine By Nb S).2.2.2 7 = S.2.2.2 7 + 1 := by
      unfold fLine; dsimp only [wst, uPd]; exact if_pos rfl
    omega
theorem TW6_x {f : Nat} (e1 : fRead By Nb f S = fRead By Nb 1601 S00) (z : S.1 = 0) (tk : tK By Nb S.2.2.1 = 0) (e3 : S.1 = 0 → TW6 S.2.2.2) : TW6 (fRead By Nb 1601 S00).2.2.2 := by
  rw [← e1, fRead_x (Or.inr tk)]
  exact e3 z
/-- the plan that is there behind a reading -/
def SPL (By : Int → Int) (Nb : Int) (σ : SG) (p p2 : Nat) : Prop := ((fRead By Nb 1601 S00).1 ≠ 0 → (σ 0)[9]? = some (Value.ref p)) ∧ ((fRead By Nb 1601 S00).1 = 0 → (σ 0)[9]? = some (Value.ref p2) ∧ KN σ p2 (fRead By Nb 1601 S00).2.2.2 (act (fRead By Nb 1601 S00).2.2.2))
end TW6
section IMG
variable {σ0 σ σ' σ1 σ2 : SG} {W W' : List (Nat × Nat)} {a p : Nat} {w w' : Int → Int}
/-! images: three plans, each behind its flag -/
def IMX (σ : SG) : Prop := ∀ k : Nat, k < 3 → (σ 70)[k]? = some (Value.ref (72 + 26 * k)) ∧ FXP σ (72 + 26 * k)
theorem PLI_k {k : Nat} (h : k < 3) : PLI (72 + 26 * k) := by
  unfold PLI
  omega
theorem SEP_i {k : Nat} (h : k < 3) (hp : PLA p) : SEP (72 + 26 * k) p ∧ SEP p (72 + 26 * k) := by
  have i := PLI_B (PLI_k h)
  have j := PLA_B hp
  unfold PLA at hp
  exact ⟨⟨i, j, by omega⟩, ⟨j, i, by omega⟩⟩
/-- image(k): the block of image k shows what the plan shows, its flag is up; else nothing -/
def IMC (σ0 σ : SG) (p : Nat) (k : Int) : Prop := (0 ≤ k → k < 3 → ∀ i : Int, 0 ≤ i → i < 226 → ci σ (72 + 26 * k.toNat + lcO i) (lcB i) = ci σ0 (p + lcO i) (lcB i)) ∧ (∀ b q : Nat, 18 ≤ b → b < 150 → b ≠ 71 → (0 ≤ k → k < 3 → b < 72 + 26 * k.toNat ∨ 72 + 26 * k.toNat + 26 ≤ b) → (σ b)[q]? = (σ0 b)[q]?) ∧ BSET σ0 σ 71 k
theorem IMC_no {k : Int} (h : k < 0 ∨ 2 < k) : IMC σ σ p k := ⟨fun _ _ => by omega, fun _ _ _ _ _ _ => rfl, BSET_no SAMr_0 h⟩
theorem IMC_ok {k : Int} {y : Int32} (k0 : 0 ≤ k) (k2 : k < 3) (C : CPD σ0 σ1 a p (fun _ => True)) (ha : a = 72 + 26 * k.toNat) (h1 : (σ2 71)[k.toNat]? = some (Value.int y)) (h2 : ∀ b q, (b ≠ 71 ∨ q ≠ k.toNat) → (σ2 b)[q]? = (σ1 b)[q]?) (hy : y.toInt = 1) : IMC σ0 σ2 p k := by
  subst ha
  refine ⟨fun _ _ i i0 i1 => ?_, fun b q b0 b1 b2 b3 => ?_, ?_⟩
  · rw [← C.1 i i0 i1 trivial]
    have := lc_0 i0 i1
    exact ci_eq (h2 _ _ (Or.inl (by omega)))
  · rw [h2 b q (Or.inl b2)]
    exact C.2 b q b0 b1 (b3 k0 k2)
  · exact BSET_st (σ := σ1) (fun j => by
      unfold ci
      rw [C.2 71 _ (by omega) (by omega) (by omega)]) h1 h2 hy k0
/-- back(k) -/
def BKC (σ0 σ : SG) (p : Nat) (k f : Int) : Prop := (0 ≤ k → k < 3 → f ≠ 0 → (∀ i : Int, 0 ≤ i → i < 226 → ci σ (p + lcO i) (lcB i) = ci σ0 (72 + 26 * k.toNat + lcO i) (lcB i)) ∧ OUT σ0 σ p) ∧ ((k < 0 ∨ 2 < k ∨ f = 0) → ∀ b q : Nat, 18 ≤ b → b < 150 → (σ b)[q]? = (σ0 b)[q]?)
theorem BKC_no {k f : Int} (h : k < 0 ∨ 2 < k ∨ f = 0) : BKC σ σ p k f := ⟨fun _ _ _ => by omega, fun _ _ _ _ _ => rfl⟩
theorem BKC_ok {k f : Int} (k0 : 0 ≤ k) (k2 : k < 3) (hf : f ≠ 0) (C : CPD σ0 σ1 p a (fun _ => True)) (ha : a = 72 + 26 * k.toNat) (h : Fr W σ1 σ2) (hw : OTW W = true) (hp : PLB p) : BKC σ0 σ2 p k f := by
  subst ha
  refine ⟨fun _ _ _ => ⟨fun i i0 i1 => ?_, OUT_fr C.2 h hw⟩, fun z => by omega⟩
  rw [← C.1 i i0 i1 trivial]
  have := lc_0 i0 i1
  unfold PLB at hp
  exact ci_eq (h _ _ (OTW_n hw (by omega) (by omega)))
end IMG
section IMM
variable {σ0 σ σ' : SG} {k i : Int}
/-! images of the model -/
def IMW (σ0 σ : SG) (k : Int) : Prop := (0 ≤ k → k < 3 → CPI σ0 σ k 226) ∧ ((k < 0 ∨ 2 < k) → ∀ y : Int, ci σ 161 y = ci σ0 161 y) ∧ ∀ y : Int, ci σ 160 y = ci σ0 160 y
theorem IMW_no (h : k < 0 ∨ 2 < k) : IMW σ σ k := ⟨fun _ _ => by omega, fun _ _ => rfl, fun _ => rfl⟩
theorem IMW_ok {a n : Nat} (H : CPI σ0 σ k i) (hi : i = 226) (k0 : 0 ≤ k) (k2 : k < 3) (hw : SWd σ0 σ) (h2 : ∀ b q, (b ≠ a ∨ q ≠ n) → (σ' b)[q]? = (σ b)[q]?) (ha : 160 ≠ a ∧ 161 ≠ a) : IMW σ0 σ' k := by
  subst hi
  refine ⟨fun _ _ => ⟨fun x x0 x1 => ?_, fun y y0 y1 => ?_⟩, fun z => by omega, fun y => ?_⟩
  · rw [ci_ne h2 ha.2]; exact H.1 x x0 x1
  · rw [ci_ne h2 ha.2]; exact H.2 y y0 y1
  · rw [ci_ne h2 ha.1]; exact hw y
def BKM (σ0 σ : SG) (k f : Int) : Prop := (0 ≤ k → k < 3 → f ≠ 0 → ∀ i : Int, 0 ≤ i → i < 226 → wf σ i = imf σ0 k i) ∧ ((k < 0 ∨ 2 < k ∨ f = 0) → ∀ i : Int, wf σ i = wf σ0 i)
theorem BKM_no {f : Int} (h : k < 0 ∨ 2 < k ∨ f = 0) : BKM σ σ k f := ⟨fun _ _ _ => by omega, fun _ _ => rfl⟩
theorem BKM_ok {f : Int} (H : CPB σ0 σ k i) (hi : 226 ≤ i) (k0 : 0 ≤ k) (k2 : k < 3) (hf : f ≠ 0) : BKM σ0 σ k f := ⟨fun _ _ _ x x0 x1 => H x x0 (by omega), fun z => by omega⟩
end IMM
end
/-! 32.lg.ful -/
section
section FLL
variable {By : Int → Int} {Nb : Int} {σ σ1 σ2 : SG} {W W' : List (Nat × Nat)} {p p2 : Nat} {f w : Int → Int}
/-- the whole relation: tapes, faults, plans' own rows; flags; images; the plan that is there shows the model's numbers; twins; whose lessons came by teach(); what the images show -/
def FUL (σ : SG) : Prop := RDL σ ∧ FLGs σ ∧ IMX σ ∧ (∀ p : Nat, (σ 0)[9]? = some (Value.ref p) → PLA p ∧ KN σ p (wf σ) (act (wf σ))) ∧ TWN (wf σ) ∧ TGT (wf σ) ∧ ∀ k : Nat, k < 3 → ci σ 71 (k : Int) ≠ 0 → KN σ (72 + 26 * k) (imf σ (k : Int)) (act (imf σ (k : Int))) ∧ TWN (imf σ (k : Int)) ∧ TGT (imf σ (k : Int))
theorem wf_fr (h : Fr W σ σ1) (hw : (!W.contains (36, 0)) = true) : wf σ1 = wf σ := by
  funext i
  exact ci_fr h tgz_160 (by rw [Bool.and_eq_true]; exact ⟨by decide +kernel, hw⟩) i
theorem imf_fr (h : Fr W σ σ1) (hw : (!W.contains (37, 0)) = true) (k : Int) : imf σ1 k = imf σ k := by
  funext i
  exact ci_fr h tgz_161 (by rw [Bool.and_eq_true]; exact ⟨by decide +kernel, hw⟩) _
theorem IMX_fr (H : IMX σ) (h : Fr W σ σ1) (hw : (FXI W && !W.contains (29, 0)) = true) : IMX σ1 := fun k k3 => by
  rw [Bool.and_eq_true] at hw
  obtain ⟨a, b⟩ := H k k3
  exact ⟨(h _ _ (inWa tgz_70 (by rw [Bool.and_eq_true]; exact ⟨by decide +kernel, hw.2⟩))).trans a, FXI_fr (PLI_k k3) b h hw.1⟩
theorem KNb_fr {A : Int → Prop} {k : Nat} (hk : PLB k) (H : KN σ k w A) (h : Fr W σ σ1) (hw : OTW W = true) : KN σ1 k w A := fun i i0 i1 x => by
  rw [← H i i0 i1 x]
  have l := lc_0 i0 i1
  unfold PLB at hk
  exact ci_eq (h _ _ (OTW_n hw (by omega) (by omega)))
theorem p9_fr (h : Fr W σ σ1) (hw : (!W.contains (0, 9)) = true) : (σ1 0)[9]? = (σ 0)[9]? := h _ _ (inW tgz_0 (nq _ hw))
theorem flg_fr (h : Fr W σ σ1) (hw : (!W.contains (30, 0)) = true) (k : Int) : ci σ1 71 k = ci σ 71 k := ci_fr h tgz_71 (by rw [Bool.and_eq_true]; exact ⟨by decide +kernel, hw⟩) k
theorem wf_ty {l u i : Int} (hσ : WT σ) (j : Nat) (e : ((j : Nat) : Int) = i) (hj : (decide ((36 : Nat) < 900) && decide (j < LN 36)) = true) (ht : FT 36 j = (0, l, u)) : l ≤ wf σ i ∧ wf σ i ≤ u := by
  subst e
  obtain ⟨y, h, h1, h2⟩ := WT_peekI hσ tgz_160 ht hj
  have : wf σ (j : Int) = y.toInt := by
    show ci σ 160 (j : Int) = _
    unfold ci; rw [show ((j : Int)).toNat = j by omega, h]
  omega
theorem WFw_w (hσ : WT σ) : WFw (wf σ) := by
  have a0 := wf_ty (l := 0) (u := 4) (i := 0) hσ 0 rfl (by decide +kernel) (by decide +kernel)
  have a2 := wf_ty (l := 0) (u := 4) (i := 2) hσ 2 rfl (by decide +kernel) (by decide +kernel)
  have a3 := wf_ty (l := 0) (u := 12) (i := 3) hσ 3 rfl (by decide +kernel) (by decide +kernel)
  have a4 := wf_ty (l := 0) (u := 4) (i := 4) hσ 4 rfl (by decide +kernel) (by decide +kernel)
  have a5 := wf_ty (l := 0) (u := 6) (i := 5) hσ 5 rfl (by decide +kernel) (by decide +kernel)
  have b0 := wf_ty (l := 0) (u := 12) (i := 12) hσ 12 rfl (by decide +kernel) (by decide +kernel)
  have b1 := wf_ty (l := 0) (u := 12) (i := 16) hσ 16 rfl (by decide +kernel) (by decide +kernel)
  have b2 := wf_ty (l := 0) (u := 12) (i := 20) hσ 20 rfl (by decide +kernel) (by decide +kernel)
  have b3 := wf_ty (l := 0) (u := 12) (i := 24) hσ 24 rfl (by decide +kernel) (by decide +kernel)
  refine ⟨by omega, by omega, by omega, by omega, by omega, by omega, fun d d0 d4 => ?_⟩
  rcases (show d = 0 ∨ d = 1 ∨ d = 2 ∨ d = 3 by omega) with h | h | h | h <;> subst h
  · show wf σ 12 ≤ 12; omega
  · show wf σ 16 ≤ 12; omega
  · show wf σ 20 ≤ 12; omega
  · show wf σ 24 ≤ 12; omega
theorem wf6_rng (hσ : WT σ) : 0 ≤ wf σ 6 ∧ wf σ 6 ≤ 60 := wf_ty (l := 0) (u := 60) (i := 6) hσ 6 rfl (by decide +kernel) (by decide +kernel)
theorem im6_all : ∀ k : Fin 3, FT 37 (226 * k.val + 6) = (0, 0, 60) := by decide +kernel
theorem imf6 {k : Nat} (hσ : WT σ) (h : k < 3) : imf σ (k : Int) 6 ≤ 60 := by
  have t := im6_all ⟨k, h⟩
  simp only at t
  obtain ⟨y, g, h1, h2⟩ := WT_peekI hσ tgz_161 t (by
    have : LN 37 = 678 := by decide +kernel
    rw [this]
    simp
    omega)
  have : imf σ (k : Int) 6 = y.toInt := by
    show ci σ 161 (226 * (k : Int) + 6) = _
    unfold ci; rw [show (226 * (k : Int) + 6).toNat = 226 * k + 6 by omega, g]
  omega
/-- what a call may write that leaves plans, images and the model's numbers alone -/
def FKW (W : List (Nat × Nat)) : Bool := OTW W && !W.contains (0, 9) && !W.contains (36, 0) && !W.contains (37, 0) && !W.contains (38, 0)
theorem OTW_m {q : Nat × Nat} (hw : OTW W = true) (h : 18 ≤ q.1 ∧ q.1 ≤ 31) : W.contains q = false := by
  unfold OTW at hw
  rw [List.all_eq_true] at hw
  rw [Bool.eq_false_iff]
  intro z
  have z2 := hw _ (List.elem_iff.mp z)
  simp only [Bool.or_eq_true, decide_eq_true_eq] at z2
  omega
theorem OTW_x (hw : OTW W = true) : (FXI W && !W.contains (29, 0)) = true ∧ (!W.contains (30, 0)) = true := by
  have k (a b : Nat) (h : 18 ≤ a ∧ a ≤ 31) : (!W.contains (a, b)) = true := by rw [OTW_m (q := (a, b)) hw h]; rfl
  unfold FXI
  rw [k 31 4 (by omega), k 31 5 (by omega), k 31 9 (by omega), k 31 10 (by omega), k 31 12 (by omega), k 31 13 (by omega), k 31 15 (by omega), k 19 0 (by omega), k 20 0 (by omega), k 20 1 (by omega), k 28 0 (by omega), k 29 0 (by omega), k 30 0 (by omega)]
  exact ⟨rfl, rfl⟩
/-- the images, kept over a call that writes no plan, or one plan's block alone -/
theorem IMK_fr (H : ∀ k : Nat, k < 3 → ci σ 71 (k : Int) ≠ 0 → KN σ (72 + 26 * k) (imf σ (k : Int)) (act (imf σ (k : Int))) ∧ TWN (imf σ (k : Int)) ∧ TGT (imf σ (k : Int))) (h : Fr W σ σ1) (hw : OTW W = true) (hw' : (!W.contains (37, 0)) = true) : ∀ k : Nat, k < 3 → ci σ1 71 (k : Int) ≠ 0 → KN σ1 (72 + 26 * k) (imf σ1 (k : Int)) (act (imf σ1 (k : Int))) ∧ TWN (imf σ1 (k : Int)) ∧ TGT (imf σ1 (k : Int)) := fun k k3 z => by
  rw [flg_fr h (OTW_x hw).2] at z
  rw [imf_fr h hw']
  obtain ⟨a, b⟩ := H k k3 z
  exact ⟨KNb_fr (PLI_B (PLI_k k3)) a h hw, b⟩
theorem IMK_out (H : ∀ k : Nat, k < 3 → ci σ 71 (k : Int) ≠ 0 → KN σ (72 + 26 * k) (imf σ (k : Int)) (act (imf σ (k : Int))) ∧ TWN (imf σ (k : Int)) ∧ TGT (imf σ (k : Int))) (h : Fr W σ σ1) (hP : PLA p) (O : OUT σ σ1 p) (hw' : (!W.contains (37, 0)) = true) : ∀ k : Nat, k < 3 → ci σ1 71 (k : Int) ≠ 0 → KN σ1 (72 + 26 * k) (imf σ1 (k : Int)) (act (imf σ1 (k : Int))) ∧ TWN (imf σ1 (k : Int)) ∧ TGT (imf σ1 (k : Int)) := fun k k3 z => by
  have e : ci σ1 71 (k : Int) = ci σ 71 (k : Int) := by
    unfold PLA at hP
    exact ci_eq (O 71 _ (by omega) (by omega) (by omega))
  rw [e] at z
  rw [imf_fr h hw']
  obtain ⟨a, b⟩ := H k k3 z
  exact ⟨KN_out (PLI_B (PLI_k k3)) (PL_sep hP (PLI_k k3)) a O, b⟩
/-- calls that change nothing of all this -/
theorem FUL_kp (H : FUL σ) (h : Fr W σ σ1) (h' : Fr W' σ1 σ2) (kw : FKW W = true) (kw' : FKW W' = true) (R : RDL σ2) : FUL σ2 := by
  obtain ⟨-, F, X, K, T, G, I⟩ := H
  unfold FKW at kw kw'
  simp only [Bool.and_eq_true] at kw kw'
  obtain ⟨⟨⟨⟨a1, a2⟩, a3⟩, a4⟩, a5⟩ := kw
  obtain ⟨⟨⟨⟨b1, b2⟩, b3⟩, b4⟩, b5⟩ := kw'
  have e : wf σ2 = wf σ := (wf_fr h' b3).trans (wf_fr h a3)
  have d (g : Nat) (V : List (Nat × Nat)) (x : (!V.contains (g, 0)) = true) (y : decide (KD g ≠ 0) = true) : (decide (KD g ≠ 0) && !V.contains (g, 0)) = true := by rw [Bool.and_eq_true]; exact ⟨y, x⟩
  refine ⟨R, FLG_fr F h h' (d 30 W (OTW_x a1).2 (by decide +kernel)) (d 38 W a5 (by decide +kernel)) (d 30 W' (OTW_x b1).2 (by decide +kernel)) (d 38 W' b5 (by decide +kernel)), IMX_fr (IMX_fr X h (OTW_x a1).1) h' (OTW_x b1).1, fun p hp => ?_, by rw [e]; exact T, by rw [e]; exact G, IMK_fr (IMK_fr I h a1 a4) h' b1 b4⟩
  rw [p9_fr h' b2, p9_fr h a2] at hp
  rw [e]
  obtain ⟨P, K⟩ := K p hp
  exact ⟨P, KNb_fr (PLA_B P) (KNb_fr (PLA_B P) K h a1) h' b1⟩
/-- calls that change the plan and the model's numbers alike -/
theorem FUL_ch (H : FUL σ) (hσ2 : WT σ2) (hp : (σ 0)[9]? = some (Value.ref p)) (h : Fr W σ σ1) (h' : Fr W' σ1 σ2) (R : RDL σ2) (kw : (FXI W && !W.contains (29, 0) && !W.contains (0, 9) && !W.contains (37, 0) && !W.contains (38, 0) && !W.contains (30, 0)) = true) (kw' : (OTW W' && !W'.contains (0, 9) && !W'.contains (37, 0) && !W'.contains (38, 0)) = true) (K : KN σ1 p f (act f) ∧ OUT σ σ1 p) (hf : ∀ i : Int, 0 ≤ i → i < 226 → wf σ2 i = f i) (tw : TWN f) (tg : TGT f) : FUL σ2 := by
  obtain ⟨-, F, X, K0, -, -, I⟩ := H
  simp only [Bool.and_eq_true] at kw kw'
  obtain ⟨⟨⟨⟨⟨a1, a2⟩, a3⟩, a4⟩, a5⟩, a6⟩ := kw
  obtain ⟨⟨⟨b1, b2⟩, b3⟩, b4⟩ := kw'
  have P := (K0 p hp).1
  have d (g : Nat) (V : List (Nat × Nat)) (x : (!V.contains (g, 0)) = true) (y : decide (KD g ≠ 0) = true) : (decide (KD g ≠ 0) && !V.contains (g, 0)) = true := by rw [Bool.and_eq_true]; exact ⟨y, x⟩
  refine ⟨R, FLG_fr F h h' (d 30 W a6 (by decide +kernel)) (d 38 W a5 (by decide +kernel)) (d 30 W' (OTW_x b1).2 (by decide +kernel)) (d 38 W' b4 (by decide +kernel)), IMX_fr (IMX_fr X h (by rw [Bool.and_eq_true]; exact ⟨a1, a2⟩)) h' (OTW_x b1).1, fun q hq => ?_, ?_, ?_, IMK_fr (IMK_out I h P K.2 a4) h' b1 b3⟩
  · rw [p9_fr h' b2, p9_fr h a3, hp] at hq
    injection hq with hq
    injection hq with hq
    subst hq
    exact ⟨P, KN_cg (KNb_fr (PLA_B P) K.1 h' b1) hf⟩
  · exact TWN_eqv tw (fun i hi => hf i (by omega) (by omega))
  · refine fun j j0 j1 => ?_
    have e6 := hf 6 (by omega) (by omega)
    have e2 := hf 2 (by omega) (by omega)
    have k := tg j j0 (by omega)
    have n6 := wf6_rng hσ2
    rw [hf (166 + j) (by omega) (by omega), e2]; exact k
/-! the changes keep twins, and whose lessons came by teach() -/
def NNw (w : Int → Int) : Prop := 0 ≤ w 6 ∧ w 2 ≤ 4 ∧ ∀ d : Int, 0 ≤ d → d < 4 → 0 ≤ w (12 + 4 * d)
theorem NNw_w (hσ : WT σ) : NNw (wf σ) := by
  have a2 := wf_ty (l := 0) (u := 4) (i := 2) hσ 2 rfl (by decide +kernel) (by decide +kernel)
  have b0 := wf_ty (l := 0) (u := 12) (i := 12) hσ 12 rfl (by decide +kernel) (by decide +kernel)
  have b1 := wf_ty (l := 0) (u := 12) (i := 16) hσ 16 rfl (by decide +kernel) (by decide +kernel)
  have b2 := wf_ty (l := 0) (u := 12) (i := 20) hσ 20 rfl (by decide +kernel) (by decide +kernel)
  have b3 := wf_ty (l := 0) (u := 12) (i := 24) hσ 24 rfl (by decide +kernel) (by decide +kernel)
  refine ⟨(wf6_rng hσ).1, a2.2, fun d d0 d4 => ?_⟩
  rcases (show d = 0 ∨ d = 1 ∨ d = 2 ∨ d = 3 by omega) with h | h | h | h <;> subst h
  · exact b0.1
  · exact b1.1
  · exact b2.1
  · exact b3.1
theorem tcU_e {d k o : Int} (hn : NNw w) (d0 : 0 ≤ d) (d4 : d < 4) (x : Int) : tcU w d k o x = if x = 6 then w 6 + 1 else if x = 166 + w 6 then d else if x = 12 + 4 * d then w (12 + 4 * d) + 1 else if x = 26 + 24 * d + 2 * w (12 + 4 * d) + 1 then o else if x = 26 + 24 * d + 2 * w (12 + 4 * d) then k else w x := rfl
theorem tc_tw {d k o : Int} (H : TWN w) (hn : NNw w) : TWN (tcW w d k o) := by
  unfold tcW
  split
  · rename_i c
    obtain ⟨⟨d0, d1, -⟩, -⟩ := c
    have m0 := hn.2.2 d d0 (by have := hn.2.1; omega)
    have n0 := hn.1
    have d4 : d < 4 := by have := hn.2.1; omega
    refine TWN_eqv H (fun i hi => ?_)
    rw [tcU_e hn d0 d4, if_neg (by omega), if_neg (by omega), if_neg (by omega), if_neg (by omega), if_neg (by omega)]
  · exact H
theorem tc_tg {d k o : Int} (H : TGT w) (hn : NNw w) : TGT (tcW w d k o) := by
  unfold tcW
  split
  · rename_i c
    obtain ⟨⟨d0, d1, -⟩, c2, c3⟩ := c
    have m0 := hn.2.2 d d0 (by have := hn.2.1; omega)
    have n0 := hn.1
    have d4 : d < 4 := by have := hn.2.1; omega
    intro j j0 j1
    rw [tcU_e hn d0 d4, if_pos rfl] at j1
    rw [tcU_e hn d0 d4, tcU_e hn d0 d4, if_neg (by omega)]
    have e2 : (if (2 : Int) = 6 then w 6 + 1 else if (2 : Int) = 166 + w 6 then d else if (2 : Int) = 12 + 4 * d then w (12 + 4 * d) + 1 else if (2 : Int) = 26 + 24 * d + 2 * w (12 + 4 * d) + 1 then o else if (2 : Int) = 26 + 24 * d + 2 * w (12 + 4 * d) then k else w 2) = w 2 := by
      rw [if_neg (by omega), if_neg (by omega), if_neg (by omega), if_neg (by omega), if_neg (by omega)]
    rw [e2]
    by_cases z : j = w 6
    · rw [if_pos (by omega)]; omega
    · have := H j j0 (by omega)
      rw [if_neg (by omega), if_neg (by omega), if_neg (by omega), if_neg (by omega)]
      exact this
  · exact H
theorem ut_tw (H : TWN w) (hn : NNw w) (hg : TGT w) : TWN (utW w) := by
  unfold utW
  split
  · exact H
  · split
    · exact H
    · refine TWN_eqv H (fun i hi => ?_)
      have g := hg (w 6 - 1) (by omega) (by omega)
      have e : utU w i = if i = 12 + 4 * utD w then w (12 + 4 * utD w) - 1 else if i = 6 then w 6 - 1 else w i := rfl
      unfold utD at e
      rw [e, if_neg (by omega), if_neg (by omega)]
theorem ut_tg (H : TGT w) (hn : NNw w) : TGT (utW w) := by
  unfold utW
  split
  · exact H
  · split
    · exact H
    · have g := H (w 6 - 1) (by omega) (by omega)
      have e (i : Int) : utU w i = if i = 12 + 4 * w (166 + (w 6 - 1)) then w (12 + 4 * w (166 + (w 6 - 1))) - 1 else if i = 6 then w 6 - 1 else w i := rfl
      intro j j0 j1
      rw [e, if_neg (by omega), if_pos rfl] at j1
      have := H j j0 (by omega)
      have b := hn.2.1
      rw [e, e, if_neg (by omega), if_neg (by omega), if_neg (by omega), if_neg (by omega)]
      exact this
theorem tr_tw {d t n : Int} (H : TWN w) : TWN (trW w d t n) := by
  unfold trW
  split
  · rename_i c
    refine TWN_eqv H (fun i hi => ?_)
    exact if_neg (by omega)
  · exact H
theorem tr_tg {d t n : Int} (H : TGT w) (hn : NNw w) : TGT (trW w d t n) := by
  unfold trW
  split
  · rename_i c
    have b := hn.2.1
    refine TGT_eqv H (if_neg (by omega)) (if_neg (by omega)) (fun i hi => if_neg (by omega))
  · exact H
theorem ow_tw {m v : Int} (H : TWN w) : TWN (owW w m v) := by
  unfold owW
  split
  · refine TWN_eqv H (fun i hi => ?_)
    unfold uPd
    rw [if_neg (by omega), if_neg (by omega)]
  · exact H
theorem ow_tg {m v : Int} (H : TGT w) : TGT (owW w m v) := by
  unfold owW
  split
  · refine TGT_eqv H ?_ ?_ (fun i hi => ?_) <;>
    · unfold uPd
      rw [if_neg (by omega), if_neg (by omega)]
  · exact H
theorem cy_tg {d o : Int} (H : TGT w) (hn : NNw w) : TGT (cyW w d o) := by
  unfold cyW
  split
  · rename_i c
    have b := hn.2.1
    refine TGT_eqv H (if_neg (by omega)) (if_neg (by omega)) (fun i hi => if_neg (by omega))
  · exact H
theorem TGT_cg (H : TGT w) (e : ∀ i : Int, 0 ≤ i → i < 226 → f i = w i) (n6 : w 6 ≤ 60) : TGT f := fun j j0 j1 => by
  have e6 := e 6 (by omega) (by omega)
  rw [e 2 (by omega) (by omega), e (166 + j) (by omega) (by omega)]
  exact H j j0 (by omega)
/-- image() of both -/
theorem FUL_im {k k' : Int} (H : FUL σ) (hσ : WT σ) (hp : (σ 0)[9]? = some (Value.ref p)) (h : Fr W σ σ1) (h' : Fr W' σ1 σ2) (R : RDL σ2) (kw : (FXI W && !W.contains (29, 0) && !W.contains (0, 9) && !W.contains (36, 0) && !W.contains (37, 0) && !W.contains (38, 0)) = true) (kw' : (OTW W' && !W'.contains (0, 9)) = true) (C : IMC σ σ1 p k) (B : BSET σ1 σ2 162 k') (M : IMW σ1 σ2 k') (e : k' = k) : FUL σ2 := by
  subst e
  obtain ⟨-, F, X, K, T, G, I⟩ := H
  obtain ⟨P, K⟩ := K p hp
  simp only [Bool.and_eq_true] at kw kw'
  obtain ⟨⟨⟨⟨⟨a1, a2⟩, a3⟩, a4⟩, a5⟩, a6⟩ := kw
  obtain ⟨b1, b2⟩ := kw'
  obtain ⟨C1, C2, C3⟩ := C
  have d (g : Nat) (V : List (Nat × Nat)) (x : (!V.contains (g, 0)) = true) (y : decide (KD g ≠ 0) = true) : (decide (KD g ≠ 0) && !V.contains (g, 0)) = true := by rw [Bool.and_eq_true]; exact ⟨y, x⟩
  have w1 : wf σ1 = wf σ := wf_fr h a4
  have w2 : wf σ2 = wf σ := by
    rw [← w1]
    funext i
    exact M.2.2 i
  have n6 := (wf6_rng hσ).2
  have kp : KN σ1 p (wf σ) (act (wf σ)) := fun i i0 i1 x => by
    rw [← K i i0 i1 x]
    have := lc_0 i0 i1
    unfold PLA at P
    exact ci_eq (C2 _ _ (by omega) (by omega) (by omega) (fun _ _ => by omega))
  refine ⟨R, FLG_im F h h' (d 38 W a6 (by decide +kernel)) (d 30 W' (OTW_x b1).2 (by decide +kernel)) C3 B rfl, IMX_fr (IMX_fr X h (by rw [Bool.and_eq_true]; exact ⟨a1, a2⟩)) h' (OTW_x b1).1, fun q hq => ?_, by rw [w2]; exact T, by rw [w2]; exact G, fun j j3 z => ?_⟩
  · rw [p9_fr h' b2, p9_fr h a3, hp] at hq
    injection hq with hq
    injection hq with hq
    subst hq
    rw [w2]
    exact ⟨P, KNb_fr (PLA_B P) kp h' b1⟩
  · rw [flg_fr h' (OTW_x b1).2, C3 (j : Int) (by omega) (by omega)] at z
    by_cases y : (j : Int) = k'
    · have e : ∀ i : Int, 0 ≤ i → i < 226 → imf σ2 (j : Int) i = wf σ i := fun i i0 i1 => by
        have := (M.1 (by omega) (by omega)).1 i i0 i1
        show ci σ2 161 (226 * (j : Int) + i) = _
        rw [y, this, ← w1]
        rfl
      have kj : KN σ1 (72 + 26 * j) (wf σ) (act (wf σ)) := fun i i0 i1 x => by
        have c := C1 (by omega) (by omega) i i0 i1
        rw [show k'.toNat = j by omega] at c
        rw [c]
        exact K i i0 i1 x
      exact ⟨KN_cg (KNb_fr (PLI_B (PLI_k j3)) kj h' b1) e, TWN_eqv T (fun i hi => e i (by omega) (by omega)), TGT_cg G e n6⟩
    · rw [if_neg y] at z
      obtain ⟨a, b, c⟩ := I j j3 z
      have e : ∀ i : Int, 0 ≤ i → i < 226 → imf σ2 (j : Int) i = imf σ (j : Int) i := fun i i0 i1 => by
        rw [← imf_fr h a5 (j : Int)]
        show ci σ2 161 (226 * (j : Int) + i) = ci σ1 161 (226 * (j : Int) + i)
        by_cases x : 0 ≤ k' ∧ k' < 3
        · exact (M.1 x.1 x.2).2 _ (by omega) (by omega)
        · exact M.2.1 (by omega) _
      have kj : KN σ1 (72 + 26 * j) (imf σ (j : Int)) (act (imf σ (j : Int))) := fun i i0 i1 x => by
        rw [← a i i0 i1 x]
        have := lc_0 i0 i1
        exact ci_eq (C2 _ _ (by omega) (by omega) (by omega) (fun _ _ => by omega))
      refine ⟨KN_cg (KNb_fr (PLI_B (PLI_k j3)) kj h' b1) e, TWN_eqv b (fun i hi => e i (by omega) (by omega)), fun x x0 x1 => ?_⟩
      have e6 := e 6 (by omega) (by omega)
      have e2 := e 2 (by omega) (by omega)
      have g := c x x0 (by omega)
      have l : imf σ (j : Int) 6 ≤ 60 := imf6 hσ j3
      rw [e (166 + x) (by omega) (by omega), e2]; exact g
/-- back() of both -/
theorem FUL_bk {k k' : Int} (H : FUL σ) (hσ : WT σ) (hσ2 : WT σ2) (hp : (σ 0)[9]? = some (Value.ref p)) (h : Fr W σ σ1) (h' : Fr W' σ1 σ2) (R : RDL σ2) (kw : (FXI W && !W.contains (29, 0) && !W.contains (0, 9) && !W.contains (37, 0) && !W.contains (38, 0) && !W.contains (30, 0)) = true) (kw' : (OTW W' && !W'.contains (0, 9) && !W'.contains (37, 0) && !W'.contains (38, 0)) = true) (kx : (!W.contains (36, 0)) = true) (C : BKC σ σ1 p k (ci σ 71 k)) (M : BKM σ1 σ2 k' (ci σ1 162 k')) (e : k' = k) : FUL σ2 := by
  subst e
  have F := H.2.1
  have I := H.2.2.2.2.2.2
  obtain ⟨P, K⟩ := H.2.2.2.1 p hp
  have kw0 := kw
  simp only [Bool.and_eq_true] at kw0
  obtain ⟨⟨⟨⟨⟨a1, a2⟩, a3⟩, a4⟩, a5⟩, a6⟩ := kw0
  have w1 : wf σ1 = wf σ := wf_fr h kx
  have f1 : ci σ1 162 k' = ci σ 162 k' := ci_fr h tgz_162 (by rw [Bool.and_eq_true]; exact ⟨by decide +kernel, a5⟩) k'
  rw [f1] at M
  by_cases c : 0 ≤ k' ∧ k' < 3 ∧ ci σ 71 k' ≠ 0
  · obtain ⟨k0, k3, kf⟩ := c
    have fl := F k' k0 k3
    obtain ⟨C1, C2⟩ := C.1 k0 k3 kf
    have m := M.1 k0 k3 (by omega)
    rw [imf_fr h a4] at m
    have ek : ((k'.toNat : Nat) : Int) = k' := by omega
    obtain ⟨x, y, z⟩ := I k'.toNat (by omega) (by rw [ek]; exact kf)
    rw [ek] at x y z
    refine FUL_ch H hσ2 hp h h' R kw kw' ⟨fun i i0 i1 q => ?_, C2⟩ m y z
    rw [C1 i i0 i1]
    exact x i i0 i1 q
  · have s := C.2 (by omega)
    have fl : 0 ≤ k' → k' < 3 → ci σ 71 k' = ci σ 162 k' := fun x y => F k' x y
    have m := M.2 (by omega)
    refine FUL_ch H hσ2 hp h h' R kw kw' ⟨fun i i0 i1 q => ?_, fun b q b0 b1 _ => s b q b0 b1⟩ (fun i _ _ => by rw [m, w1]) H.2.2.2.2.1 H.2.2.2.2.2.1
    rw [← K i i0 i1 q]
    have := lc_0 i0 i1
    unfold PLA at P
    exact ci_eq (s _ _ (by omega) (by omega))
/-- school() of both -/
theorem FUL_sc {r r' : Int} (H : FUL σ) (hp : (σ 0)[9]? = some (Value.ref p)) (hP2 : PLA p2) (hne : p ≠ p2) (h : Fr W σ σ1) (h' : Fr W' σ1 σ2) (R : RDL σ2) (kw : (FXI W && !W.contains (29, 0) && !W.contains (36, 0) && !W.contains (37, 0) && !W.contains (38, 0) && !W.contains (30, 0)) = true) (kw' : (OTW W' && !W'.contains (0, 9) && !W'.contains (37, 0) && !W'.contains (38, 0)) = true) (O : OUT σ σ1 p2) (L : SPL By Nb σ1 p p2) (M : MSC By Nb σ1 σ2 r') (T6 : (fRead By Nb 1601 S00).1 = 0 → TW6 (fRead By Nb 1601 S00).2.2.2) : FUL σ2 := by
  obtain ⟨-, F, X, K, T, G, I⟩ := H
  obtain ⟨P, K⟩ := K p hp
  simp only [Bool.and_eq_true] at kw kw'
  obtain ⟨⟨⟨⟨⟨a1, a2⟩, a3⟩, a4⟩, a5⟩, a6⟩ := kw
  obtain ⟨⟨⟨b1, b2⟩, b3⟩, b4⟩ := kw'
  have d (g : Nat) (V : List (Nat × Nat)) (x : (!V.contains (g, 0)) = true) (y : decide (KD g ≠ 0) = true) : (decide (KD g ≠ 0) && !V.contains (g, 0)) = true := by rw [Bool.and_eq_true]; exact ⟨y, x⟩
  have w1 : wf σ1 = wf σ := wf_fr h a3
  have fl := FLG_fr F h h' (d 30 W a6 (by decide +kernel)) (d 38 W a5 (by decide +kernel)) (d 30 W' (OTW_x b1).2 (by decide +kernel)) (d 38 W' b4 (by decide +kernel))
  have ix := IMX_fr (IMX_fr X h (by rw [Bool.and_eq_true]; exact ⟨a1, a2⟩)) h' (OTW_x b1).1
  have im := IMK_fr (IMK_out I h hP2 O a4) h' b1 b3
  by_cases z : (fRead By Nb 1601 S00).1 = 0
  · obtain ⟨l1, l2⟩ := L.2 z
    have m := (M.2.2.2 z).2
    have t := T6 z
    refine ⟨R, fl, ix, fun q hq => ?_, TWN_eqv t.1 (fun i hi => m i (by omega) (by omega)), TGT_0 ((m 6 (by omega) (by omega)).trans t.2), im⟩
    rw [p9_fr h' b2, l1] at hq
    injection hq with hq
    injection hq with hq
    subst hq
    exact ⟨hP2, KN_cg (KNb_fr (PLA_B hP2) l2 h' b1) m⟩
  · have l1 := L.1 z
    have m := (M.2.2.1 z).2
    have w2 : wf σ2 = wf σ := by
      rw [← w1]
      funext i
      exact m i
    refine ⟨R, fl, ix, fun q hq => ?_, by rw [w2]; exact T, by rw [w2]; exact G, im⟩
    rw [p9_fr h' b2, l1] at hq
    injection hq with hq
    injection hq with hq
    subst hq
    rw [w2]
    have sp : p + 26 ≤ p2 ∨ p2 + 26 ≤ p := by
      unfold PLA at P hP2
      omega
    exact ⟨P, KNb_fr (PLA_B P) (KN_out (PLA_B P) sp K O) h' b1⟩
end FLL
end
/-! 32.lh.look -/
section
/-! what is only asked: door, lesson, exam -/
section LOOK
variable {w w' : Int → Int}
end LOOK
end
/-! 32.li.lrn -/
section
/-! what comes of lessons: by heart, by the shortest rule, by what is nearest -/
section LRN
variable {k k' o o' D D' : Int → Int} {σ σ1 σ2 : SG} {W W' : List (Nat × Nat)}
theorem tn_s {i I : Int} (h : 0 ≤ i) (e : I = i + 1) : I.toNat = i.toNat + 1 := by omega
theorem tn_c {i : Int} (h : 0 ≤ i) : ((i.toNat : Nat) : Int) = i := by omega
/-! deeds of a rule -/
def DOf (m v : Int) : Nat → Int
  | 0 => 0
  | n + 1 => if aN (n : Int) m = v then oN (DOf m v n) (pI (n : Int)) else DOf m v n
theorem DOf_0 {m v x i : Int} (hx : x = 0) (hi : i = 0) : x = DOf m v i.toNat := by subst hx hi; rfl
theorem DOf_y {m v x q X i I : Int} (i0 : 0 ≤ i) (h : x = DOf m v i.toNat) (e : aN i m = v) (hq : q = pI i) (hX : X = oN x q) (hI : I = i + 1) : X = DOf m v I.toNat := by
  rw [tn_s i0 hI]
  show _ = if aN ((i.toNat : Nat) : Int) m = v then oN (DOf m v i.toNat) (pI ((i.toNat : Nat) : Int)) else DOf m v i.toNat
  rw [tn_c i0, if_pos e, ← h, ← hq]; exact hX
theorem DOf_n {m v x X i I : Int} (i0 : 0 ≤ i) (h : x = DOf m v i.toNat) (e : aN i m ≠ v) (hX : X = x) (hI : I = i + 1) : X = DOf m v I.toNat := by
  rw [tn_s i0 hI]
  show _ = if aN ((i.toNat : Nat) : Int) m = v then oN (DOf m v i.toNat) (pI ((i.toNat : Nat) : Int)) else DOf m v i.toNat
  rw [tn_c i0, if_neg e, ← h]; exact hX
theorem DOf_z {m v x q X i I : Int} (i0 : 0 ≤ i) (h : x = DOf m v i.toNat) (e : aN i m ≠ v) (hq : q = 0) (x0 : 0 ≤ x) (hX : X = oN x q) (hI : I = i + 1) : X = DOf m v I.toNat := by
  subst hq
  rw [oN_0 x0] at hX
  exact DOf_n i0 h e hX hI
/-! the row of rules of so many knocks, in order -/
def RLS (K : Nat) : List (Nat × Nat) := ((List.range 5).map fun n => (((List.range K).filter fun m => bcN m == n).map fun m => ((List.range (m + 1)).filter fun v => sbN v m).map fun v => (m, v)).flatten).flatten
def ruM (K i : Int) : Int := (((RLS K.toNat).getD i.toNat (0, 0)).1 : Int)
def ruV (K i : Int) : Int := (((RLS K.toNat).getD i.toNat (0, 0)).2 : Int)
def ruD (K i : Int) : Int := DOf (ruM K i) (ruV K i) K.toNat
theorem RLS_all : ∀ s : Fin 5, ∀ m v : Fin 16, m.val < 2 ^ s.val → v.val ≤ m.val → sbN v.val m.val = true → (RLS (2 ^ s.val))[GN (2 ^ s.val) (bcN m.val) m.val v.val]? = some (m.val, v.val) := by decide +kernel
theorem GN_end : ∀ s : Fin 5, GN (2 ^ s.val) (s.val + 1) 0 0 = 3 ^ s.val := by decide +kernel
/-- how many rules there are -/
def nR (s : Int) : Int := ((3 ^ s.toNat : Nat) : Int)
/-- the first rows show the rules -/
def TB (σ : SG) (a b c : Nat) (K r : Int) : Prop := ∀ i : Int, 0 ≤ i → i < r → ci σ a i = ruM K i ∧ ci σ b i = ruV K i ∧ ci σ c i = ruD K i
theorem TB_0 {a b c : Nat} {K r : Int} (h : r = 0) : TB σ a b c K r := fun i i0 i1 => by omega
theorem TB_eq {a b c : Nat} {K r R : Int} (H : TB σ a b c K r) (h : R = r) : TB σ a b c K R := by subst h; exact H
theorem TB_ne {a b c x n : Nat} {K r : Int} (H : TB σ a b c K r) (h : ∀ b' i', (b' ≠ x ∨ i' ≠ n) → (σ1 b')[i']? = (σ b')[i']?) (ha : a ≠ x) (hb : b ≠ x) (hc : c ≠ x) : TB σ1 a b c K r := fun i i0 i1 => by
  rw [ci_ne h ha, ci_ne h hb, ci_ne h hc]; exact H i i0 i1
/-- a place in the order of rules is a power of two's number of knocks -/
def P2 (K : Int) : Prop := ∃ s : Nat, s ≤ 4 ∧ K = ((2 ^ s : Nat) : Int)
theorem P2_pI {s : Int} (h0 : 0 ≤ s) (h1 : s ≤ 4) : P2 (pI s) := ⟨s.toNat, by omega, rfl⟩
theorem RV_ent {K n m v r : Int} (hK : P2 K) (h : RV K n m v r) (hv : v ≤ m) (hs : sbI v m = 1) : ruM K r = m ∧ ruV K r = v := by
  obtain ⟨s, hs4, eK⟩ := hK
  obtain ⟨K', N, M, V, e1, e2, e3, e5, h1, h2, h3, hb, h4, e4⟩ := h
  have eq : K' = 2 ^ s := by
    have : (K' : Int) = ((2 ^ s : Nat) : Int) := by rw [← e1]; exact eK
    exact Int.ofNat.inj this
  subst e3 e5
  unfold sbI at hs
  rw [Int.toNat_natCast, Int.toNat_natCast] at hs
  have hsb : sbN V M = true := by
    by_cases z : sbN V M = true
    · exact z
    · rw [if_neg z] at hs; omega
  have g := RLS_all ⟨s, by omega⟩ ⟨M, by omega⟩ ⟨V, by omega⟩ (by show M < 2 ^ s; rw [← eq]; exact h3) (by show V ≤ M; omega) hsb
  have g : (RLS (2 ^ s))[GN (2 ^ s) (bcN M) M V]? = some (M, V) := g
  have er : r.toNat = GN (2 ^ s) (bcN M) M V := by rw [e4, Int.toNat_natCast, hb, eq]
  have eKn : K.toNat = 2 ^ s := by rw [eK, Int.toNat_natCast]
  unfold ruM ruV
  rw [eKn, er, List.getD_eq_getElem?_getD, g]
  exact ⟨rfl, rfl⟩
/-- a rule more -/
theorem TB_put {σ3 : SG} {a b c : Nat} {K n m v r R J1 J2 J3 : Int} {y1 y2 y3 : Int32} (H : TB σ a b c K r) (hK : P2 K) (h : RV K n m v r) (hv : v ≤ m) (hs : sbI v m = 1)
    (p1 : (σ1 a)[J1.toNat]? = some (Value.int y1)) (f1 : ∀ b' i', (b' ≠ a ∨ i' ≠ J1.toNat) → (σ1 b')[i']? = (σ b')[i']?)
    (p2 : (σ2 b)[J2.toNat]? = some (Value.int y2)) (f2 : ∀ b' i', (b' ≠ b ∨ i' ≠ J2.toNat) → (σ2 b')[i']? = (σ1 b')[i']?)
    (p3 : (σ3 c)[J3.toNat]? = some (Value.int y3)) (f3 : ∀ b' i', (b' ≠ c ∨ i' ≠ J3.toNat) → (σ3 b')[i']? = (σ2 b')[i']?)
    (ab : a ≠ b) (ac : a ≠ c) (bc : b ≠ c) (r0 : 0 ≤ r) (j1 : J1 = r) (j2 : J2 = r) (j3 : J3 = r) (w1 : y1.toInt = m) (w2 : y2.toInt = v) (w3 : y3.toInt = DOf m v K.toNat) (hR : R = r + 1) : TB σ3 a b c K R := fun i i0 i1 => by
  have e := RV_ent hK h hv hs
  subst j1 j2 j3
  have ca : ci σ3 a i = if i = J3 then y1.toInt else ci σ a i := by
    rw [ci_ne f3 ac, ci_ne f2 ab, ci_st p1 f1 r0 i i0]
  have cb : ci σ3 b i = if i = J3 then y2.toInt else ci σ b i := by
    rw [ci_ne f3 bc, ci_st p2 f2 r0 i i0, ci_ne f1 (Ne.symm ab)]
  have cc : ci σ3 c i = if i = J3 then y3.toInt else ci σ c i := by
    rw [ci_st p3 f3 r0 i i0, ci_ne f2 (Ne.symm bc), ci_ne f1 (Ne.symm ac)]
  rw [ca, cb, cc]
  by_cases z : i = J3
  · rw [if_pos z, if_pos z, if_pos z, z]
    unfold ruD
    rw [e.1, e.2]
    exact ⟨w1, w2, w3⟩
  · rw [if_neg z, if_neg z, if_neg z]
    exact H i i0 (by omega)
theorem RN_end {K n m r s : Int} (h0 : 0 ≤ s) (h1 : s ≤ 4) (eK : K = pI s) (h : RN K n m r) (hn : n = s + 1) (hm : m = 0) : r = nR s := by
  obtain ⟨K', N, M, e1, e2, e3, g1, g2, g3, e4⟩ := h
  have k := GN_end ⟨s.toNat, by omega⟩
  have k : GN (2 ^ s.toNat) (s.toNat + 1) 0 0 = 3 ^ s.toNat := k
  have eq : K' = 2 ^ s.toNat := by
    have : (K' : Int) = ((2 ^ s.toNat : Nat) : Int) := by rw [← e1]; exact eK
    exact Int.ofNat.inj this
  have eN : N = s.toNat + 1 := by omega
  have eM : M = 0 := by omega
  rw [e4, eq, eN, eM, k]
  rfl
/-! what lessons say, as bits -/
/-! a rule does as the lessons say: by bits, and one by one -/
def ASP (d : Int) (k o : Int → Int) (n : Int) : Prop := ∀ i : Int, 0 ≤ i → i < n → btI d (k i) = o i
theorem btI_tb {A I : Int} (h : 0 ≤ A) : btI A I = if A.toNat.testBit I.toNat = true then 1 else 0 := by
  rw [Nat.testBit_eq_decide_div_mod_eq]
  unfold btI pI
  have e : A / ((2 ^ I.toNat : Nat) : Int) = ((A.toNat / 2 ^ I.toNat : Nat) : Int) := by
    rw [Int.natCast_ediv, tn_c h]
  rw [e]
  by_cases z : A.toNat / 2 ^ I.toNat % 2 = 1
  · rw [if_pos (by rw [decide_eq_true_eq]; exact z)]; omega
  · rw [if_neg (by rw [decide_eq_true_eq]; exact z)]; omega
theorem sub_tb {O D : Int} (h : 0 ≤ O) (h2 : 0 ≤ D) : O - aN O D = 0 ↔ ∀ j : Nat, O.toNat.testBit j = true → D.toNat.testBit j = true := by
  have l : O.toNat &&& D.toNat ≤ O.toNat := Nat.and_le_left
  unfold aN
  constructor
  · intro e j hj
    have q : O.toNat &&& D.toNat = O.toNat := by omega
    rw [← q, Nat.testBit_and, Bool.and_eq_true] at hj
    exact hj.2
  · intro e
    have q : O.toNat &&& D.toNat = O.toNat := by
      apply Nat.eq_of_testBit_eq
      intro j
      rw [Nat.testBit_and]
      cases z : O.toNat.testBit j with
      | false => rfl
      | true => rw [e j z]; rfl
    omega
/-! the first that is so -/
noncomputable def FIR (P : Int → Prop) : Nat → Int
  | 0 => -1
  | n + 1 => if FIR P n ≠ -1 then FIR P n else @ite _ (P (n : Int)) (Classical.propDecidable _) (n : Int) (-1)
/-! the latest lesson of a knock -/
def LAT (k : Int → Int) (x : Int) : Nat → Int
  | 0 => -1
  | n + 1 => if k (n : Int) = x then (n : Int) else LAT k x n
/-! the nearest lesson -/
def NEf (k : Int → Int) (x f : Int) : Int := if f = -1 then 5 else bcI (xN (k f) x)
def NER (k : Int → Int) (x : Int) : Nat → Int
  | 0 => -1
  | n + 1 => if bcI (xN (k (n : Int)) x) < NEf k x (NER k x n) then (n : Int) else NER k x n
/-! what a way brings -/
def BYL (way : Int) (k : Int → Int) (n x : Int) : Int := if way = 0 then LAT k x n.toNat else NER k x n.toNat
def LBT (way : Int) (k o : Int → Int) (n : Int) : Nat → Int
  | 0 => 0
  | x + 1 => if BYL way k n (x : Int) ≠ -1 ∧ o (BYL way k n (x : Int)) = 1 then oN (LBT way k o n x) (pI (x : Int)) else LBT way k o n x
noncomputable def LRN (way K z n : Int) (k o D : Int → Int) : Int := if way = 1 then (if FIR (fun i => ASP (D i) k o n) z.toNat = -1 then 0 else D (FIR (fun i => ASP (D i) k o n) z.toNat)) else LBT way k o n K.toNat
/-! by a world's numbers -/
def lkW (w : Int → Int) (d i : Int) : Int := w (26 + 24 * d + 2 * i)
def loW (w : Int → Int) (d i : Int) : Int := w (26 + 24 * d + 2 * i + 1)
end LRN
end
/-! 32.lj.lea -/
section
/-! the rules of the class stand for the signs that are there -/
section LEA
variable {k k' o o' D D' : Int → Int} {σ0 σ σ' σ1 σ2 : SG} {W W' : List (Nat × Nat)} {w : Int → Int} {By : Int → Int} {Nb : Int}
def RULx (σ : SG) (s : Int) : Prop := ci σ 4 0 = pI s ∧ ci σ 4 1 = nR s ∧ TB σ 5 6 7 (pI s) (nR s)
def RSAM (σ0 σ : SG) : Prop := ∀ b q : Nat, 4 ≤ b → b ≤ 7 → (σ b)[q]? = (σ0 b)[q]?
def RUW (W : List (Nat × Nat)) : Bool := W.all (fun q => decide (q.1 < 4) || decide (7 < q.1))
theorem rul_tags : ∀ b : Fin 8, 4 ≤ b.val → TG b.val = b.val := by decide +kernel
theorem RSAM_0 : RSAM σ σ := fun _ _ _ _ => rfl
theorem RSAM_tr (H : RSAM σ0 σ) (H' : RSAM σ σ1) : RSAM σ0 σ1 := fun b q h1 h2 => (H' b q h1 h2).trans (H b q h1 h2)
theorem RSAM_fr (h : Fr W σ σ1) (hw : RUW W = true) : RSAM σ σ1 := fun b q h1 h2 => by
  refine h b q ?_
  rw [rul_tags ⟨b, by omega⟩ h1]
  unfold RUW at hw
  rw [List.all_eq_true] at hw
  rw [Bool.eq_false_iff]
  intro z
  have z2 := hw _ (List.elem_iff.mp z)
  simp only [Bool.or_eq_true, decide_eq_true_eq] at z2
  omega
theorem RSAM_ne {x n : Nat} (H : RSAM σ0 σ) (h : ∀ b' i', (b' ≠ x ∨ i' ≠ n) → (σ1 b')[i']? = (σ b')[i']?) (hx : x < 4 ∨ 7 < x) : RSAM σ0 σ1 := fun b q h1 h2 => (h b q (Or.inl (by omega))).trans (H b q h1 h2)
theorem RULx_sam {s : Int} (H : RULx σ s) (h : RSAM σ σ1) : RULx σ1 s := by
  obtain ⟨a, b, c⟩ := H
  refine ⟨(ci_eq (h 4 _ (by omega) (by omega))).trans a, (ci_eq (h 4 _ (by omega) (by omega))).trans b, fun i i0 i1 => ?_⟩
  rw [ci_eq (h 5 _ (by omega) (by omega)), ci_eq (h 6 _ (by omega) (by omega)), ci_eq (h 7 _ (by omega) (by omega))]
  exact c i i0 i1
theorem RULx_eq {s s' : Int} (H : RULx σ s) (e : s' = s) : RULx σ s' := by subst e; exact H
def RUT (σ : SG) : Prop := 0 < wf σ 7 → RULx σ (wf σ 0)
/-- doors are there with a school alone -/
def QX (w : Int → Int) : Prop := 0 < w 2 → 0 < w 7
def QXS (σ : SG) : Prop := QX (wf σ) ∧ ∀ k : Nat, k < 3 → ci σ 71 (k : Int) ≠ 0 → QX (imf σ (k : Int))
def LEA (σ : SG) : Prop := FUL σ ∧ RUT σ ∧ QXS σ
theorem QX_e {f : Int → Int} (H : QX w) (h2 : f 2 = w 2) (h7 : f 7 = w 7) : QX f := fun z => by have := H (by omega); omega
def QXW (W : List (Nat × Nat)) : Bool := !W.contains (37, 0) && !W.contains (30, 0)
theorem QXI_fr (H : ∀ k : Nat, k < 3 → ci σ 71 (k : Int) ≠ 0 → QX (imf σ (k : Int))) (h : Fr W σ σ1) (hw : QXW W = true) : ∀ k : Nat, k < 3 → ci σ1 71 (k : Int) ≠ 0 → QX (imf σ1 (k : Int)) := fun k k3 z => by
  unfold QXW at hw
  rw [Bool.and_eq_true] at hw
  rw [flg_fr h hw.2] at z
  rw [imf_fr h hw.1]; exact H k k3 z
theorem QXS_ch (H : QXS σ) (h : Fr W σ σ1) (h' : Fr W' σ1 σ2) (hw : QXW W = true) (hw' : QXW W' = true) (e2 : wf σ2 2 = wf σ 2) (e7 : wf σ2 7 = wf σ 7) : QXS σ2 := ⟨QX_e H.1 e2 e7, QXI_fr (QXI_fr H.2 h hw) h' hw'⟩
theorem QXS_fr (H : QXS σ) (h : Fr W σ σ1) (h' : Fr W' σ1 σ2) (hw : (QXW W && !W.contains (36, 0)) = true) (hw' : (QXW W' && !W'.contains (36, 0)) = true) : QXS σ2 := by
  rw [Bool.and_eq_true] at hw hw'
  have e : wf σ2 = wf σ := (wf_fr h' hw'.2).trans (wf_fr h hw.2)
  exact QXS_ch H h h' hw.1 hw'.1 (by rw [e]) (by rw [e])
theorem QXS_w {f : Int → Int} (H : QXS σ) (h : Fr W σ σ1) (h' : Fr W' σ1 σ2) (hw : QXW W = true) (hw' : QXW W' = true) (hf : ∀ i : Int, 0 ≤ i → i < 226 → wf σ2 i = f i) (e2 : f 2 = wf σ 2) (e7 : f 7 = wf σ 7) : QXS σ2 := QXS_ch H h h' hw hw' ((hf 2 (by omega) (by omega)).trans e2) ((hf 7 (by omega) (by omega)).trans e7)
theorem fRead_7 : ∀ (f : Nat) (S : PS), S.2.2.2 7 ≤ (fRead By Nb f S).2.2.2 7 ∧ ((fRead By Nb f S).2.2.2 7 = S.2.2.2 7 → fRead By Nb f S = S) := by
  intro f
  induction f with
  | zero => intro S; exact ⟨Int.le_refl _, fun _ => rfl⟩
  | succ f ih =>
    intro S
    have e : (fLine By Nb S).2.2.2 7 = S.2.2.2 7 + 1 := by
      unfold fLine; dsimp only [wst, uPd]; exact if_pos rfl
    show S.2.2.2 7 ≤ (if S.1 = 0 ∧ tK By Nb S.2.2.1 ≠ 0 then fRead By Nb f (fLine By Nb S) else S).2.2.2 7 ∧ ((if S.1 = 0 ∧ tK By Nb S.2.2.1 ≠ 0 then fRead By Nb f (fLine By Nb S) else S).2.2.2 7 = S.2.2.2 7 → (if S.1 = 0 ∧ tK By Nb S.2.2.1 ≠ 0 then fRead By Nb f (fLine By Nb S) else S) = S)
    split
    · have k := (ih (fLine By Nb S)).1
      exact ⟨by omega, fun z => by omega⟩
    · exact ⟨Int.le_refl _, fun _ => rfl⟩
theorem fRead_q : QX (fRead By Nb 1601 S00).2.2.2 := fun z => by
  have k := fRead_7 (By := By) (Nb := Nb) 1601 S00
  have z7 : S00.2.2.2 7 = 0 := rfl
  have z2 : S00.2.2.2 2 = 0 := rfl
  rcases Int.lt_or_le 0 ((fRead By Nb 1601 S00).2.2.2 7) with y | y
  · exact y
  · rw [k.2 (by omega)] at z; omega
theorem QXS_sc {r' : Int} (H : QXS σ) (h : Fr W σ σ1) (h' : Fr W' σ1 σ2) (hw : (QXW W && !W.contains (36, 0)) = true) (hw' : QXW W' = true) (M : MSC By Nb σ1 σ2 r') : QXS σ2 := by
  rw [Bool.and_eq_true] at hw
  refine ⟨?_, QXI_fr (QXI_fr H.2 h hw.1) h' hw'⟩
  by_cases z : (fRead By Nb 1601 S00).1 = 0
  · have m := (M.2.2.2 z).2
    exact QX_e fRead_q (m 2 (by omega) (by omega)) (m 7 (by omega) (by omega))
  · have w2 : wf σ2 = wf σ := by
      rw [← wf_fr h hw.2]
      funext i
      exact (M.2.2.1 z).2 i
    rw [w2]; exact H.1
theorem QXS_im {p : Nat} {k k' : Int} (H : QXS σ) (h : Fr W σ σ1) (h' : Fr W' σ1 σ2) (hw : (!W.contains (36, 0) && !W.contains (37, 0)) = true) (hw' : (!W'.contains (30, 0)) = true) (C : IMC σ σ1 p k) (M : IMW σ1 σ2 k') (e : k' = k) : QXS σ2 := by
  subst e
  rw [Bool.and_eq_true] at hw
  have w1 : wf σ1 = wf σ := wf_fr h hw.1
  have w2 : wf σ2 = wf σ := by
    rw [← w1]
    funext i
    exact M.2.2 i
  refine ⟨by rw [w2]; exact H.1, fun j j3 z => ?_⟩
  rw [flg_fr h' hw', C.2.2 (j : Int) (by omega) (by omega)] at z
  by_cases y : (j : Int) = k'
  · have e : ∀ i : Int, 0 ≤ i → i < 226 → imf σ2 (j : Int) i = wf σ i := fun i i0 i1 => by
      have := (M.1 (by omega) (by omega)).1 i i0 i1
      show ci σ2 161 (226 * (j : Int) + i) = _
      rw [y, this, ← w1]
      rfl
    exact QX_e H.1 (e 2 (by omega) (by omega)) (e 7 (by omega) (by omega))
  · rw [if_neg y] at z
    have e : ∀ i : Int, 0 ≤ i → i < 226 → imf σ2 (j : Int) i = imf σ (j : Int) i := fun i i0 i1 => by
      rw [← imf_fr h hw.2 (j : Int)]
      show ci σ2 161 (226 * (j : Int) + i) = ci σ1 161 (226 * (j : Int) + i)
      by_cases x : 0 ≤ k' ∧ k' < 3
      · exact (M.1 x.1 x.2).2 _ (by omega) (by omega)
      · exact M.2.1 (by omega) _
    exact QX_e (H.2 j j3 z) (e 2 (by omega) (by omega)) (e 7 (by omega) (by omega))
theorem RUT_kp (H : RUT σ) (h : Fr W σ σ1) (h' : Fr W' σ1 σ2) (hw : RUW W = true) (hw' : RUW W' = true) (e0 : wf σ2 0 = wf σ 0) (e7 : wf σ2 7 = wf σ 7) : RUT σ2 := fun z => by
  rw [e0]
  exact RULx_sam (RULx_sam (H (by omega)) (RSAM_fr h hw)) (RSAM_fr h' hw')
theorem RUT_fr (H : RUT σ) (h : Fr W σ σ1) (h' : Fr W' σ1 σ2) (hw : (RUW W && !W.contains (36, 0)) = true) (hw' : (RUW W' && !W'.contains (36, 0)) = true) : RUT σ2 := by
  rw [Bool.and_eq_true] at hw hw'
  have e : wf σ2 = wf σ := (wf_fr h' hw'.2).trans (wf_fr h hw.2)
  exact RUT_kp H h h' hw.1 hw'.1 (by rw [e]) (by rw [e])
theorem RUT_ch {f : Int → Int} (H : RUT σ) (h : Fr W σ σ1) (h' : Fr W' σ1 σ2) (hw : (RUW W && !W.contains (36, 0)) = true) (hw' : RUW W' = true) (hf : ∀ i : Int, 0 ≤ i → i < 226 → wf σ2 i = f i) (e0 : f 0 = wf σ 0) (e7 : f 7 = wf σ 7) : RUT σ2 := by
  rw [Bool.and_eq_true] at hw
  exact RUT_kp H h h' hw.1 hw' ((hf 0 (by omega) (by omega)).trans e0) ((hf 7 (by omega) (by omega)).trans e7)
/-- a plan that is there shows its signs -/
theorem FUL_sg {q : Nat} (F : FUL σ2) (hq : (σ2 0)[9]? = some (Value.ref q)) : PLA q ∧ ci σ2 q 1 = wf σ2 0 := by
  obtain ⟨-, -, -, K, -⟩ := F
  obtain ⟨P, K⟩ := K q hq
  have e := K 0 (by omega) (by omega) (Or.inl (by omega))
  rw [lcO_lt (by decide) (by decide), Nat.add_zero] at e
  exact ⟨P, e⟩
theorem RUT_new {q : Nat} (F : FUL σ2) (hq : (σ1 0)[9]? = some (Value.ref q)) (h' : Fr W' σ1 σ2) (kw : (OTW W' && !W'.contains (0, 9) && RUW W') = true) (R : RULx σ1 (ci σ1 q 1)) : RUT σ2 := fun _ => by
  rw [Bool.and_eq_true, Bool.and_eq_true] at kw
  obtain ⟨P, e⟩ := FUL_sg F ((p9_fr h' kw.1.2).trans hq)
  have hb : 18 ≤ q ∧ q < 150 := by unfold PLA at P; omega
  have e2 : ci σ2 q 1 = ci σ1 q 1 := ci_eq (h' _ _ (OTW_n kw.1.1 hb.1 hb.2))
  rw [← e, e2]
  exact RULx_sam R (RSAM_fr h' kw.2)
def RSC (By : Int → Int) (Nb : Int) (σ0 σ : SG) (p2 : Nat) : Prop := ((fRead By Nb 1601 S00).1 = 0 → RULx σ (ci σ p2 1)) ∧ ((fRead By Nb 1601 S00).1 ≠ 0 → RSAM σ0 σ)
theorem RUT_sch {p p2 : Nat} {r' : Int} (H : RUT σ) (F : FUL σ2) (h : Fr W σ σ1) (h' : Fr W' σ1 σ2) (kw : (!W.contains (36, 0)) = true) (kw' : (OTW W' && !W'.contains (0, 9) && RUW W') = true) (L : SPL By Nb σ1 p p2) (M : MSC By Nb σ1 σ2 r') (R : RSC By Nb σ σ1 p2) : RUT σ2 := by
  by_cases z : (fRead By Nb 1601 S00).1 = 0
  · exact RUT_new F (L.2 z).1 h' kw' (R.1 z)
  · have w2 : wf σ2 = wf σ := by
      rw [← wf_fr h kw]
      funext i
      exact (M.2.2.1 z).2 i
    rw [Bool.and_eq_true, Bool.and_eq_true] at kw'
    intro y
    rw [w2] at y ⊢
    exact RULx_sam (RULx_sam (H y) (R.2 z)) (RSAM_fr h' kw'.2)
def RBK (σ0 σ : SG) (p : Nat) (k f : Int) : Prop := (0 ≤ k → k < 3 → f ≠ 0 → RULx σ (ci σ p 1)) ∧ ((k < 0 ∨ 2 < k ∨ f = 0) → RSAM σ0 σ)
theorem RUT_bk {p : Nat} {k k' f f' : Int} (H : RUT σ) (F : FUL σ2) (hp : (σ 0)[9]? = some (Value.ref p)) (h : Fr W σ σ1) (h' : Fr W' σ1 σ2) (kw : (!W.contains (36, 0) && !W.contains (0, 9)) = true) (kw' : (OTW W' && !W'.contains (0, 9) && RUW W') = true) (M : BKM σ1 σ2 k' f') (R : RBK σ σ1 p k f) (e : k' = k) (ef : f' = f) : RUT σ2 := by
  rw [Bool.and_eq_true] at kw
  by_cases z : 0 ≤ k ∧ k < 3 ∧ f ≠ 0
  · exact RUT_new F ((p9_fr h kw.2).trans hp) h' kw' (R.1 z.1 z.2.1 z.2.2)
  · have z' : k < 0 ∨ 2 < k ∨ f = 0 := by omega
    have w2 : wf σ2 = wf σ := by
      rw [← wf_fr h kw.1]
      funext i
      exact M.2 (by omega) i
    rw [Bool.and_eq_true, Bool.and_eq_true] at kw'
    intro y
    rw [w2] at y ⊢
    exact RULx_sam (RULx_sam (H y) (R.2 z')) (RSAM_fr h' kw'.2)
theorem flg_eq {j : Int} (H : FUL σ) (h : Fr W σ σ1) (hw : (!W.contains (38, 0)) = true) (j0 : 0 ≤ j) (j3 : j < 3) : ci σ1 162 j = ci σ 71 j := by
  obtain ⟨-, F, -⟩ := H
  rw [F j j0 j3]
  exact ci_fr h tgz_162 (by rw [Bool.and_eq_true]; exact ⟨by decide +kernel, hw⟩) j
theorem RUT_bk2 {p : Nat} {k k' : Int} (H : RUT σ) (F0 : FUL σ) (F : FUL σ2) (hp : (σ 0)[9]? = some (Value.ref p)) (h : Fr W σ σ1) (h' : Fr W' σ1 σ2) (kw : (!W.contains (36, 0) && !W.contains (0, 9)) = true) (kx : (!W.contains (38, 0)) = true) (kw' : (OTW W' && !W'.contains (0, 9) && RUW W') = true) (M : BKM σ1 σ2 k' (ci σ1 162 k')) (R : RBK σ σ1 p k (ci σ 71 k)) (e : k' = k) : RUT σ2 := by
  subst e
  by_cases z : 0 ≤ k' ∧ k' < 3
  · exact RUT_bk H F hp h h' kw kw' M R rfl (flg_eq F0 h kx z.1 z.2)
  · have M' : BKM σ1 σ2 k' (ci σ 71 k') := ⟨fun a b _ => absurd ⟨a, b⟩ z, fun _ => M.2 (by omega)⟩
    exact RUT_bk H F hp h h' kw kw' M' R rfl rfl
theorem QXS_bk {k' : Int} (H : QXS σ) (F0 : FUL σ) (h : Fr W σ σ1) (h' : Fr W' σ1 σ2) (hw : (QXW W && !W.contains (36, 0) && !W.contains (38, 0)) = true) (hw' : QXW W' = true) (M : BKM σ1 σ2 k' (ci σ1 162 k')) : QXS σ2 := by
  rw [Bool.and_eq_true, Bool.and_eq_true] at hw
  refine ⟨?_, QXI_fr (QXI_fr H.2 h hw.1.1) h' hw'⟩
  have w1 : wf σ1 = wf σ := wf_fr h hw.1.2
  by_cases z : 0 ≤ k' ∧ k' < 3 ∧ ci σ1 162 k' ≠ 0
  · have m := M.1 z.1 z.2.1 z.2.2
    have f := flg_eq F0 h hw.2 z.1 z.2.1
    have ek : ((k'.toNat : Nat) : Int) = k' := by omega
    have q := H.2 k'.toNat (by omega) (by rw [ek, ← f]; exact z.2.2)
    have w37 := hw.1.1
    unfold QXW at w37
    rw [Bool.and_eq_true] at w37
    rw [ek, ← imf_fr h w37.1] at q
    exact QX_e q (m 2 (by omega) (by omega)) (m 7 (by omega) (by omega))
  · have m := M.2 (by omega)
    exact QX_e H.1 ((m 2).trans (by rw [w1])) ((m 7).trans (by rw [w1]))
/-! lessons of a plan -/
/-! lessons as their rows are typed -/
/-- a row more of the learner's -/
def ADQ (σ0 σ : SG) (m x y : Int) : Prop := ∀ i : Int, 0 ≤ i → ci σ 169 i = (if i = m then x else ci σ0 169 i) ∧ ci σ 170 i = (if i = m then y else ci σ0 170 i)
theorem DOf_e {m v x i n X : Int} (h : x = DOf m v i.toNat) (e : n = i) (hX : X = x) : X = DOf m v n.toNat := by subst e hX; exact h
end LEA
end
/-! 32.lk.ask -/
section
/-! what is asked of doors, and what changes leave alone -/
section ASK
variable {w w' : Int → Int}
theorem up7 {i v : Int} (h : i ≠ 0 ∧ i ≠ 2 ∧ i ≠ 7) (f : Int → Int) : uPd f i v 0 = f 0 ∧ uPd f i v 2 = f 2 ∧ uPd f i v 7 = f 7 := ⟨if_neg (by omega), if_neg (by omega), if_neg (by omega)⟩
theorem tc7 {d k o : Int} (hn : NNw w) : tcW w d k o 0 = w 0 ∧ tcW w d k o 2 = w 2 ∧ tcW w d k o 7 = w 7 := by
  unfold tcW
  split
  · rename_i h
    obtain ⟨⟨d0, d2, -⟩, -, -⟩ := h
    have n2 := hn.2.1
    have m0 := hn.2.2 d d0 (by omega)
    have n6 := hn.1
    unfold tcU
    have a := up7 (i := 26 + 24 * d + 2 * w (12 + 4 * d)) (v := k) (by omega) w
    have b := up7 (i := 26 + 24 * d + 2 * w (12 + 4 * d) + 1) (v := o) (by omega) (uPd w (26 + 24 * d + 2 * w (12 + 4 * d)) k)
    have c := up7 (i := 12 + 4 * d) (v := w (12 + 4 * d) + 1) (by omega) (uPd (uPd w (26 + 24 * d + 2 * w (12 + 4 * d)) k) (26 + 24 * d + 2 * w (12 + 4 * d) + 1) o)
    have e := up7 (i := 166 + w 6) (v := d) (by omega) (uPd (uPd (uPd w (26 + 24 * d + 2 * w (12 + 4 * d)) k) (26 + 24 * d + 2 * w (12 + 4 * d) + 1) o) (12 + 4 * d) (w (12 + 4 * d) + 1))
    have f := up7 (i := 6) (v := w 6 + 1) (by omega) (uPd (uPd (uPd (uPd w (26 + 24 * d + 2 * w (12 + 4 * d)) k) (26 + 24 * d + 2 * w (12 + 4 * d) + 1) o) (12 + 4 * d) (w (12 + 4 * d) + 1)) (166 + w 6) d)
    refine ⟨?_, ?_, ?_⟩ <;> omega
  · exact ⟨rfl, rfl, rfl⟩
theorem ut7 (hn : NNw w) (hg : TGT w) : utW w 0 = w 0 ∧ utW w 2 = w 2 ∧ utW w 7 = w 7 := by
  unfold utW
  split
  · exact ⟨rfl, rfl, rfl⟩
  · split
    · exact ⟨rfl, rfl, rfl⟩
    · have g := hg (w 6 - 1) (by omega) (by omega)
      unfold utU
      have z : 0 ≤ utD w := g.1
      have a := up7 (i := 6) (v := w 6 - 1) (by omega) w
      have b := up7 (i := 12 + 4 * utD w) (v := w (12 + 4 * utD w) - 1) (by omega) (uPd w 6 (w 6 - 1))
      refine ⟨?_, ?_, ?_⟩ <;> omega
theorem tr7 {d t n : Int} : trW w d t n 0 = w 0 ∧ trW w d t n 2 = w 2 ∧ trW w d t n 7 = w 7 := by
  unfold trW
  split
  · rename_i h
    exact up7 (i := 10 + 4 * d + t) (v := n) (by omega) w
  · exact ⟨rfl, rfl, rfl⟩
theorem ow7 {m v : Int} : owW w m v 0 = w 0 ∧ owW w m v 2 = w 2 ∧ owW w m v 7 = w 7 := by
  unfold owW
  split
  · have a := up7 (i := 8) (v := m) (by omega) w
    have b := up7 (i := 9) (v := v) (by omega) (uPd w 8 m)
    refine ⟨?_, ?_, ?_⟩ <;> omega
  · exact ⟨rfl, rfl, rfl⟩
theorem cy7 {d o : Int} : cyW w d o 0 = w 0 ∧ cyW w d o 2 = w 2 ∧ cyW w d o 7 = w 7 := by
  unfold cyW
  split
  · rename_i h
    exact up7 (i := 13 + 4 * d) (v := o) (by have := h.1; omega) w
  · exact ⟨rfl, rfl, rfl⟩
end ASK
end
/-! 32.lm.one -/
section
/-! what is asked of one door and one knock, of a rule -/
section ONE
variable {w w' : Int → Int} {k : Int → Int}
end ONE
end
/-! 32.ln.rul -/
section
/-! rules by what they do, and by what lessons say -/
section RUL
variable {w w' : Int → Int} {k o D : Int → Int} {σ : SG}
noncomputable def CNT (P : Int → Prop) : Nat → Int
  | 0 => 0
  | n + 1 => CNT P n + @ite _ (P (n : Int)) (Classical.propDecidable _) 1 0
/-- the rules that do as a door's own lessons say -/
def ruP (w : Int → Int) (d : Int) (i : Int) : Prop := ASP (ruD (pI (w 0)) i) (lkW w d) (loW w d) (w (12 + 4 * d))
noncomputable def fr1 (w : Int → Int) (d : Int) : Int := FIR (ruP w d) (nR (w 0)).toNat
end RUL
end
/-! 32.lu.hrs -/
section
/-! courses: what a school that is read tells of them; nobody is at work between two searches -/
section HRS
variable {By : Int → Int} {Nb : Int} {S : PS} {σ0 σ σ1 σ2 : SG} {W W' : List (Nat × Nat)} {w w' f : Int → Int}
def CX (w : Int → Int) : Prop := ∀ c : Int, 0 ≤ c → c < 6 → (c < w 5 → 1 ≤ w (154 + 2 * c)) ∧ 0 ≤ w (155 + 2 * c) ∧ w (155 + 2 * c) < pI c ∧ (w 5 ≤ c → w (155 + 2 * c) = 0)
def EQX (w' w : Int → Int) : Prop := ∀ i : Int, (i = 5 ∨ (154 ≤ i ∧ i < 166)) → w' i = w i
theorem EQX_r : EQX w w := fun _ _ => rfl
theorem EQX_u {j v : Int} (h : EQX w' w) (hj : j ≠ 5 ∧ (j < 154 ∨ 165 < j)) : EQX (uPd w' j v) w := fun i hi => by
  have : uPd w' j v i = w' i := if_neg (by omega)
  rw [this]; exact h i hi
theorem CX_e (H : CX w) (h : EQX f w) : CX f := fun c c0 c6 => by
  rw [h 5 (Or.inl rfl), h (154 + 2 * c) (Or.inr ⟨by omega, by omega⟩), h (155 + 2 * c) (Or.inr ⟨by omega, by omega⟩)]
  exact H c c0 c6
def CXS (σ : SG) : Prop := CX (wf σ) ∧ ∀ k : Nat, k < 3 → ci σ 71 (k : Int) ≠ 0 → CX (imf σ (k : Int))
theorem CXI_fr (H : ∀ k : Nat, k < 3 → ci σ 71 (k : Int) ≠ 0 → CX (imf σ (k : Int))) (h : Fr W σ σ1) (hw : QXW W = true) : ∀ k : Nat, k < 3 → ci σ1 71 (k : Int) ≠ 0 → CX (imf σ1 (k : Int)) := fun k k3 z => by
  unfold QXW at hw
  rw [Bool.and_eq_true] at hw
  rw [flg_fr h hw.2] at z
  rw [imf_fr h hw.1]; exact H k k3 z
theorem CXS_ch (H : CXS σ) (h : Fr W σ σ1) (h' : Fr W' σ1 σ2) (hw : QXW W = true) (hw' : QXW W' = true) (e : EQX (wf σ2) (wf σ)) : CXS σ2 := ⟨CX_e H.1 e, CXI_fr (CXI_fr H.2 h hw) h' hw'⟩
theorem CXS_fr (H : CXS σ) (h : Fr W σ σ1) (h' : Fr W' σ1 σ2) (hw : (QXW W && !W.contains (36, 0)) = true) (hw' : (QXW W' && !W'.contains (36, 0)) = true) : CXS σ2 := by
  rw [Bool.and_eq_true] at hw hw'
  have e : wf σ2 = wf σ := (wf_fr h' hw'.2).trans (wf_fr h hw.2)
  exact CXS_ch H h h' hw.1 hw'.1 (fun i _ => by rw [e])
theorem CXS_w (H : CXS σ) (h : Fr W σ σ1) (h' : Fr W' σ1 σ2) (hw : QXW W = true) (hw' : QXW W' = true) (hf : ∀ i : Int, 0 ≤ i → i < 226 → wf σ2 i = f i) (e : EQX f (wf σ)) : CXS σ2 := CXS_ch H h h' hw hw' (fun i hi => (hf i (by omega) (by omega)).trans (e i hi))
/-! what calls change -/
theorem tcX {d k o : Int} (hn : NNw w) : EQX (tcW w d k o) w := by
  unfold tcW
  split
  · rename_i h
    obtain ⟨⟨d0, d2, -⟩, m12, n60⟩ := h
    have n2 := hn.2.1
    have m0 := hn.2.2 d d0 (by omega)
    have n6 := hn.1
    unfold tcU
    exact EQX_u (EQX_u (EQX_u (EQX_u (EQX_u EQX_r (by omega)) (by omega)) (by omega)) (by omega)) (by omega)
  · exact EQX_r
theorem utX (hn : NNw w) (hg : TGT w) : EQX (utW w) w := by
  unfold utW
  split
  · exact EQX_r
  · split
    · exact EQX_r
    · have g := hg (w 6 - 1) (by omega) (by omega)
      have n2 := hn.2.1
      unfold utU
      have z : 0 ≤ utD w := g.1
      have y : utD w < w 2 := g.2
      exact EQX_u (EQX_u EQX_r (by omega)) (by omega)
theorem trX {d t n : Int} (hn : NNw w) : EQX (trW w d t n) w := by
  unfold trW
  split
  · rename_i h
    have n2 := hn.2.1
    exact EQX_u EQX_r (by omega)
  · exact EQX_r
theorem owX {m v : Int} : EQX (owW w m v) w := by
  unfold owW
  split
  · exact EQX_u (EQX_u EQX_r (by omega)) (by omega)
  · exact EQX_r
theorem cyX {d o : Int} (hn : NNw w) : EQX (cyW w d o) w := by
  unfold cyW
  split
  · rename_i h
    have n2 := hn.2.1
    exact EQX_u EQX_r (by have := h.1; have := h.2.1; omega)
  · exact EQX_r
/-! what a reading tells -/
def PB (w : Int → Int) : Prop := 0 ≤ w 2 ∧ w 2 ≤ 4 ∧ 0 ≤ w 3 ∧ w 3 ≤ 12 ∧ 0 ≤ w 4 ∧ w 4 ≤ 4 ∧ 0 ≤ w 5 ∧ w 5 ≤ 6 ∧ ∀ d : Int, 0 ≤ d → d < 4 → 0 ≤ w (12 + 4 * d) ∧ w (12 + 4 * d) ≤ 12
def PCX (w : Int → Int) : Prop := PB w ∧ CX w
theorem PCX_u {j v : Int} (H : PCX w) (hj : j ≠ 2 ∧ j ≠ 3 ∧ j ≠ 4 ∧ j ≠ 5 ∧ j ≠ 12 ∧ j ≠ 16 ∧ j ≠ 20 ∧ j ≠ 24 ∧ (j < 154 ∨ 165 < j)) : PCX (uPd w j v) := by
  have e : ∀ i : Int, i ≠ j → uPd w j v i = w i := fun i hi => if_neg hi
  obtain ⟨⟨a1, a2, a3, a4, a5, a6, a7, a8, ad⟩, c⟩ := H
  refine ⟨?_, CX_e c (EQX_u EQX_r (by omega))⟩
  unfold PB
  rw [e 2 (by omega), e 3 (by omega), e 4 (by omega), e 5 (by omega)]
  exact ⟨a1, a2, a3, a4, a5, a6, a7, a8, fun d d0 d4 => by rw [e (12 + 4 * d) (by omega)]; exact ad d d0 d4⟩
theorem PCX_s {j v : Int} (H : PCX w) (hj : 0 ≤ v ∧ ((j = 2 ∧ v ≤ 4) ∨ (j = 3 ∧ v ≤ 12) ∨ (j = 4 ∧ v ≤ 4) ∨ ((j = 12 ∨ j = 16 ∨ j = 20 ∨ j = 24) ∧ v ≤ 12))) : PCX (uPd w j v) := by
  have k : ∀ i : Int, uPd w j v i = if i = j then v else w i := fun _ => rfl
  obtain ⟨⟨a1, a2, a3, a4, a5, a6, a7, a8, ad⟩, c⟩ := H
  refine ⟨⟨?_, ?_, ?_, ?_, ?_, ?_, ?_, ?_, fun d d0 d4 => ?_⟩, CX_e c (EQX_u EQX_r (by omega))⟩
  · rw [k]; split <;> omega
  · rw [k]; split <;> omega
  · rw [k]; split <;> omega
  · rw [k]; split <;> omega
  · rw [k]; split <;> omega
  · rw [k]; split <;> omega
  · rw [k]; split <;> omega
  · rw [k]; split <;> omega
  · have a := ad d d0 d4
    rw [k]
    by_cases z : 12 + 4 * d = j
    · rw [if_pos z]; omega
    · rw [if_neg z]; exact a
theorem c_first (H : PCX S.2.2.2) : PCX (fFirst By Nb S).2.2.2 := by
  unfold fFirst
  dsimp only
  unfold wst
  dsimp only
  refine PCX_u ?_ (by omega)
  rw [tN_w, pss_w]
  dsimp only
  refine PCX_u ?_ (by omega)
  rw [tN_w, pss_w, pss_w]
  exact H
theorem c_said {i j : Int} (H : PCX S.2.2.2) (hi : 26 ≤ i ∧ i ≤ 144) (hj : j = 3 ∨ j = 12 ∨ j = 16 ∨ j = 20 ∨ j = 24) (h0 : 0 ≤ S.2.2.2 j) (h12 : S.2.2.2 j < 12) : PCX (fSaid By Nb i j S).2.2.2 := by
  unfold fSaid
  dsimp only
  have e : (dD By Nb (tN By Nb 0 (pI (S.2.2.2 0) - 1) S)).2.2.2 = S.2.2.2 := by
    unfold dD
    rw [pss_w, tN_w]
  split
  · unfold wst
    dsimp only
    rw [e]
    exact PCX_s (PCX_u (PCX_u H (by omega)) (by omega)) (by omega)
  · rw [e]; exact H
theorem c_lesson (H : PCX S.2.2.2) : PCX (fLesson By Nb S).2.2.2 := by
  unfold fLesson
  dsimp only
  split
  · rw [nH_w, adv_w]; exact H
  · rename_i h1
    have h1 : (nH By Nb 0 (S.2.2.2 2 - 1) (adv By Nb S)).1 = 0 := Classical.not_not.mp h1
    have g := nH_gg h1
    split
    · rw [err_w, nH_w, adv_w]; exact H
    · rename_i h2
      have b2 := H.1.2.1
      have z := H.1.2.2.2.2.2.2.2.2 (tV By Nb (adv By Nb S).2.2.1) (by omega) (by omega)
      have e : (adv By Nb (nH By Nb 0 (S.2.2.2 2 - 1) (adv By Nb S))).2.2.2 = S.2.2.2 := by rw [adv_w, nH_w, adv_w]
      exact c_said (by rw [e]; exact H) (by omega) (by omega) (by rw [e]; omega) (by rw [e]; omega)
theorem c_exam (H : PCX S.2.2.2) : PCX (fExam By Nb S).2.2.2 := by
  unfold fExam
  split
  · rw [err_w]; exact H
  · have b := H.1.2.2.1
    exact c_said (by rw [adv_w]; exact H) (by omega) (by omega) (by rw [adv_w]; omega) (by rw [adv_w]; omega)
theorem c_rule {i : Int} (H : PCX S.2.2.2) (hi : i = 8 ∨ (146 ≤ i ∧ i ≤ 152)) : PCX (fRule By Nb i S).2.2.2 := by
  unfold fRule
  dsimp only
  split
  · unfold wst
    dsimp only
    refine PCX_u (PCX_u ?_ (by omega)) (by omega)
    rw [tP_w, tN_w]; exact H
  · rw [tP_w, tN_w]; exact H
theorem c_owner (H : PCX S.2.2.2) : PCX (fOwner By Nb S).2.2.2 := by
  unfold fOwner
  exact c_rule (by rw [adv_w]; exact H) (by omega)
theorem c_house (H : PCX S.2.2.2) : PCX (fHouse By Nb S).2.2.2 := by
  unfold fHouse
  dsimp only
  have b := H.1.2.2.2.2.1
  split
  · rw [err_w]; exact H
  · have k : PCX (fRule By Nb (146 + 2 * S.2.2.2 4) (adv By Nb S)).2.2.2 := c_rule (by rw [adv_w]; exact H) (by omega)
    split
    · unfold wst
      dsimp only
      exact PCX_s k (by omega)
    · exact k
theorem c_door (H : PCX S.2.2.2) : PCX (fDoor By Nb S).2.2.2 := by
  unfold fDoor
  dsimp only
  have b2 := H.1.1
  split
  · rw [err_w]; exact H
  · rename_i h4
    split
    · unfold wst
      dsimp only
      rw [tN_w, pss_w, tW_w, adv_w]
      exact PCX_s (PCX_u (PCX_s (PCX_u (PCX_u H (by omega)) (by omega)) (by omega)) (by omega)) (by omega)
    · rw [tN_w, pss_w, tW_w, adv_w]; exact H
theorem c_twin (H : PCX S.2.2.2) : PCX (fTwin By Nb S).2.2.2 := by
  unfold fTwin
  dsimp only
  split
  · rw [tw1_w, adv_w]; exact H
  · rename_i h1
    have h1 := tw1_g (Classical.not_not.mp h1)
    have g1 := nH_gg h1.1
    rw [adv_w] at g1
    have b2 := H.1.2.1
    split
    · rw [tw2_w, adv_w, tw1_w, adv_w]; exact H
    · rw [adv_w]
      unfold wst
      dsimp only
      rw [tw2_w, adv_w, tw1_w, adv_w]
      exact PCX_u H (by omega)
theorem CX_crs {v : Int} (H : PCX w) (h6 : w 5 < 6) (v1 : 1 ≤ v) : PCX (uPd (uPd w (154 + 2 * w 5) v) 5 (w 5 + 1)) := by
  obtain ⟨⟨a1, a2, a3, a4, a5, a6, a7, a8, ad⟩, c⟩ := H
  have k : ∀ i : Int, uPd (uPd w (154 + 2 * w 5) v) 5 (w 5 + 1) i = if i = 5 then w 5 + 1 else if i = 154 + 2 * w 5 then v else w i := fun _ => rfl
  have e : ∀ i : Int, i ≠ 5 → i ≠ 154 + 2 * w 5 → uPd (uPd w (154 + 2 * w 5) v) 5 (w 5 + 1) i = w i := fun i h1 h2 => by rw [k, if_neg h1, if_neg h2]
  have e5 : uPd (uPd w (154 + 2 * w 5) v) 5 (w 5 + 1) 5 = w 5 + 1 := by rw [k, if_pos rfl]
  refine ⟨?_, fun x x0 x6 => ?_⟩
  · unfold PB
    rw [e 2 (by omega) (by omega), e 3 (by omega) (by omega), e 4 (by omega) (by omega), e5]
    exact ⟨a1, a2, a3, a4, a5, a6, by omega, by omega, fun d d0 d4 => by rw [e (12 + 4 * d) (by omega) (by omega)]; exact ad d d0 d4⟩
  · obtain ⟨c1, c2, c3, c4⟩ := c x x0 x6
    rw [e5, e (155 + 2 * x) (by omega) (by omega)]
    refine ⟨fun h => ?_, c2, c3, fun h => c4 (by omega)⟩
    rw [k, if_neg (by omega)]
    split
    · exact v1
    · exact c1 (by omega)
theorem c_course (H : PCX S.2.2.2) : PCX (fCourse By Nb S).2.2.2 := by
  unfold fCourse
  dsimp only
  split
  · rw [err_w]; exact H
  · split
    · rename_i h
      have g := tN_gg h
      unfold wst
      dsimp only
      rw [tN_w, pss_w, adv_w]
      exact CX_crs H (by omega) (by omega)
    · rw [tN_w, pss_w, adv_w]; exact H
theorem orP_lt2 {x a b : Int} (x0 : 0 ≤ x) (hx : x < pI b) (a0 : 0 ≤ a) (ab : a < b) : 0 ≤ orP x a ∧ orP x a < pI b := by
  unfold pI at hx ⊢
  unfold orP
  have h1 : x.toNat < 2 ^ b.toNat := by omega
  have h2 : 2 ^ a.toNat < 2 ^ b.toNat := Nat.pow_lt_pow_right (by decide) (by omega)
  exact ⟨Int.natCast_nonneg _, Int.ofNat_lt.mpr (Nat.or_lt_two_pow h1 h2)⟩
theorem CX_ahd {a b : Int} (H : PCX w) (a0 : 0 ≤ a) (ab : a < b) (bn : b < w 5) : PCX (uPd w (155 + 2 * b) (orP (w (155 + 2 * b)) a)) := by
  obtain ⟨⟨a1, a2, a3, a4, a5, a6, a7, a8, ad⟩, c⟩ := H
  have e : ∀ i : Int, i ≠ 155 + 2 * b → uPd w (155 + 2 * b) (orP (w (155 + 2 * b)) a) i = w i := fun i h => if_neg h
  refine ⟨?_, fun x x0 x6 => ?_⟩
  · unfold PB
    rw [e 2 (by omega), e 3 (by omega), e 4 (by omega), e 5 (by omega)]
    exact ⟨a1, a2, a3, a4, a5, a6, a7, a8, fun d d0 d4 => by rw [e (12 + 4 * d) (by omega)]; exact ad d d0 d4⟩
  · obtain ⟨c1, c2, c3, c4⟩ := c x x0 x6
    rw [e 5 (by omega), e (154 + 2 * x) (by omega)]
    by_cases z : x = b
    · subst z
      have q := orP_lt2 c2 c3 a0 ab
      rw [show uPd w (155 + 2 * x) (orP (w (155 + 2 * x)) a) (155 + 2 * x) = orP (w (155 + 2 * x)) a from if_pos rfl]
      exact ⟨c1, q.1, q.2, fun h => by omega⟩
    · rw [e (155 + 2 * x) (by omega)]; exact ⟨c1, c2, c3, c4⟩
theorem c_ahead (H : PCX S.2.2.2) : PCX (fAhead By Nb S).2.2.2 := by
  unfold fAhead
  dsimp only
  split
  · rename_i h
    have g := tN_gg h
    have g2 := tN_gg g.1
    unfold wst
    dsimp only
    rw [tN_w, tN_w, adv_w]
    exact CX_ahd H (by omega) (by omega) (by omega)
  · rw [tN_w, tN_w, adv_w]; exact H
theorem c_next (H : PCX S.2.2.2) : PCX (fNext By Nb S).2.2.2 := by
  unfold fNext
  split
  · exact c_door H
  · split
    · exact c_lesson H
    · split
      · exact c_exam H
      · split
        · exact c_twin H
        · split
          · exact c_owner H
          · split
            · exact c_house H
            · split
              · exact c_course H
              · split
                · exact c_ahead H
                · rw [err_w]; exact H
theorem c_line (H : PCX S.2.2.2) : PCX (fLine By Nb S).2.2.2 := by
  unfold fLine
  dsimp only
  unfold wst
  dsimp only
  rw [pss_w]
  have k : PCX (if S.2.2.2 7 = 0 then fFirst By Nb S else fNext By Nb S).2.2.2 := by
    split
    · exact c_first H
    · exact c_next H
  exact PCX_u k (by omega)
theorem c_read : ∀ (f : Nat) (S : PS), PCX S.2.2.2 → PCX (fRead By Nb f S).2.2.2 := by
  intro f
  induction f with
  | zero => intro S H; exact H
  | succ f ih =>
    intro S H
    show PCX (if S.1 = 0 ∧ tK By Nb S.2.2.1 ≠ 0 then fRead By Nb f (fLine By Nb S) else S).2.2.2
    split
    · exact ih _ (c_line H)
    · exact H
theorem CX_0 (h : ∀ i : Int, 0 ≤ i → i < 226 → w i = 0) : CX w := fun c c0 c6 => by
  have p := pI_pos c
  rw [h 5 (by omega) (by omega), h (154 + 2 * c) (by omega) (by omega), h (155 + 2 * c) (by omega) (by omega)]
  exact ⟨fun z => by omega, Int.le_refl 0, by omega, fun _ => rfl⟩
theorem fRead_cx : CX (fRead By Nb 1601 S00).2.2.2 := by
  refine (c_read 1601 S00 ⟨?_, CX_0 (fun _ _ _ => rfl)⟩).2
  refine ⟨Int.le_refl 0, ?_, Int.le_refl 0, ?_, Int.le_refl 0, ?_, Int.le_refl 0, ?_, fun d _ _ => ⟨Int.le_refl 0, ?_⟩⟩
  · show (0 : Int) ≤ 4; omega
  · show (0 : Int) ≤ 12; omega
  · show (0 : Int) ≤ 4; omega
  · show (0 : Int) ≤ 6; omega
  · show (0 : Int) ≤ 12; omega
theorem CXS_sc {r' : Int} (H : CXS σ) (h : Fr W σ σ1) (h' : Fr W' σ1 σ2) (hw : (QXW W && !W.contains (36, 0)) = true) (hw' : QXW W' = true) (M : MSC By Nb σ1 σ2 r') : CXS σ2 := by
  rw [Bool.and_eq_true] at hw
  refine ⟨?_, CXI_fr (CXI_fr H.2 h hw.1) h' hw'⟩
  by_cases z : (fRead By Nb 1601 S00).1 = 0
  · have m := (M.2.2.2 z).2
    exact CX_e fRead_cx (fun i hi => m i (by omega) (by omega))
  · have w2 : wf σ2 = wf σ := by
      rw [← wf_fr h hw.2]
      funext i
      exact (M.2.2.1 z).2 i
    rw [w2]; exact H.1
theorem CXS_im {p : Nat} {k k' : Int} (H : CXS σ) (h : Fr W σ σ1) (h' : Fr W' σ1 σ2) (hw : (!W.contains (36, 0) && !W.contains (37, 0)) = true) (hw' : (!W'.contains (30, 0)) = true) (C : IMC σ σ1 p k) (M : IMW σ1 σ2 k') (e : k' = k) : CXS σ2 := by
  subst e
  rw [Bool.and_eq_true] at hw
  have w1 : wf σ1 = wf σ := wf_fr h hw.1
  have w2 : wf σ2 = wf σ := by
    rw [← w1]
    funext i
    exact M.2.2 i
  refine ⟨by rw [w2]; exact H.1, fun j j3 z => ?_⟩
  rw [flg_fr h' hw', C.2.2 (j : Int) (by omega) (by omega)] at z
  by_cases y : (j : Int) = k'
  · have e : ∀ i : Int, 0 ≤ i → i < 226 → imf σ2 (j : Int) i = wf σ i := fun i i0 i1 => by
      have := (M.1 (by omega) (by omega)).1 i i0 i1
      show ci σ2 161 (226 * (j : Int) + i) = _
      rw [y, this, ← w1]
      rfl
    exact CX_e H.1 (fun i hi => e i (by omega) (by omega))
  · rw [if_neg y] at z
    have e : ∀ i : Int, 0 ≤ i → i < 226 → imf σ2 (j : Int) i = imf σ (j : Int) i := fun i i0 i1 => by
      rw [← imf_fr h hw.2 (j : Int)]
      show ci σ2 161 (226 * (j : Int) + i) = ci σ1 161 (226 * (j : Int) + i)
      by_cases x : 0 ≤ k' ∧ k' < 3
      · exact (M.1 x.1 x.2).2 _ (by omega) (by omega)
      · exact M.2.1 (by omega) _
    exact CX_e (H.2 j j3 z) (fun i hi => e i (by omega) (by omega))
theorem CXS_bk {k' : Int} (H : CXS σ) (F0 : FUL σ) (h : Fr W σ σ1) (h' : Fr W' σ1 σ2) (hw : (QXW W && !W.contains (36, 0) && !W.contains (38, 0)) = true) (hw' : QXW W' = true) (M : BKM σ1 σ2 k' (ci σ1 162 k')) : CXS σ2 := by
  rw [Bool.and_eq_true, Bool.and_eq_true] at hw
  refine ⟨?_, CXI_fr (CXI_fr H.2 h hw.1.1) h' hw'⟩
  have w1 : wf σ1 = wf σ := wf_fr h hw.1.2
  by_cases z : 0 ≤ k' ∧ k' < 3 ∧ ci σ1 162 k' ≠ 0
  · have m := M.1 z.1 z.2.1 z.2.2
    have f := flg_eq F0 h hw.2 z.1 z.2.1
    have ek : ((k'.toNat : Nat) : Int) = k' := by omega
    have q := H.2 k'.toNat (by omega) (by rw [ek, ← f]; exact z.2.2)
    have w37 := hw.1.1
    unfold QXW at w37
    rw [Bool.and_eq_true] at w37
    rw [ek, ← imf_fr h w37.1] at q
    exact CX_e q (fun i hi => m i (by omega) (by omega))
  · have m := M.2 (by omega)
    exact CX_e H.1 (fun i _ => (m i).trans (by rw [w1]))
/-! nobody is at work -/
def BSZ (σ : SG) : Prop := ∀ x : Nat, x < 54 → ci σ 15 (x : Int) = 0
def BSS (σ0 σ : SG) : Prop := ∀ x : Nat, x < 54 → ci σ 15 (x : Int) = ci σ0 15 (x : Int)
theorem BSS_0 : BSS σ σ := fun _ _ => rfl
theorem BSS_t (H : BSS σ σ1) (H' : BSS σ1 σ2) : BSS σ σ2 := fun x hx => (H' x hx).trans (H x hx)
theorem BSS_fr (h : Fr W σ σ1) (hw : (!W.contains (15, 0)) = true) : BSS σ σ1 := fun x _ => ci_fr h tgz_15 (by rw [Bool.and_eq_true]; exact ⟨by decide +kernel, hw⟩) _
theorem BSZ_s (H : BSZ σ) (h : BSS σ σ1) (h' : Fr W' σ1 σ2) (hw' : (!W'.contains (15, 0)) = true) : BSZ σ2 := fun x hx => ((BSS_t h (BSS_fr h' hw')) x hx).trans (H x hx)
theorem BSZ_fr (H : BSZ σ) (h : Fr W σ σ1) (h' : Fr W' σ1 σ2) (hw : (!W.contains (15, 0)) = true) (hw' : (!W'.contains (15, 0)) = true) : BSZ σ2 := BSZ_s H (BSS_fr h hw) h' hw'
def LHN (σ : SG) : Prop := LEA σ ∧ CXS σ ∧ BSZ σ
end HRS
end
/-! 32.luy.srh -/
section
/-! the search over orders: what it tells -/
section SRH
variable {tk ah bz bg bg' fx : Nat → Nat} {N T th la s r c f t : Nat} {l : List Nat}
theorem Run_bg : ∀ (l : List Nat) (bz bg bg' : Nat → Nat) (th la r : Nat), (∀ a, th.testBit a = true → bg a = bg' a) → Run tk ah T l bz bg th la r → Run tk ah T l bz bg' th la r := by
  intro l
  induction l with
  | nil => intro bz bg bg' th la r e h; exact h
  | cons c cs ih =>
    intro bz bg bg' th la r e h
    unfold Run at h ⊢
    rcases h with h | ⟨h1, f, t, h2, h3, h4⟩
    · exact Or.inl h
    · refine Or.inr ⟨h1, f, t, ⟨fun a ha hb => ?_, ?_⟩, h3, ih _ _ _ _ _ _ ?_ h4⟩
      · rw [← e a (h1 a ha hb)]; exact h2.1 a ha hb
      · rcases h2.2 with z | ⟨a, z1, z2, z3⟩
        · exact Or.inl z
        · exact Or.inr ⟨a, z1, z2, by rw [← e a (h1 a z1 z2)]; exact z3⟩
      · intro a ha
        unfold updN
        by_cases z : a = c
        · rw [if_pos z, if_pos z]
        · rw [if_neg z, if_neg z]
          rw [tb_or] at ha
          rcases Bool.or_eq_true_iff.mp ha with q | q
          · exact e a q
          · exact absurd (of_decide_eq_true q).symm z
theorem cnt_all {m : Nat} : ∀ c : Nat, (∀ k, k < c → m.testBit k = true) → cnt m c = c := by
  intro c
  induction c with
  | zero => intro _; rfl
  | succ c ih =>
    intro h
    rw [cnt_s, ih (fun k hk => h k (by omega)), if_pos (h c (by omega))]
theorem cnt_lt {m : Nat} : ∀ c : Nat, cnt m c ≤ c ∧ ∀ k, k < c → m.testBit k = false → cnt m c < c := by
  intro c
  induction c with
  | zero => exact ⟨Nat.le_refl 0, fun k hk => absurd hk (Nat.not_lt_zero _)⟩
  | succ c ih =>
    rw [cnt_s]
    refine ⟨?_, fun k hk hb => ?_⟩
    · have := ih.1
      split <;> omega
    · by_cases z : k = c
      · subst z
        rw [if_neg (by rw [hb]; decide)]
        have := ih.1
        omega
      · have := ih.2 k (by omega) hb
        split <;> omega
theorem cnt_ex {m n : Nat} (h : cnt m n < n) : ∃ c, c < n ∧ m.testBit c = false := by
  by_cases z : ∃ c, c < n ∧ m.testBit c = false
  · exact z
  · have := cnt_all (m := m) n (fun k hk => by
      rcases hb : m.testBit k with _ | _
      · exact absurd ⟨k, hk, hb⟩ z
      · rfl)
    omega
theorem cnt_fl {m n : Nat} (h : n ≤ cnt m n) : ∀ c, c < n → m.testBit c = true := fun c hc => by
  rcases hb : m.testBit c with _ | _
  · have := (cnt_lt (m := m) n).2 c hc hb; omega
  · rfl
theorem cnt_or {m c : Nat} (hm : m.testBit c = false) : ∀ n : Nat, cnt (m ||| 2 ^ c) n = cnt m n + if c < n then 1 else 0 := by
  intro n
  induction n with
  | zero => rw [if_neg (by omega)]; rfl
  | succ n ih =>
    rw [cnt_s, cnt_s, ih, tb_or]
    by_cases z : c = n
    · subst z
      have a : (m.testBit c || decide (c = c)) = true := by rw [decide_eq_true rfl, Bool.or_true]
      have b : ¬ m.testBit c = true := by rw [hm]; decide
      rw [if_pos a, if_neg b, if_neg (by omega : ¬ c < c), if_pos (by omega : c < c + 1)]
    · have a : (m.testBit n || decide (c = n)) = m.testBit n := by rw [decide_eq_false z, Bool.or_false]
      rw [a]
      by_cases y : c < n
      · rw [if_pos y, if_pos (by omega : c < n + 1)]; exact Nat.add_right_comm _ _ _
      · rw [if_neg y, if_neg (by omega : ¬ c < n + 1)]; rfl
/-- an order of what has no place yet -/
def Ords (N th : Nat) (l : List Nat) : Prop := l.Nodup ∧ ∀ c, c ∈ l ↔ c < N ∧ th.testBit c = false
theorem Ords_nil (h : ∀ c, c < N → th.testBit c = true) (o : Ords N th l) : l = [] := by
  cases l with
  | nil => rfl
  | cons c l =>
    have z := (o.2 c).mp (List.mem_cons_self ..)
    have y := z.2
    rw [h c z.1] at y
    exact absurd y (by decide)
theorem Ords_0 (h : ∀ c, c < N → th.testBit c = true) : Ords N th [] := by
  refine ⟨List.nodup_nil, fun c => ⟨fun z => ?_, fun z => ?_⟩⟩
  · cases z
  · have y := z.2
    rw [h c z.1] at y
    exact absurd y (by decide)
theorem Ords_tl (o : Ords N th (c :: l)) : c < N ∧ th.testBit c = false ∧ Ords N (th ||| 2 ^ c) l := by
  have hc := (o.2 c).mp (List.mem_cons_self ..)
  have nd := List.nodup_cons.mp o.1
  refine ⟨hc.1, hc.2, nd.2, fun x => ⟨fun hx => ?_, fun hx => ?_⟩⟩
  · have h := (o.2 x).mp (List.mem_cons_of_mem _ hx)
    refine ⟨h.1, ?_⟩
    rw [tb_or, h.2, Bool.false_or]
    exact decide_eq_false (fun z => nd.1 (by rw [z]; exact hx))
  · rw [tb_or] at hx
    have h2 := Bool.or_eq_false_iff.mp hx.2
    rcases List.mem_cons.mp ((o.2 x).mpr ⟨hx.1, h2.1⟩) with z | z
    · exact absurd z.symm (of_decide_eq_false h2.2)
    · exact z
theorem Ords_cs (hc : c < N) (hb : th.testBit c = false) (o : Ords N (th ||| 2 ^ c) l) : Ords N th (c :: l) := by
  have cn : c ∉ l := fun z => by
    have h := ((o.2 c).mp z).2
    rw [tb_or, decide_eq_true rfl, Bool.or_true] at h
    exact absurd h (by decide)
  refine ⟨List.nodup_cons.mpr ⟨cn, o.1⟩, fun x => ⟨fun hx => ?_, fun hx => ?_⟩⟩
  · rcases List.mem_cons.mp hx with z | z
    · rw [z]; exact ⟨hc, hb⟩
    · have h := (o.2 x).mp z
      rw [tb_or] at h
      exact ⟨h.1, (Bool.or_eq_false_iff.mp h.2).1⟩
  · by_cases z : x = c
    · rw [z]; exact List.mem_cons_self ..
    · refine List.mem_cons_of_mem _ ((o.2 x).mpr ⟨hx.1, ?_⟩)
      rw [tb_or, hx.2, Bool.false_or]
      exact decide_eq_false (fun y => z y.symm)
def SRC (tk ah : Nat → Nat) (N T : Nat) (bz bg : Nat → Nat) (th la s r : Nat) : Prop := r ≤ s ∧ (r = s ∨ ∃ l, Ords N th l ∧ Run tk ah T l bz bg th la r) ∧ ∀ l q, Ords N th l → Run tk ah T l bz bg th la q → r ≤ q ∨ 54 < q
def SRI (tk ah : Nat → Nat) (N T : Nat) (bz bg : Nat → Nat) (th la c s r : Nat) : Prop := r ≤ s ∧ (r = s ∨ ∃ l, Ords N th l ∧ Run tk ah T l bz bg th la r) ∧ ∀ x l q, x < c → Ords N th (x :: l) → Run tk ah T (x :: l) bz bg th la q → r ≤ q ∨ 54 < q
theorem SRC_end (h : ∀ c, c < N → th.testBit c = true) (e : r = min s la) : SRC tk ah N T bz bg th la s r := by
  refine ⟨by omega, ?_, fun l q o z => ?_⟩
  · rcases Nat.le_total s la with y | y
    · exact Or.inl (by omega)
    · refine Or.inr ⟨[], Ords_0 h, ?_⟩
      unfold Run
      omega
  · rw [Ords_nil h o] at z
    unfold Run at z
    omega
theorem SRI_0 : SRI tk ah N T bz bg th la 0 s s := ⟨Nat.le_refl _, Or.inl rfl, fun x _ _ h => absurd h (Nat.not_lt_zero _)⟩
theorem SRI_no (H : SRI tk ah N T bz bg th la c s r) (h : ∀ l q, Ords N th (c :: l) → Run tk ah T (c :: l) bz bg th la q → r ≤ q ∨ 54 < q) : SRI tk ah N T bz bg th la (c + 1) s r := ⟨H.1, H.2.1, fun x l q hx o z => by
  rcases Nat.lt_or_ge x c with y | y
  · exact H.2.2 x l q y o z
  · have e : x = c := by omega
    rw [e] at o z
    exact h l q o z⟩
theorem SRI_bit (H : SRI tk ah N T bz bg th la c s r) (hb : th.testBit c = true) : SRI tk ah N T bz bg th la (c + 1) s r := SRI_no H (fun l q o _ => by
  have z := (Ords_tl o).2.1
  rw [hb] at z
  exact absurd z (by decide))
theorem SRI_nr (H : SRI tk ah N T bz bg th la c s r) (hr : ¬ Rdy ah th c) : SRI tk ah N T bz bg th la (c + 1) s r := SRI_no H (fun l q o z => by
  unfold Run at z
  rcases z with z | z
  · refine Or.inr ?_
    rw [z.2]; decide
  · exact absurd z.1 hr)
theorem SRI_lt (H : SRI tk ah N T bz bg th la c s r) (hl : ∀ f t, Rdy ah th c → Aft tk ah bg c f → First bz T (tk c) f t → r ≤ t + tk c ∨ 54 < t + tk c) : SRI tk ah N T bz bg th la (c + 1) s r := SRI_no H (fun l q o z => by
  unfold Run at z
  rcases z with z | ⟨h1, f, t, h2, h3, h4⟩
  · refine Or.inr ?_
    rw [z.2]; decide
  · rcases Run_ge _ _ _ _ _ _ h4 with y | y
    · refine Or.inr ?_
      rw [y]; decide
    · rcases hl f t h1 h2 h3 with w | w
      · exact Or.inl (by omega)
      · exact Or.inr (by omega))
theorem SRI_in {r' : Nat} (H : SRI tk ah N T bz bg th la c s r) (hc : c < N) (hb : th.testBit c = false) (hr : Rdy ah th c) (h2 : Aft tk ah bg c f) (h3 : First bz T (tk c) f t) (K : SRC tk ah N T (addB bz t (tk c)) (updN bg c t) (th ||| 2 ^ c) (max la (t + tk c)) r r') : SRI tk ah N T bz bg th la (c + 1) s r' := by
  refine ⟨Nat.le_trans K.1 H.1, ?_, fun x l q hx o z => ?_⟩
  · rcases K.2.1 with y | ⟨l, o, y⟩
    · rw [y]; exact H.2.1
    · refine Or.inr ⟨c :: l, Ords_cs hc hb o, ?_⟩
      unfold Run
      exact Or.inr ⟨hr, f, t, h2, h3, y⟩
  · rcases Nat.lt_or_ge x c with y | y
    · rcases H.2.2 x l q y o z with w | w
      · exact Or.inl (Nat.le_trans K.1 w)
      · exact Or.inr w
    · have e : x = c := by omega
      rw [e] at o z
      unfold Run at z
      rcases z with z | ⟨-, f', t', k2, k3, k4⟩
      · exact absurd hr z.1
      · have e1 := Aft_uniq h2 k2 (fun _ _ _ => rfl)
        subst e1
        have e2 := First_uniq h3 k3
        subst e2
        exact K.2.2 l q (Ords_tl o).2.2 k4
theorem SRC_of (H : SRI tk ah N T bz bg th la N s r) (hn : ∃ c, c < N ∧ th.testBit c = false) : SRC tk ah N T bz bg th la s r := ⟨H.1, H.2.1, fun l q o z => by
  cases l with
  | nil =>
    obtain ⟨c, c1, c2⟩ := hn
    have y := (o.2 c).mpr ⟨c1, c2⟩
    cases y
  | cons x l => exact H.2.2 x l q (Ords_tl o).1 o z⟩
theorem SRC_bg (e : ∀ a, th.testBit a = true → bg a = bg' a) (H : SRC tk ah N T bz bg th la s r) : SRC tk ah N T bz bg' th la s r := ⟨H.1, H.2.1.imp id (fun ⟨l, o, z⟩ => ⟨l, o, Run_bg _ _ _ _ _ _ _ e z⟩), fun l q o z => H.2.2 l q o (Run_bg _ _ _ _ _ _ _ (fun a ha => (e a ha).symm) z)⟩
/-! every order has its number, and every number its order -/
theorem er_at : ∀ (rl : List Nat) (i c : Nat), rl[i]? = some c → rl.Nodup → (rl.eraseIdx i).Nodup ∧ (rl.eraseIdx i).length + 1 = rl.length ∧ ∀ x, x ∈ rl.eraseIdx i ↔ x ∈ rl ∧ x ≠ c := by
  intro rl
  induction rl with
  | nil => intro i c h; simp at h
  | cons a as ih =>
    intro i c h nd
    have nd' := List.nodup_cons.mp nd
    cases i with
    | zero =>
      have e : a = c := Option.some.inj h
      subst e
      refine ⟨nd'.2, rfl, fun x => ⟨fun hx => ⟨List.mem_cons_of_mem _ hx, fun z => nd'.1 (by rw [← z]; exact hx)⟩, fun hx => ?_⟩⟩
      rcases List.mem_cons.mp hx.1 with z | z
      · exact absurd z hx.2
      · exact z
    | succ i =>
      rw [List.getElem?_cons_succ] at h
      obtain ⟨h1, h2, h3⟩ := ih i c h nd'.2
      have hc : c ∈ as := List.mem_of_getElem? h
      rw [List.eraseIdx_cons_succ]
      refine ⟨List.nodup_cons.mpr ⟨fun z => nd'.1 ((h3 a).mp z).1, h1⟩, ?_, fun x => ⟨fun hx => ?_, fun hx => ?_⟩⟩
      · rw [List.length_cons, List.length_cons]; omega
      · rcases List.mem_cons.mp hx with z | z
        · rw [z]; exact ⟨List.mem_cons_self .., fun y => nd'.1 (by rw [y]; exact hc)⟩
        · exact ⟨List.mem_cons_of_mem _ ((h3 x).mp z).1, ((h3 x).mp z).2⟩
      · rcases List.mem_cons.mp hx.1 with z | z
        · rw [z]; exact List.mem_cons_self ..
        · exact List.mem_cons_of_mem _ ((h3 x).mpr ⟨z, hx.2⟩)
theorem dec_prm : ∀ (n q : Nat) (rl : List Nat), rl.length = n → rl.Nodup → (dec n q rl).Nodup ∧ ∀ x, x ∈ dec n q rl ↔ x ∈ rl := by
  intro n
  induction n with
  | zero =>
    intro q rl h nd
    have e : rl = [] := List.length_eq_zero_iff.mp h
    subst e
    exact ⟨List.nodup_nil, fun x => Iff.rfl⟩
  | succ n ih =>
    intro q rl h nd
    have hm : q % (n + 1) < rl.length := by rw [h]; exact Nat.mod_lt _ (by omega)
    have hc : rl[q % (n + 1)]? = some rl[q % (n + 1)] := List.getElem?_eq_getElem hm
    obtain ⟨e1, e2, e3⟩ := er_at _ _ _ hc nd
    obtain ⟨i1, i2⟩ := ih (q / (n + 1)) _ (by omega : (rl.eraseIdx (q % (n + 1))).length = n) e1
    rw [dec_at hc]
    refine ⟨List.nodup_cons.mpr ⟨fun z => ((e3 _).mp ((i2 _).mp z)).2 rfl, i1⟩, fun x => ⟨fun hx => ?_, fun hx => ?_⟩⟩
    · rcases List.mem_cons.mp hx with z | z
      · rw [z]; exact List.mem_of_getElem? hc
      · exact ((e3 x).mp ((i2 x).mp z)).1
    · by_cases z : x = rl[q % (n + 1)]
      · rw [z]; exact List.mem_cons_self ..
      · exact List.mem_cons_of_mem _ ((i2 x).mpr ((e3 x).mpr ⟨hx, z⟩))
theorem dec_sur : ∀ (n : Nat) (rl l : List Nat), rl.length = n → rl.Nodup → l.Nodup → (∀ x, x ∈ l ↔ x ∈ rl) → ∃ q, q < fct n ∧ dec n q rl = l := by
  intro n
  induction n with
  | zero =>
    intro rl l h _ _ hx
    have e : rl = [] := List.length_eq_zero_iff.mp h
    subst e
    cases l with
    | nil => exact ⟨0, by decide, rfl⟩
    | cons c l => have z := (hx c).mp (List.mem_cons_self ..); cases z
  | succ n ih =>
    intro rl l h nr nl hx
    cases l with
    | nil =>
      cases rl with
      | nil => simp at h
      | cons c rl => have z := (hx c).mpr (List.mem_cons_self ..); cases z
    | cons c l =>
      obtain ⟨i, hi⟩ := List.getElem?_of_mem ((hx c).mp (List.mem_cons_self ..))
      have nl' := List.nodup_cons.mp nl
      obtain ⟨e1, e2, e3⟩ := er_at _ _ _ hi nr
      have il : i < rl.length := by
        rcases Nat.lt_or_ge i rl.length with z | z
        · exact z
        · rw [List.getElem?_eq_none z] at hi; cases hi
      obtain ⟨q, q1, q2⟩ := ih (rl.eraseIdx i) l (by omega) e1 nl'.2 (fun x => ⟨fun z => (e3 x).mpr ⟨(hx x).mp (List.mem_cons_of_mem _ z), fun y => nl'.1 (by rw [← y]; exact z)⟩, fun z => by
        have y := (e3 x).mp z
        rcases List.mem_cons.mp ((hx x).mpr y.1) with w | w
        · exact absurd w y.2
        · exact w⟩)
      have m1 : (i + (n + 1) * q) % (n + 1) = i := by rw [Nat.add_mul_mod_self_left]; exact Nat.mod_eq_of_lt (by omega)
      have m2 : (i + (n + 1) * q) / (n + 1) = q := by rw [Nat.add_mul_div_left _ _ (by omega), Nat.div_eq_of_lt (by omega)]; omega
      refine ⟨i + (n + 1) * q, ?_, ?_⟩
      · have : (n + 1) * (q + 1) ≤ (n + 1) * fct n := Nat.mul_le_mul_left _ (by omega)
        unfold fct
        rw [Nat.mul_add] at this
        omega
      · rw [dec_at (c := c) (by rw [m1]; exact hi), m1, m2, q2]
theorem rg_nd : ∀ n s : Nat, (List.range' s n).Nodup := by
  intro n
  induction n with
  | zero => intro s; exact List.nodup_nil
  | succ n ih =>
    intro s
    rw [List.range'_succ]
    refine List.nodup_cons.mpr ⟨fun z => ?_, ih _⟩
    obtain ⟨i, i1, i2⟩ := List.mem_range'.mp z
    omega
theorem rg_ords (N : Nat) : (List.range' 0 N).Nodup ∧ ∀ x, x ∈ List.range' 0 N ↔ x < N := by
  refine ⟨rg_nd N 0, fun x => ⟨fun hx => ?_, fun hx => ?_⟩⟩
  · obtain ⟨i, i1, i2⟩ := List.mem_range'.mp hx
    omega
  · exact List.mem_range'.mpr ⟨x, hx, by omega⟩
/-! an end there is of every order -/
theorem Aft_ex (tk bg : Nat → Nat) (m : Nat) : ∀ n : Nat, ∃ f, (∀ a, a < n → m.testBit a = true → bg a + tk a ≤ f) ∧ (f = 0 ∨ ∃ a, a < n ∧ m.testBit a = true ∧ f = bg a + tk a) := by
  intro n
  induction n with
  | zero => exact ⟨0, fun a h => absurd h (Nat.not_lt_zero _), Or.inl rfl⟩
  | succ n ih =>
    obtain ⟨f, h1, h2⟩ := ih
    by_cases z : m.testBit n = true ∧ f < bg n + tk n
    · have z2 := z.2
      refine ⟨bg n + tk n, fun a ha hb => ?_, Or.inr ⟨n, by omega, z.1, rfl⟩⟩
      by_cases y : a = n
      · rw [y]; exact Nat.le_refl _
      · have := h1 a (by omega) hb; omega
    · refine ⟨f, fun a ha hb => ?_, ?_⟩
      · by_cases y : a = n
        · subst y
          rcases Nat.lt_or_ge f (bg a + tk a) with x | x
          · exact absurd ⟨hb, x⟩ z
          · exact x
        · exact h1 a (by omega) hb
      · rcases h2 with y | ⟨a, a1, a2, a3⟩
        · exact Or.inl y
        · exact Or.inr ⟨a, by omega, a2, a3⟩
theorem First_ex {d : Nat} : ∀ n m : Nat, m ≤ n → frees bz T d (f + m) → ∃ t, First bz T d f t := by
  intro n
  induction n with
  | zero =>
    intro m hm h
    exact ⟨f + m, by omega, h, fun u u1 u2 => by omega⟩
  | succ n ih =>
    intro m hm h
    by_cases z : ∃ u, f ≤ u ∧ u < f + m ∧ frees bz T d u
    · obtain ⟨u, u1, u2, u3⟩ := z
      exact ih (u - f) (by omega) (by rw [show f + (u - f) = u by omega]; exact u3)
    · exact ⟨f + m, by omega, h, fun u u1 u2 u3 => z ⟨u, u1, u2, u3⟩⟩
theorem Run_ex (hT : 1 ≤ T) : ∀ (l : List Nat) (bz bg : Nat → Nat) (th la : Nat), Okb tk bz bg th la → ∃ r, Run tk ah T l bz bg th la r := by
  intro l
  induction l with
  | nil => intro bz bg th la _; exact ⟨la, by unfold Run; rfl⟩
  | cons c cs ih =>
    intro bz bg th la ho
    by_cases z : Rdy ah th c
    · obtain ⟨f, hf⟩ := Aft_ex tk bg (ah c) c
      have hl : f ≤ la := Aft_le ho z hf
      obtain ⟨t, ht⟩ := First_ex (bz := bz) (T := T) (f := f) (d := tk c) (la - f) (la - f) (Nat.le_refl _) (free_la ho hT (by omega))
      obtain ⟨r, hr⟩ := ih _ _ _ _ (Okb_put (c := c) (t := t) ho)
      refine ⟨r, ?_⟩
      unfold Run
      exact Or.inr ⟨z, f, t, hf, ht, hr⟩
    · refine ⟨FARN, ?_⟩
      unfold Run
      exact Or.inl ⟨z, rfl⟩
theorem SRC_least (hT : 1 ≤ T) (hN : N ≤ 6) (h9 : ∀ c, tk c ≤ 9) (H : SRC tk ah N T (fun _ => 0) bg 0 0 55 r) : LEAST tk ah fx N T 0 r ∧ r ≤ 54 := by
  have H := SRC_bg (bg' := fun _ => 0) (fun a ha => by rw [Nat.zero_testBit] at ha; cases ha) H
  have ok : Okb tk (fun _ => 0) (fun _ => 0) 0 0 := ⟨fun _ _ => rfl, fun a ha => by rw [Nat.zero_testBit] at ha; cases ha⟩
  have od : ∀ l : List Nat, l.Nodup → (∀ x, x ∈ l ↔ x ∈ List.range' 0 N) → Ords N 0 l := fun l h1 h2 => ⟨h1, fun c => ⟨fun z => ⟨((rg_ords N).2 c).mp ((h2 c).mp z), Nat.zero_testBit c⟩, fun z => (h2 c).mpr (((rg_ords N).2 c).mpr z.1)⟩⟩
  have r54 : r ≤ 54 := by
    obtain ⟨q, hq⟩ := Run_ex (tk := tk) (ah := ah) hT (List.range' 0 N) (fun _ => 0) (fun _ => 0) 0 0 ok
    have b := Run_id hT h9 N 0 _ _ _ _ _ (fun a ha => absurd ha (Nat.not_lt_zero _)) ok hq
    rcases H.2.2 _ q (od _ (rg_ords N).1 (fun _ => Iff.rfl)) hq with z | z <;> omega
  refine ⟨⟨fun q hq => ?_, Or.inr ?_⟩, r54⟩
  · obtain ⟨p1, p2⟩ := dec_prm (N - 0) q (List.range' 0 (N - 0)) (by rw [List.length_range']) (rg_ords N).1
    obtain ⟨r', hr⟩ := Run_ex (tk := tk) (ah := ah) hT (dec (N - 0) q (List.range' 0 (N - 0))) (fun _ => 0) (fun _ => 0) 0 0 ok
    refine ⟨r', hr, ?_⟩
    rcases H.2.2 _ r' (od _ p1 p2) hr with z | z <;> omega
  · rcases H.2.1 with z | ⟨l, o, z⟩
    · omega
    · obtain ⟨q, q1, q2⟩ := dec_sur (N - 0) (List.range' 0 (N - 0)) l (by rw [List.length_range']) (rg_ords N).1 o.1 (fun x => ⟨fun y => ((rg_ords N).2 x).mpr ((o.2 x).mp y).1, fun y => (o.2 x).mpr ⟨((rg_ords N).2 x).mp y, Nat.zero_testBit x⟩⟩)
      refine ⟨q, q1, ?_⟩
      show Run tk ah T (dec (N - 0) q (List.range' 0 (N - 0))) (fun _ => 0) (fun _ => 0) 0 0 r
      rw [q2]; exact z
theorem LEAST_uniq {r' : Nat} (hr : r ≤ 54 ∨ r' ≤ 54) (h : LEAST tk ah fx N T 0 r) (h' : LEAST tk ah fx N T 0 r') : r = r' := by
  have k : ∀ {a b : Nat}, a ≤ 54 → LEAST tk ah fx N T 0 a → LEAST tk ah fx N T 0 b → b ≤ a := fun {a b} ha A B => by
    rcases A.2 with z | ⟨q, q1, q2⟩
    · rw [z] at ha; exact absurd ha (by decide)
    · obtain ⟨x, x1, x2⟩ := B.1 q q1
      have := OVER_uniq q2 x1
      omega
  rcases hr with z | z
  · have a := k z h h'
    have b := k (by omega) h' h
    omega
  · have a := k z h' h
    have b := k (by omega) h h'
    omega
end SRH
end
