section TW6
variable {By : Int → Int} {Nb : Int} {S T : PS} {σ0 σ σ' : SG} {p p2 : Nat} {w w' : Int → Int}
/-! what a reading leaves alone: twins, lessons that came by teach() -/
def TW6 (w : Int → Int) : Prop := TWN w ∧ w 6 = 0
def EQ6 (w' w : Int → Int) : Prop := ∀ i : Int, (i = 2 ∨ i = 6 ∨ i = 13 ∨ i = 17 ∨ i = 21 ∨ i = 25) → w' i = w i
theorem EQ6_r (h : w' = w) : EQ6 w' w := fun i _ => by rw [h]
theorem EQ6_t {w'' : Int → Int} (h : EQ6 w'' w') (h' : EQ6 w' w) : EQ6 w'' w := fun i hi => (h i hi).trans (h' i hi)
theorem EQ6_u {j v : Int} (h : EQ6 w' w) (hj : j ≠ 2 ∧ j ≠ 6 ∧ j ≠ 13 ∧ j ≠ 17 ∧ j ≠ 21 ∧ j ≠ 25) : EQ6 (uPd w' j v) w := fun i hi => by
  have : uPd w' j v i = w' i := if_neg (by omega)
  rw [this]; exact h i hi
theorem TW6_e (h : EQ6 w' w) (H : TW6 w) : TW6 w' := ⟨TWN_eqv H.1 (fun i hi => h i (by omega)), (h 6 (by omega)).trans H.2⟩
def BND (w : Int → Int) : Prop := WFw w ∧ 0 ≤ w 2 ∧ 0 ≤ w 3 ∧ 0 ≤ w 4 ∧ 0 ≤ w 5 ∧ ∀ d : Int, 0 ≤ d → d < 4 → 0 ≤ w (12 + 4 * d)
theorem q_first : EQ6 (fFirst By Nb S).2.2.2 S.2.2.2 := by
  unfold fFirst
  dsimp only
  unfold wst
  dsimp only
  refine EQ6_u ?_ (by omega)
  rw [tN_w, pss_w]
  dsimp only
  refine EQ6_u ?_ (by omega)
  rw [tN_w, pss_w, pss_w]
  exact EQ6_r rfl
theorem q_said {i j : Int} (hi : 26 ≤ i) (hj : j ≠ 2 ∧ j ≠ 6 ∧ j ≠ 13 ∧ j ≠ 17 ∧ j ≠ 21 ∧ j ≠ 25) : EQ6 (fSaid By Nb i j S).2.2.2 S.2.2.2 := by
  unfold fSaid
  dsimp only
  split
  · unfold wst
    dsimp only
    refine EQ6_u (EQ6_u (EQ6_u ?_ (by omega)) (by omega)) hj
    unfold dD
    rw [pss_w, tN_w]
    exact EQ6_r rfl
  · unfold dD
    rw [pss_w, tN_w]
    exact EQ6_r rfl
theorem q_lesson (hb : BND S.2.2.2) : EQ6 (fLesson By Nb S).2.2.2 S.2.2.2 := by
  unfold fLesson
  dsimp only
  split
  · rw [nH_w, adv_w]; exact EQ6_r rfl
  · rename_i h1
    have h1 : (nH By Nb 0 (S.2.2.2 2 - 1) (adv By Nb S)).1 = 0 := Classical.not_not.mp h1
    have g := nH_gg h1
    split
    · rw [err_w, nH_w, adv_w]; exact EQ6_r rfl
    · have z := hb.2.2.2.2.2 (tV By Nb (adv By Nb S).2.2.1) (by omega) (by have := hb.1.2.2.1; omega)
      refine EQ6_t (q_said (by omega) (by omega)) ?_
      rw [adv_w, nH_w, adv_w]; exact EQ6_r rfl
theorem q_exam (hb : BND S.2.2.2) : EQ6 (fExam By Nb S).2.2.2 S.2.2.2 := by
  unfold fExam
  split
  · rw [err_w]; exact EQ6_r rfl
  · have := hb.2.2.1
    refine EQ6_t (q_said (by omega) (by omega)) ?_
    rw [adv_w]; exact EQ6_r rfl
theorem q_rule {i : Int} (hi : i = 8 ∨ 146 ≤ i) : EQ6 (fRule By Nb i S).2.2.2 S.2.2.2 := by
  unfold fRule
  dsimp only
  split
  · unfold wst
    dsimp only
    refine EQ6_u (EQ6_u ?_ (by omega)) (by omega)
    rw [tP_w, tN_w]; exact EQ6_r rfl
  · rw [tP_w, tN_w]; exact EQ6_r rfl
theorem q_owner : EQ6 (fOwner By Nb S).2.2.2 S.2.2.2 := by
  unfold fOwner
  refine EQ6_t (q_rule (by omega)) ?_
  rw [adv_w]; exact EQ6_r rfl
theorem q_house (hb : BND S.2.2.2) : EQ6 (fHouse By Nb S).2.2.2 S.2.2.2 := by
  unfold fHouse
  dsimp only
  have := hb.2.2.2.1
  split
  · rw [err_w]; exact EQ6_r rfl
  · have k : EQ6 (fRule By Nb (146 + 2 * S.2.2.2 4) (adv By Nb S)).2.2.2 S.2.2.2 := by
      refine EQ6_t (q_rule (by omega)) ?_
      rw [adv_w]; exact EQ6_r rfl
    split
    · unfold wst
      dsimp only
      exact EQ6_u k (by omega)
    · exact k
theorem q_course (hb : BND S.2.2.2) : EQ6 (fCourse By Nb S).2.2.2 S.2.2.2 := by
  unfold fCourse
  dsimp only
  have := hb.2.2.2.2.1
  split
  · rw [err_w]; exact EQ6_r rfl
  · split
    · unfold wst
      dsimp only
      refine EQ6_u (EQ6_u ?_ (by omega)) (by omega)
      rw [tN_w, pss_w, adv_w]; exact EQ6_r rfl
    · rw [tN_w, pss_w, adv_w]; exact EQ6_r rfl
theorem q_ahead : EQ6 (fAhead By Nb S).2.2.2 S.2.2.2 := by
  unfold fAhead
  dsimp only
  split
  · rename_i h
    have g := tN_gg h
    unfold wst
    dsimp only
    refine EQ6_u ?_ (by have g2 := tN_gg g.1; omega)
    rw [tN_w, tN_w, adv_w]; exact EQ6_r rfl
  · rw [tN_w, tN_w, adv_w]; exact EQ6_r rfl
/-- a door more copies nobody, and nobody copies it -/
theorem t_door (hb : BND S.2.2.2) (H : TW6 S.2.2.2) : TW6 (fDoor By Nb S).2.2.2 := by
  unfold fDoor
  dsimp only
  have b2 := hb.2.1
  split
  · rw [err_w]; exact H
  · rename_i h4
    split
    · unfold wst
      dsimp only
      rw [tN_w, pss_w, tW_w, adv_w]
      generalize hf : S.2.2.2 = f at *
      have e : ∀ A B x : Int, uPd (uPd (uPd (uPd (uPd f (10 + 4 * f 2) A) (10 + 4 * f 2 + 1) B) (10 + 4 * f 2 + 2) 0) (10 + 4 * f 2 + 3) (-1)) 2 (f 2 + 1) x = if x = 2 then f 2 + 1 else if x = 10 + 4 * f 2 + 3 then -1 else if x = 10 + 4 * f 2 + 2 then 0 else if x = 10 + 4 * f 2 + 1 then B else if x = 10 + 4 * f 2 then A else f x := fun A B x => rfl
      refine ⟨⟨fun d d0 d1 d4 hd => ?_, fun d d0 d1 d4 => ?_⟩, ?_⟩
      rotate_left
      · rw [e] at d1
        rw [if_pos rfl] at d1
        rw [e, e, if_pos rfl, if_neg (by omega)]
        by_cases z : d = f 2
        · rw [if_pos (by omega)]; omega
        · rw [if_neg (by omega), if_neg (by omega), if_neg (by omega), if_neg (by omega)]
          have := H.1.2 d d0 (by omega) d4
          omega
      rotate_left
      · rw [e] at d1
        rw [if_pos rfl] at d1
        obtain ⟨q, q0, q1, q2⟩ := (cpI_iff (by rw [e, if_pos rfl]; omega)).mp hd
        rw [e, if_pos rfl] at q1
        rw [e] at q2 ⊢
        rw [if_neg (by omega)] at q2 ⊢
        by_cases z : d = f 2
        · rw [if_pos (by omega)]
        · rw [if_neg (by omega), if_neg (by omega), if_neg (by omega), if_neg (by omega)]
          by_cases y : q = f 2
          · rw [if_pos (by omega)] at q2; omega
          · rw [if_neg (by omega), if_neg (by omega), if_neg (by omega), if_neg (by omega)] at q2
            exact H.1.1 d d0 (by omega) d4 ((cpI_iff (by omega)).mpr ⟨q, q0, by omega, q2⟩)
      · have : ∀ A B : Int, uPd (uPd (uPd (uPd (uPd f (10 + 4 * f 2) A) (10 + 4 * f 2 + 1) B) (10 + 4 * f 2 + 2) 0) (10 + 4 * f 2 + 3) (-1)) 2 (f 2 + 1) 6 = f 6 := fun A B => by
          unfold uPd
          rw [if_neg (by omega), if_neg (by omega), if_neg (by omega), if_neg (by omega), if_neg (by omega)]
        rw [this]; exact H.2
    · rw [tN_w, pss_w, tW_w, adv_w]; exact H
theorem tw1_w : (tw1 By Nb S).2.2.2 = S.2.2.2 := by unfold tw1; split; exact err_w; exact nH_w
theorem tw2_w {a : Int} : (tw2 By Nb a S).2.2.2 = S.2.2.2 := by unfold tw2; split; exact err_w; exact nH_w
theorem tw1_g (h : (tw1 By Nb S).1 = 0) : (nH By Nb 0 (S.2.2.2 2 - 1) S).1 = 0 ∧ S.2.2.2 (13 + 4 * tV By Nb S.2.2.1) = -1 ∧ cpI S.2.2.2 (tV By Nb S.2.2.1) ≠ 1 := by
  unfold tw1 at h
  split at h
  · exact absurd h (err_ne (by omega))
  · rename_i c
    exact ⟨h, Classical.byContradiction fun z => c ⟨h, Or.inl z⟩, fun z => c ⟨h, Or.inr z⟩⟩
theorem tw2_g {a : Int} (h : (tw2 By Nb a S).1 = 0) : (nH By Nb 0 (S.2.2.2 2 - 1) S).1 = 0 ∧ tV By Nb S.2.2.1 ≠ a ∧ S.2.2.2 (13 + 4 * tV By Nb S.2.2.1) = -1 := by
  unfold tw2 at h
  split at h
  · exact absurd h (err_ne (by omega))
  · rename_i c
    exact ⟨h, fun z => c ⟨h, Or.inl z⟩, Classical.byContradiction fun z => c ⟨h, Or.inr z⟩⟩
theorem t_twin (hb : BND S.2.2.2) (H : TW6 S.2.2.2) : TW6 (fTwin By Nb S).2.2.2 := by
  unfold fTwin
  dsimp only
  split
  · rw [tw1_w, adv_w]; exact H
  · rename_i h1
    have h1 := tw1_g (Classical.not_not.mp h1)
    have g1 := nH_gg h1.1
    rw [adv_w] at h1 g1
    split
    · rw [tw2_w, adv_w, tw1_w, adv_w]; exact H
    · rename_i h2
      have h2 := tw2_g (Classical.not_not.mp h2)
      have g2 := nH_gg h2.1
      rw [adv_w, tw1_w, adv_w] at h2 g2
      rw [adv_w]
      unfold wst
      dsimp only
      rw [tw2_w, adv_w, tw1_w, adv_w]
      obtain ⟨-, c1, c2⟩ := h1
      obtain ⟨-, c3, c4⟩ := h2
      obtain ⟨-, -, a0, a1⟩ := g1
      obtain ⟨-, -, b0, b1⟩ := g2
      generalize tV By Nb (adv By Nb S).2.2.1 = a at *
      generalize tV By Nb (adv By Nb (tw1 By Nb (adv By Nb S))).2.2.1 = b at *
      have n4 := hb.1.2.2.1
      refine ⟨?_, ?_⟩
      · have k := cyW_twn (d := a) (o := b) H.1 n4
        rw [cyW_y ⟨by omega, by omega, c3, Or.inr ⟨by omega, by omega, c4⟩, c2⟩] at k
        exact k
      · have : uPd S.2.2.2 (13 + 4 * a) b 6 = S.2.2.2 6 := if_neg (by omega)
        rw [this]; exact H.2
theorem t_next (hb : BND S.2.2.2) (H : TW6 S.2.2.2) : TW6 (fNext By Nb S).2.2.2 := by
  unfold fNext
  split
  · exact t_door hb H
  · split
    · exact TW6_e (q_lesson hb) H
    · split
      · exact TW6_e (q_exam hb) H
      · split
        · exact t_twin hb H
        · split
          · exact TW6_e q_owner H
          · split
            · exact TW6_e (q_house hb) H
            · split
              · exact TW6_e (q_course hb) H
              · split
                · exact TW6_e q_ahead H
                · rw [err_w]; exact H
theorem t_line (hb : BND S.2.2.2) (H : TW6 S.2.2.2) : TW6 (fLine By Nb S).2.2.2 := by
  unfold fLine
  dsimp only
  unfold wst
  dsimp only
  rw [pss_w]
  have k : TW6 (if S.2.2.2 7 = 0 then fFirst By Nb S else fNext By Nb S).2.2.2 := by
    split
    · exact TW6_e q_first H
    · exact t_next hb H
  exact TW6_e (EQ6_u (EQ6_r rfl) (by omega)) k
theorem BND_of (hσ : WT σ) (H : ML By Nb σ S) (z : S.1 = 0) : BND S.2.2.2 := by
  have w := (H.2.2.2 z).2
  have a2 := fr_ty (l := 0) (u := 4) (i := 2) hσ 2 rfl (by decide +kernel) (by decide +kernel)
  have a3 := fr_ty (l := 0) (u := 12) (i := 3) hσ 3 rfl (by decide +kernel) (by decide +kernel)
  have a4 := fr_ty (l := 0) (u := 4) (i := 4) hσ 4 rfl (by decide +kernel) (by decide +kernel)
  have a5 := fr_ty (l := 0) (u := 6) (i := 5) hσ 5 rfl (by decide +kernel) (by decide +kernel)
  have b0 := fr_ty (l := 0) (u := 12) (i := 12) hσ 12 rfl (by decide +kernel) (by decide +kernel)
  have b1 := fr_ty (l := 0) (u := 12) (i := 16) hσ 16 rfl (by decide +kernel) (by decide +kernel)
  have b2 := fr_ty (l := 0) (u := 12) (i := 20) hσ 20 rfl (by decide +kernel) (by decide +kernel)
  have b3 := fr_ty (l := 0) (u := 12) (i := 24) hσ 24 rfl (by decide +kernel) (by decide +kernel)
  have e2 := w 2 (by omega) (by omega)
  have e3 := w 3 (by omega) (by omega)
  have e4 := w 4 (by omega) (by omega)
  have e5 := w 5 (by omega) (by omega)
  have f0 := w 12 (by omega) (by omega)
  have f1 := w 16 (by omega) (by omega)
  have f2 := w 20 (by omega) (by omega)
  have f3 := w 24 (by omega) (by omega)
  refine ⟨(WFw_of hσ H z).1, by omega, by omega, by omega, by omega, fun d d0 d4 => ?_⟩
  rcases (show d = 0 ∨ d = 1 ∨ d = 2 ∨ d = 3 by omega) with h | h | h | h <;> subst h
  · show 0 ≤ S.2.2.2 12; omega
  · show 0 ≤ S.2.2.2 16; omega
  · show 0 ≤ S.2.2.2 20; omega
  · show 0 ≤ S.2.2.2 24; omega
/-- the loop over the lines, and what twins are told so far -/
def LPJ (By : Int → Int) (Nb : Int) (σ : SG) : Prop := ∃ (S : PS) (f : Nat), ML By Nb σ S ∧ fRead By Nb f S = fRead By Nb 1601 S00 ∧ (S.1 = 0 → (f : Int) + S.2.2.2 7 = 1601) ∧ (S.1 = 0 → TW6 S.2.2.2)
theorem TW6_0 : TW6 S00.2.2.2 := by
  have z : S00.2.2.2 2 = 0 := rfl
  exact ⟨⟨fun d d0 d1 _ _ => by omega, fun d d0 d1 _ => by omega⟩, rfl⟩
theorem LPJ_0 {P : Int} {k q : Int32} (hK : TPm By Nb σ ∧ TKm By Nb P σ) (hp : P = 0) (h12 : (σ 159)[12]? = some (.int k)) (hk : k.toInt = 0) (h13 : (σ 159)[13]? = some (.int q)) (hq : q.toInt = -1) (hc : CLF σ 226) : LPJ By Nb σ := by
  subst hp
  refine ⟨S00, 1601, ⟨hK.1, ?_, ?_, fun _ => ⟨hK.2, fun i i0 i1 => hc i i0 i1⟩⟩, rfl, fun _ => rfl, fun _ => TW6_0⟩
  · rw [ci_at (i := 12) (j := 12) h12 rfl, hk]; rfl
  · rw [ci_at (i := 13) (j := 13) h13 rfl, hq]; rfl
theorem LPJ_s {f : Nat} (H : ML By Nb σ S) (hσ : WT σ) (z : S.1 = 0) (tk : tK By Nb S.2.2.1 ≠ 0) (e1 : fRead By Nb f S = fRead By Nb 1601 S00) (e2 : S.1 = 0 → (f : Int) + S.2.2.2 7 = 1601) (e3 : S.1 = 0 → TW6 S.2.2.2) (G : ML By Nb σ' (gLine By Nb S)) : LPJ By Nb σ' := by
  obtain ⟨hw, l0, l1⟩ := WFw_of hσ H z
  have e4 := e2 z
  obtain ⟨g, rfl⟩ : ∃ g, f = g + 1 := ⟨f - 1, by omega⟩
  refine ⟨fLine By Nb S, g, ML_eqv G (eq_line z hw), ?_, fun _ => ?_, fun _ => t_line (BND_of hσ H z) (e3 z)⟩
  · rw [← e1]
    conv => rhs; unfold fRead
    rw [if_pos ⟨z, tk⟩]
  · have : (fLine By Nb S).2.2.2 7 = S.2.2.2 7 + 1 := by
      unfold fLine; dsimp only [wst, uPd]; exact if_pos rfl
    omega
theorem TW6_x {f : Nat} (e1 : fRead By Nb f S = fRead By Nb 1601 S00) (z : S.1 = 0) (tk : tK By Nb S.2.2.1 = 0) (e3 : S.1 = 0 → TW6 S.2.2.2) : TW6 (fRead By Nb 1601 S00).2.2.2 := by
  rw [← e1, fRead_x (Or.inr tk)]
  exact e3 z
/-- the plan that is there behind a reading -/
def SPL (By : Int → Int) (Nb : Int) (σ : SG) (p p2 : Nat) : Prop := ((fRead By Nb 1601 S00).1 ≠ 0 → (σ 0)[9]? = some (.ref p)) ∧ ((fRead By Nb 1601 S00).1 = 0 → (σ 0)[9]? = some (.ref p2) ∧ KN σ p2 (fRead By Nb 1601 S00).2.2.2 (act (fRead By Nb 1601 S00).2.2.2))
end TW6
section IMG
variable {σ0 σ σ' σ1 σ2 : SG} {W W' : List (Nat × Nat)} {a p : Nat} {w w' : Int → Int}
/-! images: three plans, each behind its flag -/
def IMX (σ : SG) : Prop := ∀ k : Nat, k < 3 → (σ 70)[k]? = some (.ref (72 + 26 * k)) ∧ FXP σ (72 + 26 * k)
theorem PLI_k {k : Nat} (h : k < 3) : PLI (72 + 26 * k) := by
  unfold PLI
  omega
theorem SEP_i {k : Nat} (h : k < 3) (hp : PLA p) : SEP (72 + 26 * k) p ∧ SEP p (72 + 26 * k) := by
  have i := PLI_B (PLI_k h)
  have j := PLA_B hp
  unfold PLA at hp
  exact ⟨⟨i, j, by omega⟩, ⟨j, i, by omega⟩⟩
/-- image(k): the block of image k shows what the plan shows, its flag is up; else nothing -/
def IMC (σ0 σ : SG) (p : Nat) (k : Int) : Prop := (0 ≤ k → k < 3 → ∀ i : Int, 0 ≤ i → i < 226 → ci σ (72 + 26 * k.toNat + lcO i) (lcB i) = ci σ0 (p + lcO i) (lcB i)) ∧ (∀ b q : Nat, 18 ≤ b → b < 150 → b ≠ 71 → (0 ≤ k → k < 3 → b < 72 + 26 * k.toNat ∨ 72 + 26 * k.toNat + 26 ≤ b) → (σ b)[q]? = (σ0 b)[q]?) ∧ BSET σ0 σ 71 k
theorem IMC_no {k : Int} (h : k < 0 ∨ 2 < k) : IMC σ σ p k := ⟨fun _ _ => by omega, fun _ _ _ _ _ _ => rfl, BSET_no SAMr_0 h⟩
theorem IMC_ok {k : Int} {y : Int32} (k0 : 0 ≤ k) (k2 : k < 3) (C : CPD σ0 σ1 a p (fun _ => True)) (ha : a = 72 + 26 * k.toNat) (h1 : (σ2 71)[k.toNat]? = some (.int y)) (h2 : ∀ b q, (b ≠ 71 ∨ q ≠ k.toNat) → (σ2 b)[q]? = (σ1 b)[q]?) (hy : y.toInt = 1) : IMC σ0 σ2 p k := by
  subst ha
  refine ⟨fun _ _ i i0 i1 => ?_, fun b q b0 b1 b2 b3 => ?_, ?_⟩
  · rw [← C.1 i i0 i1 trivial]
    have := lc_0 i0 i1
    exact ci_eq (h2 _ _ (Or.inl (by omega)))
  · rw [h2 b q (Or.inl b2)]
    exact C.2 b q b0 b1 (b3 k0 k2)
  · exact BSET_st (σ := σ1) (fun j => by
      unfold ci
      rw [C.2 71 _ (by omega) (by omega) (by omega)]) h1 h2 hy k0
/-- back(k) -/
def BKC (σ0 σ : SG) (p : Nat) (k f : Int) : Prop := (0 ≤ k → k < 3 → f ≠ 0 → (∀ i : Int, 0 ≤ i → i < 226 → ci σ (p + lcO i) (lcB i) = ci σ0 (72 + 26 * k.toNat + lcO i) (lcB i)) ∧ OUT σ0 σ p) ∧ ((k < 0 ∨ 2 < k ∨ f = 0) → ∀ b q : Nat, 18 ≤ b → b < 150 → (σ b)[q]? = (σ0 b)[q]?)
theorem BKC_no {k f : Int} (h : k < 0 ∨ 2 < k ∨ f = 0) : BKC σ σ p k f := ⟨fun _ _ _ => by omega, fun _ _ _ _ _ => rfl⟩
theorem BKC_ok {k f : Int} (k0 : 0 ≤ k) (k2 : k < 3) (hf : f ≠ 0) (C : CPD σ0 σ1 p a (fun _ => True)) (ha : a = 72 + 26 * k.toNat) (h : Fr W σ1 σ2) (hw : OTW W = true) (hp : PLB p) : BKC σ0 σ2 p k f := by
  subst ha
  refine ⟨fun _ _ _ => ⟨fun i i0 i1 => ?_, OUT_fr C.2 h hw⟩, fun z => by omega⟩
  rw [← C.1 i i0 i1 trivial]
  have := lc_0 i0 i1
  unfold PLB at hp
  exact ci_eq (h _ _ (OTW_n hw (by omega) (by omega)))
end IMG
section IMM
variable {σ0 σ σ' : SG} {k i : Int}
/-! images of the model -/
def IMW (σ0 σ : SG) (k : Int) : Prop := (0 ≤ k → k < 3 → CPI σ0 σ k 226) ∧ ((k < 0 ∨ 2 < k) → ∀ y : Int, ci σ 161 y = ci σ0 161 y) ∧ ∀ y : Int, ci σ 160 y = ci σ0 160 y
theorem IMW_no (h : k < 0 ∨ 2 < k) : IMW σ σ k := ⟨fun _ _ => by omega, fun _ _ => rfl, fun _ => rfl⟩
theorem IMW_ok {a n : Nat} (H : CPI σ0 σ k i) (hi : i = 226) (k0 : 0 ≤ k) (k2 : k < 3) (hw : SWd σ0 σ) (h2 : ∀ b q, (b ≠ a ∨ q ≠ n) → (σ' b)[q]? = (σ b)[q]?) (ha : 160 ≠ a ∧ 161 ≠ a) : IMW σ0 σ' k := by
  subst hi
  refine ⟨fun _ _ => ⟨fun x x0 x1 => ?_, fun y y0 y1 => ?_⟩, fun z => by omega, fun y => ?_⟩
  · rw [ci_ne h2 ha.2]; exact H.1 x x0 x1
  · rw [ci_ne h2 ha.2]; exact H.2 y y0 y1
  · rw [ci_ne h2 ha.1]; exact hw y
def BKM (σ0 σ : SG) (k f : Int) : Prop := (0 ≤ k → k < 3 → f ≠ 0 → ∀ i : Int, 0 ≤ i → i < 226 → wf σ i = imf σ0 k i) ∧ ((k < 0 ∨ 2 < k ∨ f = 0) → ∀ i : Int, wf σ i = wf σ0 i)
theorem BKM_no {f : Int} (h : k < 0 ∨ 2 < k ∨ f = 0) : BKM σ σ k f := ⟨fun _ _ _ => by omega, fun _ _ => rfl⟩
theorem BKM_ok {f : Int} (H : CPB σ0 σ k i) (hi : 226 ≤ i) (k0 : 0 ≤ k) (k2 : k < 3) (hf : f ≠ 0) : BKM σ0 σ k f := ⟨fun _ _ _ x x0 x1 => H x x0 (by omega), fun z => by omega⟩
end IMM
