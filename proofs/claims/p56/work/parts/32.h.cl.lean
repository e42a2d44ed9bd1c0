section CLS
/-! the class's cells while it reads -/
variable {By : Int → Int} {Nb : Int} {Sp S T : PS} {σ0 σ σ' : SG} {W : List (Nat × Nat)} {a : Nat}
def TPc (By : Int → Int) (Nb : Int) (σ : SG) : Prop := 0 ≤ Nb ∧ Nb ≤ 1600 ∧ ci σ 1 1 = Nb ∧ ∀ i : Int, 0 ≤ i → i < Nb → ci σ 2 i = By i ∧ -128 ≤ By i ∧ By i ≤ 127
def TKc (By : Int → Int) (Nb p : Int) (σ : SG) : Prop := 0 ≤ p ∧ p ≤ Nb ∧ ci σ 3 3 = tE By Nb p ∧ ci σ 3 2 = tS By Nb p ∧ ci σ 3 1 = tK By Nb p ∧ (tK By Nb p = 2 → ci σ 3 4 = tV By Nb p)
def CT (By : Int → Int) (Nb : Int) (σ : SG) (S : PS) : Prop := TPc By Nb σ ∧ ci σ 3 5 = S.1 ∧ ci σ 3 6 = S.2.1 ∧ (S.1 = 0 → TKc By Nb S.2.2.1 σ)
def TQW (W : List (Nat × Nat)) : Bool := !W.contains (1, 1) && !W.contains (2, 0)
def TRW (W : List (Nat × Nat)) : Bool := !W.contains (3, 1) && !W.contains (3, 2) && !W.contains (3, 3) && !W.contains (3, 4)
def CTW (W : List (Nat × Nat)) : Bool := TQW W && TRW W && !W.contains (3, 5) && !W.contains (3, 6)
theorem f3 {j : Nat} (h : Fr W σ σ') (hj : j < 7) (hw : W.contains (3, j) = false) : ci σ' 3 (j : Int) = ci σ 3 (j : Int) := by
  refine cf_fr h tgz_3 ?_
  rw [show ((j : Int)).toNat = j by omega, show SL 3 j = j from rfl]; exact hw
theorem f1 (h : Fr W σ σ') (hw : W.contains (1, 1) = false) : ci σ' 1 1 = ci σ 1 1 := by
  refine cf_fr h tgz_1 ?_
  rw [show (1 : Int).toNat = 1 from rfl, show SL 1 1 = 1 from rfl]; exact hw
theorem TPc_fr (H : TPc By Nb σ) (h : Fr W σ σ') (hw : TQW W = true) : TPc By Nb σ' := by
  unfold TQW at hw
  rw [Bool.and_eq_true] at hw
  obtain ⟨a, b, c, d⟩ := H
  refine ⟨a, b, by rw [← c]; exact f1 h (nq _ hw.1), fun i i0 i1 => ?_⟩
  rw [ci_fr h tgz_2 (by rw [Bool.and_eq_true]; exact ⟨by decide +kernel, hw.2⟩)]; exact d i i0 i1
theorem TKc_fr {p : Int} (H : TKc By Nb p σ) (h : Fr W σ σ') (hw : TRW W = true) : TKc By Nb p σ' := by
  unfold TRW at hw
  simp only [Bool.and_eq_true] at hw
  obtain ⟨p0, p1, a, b, c, d⟩ := H
  refine ⟨p0, p1, ?_, ?_, ?_, fun z => ?_⟩
  · rw [← a]; exact f3 (j := 3) h (by omega) (nq _ hw.1.2)
  · rw [← b]; exact f3 (j := 2) h (by omega) (nq _ hw.1.1.2)
  · rw [← c]; exact f3 (j := 1) h (by omega) (nq _ hw.1.1.1)
  · rw [← d z]; exact f3 (j := 4) h (by omega) (nq _ hw.2)
theorem CT_fr (H : CT By Nb σ S) (h : Fr W σ σ') (hw : CTW W = true) : CT By Nb σ' S := by
  unfold CTW at hw
  simp only [Bool.and_eq_true] at hw
  obtain ⟨a, b, c, d⟩ := H
  refine ⟨TPc_fr a h hw.1.1.1, ?_, ?_, fun z => TKc_fr (d z) h hw.1.1.2⟩
  · rw [← b]; exact f3 (j := 5) h (by omega) (nq _ hw.1.2)
  · rw [← c]; exact f3 (j := 6) h (by omega) (nq _ hw.2)
theorem CT_eq (H : CT By Nb σ S) (e : S = T) : CT By Nb σ T := by subst e; exact H
theorem CT_wst {i v : Int} (H : CT By Nb σ S) : CT By Nb σ (wst S i v) := H
theorem CT_k {k : Int32} (H : CT By Nb σ S) (h : (σ 3)[5]? = some (.int k)) : S.1 = k.toInt := by rw [← H.2.1]; exact ci_at (j := 5) h rfl
theorem CT_t {t : Int32} (H : CT By Nb σ S) (h : (σ 3)[1]? = some (.int t)) : S.1 = 0 → tK By Nb S.2.2.1 = t.toInt := fun z => by
  rw [← (H.2.2.2 z).2.2.2.2.1]; exact ci_at (j := 1) h rfl
theorem CT_u {u : Int32} (H : CT By Nb σ S) (h : (σ 3)[4]? = some (.int u)) : S.1 = 0 → tK By Nb S.2.2.1 = 2 → u.toInt = tV By Nb S.2.2.1 ∧ 0 ≤ tV By Nb S.2.2.1 := fun z y => by
  rw [← (H.2.2.2 z).2.2.2.2.2 y]; exact ⟨(ci_at (j := 4) h rfl).symm, by rw [(H.2.2.2 z).2.2.2.2.2 y]; exact (tV_rng y).1⟩
theorem CT_fa {f g : Int32} (H : CT By Nb σ S) (h8 : (σ 3)[3]? = some (.int f)) (h9 : (σ 3)[2]? = some (.int g)) : S.1 = 0 → tE By Nb S.2.2.1 = f.toInt ∧ tS By Nb S.2.2.1 = g.toInt ∧ f.toInt ≤ Nb ∧ g.toInt ≤ f.toInt := fun z => by
  have a := H.2.2.2 z
  have e1 : f.toInt = tE By Nb S.2.2.1 := by rw [← a.2.2.1]; exact (ci_at (j := 3) h8 rfl).symm
  have e2 : g.toInt = tS By Nb S.2.2.1 := by rw [← a.2.2.2.1]; exact (ci_at (j := 2) h9 rfl).symm
  have r := tE_rng (B := By) a.2.1
  exact ⟨e1.symm, e2.symm, by omega, by omega⟩
theorem CT_at {f : Int32} (H : CT By Nb σ S) (z : S.1 = 0) (h : (σ 3)[3]? = some (.int f)) : f.toInt ≤ Nb := by
  have a := H.2.2.2 z
  rw [show f.toInt = tE By Nb S.2.2.1 by rw [← a.2.2.1]; exact (ci_at (j := 3) h rfl).symm]
  exact (tE_rng a.2.1).2.1
theorem CT_err {k : Int} (H : CT By Nb σ S) (z : S.1 = 0) (hk : k ≠ 0) (h : Fr W σ σ') (hw : TQW W = true) (h5 : ci σ' 3 5 = k) {y : Int32} (h9 : (σ 3)[2]? = some (.int y)) (h13 : ci σ' 3 6 = y.toInt) : CT By Nb σ' (err By Nb k S) := by
  unfold err
  rw [if_pos z]
  refine ⟨TPc_fr H.1 h hw, h5, ?_, fun q => absurd q hk⟩
  show ci σ' 3 6 = tS By Nb S.2.2.1
  rw [h13, ← (H.2.2.2 z).2.2.2.1]; exact (ci_at (j := 2) h9 rfl).symm
theorem CT_adv {f : Int32} (H : CT By Nb σ S) (z : S.1 = 0) (h8 : (σ 3)[3]? = some (.int f)) (h : Fr W σ σ') (hw : (TQW W && !W.contains (3, 5) && !W.contains (3, 6)) = true) (hK : TKc By Nb f.toInt σ') : CT By Nb σ' (adv By Nb S) := by
  simp only [Bool.and_eq_true] at hw
  obtain ⟨a, b, c, d⟩ := H
  have e : f.toInt = tE By Nb S.2.2.1 := by rw [← (d z).2.2.1]; exact (ci_at (j := 3) h8 rfl).symm
  rw [e] at hK
  unfold adv
  rw [if_pos z]
  refine ⟨TPc_fr a h hw.1.1, ?_, ?_, fun _ => hK⟩
  · show ci σ' 3 5 = S.1
    rw [← b]; exact f3 (j := 5) h (by omega) (nq _ hw.1.2)
  · show ci σ' 3 6 = S.2.1
    rw [← c]; exact f3 (j := 6) h (by omega) (nq _ hw.2)
/-! one byte -/
theorem kA_c {n c : Int32} {i : Int} (hT : TPc By Nb σ) (hn : (σ 1)[1]? = some (.int n)) (hc : i < n.toInt → (σ 2)[i.toNat]? = some (.int c)) (i0 : 0 ≤ i) : (n.toInt ≤ i ∧ kA By Nb i = 0) ∨ (i < n.toInt ∧ By i = c.toInt ∧ ((97 ≤ c.toInt ∧ c.toInt ≤ 122 ∧ kA By Nb i = 1) ∨ (48 ≤ c.toInt ∧ c.toInt ≤ 57 ∧ kA By Nb i = 2) ∨ (c.toInt = 59 ∧ kA By Nb i = 3) ∨ (¬ (97 ≤ c.toInt ∧ c.toInt ≤ 122) ∧ ¬ (48 ≤ c.toInt ∧ c.toInt ≤ 57) ∧ c.toInt ≠ 59 ∧ kA By Nb i = 4))) := by
  have e : Nb = n.toInt := by rw [← hT.2.2.1]; exact ci_at (j := 1) hn rfl
  by_cases h : i < n.toInt
  · refine Or.inr ⟨h, ?_⟩
    have k := hT.2.2.2 i i0 (by omega)
    have e2 : ci σ 2 i = c.toInt := ci_at (hc h) rfl
    refine ⟨by omega, ?_⟩
    unfold kA
    rw [if_neg (by omega)]
    by_cases h1 : 97 ≤ By i ∧ By i ≤ 122
    · rw [if_pos h1]; omega
    · rw [if_neg h1]
      by_cases h2 : 48 ≤ By i ∧ By i ≤ 57
      · rw [if_pos h2]; omega
      · rw [if_neg h2]
        by_cases h3 : By i = 59
        · rw [if_pos h3]; omega
        · rw [if_neg h3]; omega
  · refine Or.inl ⟨by omega, ?_⟩
    unfold kA; rw [if_pos (by omega)]
theorem By_c {n c : Int32} {i : Int} (hT : TPc By Nb σ) (hn : (σ 1)[1]? = some (.int n)) (i0 : 0 ≤ i) (h : i < n.toInt) (hc : (σ 2)[i.toNat]? = some (.int c)) : i < Nb ∧ By i = c.toInt := by
  have e : Nb = n.toInt := by rw [← hT.2.2.1]; exact ci_at (j := 1) hn rfl
  have k := hT.2.2.2 i i0 (by omega)
  have e2 : ci σ 2 i = c.toInt := ci_at hc rfl
  omega
theorem Nb_c {n : Int32} (hT : TPc By Nb σ) (hn : (σ 1)[1]? = some (.int n)) : n.toInt = Nb := by rw [← hT.2.2.1]; exact (ci_at (j := 1) hn rfl).symm
theorem TKc_of {f y k e : Int} (f0 : 0 ≤ f) (f1 : f ≤ Nb) (eS : tS By Nb f = y) (hk : kA By Nb y = k) (hE : (k = 0 ∧ e = y) ∨ ((k = 3 ∨ k = 4) ∧ e = y + 1) ∨ ((k = 1 ∨ k = 2) ∧ rnx By Nb k e = rnx By Nb k y ∧ kA By Nb e ≠ k)) (c3 : ci σ 3 3 = e) (c2 : ci σ 3 2 = y) (c1 : ci σ 3 1 = k) (c4 : k = 2 → ci σ 3 4 = vl By 1000000 y e) : TKc By Nb f σ := by
  have e1 : tK By Nb f = k := by unfold tK; rw [eS]; exact hk
  have e2 : tE By Nb f = e := by
    unfold tE
    rw [e1]
    rcases hE with h | h | h
    · rw [if_pos h.1, eS]; exact h.2.symm
    · rw [if_neg (by omega), if_neg (by omega), eS]; exact h.2.symm
    · rw [if_neg (by omega), if_pos h.1, eS, ← h.2.1]; exact rnx_no h.2.2
  refine ⟨f0, f1, by rw [e2]; exact c3, by rw [eS]; exact c2, by rw [e1]; exact c1, fun z => ?_⟩
  unfold tV; rw [eS, e2]; exact c4 (by omega)
/-! where the plan keeps a number -/
def lcO (i : Int) : Nat := if i < 10 then (if i = 3 then 2 else 0) else if i < 26 then (if (i - 10) % 4 = 2 then 11 + 4 * ((i - 10) / 4).toNat else 10 + 4 * ((i - 10) / 4).toNat) else if i < 122 then (if (i - 26) % 2 = 0 then 12 + 4 * ((i - 26) / 24).toNat else 13 + 4 * ((i - 26) / 24).toNat) else if i < 146 then (if i % 2 = 0 then 3 else 4) else if i < 154 then (if i % 2 = 0 then 5 else 6) else if i < 166 then (if i % 2 = 0 then 7 else 8) else 9
def lcB (i : Int) : Int := if i < 10 then [1, 2, 3, 2, 8, 11, 14, 0, 6, 7].getD i.toNat 0 else if i < 26 then [1, 2, 2, 3].getD ((i - 10) % 4).toNat 0 else if i < 122 then ((i - 26) % 24) / 2 else if i < 146 then (i - 122) / 2 else if i < 154 then (i - 146) / 2 else if i < 166 then (i - 154) / 2 else i - 166
def lcV : List (List Nat) := [[7, 0, 1, 2, 0, 0, 8, 9, 4, 0, 0, 5, 0, 0, 6], [0], [0, 0, 3], [122, 124, 126, 128, 130, 132, 134, 136, 138, 140, 142, 144], [123, 125, 127, 129, 131, 133, 135, 137, 139, 141, 143, 145], [146, 148, 150, 152], [147, 149, 151, 153], [154, 156, 158, 160, 162, 164], [155, 157, 159, 161, 163, 165], [166, 167, 168, 169, 170, 171, 172, 173, 174, 175, 176, 177, 178, 179, 180, 181, 182, 183, 184, 185, 186, 187, 188, 189, 190, 191, 192, 193, 194, 195, 196, 197, 198, 199, 200, 201, 202, 203, 204, 205, 206, 207, 208, 209, 210, 211, 212, 213, 214, 215, 216, 217, 218, 219, 220, 221, 222, 223, 224, 225], [0, 10, 11, 13], [0, 0, 12], [26, 28, 30, 32, 34, 36, 38, 40, 42, 44, 46, 48], [27, 29, 31, 33, 35, 37, 39, 41, 43, 45, 47, 49], [0, 14, 15, 17], [0, 0, 16], [50, 52, 54, 56, 58, 60, 62, 64, 66, 68, 70, 72], [51, 53, 55, 57, 59, 61, 63, 65, 67, 69, 71, 73], [0, 18, 19, 21], [0, 0, 20], [74, 76, 78, 80, 82, 84, 86, 88, 90, 92, 94, 96], [75, 77, 79, 81, 83, 85, 87, 89, 91, 93, 95, 97], [0, 22, 23, 25], [0, 0, 24], [98, 100, 102, 104, 106, 108, 110, 112, 114, 116, 118, 120], [99, 101, 103, 105, 107, 109, 111, 113, 115, 117, 119, 121]]
theorem lc_inv : ∀ i : Fin 226, (lcV.getD (lcO (i.val : Int)) []).getD (lcB (i.val : Int)).toNat 999 = i.val := by decide +kernel
theorem lc_inj (i j : Fin 226) (h : lcO (i.val : Int) = lcO (j.val : Int)) (h2 : (lcB (i.val : Int)).toNat = (lcB (j.val : Int)).toNat) : i = j := by
  have a := lc_inv i
  rw [h, h2] at a
  exact Fin.ext (a.symm.trans (lc_inv j))
theorem lc_rng : ∀ i : Fin 226, lcO (i.val : Int) < 26 ∧ 0 ≤ lcB (i.val : Int) := by decide +kernel
theorem lc_uniq {i j : Int} (i0 : 0 ≤ i) (i1 : i < 226) (j0 : 0 ≤ j) (j1 : j < 226) (h : lcO i = lcO j) (h2 : (lcB i).toNat = (lcB j).toNat) : i = j := by
  have k := lc_inj ⟨i.toNat, by omega⟩ ⟨j.toNat, by omega⟩
  simp only at k
  rw [show ((i.toNat : Nat) : Int) = i by omega, show ((j.toNat : Nat) : Int) = j by omega] at k
  have := congrArg Fin.val (k h h2)
  simp only at this; omega
theorem lc_0 {i : Int} (i0 : 0 ≤ i) (i1 : i < 226) : lcO i < 26 ∧ 0 ≤ lcB i := by
  have k := lc_rng ⟨i.toNat, by omega⟩
  simp only at k
  rw [show ((i.toNat : Nat) : Int) = i by omega] at k; exact k
/-- the plan at a shows these numbers -/
def KN (σ : SG) (a : Nat) (w : Int → Int) (A : Int → Prop) : Prop := ∀ i : Int, 0 ≤ i → i < 226 → A i → ci σ (a + lcO i) (lcB i) = w i
theorem KN_sub {w : Int → Int} {A A' : Int → Prop} (H : KN σ a w A) (h : ∀ i : Int, 0 ≤ i → i < 226 → A' i → A i) : KN σ a w A' := fun i i0 i1 x => H i i0 i1 (h i i0 i1 x)
theorem KN_st {w : Int → Int} {A : Int → Prop} {b q : Nat} {y : Int32} {j v : Int} (H : KN σ a w A) (h1 : (σ' b)[q]? = some (.int y)) (h2 : ∀ b' q', (b' ≠ b ∨ q' ≠ q) → (σ' b')[q']? = (σ b')[q']?) (j0 : 0 ≤ j) (j1 : j < 226) (hb : b = a + lcO j) (hq : q = (lcB j).toNat) (hv : v = y.toInt) : KN σ' a (uPd w j v) (fun i => A i ∨ i = j) := fun i i0 i1 x => by
  unfold uPd
  by_cases e : i = j
  · subst e hb hq; rw [if_pos rfl, hv]; unfold ci; rw [h1]
  · rw [if_neg e]
    have x : A i := by rcases x with x | x; exact x; exact absurd x e
    rw [← H i i0 i1 x]
    refine ci_eq (h2 _ _ ?_)
    by_cases z : a + lcO i = b
    · refine Or.inr (fun z2 => e (lc_uniq i0 i1 j0 j1 (by omega) (by omega)))
    · exact Or.inl z
theorem KN_ne {w : Int → Int} {A : Int → Prop} {b q : Nat} (H : KN σ a w A) (h2 : ∀ b' q', (b' ≠ b ∨ q' ≠ q) → (σ' b')[q']? = (σ b')[q']?) (hb : b < a ∨ a + 26 ≤ b) : KN σ' a w A := fun i i0 i1 x => by
  rw [← H i i0 i1 x]; have := lc_0 i0 i1; exact ci_eq (h2 _ _ (Or.inl (by omega)))
/-- which numbers count -/
def act (w : Int → Int) (i : Int) : Prop := i < 10 ∨ (10 ≤ i ∧ i < 26 ∧ (i - 10) / 4 < w 2) ∨ (26 ≤ i ∧ i < 122 ∧ (i - 26) / 24 < w 2 ∧ ((i - 26) % 24) / 2 < w (12 + 4 * ((i - 26) / 24))) ∨ (122 ≤ i ∧ i < 146 ∧ (i - 122) / 2 < w 3) ∨ (146 ≤ i ∧ i < 154 ∧ (i - 146) / 2 < w 4) ∨ (154 ≤ i ∧ i < 166 ∧ (i % 2 = 1 ∨ (i - 154) / 2 < w 5)) ∨ (166 ≤ i ∧ i - 166 < w 6)
def PLA (a : Nat) : Prop := a = 18 ∨ a = 44
/-- the plan's own rows and doors stay where they are -/
def FXP (σ : SG) (a : Nat) : Prop := (σ a)[4]? = some (.ref (a + 1)) ∧ (σ a)[5]? = some (.ref (a + 2)) ∧ (σ a)[9]? = some (.ref (a + 5)) ∧ (σ a)[10]? = some (.ref (a + 6)) ∧ (σ a)[12]? = some (.ref (a + 7)) ∧ (σ a)[13]? = some (.ref (a + 8)) ∧ (σ a)[15]? = some (.ref (a + 9)) ∧ (σ (a + 2))[0]? = some (.ref (a + 3)) ∧ (σ (a + 2))[1]? = some (.ref (a + 4)) ∧ ∀ d : Nat, d < 4 → (σ (a + 1))[d]? = some (.ref (a + 10 + 4 * d)) ∧ (σ (a + 10 + 4 * d))[0]? = some (.ref (a + 11 + 4 * d)) ∧ (σ (a + 11 + 4 * d))[0]? = some (.ref (a + 12 + 4 * d)) ∧ (σ (a + 11 + 4 * d))[1]? = some (.ref (a + 13 + 4 * d))
def FXW (W : List (Nat × Nat)) : Bool := !W.contains (18, 4) && !W.contains (18, 5) && !W.contains (18, 9) && !W.contains (18, 10) && !W.contains (18, 12) && !W.contains (18, 13) && !W.contains (18, 15) && !W.contains (19, 0) && !W.contains (20, 0) && !W.contains (20, 1) && !W.contains (28, 0)
theorem pl_tags : ∀ a : Fin 69, (a.val = 18 ∨ a.val = 44) → TG a.val = 18 ∧ TG (a.val + 1) = 19 ∧ TG (a.val + 2) = 20 ∧ TG (a.val + 3) = 21 ∧ TG (a.val + 4) = 22 ∧ TG (a.val + 5) = 23 ∧ TG (a.val + 6) = 24 ∧ TG (a.val + 7) = 25 ∧ TG (a.val + 8) = 26 ∧ TG (a.val + 9) = 27 ∧ ∀ d : Fin 4, TG (a.val + 10 + 4 * d.val) = 28 ∧ TG (a.val + 11 + 4 * d.val) = 20 ∧ TG (a.val + 12 + 4 * d.val) = 21 ∧ TG (a.val + 13 + 4 * d.val) = 22 := by decide +kernel
theorem PLt (h : PLA a) : TG a = 18 ∧ TG (a + 1) = 19 ∧ TG (a + 2) = 20 ∧ TG (a + 3) = 21 ∧ TG (a + 4) = 22 ∧ TG (a + 5) = 23 ∧ TG (a + 6) = 24 ∧ TG (a + 7) = 25 ∧ TG (a + 8) = 26 ∧ TG (a + 9) = 27 ∧ ∀ d : Nat, d < 4 → TG (a + 10 + 4 * d) = 28 ∧ TG (a + 11 + 4 * d) = 20 ∧ TG (a + 12 + 4 * d) = 21 ∧ TG (a + 13 + 4 * d) = 22 := by
  have h' : a = 18 ∨ a = 44 := h
  have k := pl_tags ⟨a, by omega⟩ h'
  obtain ⟨k0, k1, k2, k3, k4, k5, k6, k7, k8, k9, kd⟩ := k
  exact ⟨k0, k1, k2, k3, k4, k5, k6, k7, k8, k9, fun d hd => kd ⟨d, hd⟩⟩
theorem FXP_fr (hp : PLA a) (H : FXP σ a) (h : Fr W σ σ') (hw : FXW W = true) : FXP σ' a := by
  unfold FXW at hw
  simp only [Bool.and_eq_true] at hw
  obtain ⟨⟨⟨⟨⟨⟨⟨⟨⟨⟨w4, w5⟩, w9⟩, w10⟩, w12⟩, w13⟩, w15⟩, wd⟩, wl0⟩, wl1⟩, wdr⟩ := hw
  obtain ⟨t0, t1, t2, t3, t4, t5, t6, t7, t8, t9, td⟩ := PLt hp
  obtain ⟨h4, h5, h9, h10, h12, h13, h15, e0, e1, hd⟩ := H
  refine ⟨(h _ _ (inW t0 (nq _ w4))).trans h4, (h _ _ (inW t0 (nq _ w5))).trans h5, (h _ _ (inW t0 (nq _ w9))).trans h9, (h _ _ (inW t0 (nq _ w10))).trans h10, (h _ _ (inW t0 (nq _ w12))).trans h12, (h _ _ (inW t0 (nq _ w13))).trans h13, (h _ _ (inW t0 (nq _ w15))).trans h15, (h _ _ (inW t2 (nq _ wl0))).trans e0, (h _ _ (inW t2 (nq _ wl1))).trans e1, fun d d4 => ?_⟩
  obtain ⟨a1, a2, a3, a4⟩ := hd d d4
  obtain ⟨b1, b2, b3, b4⟩ := td d d4
  exact ⟨(h _ _ (inWa t1 (by rw [Bool.and_eq_true]; exact ⟨by decide +kernel, wd⟩))).trans a1, (h _ _ (inW b1 (nq _ wdr))).trans a2, (h _ _ (inW b2 (nq _ wl0))).trans a3, (h _ _ (inW b2 (nq _ wl1))).trans a4⟩
theorem ref_uniq {o : Option Value} {x y : Nat} (h : o = some (.ref x)) (h2 : o = some (.ref y)) : x = y := by
  rw [h] at h2; injection h2 with h3; injection h3
end CLS
section CLT
variable {By : Int → Int} {Nb : Int} {Sp S T : PS} {σ0 σ σ' : SG} {W : List (Nat × Nat)} {a : Nat}
theorem kA_end {n : Int32} {i r : Int} (hT : TPc By Nb σ) (hn : (σ 1)[1]? = some (.int n)) (h : n.toInt ≤ i) (hr : r = 0) : r = kA By Nb i := by
  have := Nb_c hT hn
  unfold kA; rw [if_pos (by omega)]; exact hr
theorem kA_ge {i : Int} : Nb ≤ i → kA By Nb i = 0 := fun h => by unfold kA; rw [if_pos h]
theorem BLc_go {y z X : Int} (h : y < Nb) (h2 : By y = 32 ∨ By y = 10) (e : z = y + 1) (g : tS By Nb y = X) : tS By Nb z = X ∧ z ≤ Nb := by
  subst e; rw [tS_go h h2]; exact ⟨g, by omega⟩
theorem BLc_no {y X : Int} (g : tS By Nb y = X) (h : Nb ≤ y ∨ (By y ≠ 32 ∧ By y ≠ 10)) : X = y := by rw [← g]; exact tS_no (by omega)
/-- the word or number so far -/
def STL (By : Int → Int) (Nb k s e v : Int) : Prop := ((k = 1 ∨ k = 2) → rnx By Nb k e = rnx By Nb k s ∧ s ≤ e) ∧ (k = 2 → v = vl By 1000000 s e) ∧ (k = 0 → e = s) ∧ (k = 3 ∨ k = 4 → e = s + 1)
theorem STL_0 {k s e v : Int} (h : (k = 0 ∧ e = s) ∨ ((k = 3 ∨ k = 4) ∧ e = s + 1) ∨ ((k = 1 ∨ k = 2) ∧ e = s ∧ v = 0)) : STL By Nb k s e v := by
  refine ⟨fun q => ?_, fun q => ?_, fun q => by omega, fun q => by omega⟩
  · have : e = s := by omega
    rw [this]; exact ⟨rfl, by omega⟩
  · have h1 : e = s := by omega
    have h2 : v = 0 := by omega
    rw [h1, h2, vl_0]
theorem STL_s {k s e v e' v' : Int} (g : STL By Nb k s e v) (hk : k = 1 ∨ k = 2) (h : kA By Nb e = k) (he : e' = e + 1) (hv : k = 2 → v' = min 1000000 (10 * v + By e - 48)) : STL By Nb k s e' v' := by
  obtain ⟨g1, g2, -, -⟩ := g
  obtain ⟨g1, g3⟩ := g1 hk
  subst he
  refine ⟨fun _ => ⟨?_, by omega⟩, fun q => ?_, fun q => by omega, fun q => by omega⟩
  · rw [rnx_go (by omega) h]; exact g1
  · rw [vl_go g3, ← g2 q]; exact hv q
theorem STL_x {k s e v : Int} (g : STL By Nb k s e v) (hk : 0 ≤ k ∧ k ≤ 4) (h : (k = 1 ∨ k = 2) → kA By Nb e ≠ k) : (k = 0 ∧ e = s) ∨ ((k = 3 ∨ k = 4) ∧ e = s + 1) ∨ ((k = 1 ∨ k = 2) ∧ rnx By Nb k e = rnx By Nb k s ∧ kA By Nb e ≠ k) := by
  obtain ⟨g1, g2, g3, g4⟩ := g
  by_cases q : k = 1 ∨ k = 2
  · exact Or.inr (Or.inr ⟨q, (g1 q).1, h q⟩)
  · by_cases z : k = 0
    · exact Or.inl ⟨z, g3 z⟩
    · exact Or.inr (Or.inl ⟨by omega, g4 (by omega)⟩)
theorem ISQc_s {i : Nat} {k : Int} (hk : k = 0) (h1 : S.1 = 0) (h2 : tK By Nb S.2.2.1 = 1) (h3 : tE By Nb S.2.2.1 - tS By Nb S.2.2.1 = ((LW i).length : Int)) : ISQ By Nb i S 1 k := ISQ_s hk (Or.inl ⟨rfl, h1, h2, h3⟩)
theorem psc_1 {c : Int} (h : c = 1) : adv By Nb S = pss By Nb c S := by unfold pss; rw [if_pos h]
theorem psc_0 {c : Int} (h : c ≠ 1) : err By Nb 1 S = pss By Nb c S := by unfold pss; rw [if_neg h]
theorem ISQc_n {i : Nat} {k k' J b' : Int} {c z : Int32} (H : CT By Nb σ S) (g : ISQ By Nb i S 1 k) (hl : k < ((LW i).length : Int)) (hJ : J = tS By Nb S.2.2.1 + k) (hc : (σ 2)[J.toNat]? = some (.int c)) (hz : z.toInt = (LW i).getD k.toNat 0) (e : k' = k + 1) (h : (b' = 1 ∧ c.toInt = z.toInt) ∨ (b' = 0 ∧ c.toInt ≠ z.toInt)) : ISQ By Nb i S b' k' := by
  obtain ⟨k0, kl, g⟩ := g
  rcases g with ⟨-, g1, g2, g3, g4⟩ | ⟨g1, -⟩
  · have a := H.2.2.2 g1
    have p0 : 0 ≤ S.2.2.1 := a.1
    have r := tE_rng (B := By) a.2.1
    have s0 := tS_rng (B := By) (n := Nb) (p := S.2.2.1)
    have eb : By (tS By Nb S.2.2.1 + k) = c.toInt := by
      rw [← (H.1.2.2.2 (tS By Nb S.2.2.1 + k) (by omega) (by omega)).1]; exact ci_at hc hJ.symm
    have st := eqW_step (B := By) (LW i) k.toNat (tS By Nb S.2.2.1) (by omega)
    rw [show ((k.toNat : Nat) : Int) = k by omega, show (((k.toNat + 1 : Nat)) : Int) = k' by omega, show k.toNat + 1 = k'.toNat by omega] at st
    refine ⟨by omega, by omega, ?_⟩
    rcases h with ⟨h1, h2⟩ | ⟨h1, h2⟩
    · refine Or.inl ⟨h1, g1, g2, g3, ?_⟩
      rw [← g4, st, decide_eq_true (by rw [eb, h2, hz]), Bool.true_and]
    · refine Or.inr ⟨h1, ?_⟩
      have no : eqW By (tS By Nb S.2.2.1) (LW i) = false := by
        rw [← g4, st, decide_eq_false (by rw [eb, ← hz]; exact h2), Bool.false_and]
      unfold iW
      rw [if_neg]
      intro q
      have q2 := q.2
      unfold wd at q2
      rw [no, Bool.and_false] at q2
      exact absurd q2 (by decide)
  · omega
theorem nHc_1 {lo hi : Int} (h : S.1 = 0 → tK By Nb S.2.2.1 ≠ 2) : nH By Nb lo hi S = err By Nb 1 S := by
  by_cases z : S.1 = 0
  · unfold nH; rw [if_pos (h z)]
  · rw [nH_bad z, err_bad z]
theorem nHc_2 {lo hi : Int} (h : S.1 = 0 → tK By Nb S.2.2.1 = 2 ∧ (tV By Nb S.2.2.1 < lo ∨ hi < tV By Nb S.2.2.1)) : nH By Nb lo hi S = err By Nb 2 S := by
  by_cases z : S.1 = 0
  · unfold nH; rw [if_neg (by have := (h z).1; omega), if_pos (h z).2]
  · rw [nH_bad z, err_bad z]
theorem nHc_0 {lo hi : Int} (h : S.1 = 0 → tK By Nb S.2.2.1 = 2 ∧ lo ≤ tV By Nb S.2.2.1 ∧ tV By Nb S.2.2.1 ≤ hi) : nH By Nb lo hi S = S := by
  by_cases z : S.1 = 0
  · have := h z; unfold nH; rw [if_neg (by omega), if_neg (by omega)]
  · rw [nH_bad z]
theorem nH_cg2 {a a' b b' : Int} (h : S.1 = 0 → a = a') (h2 : S.1 = 0 → b = b') : nH By Nb a b S = nH By Nb a' b' S := by
  by_cases z : S.1 = 0
  · rw [h z, h2 z]
  · rw [nH_bad z, nH_bad z]
theorem nH_gg {a b : Int} (h : (nH By Nb a b S).1 = 0) : S.1 = 0 ∧ tK By Nb S.2.2.1 = 2 ∧ a ≤ tV By Nb S.2.2.1 ∧ tV By Nb S.2.2.1 ≤ b := by
  by_cases z : S.1 = 0
  · exact ⟨z, (nH_ok z).mp h⟩
  · rw [nH_bad z] at h; exact absurd h z
theorem pss_cg2 {c c' : Int} (h : S.1 = 0 → c = c') : pss By Nb c S = pss By Nb c' S := by
  by_cases z : S.1 = 0
  · rw [h z]
  · rw [pss_bad z, pss_bad z]
theorem tPc_b {m : Int} (z : (nH By Nb 0 15 S).1 ≠ 0) : tP By Nb m S = nH By Nb 0 15 S := by
  unfold tP; rw [if_neg (fun q => z q.1)]; unfold tN; exact adv_bad z
theorem tPc_e {m : Int} (z : (nH By Nb 0 15 S).1 = 0) (h : sbI (tV By Nb S.2.2.1) m ≠ 1) : tP By Nb m S = err By Nb 2 (nH By Nb 0 15 S) := by
  unfold tP; rw [if_pos ⟨z, h⟩, nH_id z]
theorem tPc_a {m : Int} (h : sbI (tV By Nb S.2.2.1) m = 1) : tP By Nb m S = adv By Nb (nH By Nb 0 15 S) := by
  unfold tP; rw [if_neg (fun q => q.2 h)]; rfl
theorem tWc {c : Int} (h : S.1 = 0 → (c = 1 ∧ (iW By Nb 4 S = 1 ∨ iW By Nb 11 S = 1 ∨ iW By Nb 7 S = 1)) ∨ (c = 0 ∧ iW By Nb 4 S = 0 ∧ iW By Nb 11 S = 0 ∧ iW By Nb 7 S = 0)) : pss By Nb c S = tW By Nb S := by
  unfold tW
  refine pss_cg2 (fun z => ?_)
  unfold orI
  rcases h z with ⟨h1, h2⟩ | ⟨h1, h2, h3, h4⟩
  · rcases h2 with h2 | h2 | h2 <;> simp [h1, h2]
  · simp [h1, h2, h3, h4]
theorem wyVc {r : Int} (h : (iW By Nb 4 S = 1 ∧ r = 0) ∨ (iW By Nb 4 S = 0 ∧ iW By Nb 11 S = 1 ∧ r = 1) ∨ (iW By Nb 4 S = 0 ∧ iW By Nb 11 S = 0 ∧ r = 2)) : r = wyV By Nb S := by
  unfold wyV
  rcases h with ⟨h1, h2⟩ | ⟨h1, h2, h3⟩ | ⟨h1, h2, h3⟩ <;> simp [*]
end CLT
