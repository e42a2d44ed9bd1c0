section MLS
/-- what follows, kept apart until it is wanted -/
def Imp (p q : Prop) : Prop := p → q
theorem Imp_m {p q : Prop} (h : Imp p q) (x : p) : q := h x
/-! the model's cells while it reads -/
variable {By : Int → Int} {Nb : Int} {Sp S T : PS} {σ0 σ σ' : SG} {W : List (Nat × Nat)}
theorem cf_fr {b g : Nat} {j : Int} (h : Fr W σ σ') (hb : TG b = g) (hw : W.contains (g, SL g j.toNat) = false) : ci σ' b j = ci σ b j := ci_eq (h b _ (inW hb hw))
def sN (By : Int → Int) (Nb a : Int) : Int := if a < Nb then By a % 256 else -1
def TPm (By : Int → Int) (Nb : Int) (σ : SG) : Prop := 0 ≤ Nb ∧ Nb ≤ 1600 ∧ ci σ 159 7 = Nb ∧ ∀ i : Int, 0 ≤ i → i < Nb → ci σ 163 i = By i ∧ -128 ≤ By i ∧ By i ≤ 127
def TKm (By : Int → Int) (Nb p : Int) (σ : SG) : Prop := 0 ≤ p ∧ p ≤ Nb ∧ ci σ 159 8 = tE By Nb p ∧ ci σ 159 9 = tS By Nb p ∧ ci σ 159 10 = tK By Nb p ∧ (tK By Nb p = 2 → ci σ 159 11 = min 99999 (tV By Nb p))
def ML (By : Int → Int) (Nb : Int) (σ : SG) (S : PS) : Prop := TPm By Nb σ ∧ ci σ 159 12 = S.1 ∧ ci σ 159 13 = S.2.1 ∧ (S.1 = 0 → TKm By Nb S.2.2.1 σ ∧ ∀ i : Int, 0 ≤ i → i < 226 → ci σ 165 i = S.2.2.2 i)
def TPW (W : List (Nat × Nat)) : Bool := !W.contains (35, 7) && !W.contains (39, 0)
def TKW (W : List (Nat × Nat)) : Bool := !W.contains (35, 8) && !W.contains (35, 9) && !W.contains (35, 10) && !W.contains (35, 11)
def MLW (W : List (Nat × Nat)) : Bool := TPW W && TKW W && !W.contains (35, 12) && !W.contains (35, 13) && !W.contains (41, 0)
theorem nq (q : Nat × Nat) (h : (!W.contains q) = true) : W.contains q = false := by
  rw [Bool.not_eq_true'] at h; exact h
theorem f159 {j : Nat} (h : Fr W σ σ') (hj : j < 36) (hw : W.contains (35, j) = false) : ci σ' 159 (j : Int) = ci σ 159 (j : Int) := by
  refine cf_fr h tgz_159 ?_
  rw [show ((j : Int)).toNat = j by omega, show SL 35 j = j from rfl]; exact hw
theorem TPm_fr (H : TPm By Nb σ) (h : Fr W σ σ') (hw : TPW W = true) : TPm By Nb σ' := by
  unfold TPW at hw
  rw [Bool.and_eq_true] at hw
  obtain ⟨a, b, c, d⟩ := H
  refine ⟨a, b, ?_, fun i i0 i1 => ?_⟩
  · rw [← c]; exact f159 (j := 7) h (by omega) (nq _ hw.1)
  · rw [ci_fr h tgz_163 (by rw [Bool.and_eq_true]; exact ⟨by decide +kernel, hw.2⟩)]; exact d i i0 i1
theorem TKm_fr {p : Int} (H : TKm By Nb p σ) (h : Fr W σ σ') (hw : TKW W = true) : TKm By Nb p σ' := by
  unfold TKW at hw
  simp only [Bool.and_eq_true] at hw
  obtain ⟨p0, p1, a, b, c, d⟩ := H
  refine ⟨p0, p1, ?_, ?_, ?_, fun z => ?_⟩
  · rw [← a]; exact f159 (j := 8) h (by omega) (nq _ hw.1.1.1)
  · rw [← b]; exact f159 (j := 9) h (by omega) (nq _ hw.1.1.2)
  · rw [← c]; exact f159 (j := 10) h (by omega) (nq _ hw.1.2)
  · rw [← d z]; exact f159 (j := 11) h (by omega) (nq _ hw.2)
theorem ML_fr (H : ML By Nb σ S) (h : Fr W σ σ') (hw : MLW W = true) : ML By Nb σ' S := by
  unfold MLW at hw
  simp only [Bool.and_eq_true] at hw
  obtain ⟨a, b, c, d⟩ := H
  refine ⟨TPm_fr a h hw.1.1.1.1, ?_, ?_, fun z => ⟨TKm_fr (d z).1 h hw.1.1.1.2, fun i i0 i1 => ?_⟩⟩
  · rw [← b]; exact f159 (j := 12) h (by omega) (nq _ hw.1.1.2)
  · rw [← c]; exact f159 (j := 13) h (by omega) (nq _ hw.1.2)
  · rw [ci_fr h tgz_165 (by rw [Bool.and_eq_true]; exact ⟨by decide +kernel, hw.2⟩)]; exact (d z).2 i i0 i1
theorem ML_eq (H : ML By Nb σ S) (e : S = T) : ML By Nb σ T := by subst e; exact H
theorem ML_eqv (H : ML By Nb σ S) (e : eqv S T) : ML By Nb σ T := by
  obtain ⟨a, b, c, d⟩ := H
  obtain ⟨e1, e2, e3⟩ := e
  refine ⟨a, by rw [← e1]; exact b, by rw [← e2]; exact c, fun z => ?_⟩
  have zS : S.1 = 0 := by rw [e1]; exact z
  obtain ⟨e4, e5⟩ := e3 zS
  rw [← e4]
  exact ⟨(d zS).1, fun i i0 i1 => by rw [(d zS).2 i i0 i1, e5]⟩
theorem ML_k {k : Int32} (H : ML By Nb σ S) (h : (σ 159)[12]? = some (.int k)) : S.1 = k.toInt := by
  rw [← H.2.1]; exact ci_at (j := 12) h rfl
theorem ML_t {t : Int32} (H : ML By Nb σ S) (h : (σ 159)[10]? = some (.int t)) : S.1 = 0 → tK By Nb S.2.2.1 = t.toInt := fun z => by
  rw [← (H.2.2.2 z).1.2.2.2.2.1]; exact ci_at (j := 10) h rfl
theorem ML_u {u : Int32} (H : ML By Nb σ S) (h : (σ 159)[11]? = some (.int u)) : S.1 = 0 → tK By Nb S.2.2.1 = 2 → u.toInt = min 99999 (tV By Nb S.2.2.1) ∧ 0 ≤ tV By Nb S.2.2.1 := fun z y => by
  rw [← (H.2.2.2 z).1.2.2.2.2.2 y]; exact ⟨(ci_at (j := 11) h rfl).symm, (tV_rng y).1⟩
theorem ML_at {f : Int32} (H : ML By Nb σ S) (z : S.1 = 0) (h : (σ 159)[8]? = some (.int f)) : f.toInt ≤ Nb := by
  have a := (H.2.2.2 z).1
  rw [show f.toInt = tE By Nb S.2.2.1 by rw [← a.2.2.1]; exact (ci_at (j := 8) h rfl).symm]
  exact (tE_rng a.2.1).2.1
theorem ML_w {i : Int} {y : Int32} (H : ML By Nb σ S) (z : S.1 = 0) (h : (σ 165)[i.toNat]? = some (.int y)) (i0 : 0 ≤ i) (i1 : i < 226) : S.2.2.2 i = y.toInt := by
  rw [← (H.2.2.2 z).2 i i0 i1]; exact ci_at h rfl
theorem ML_wst {J i v : Int} {y : Int32} (H : ML By Nb σ S) (h1 : (σ' 165)[J.toNat]? = some (.int y)) (h2 : ∀ b q, (b ≠ 165 ∨ q ≠ J.toNat) → (σ' b)[q]? = (σ b)[q]?) (J0 : 0 ≤ J) (e : S.1 = 0 → i = J ∧ v = y.toInt) : ML By Nb σ' (wst S i v) := by
  obtain ⟨⟨a1, a2, a3, a4⟩, b, c, d⟩ := H
  have n1 (j : Int) : ci σ' 159 j = ci σ 159 j := ci_ne h2 (by decide) j
  have n3 (j : Int) : ci σ' 163 j = ci σ 163 j := ci_ne h2 (by decide) j
  refine ⟨⟨a1, a2, by rw [n1]; exact a3, fun i i0 i1 => by rw [n3]; exact a4 i i0 i1⟩, by rw [n1]; exact b, by rw [n1]; exact c, fun z => ?_⟩
  obtain ⟨⟨p0, p1, q1, q2, q3, q4⟩, dw⟩ := d z
  obtain ⟨rfl, rfl⟩ := e z
  refine ⟨⟨p0, p1, by rw [n1]; exact q1, by rw [n1]; exact q2, by rw [n1]; exact q3, fun y => by rw [n1]; exact q4 y⟩, fun j j0 j1 => ?_⟩
  rw [ci_st h1 h2 J0 j j0]
  show _ = uPd S.2.2.2 i y.toInt j
  unfold uPd
  rw [dw j j0 j1]
theorem ML_err {k : Int} (H : ML By Nb σ S) (z : S.1 = 0) (hk : k ≠ 0) (h : Fr W σ σ') (hw : TPW W = true) (h12 : ci σ' 159 12 = k) {y : Int32} (h9 : (σ 159)[9]? = some (.int y)) (h13 : ci σ' 159 13 = y.toInt) : ML By Nb σ' (err By Nb k S) := by
  unfold err
  rw [if_pos z]
  refine ⟨TPm_fr H.1 h hw, h12, ?_, fun q => absurd q hk⟩
  show ci σ' 159 13 = tS By Nb S.2.2.1
  rw [h13, ← (H.2.2.2 z).1.2.2.2.1]; exact (ci_at (j := 9) h9 rfl).symm
theorem ML_adv {f : Int32} (H : ML By Nb σ S) (z : S.1 = 0) (h8 : (σ 159)[8]? = some (.int f)) (h : Fr W σ σ') (hw : (TPW W && !W.contains (35, 12) && !W.contains (35, 13) && !W.contains (41, 0)) = true) (hK : TKm By Nb f.toInt σ') : ML By Nb σ' (adv By Nb S) := by
  simp only [Bool.and_eq_true] at hw
  obtain ⟨a, b, c, d⟩ := H
  have e : f.toInt = tE By Nb S.2.2.1 := by rw [← (d z).1.2.2.1]; exact (ci_at (j := 8) h8 rfl).symm
  rw [e] at hK
  unfold adv
  rw [if_pos z]
  refine ⟨TPm_fr a h hw.1.1.1, ?_, ?_, fun _ => ⟨hK, fun i i0 i1 => ?_⟩⟩
  · show ci σ' 159 12 = S.1
    rw [← b]; exact f159 (j := 12) h (by omega) (nq _ hw.1.1.2)
  · show ci σ' 159 13 = S.2.1
    rw [← c]; exact f159 (j := 13) h (by omega) (nq _ hw.1.2)
  · rw [ci_fr h tgz_165 (by rw [Bool.and_eq_true]; exact ⟨by decide +kernel, hw.2⟩)]; exact (d z).2 i i0 i1
/-! one byte -/
theorem sN_none {n : Int32} {a r : Int} (hT : TPm By Nb σ) (hn : (σ 159)[7]? = some (.int n)) (h : n.toInt ≤ a) (hr : r = -1) : r = sN By Nb a := by
  have : Nb = n.toInt := by rw [← hT.2.2.1]; exact ci_at (j := 7) hn rfl
  unfold sN; rw [if_neg (by omega)]; exact hr
theorem sN_some {z c n : Int32} {a : Int} (hT : TPm By Nb σ) (hn : (σ 159)[7]? = some (.int n)) (a0 : 0 ≤ a) (h : a < n.toInt) (hc : (σ 163)[a.toNat]? = some (.int c)) (hz : z = c &&& ((Int16.ofInt 255).toInt32)) : z.toInt = sN By Nb a := by
  have e : Nb = n.toInt := by rw [← hT.2.2.1]; exact ci_at (j := 7) hn rfl
  have k := hT.2.2.2 a a0 (by omega)
  have e2 : ci σ 163 a = c.toInt := ci_at hc rfl
  have := seeF_some (z := z) (c := c) (n := n.toInt) (a := a) ⟨h, by omega, by omega⟩ hz
  unfold seeF at this; rw [if_pos h] at this
  unfold sN; rw [if_pos (by omega), ← k.1, e2]; exact this
theorem sN_k {a : Int} (hT : TPm By Nb σ) (a0 : 0 ≤ a) : (sN By Nb a = -1 ∧ kA By Nb a = 0 ∧ Nb ≤ a) ∨ (a < Nb ∧ 0 ≤ sN By Nb a ∧ (((97 ≤ sN By Nb a ∧ sN By Nb a ≤ 122) ∧ kA By Nb a = 1) ∨ ((48 ≤ sN By Nb a ∧ sN By Nb a ≤ 57) ∧ kA By Nb a = 2 ∧ By a = sN By Nb a) ∨ (sN By Nb a = 59 ∧ kA By Nb a = 3) ∨ ((¬ (97 ≤ sN By Nb a ∧ sN By Nb a ≤ 122) ∧ ¬ (48 ≤ sN By Nb a ∧ sN By Nb a ≤ 57) ∧ sN By Nb a ≠ 59) ∧ kA By Nb a = 4)) ∧ (sN By Nb a = 32 ↔ By a = 32) ∧ (sN By Nb a = 10 ↔ By a = 10)) := by
  by_cases h : a < Nb
  · have k := hT.2.2.2 a a0 h
    refine Or.inr ?_
    unfold sN kA
    rw [if_pos h, if_neg (by omega)]
    refine ⟨h, by omega, ?_, by omega, by omega⟩
    by_cases h1 : 97 ≤ By a ∧ By a ≤ 122
    · rw [if_pos h1]; omega
    · rw [if_neg h1]
      by_cases h2 : 48 ≤ By a ∧ By a ≤ 57
      · rw [if_pos h2]; omega
      · rw [if_neg h2]
        by_cases h3 : By a = 59
        · rw [if_pos h3]; omega
        · rw [if_neg h3]; omega
  · refine Or.inl ⟨?_, ?_, by omega⟩
    · unfold sN; rw [if_neg h]
    · unfold kA; rw [if_pos (by omega)]
theorem BL_go {y z X : Int} (hT : TPm By Nb σ) (y0 : 0 ≤ y) (h : sN By Nb y = 32 ∨ sN By Nb y = 10) (e : z = y + 1) (g : tS By Nb y = X) : tS By Nb z = X ∧ z ≤ Nb := by
  have k := sN_k hT y0
  subst e
  rw [tS_go (by omega) (by omega)]; exact ⟨g, by omega⟩
theorem BL_no {y X : Int} (hT : TPm By Nb σ) (y0 : 0 ≤ y) (h : sN By Nb y ≠ 32 ∧ sN By Nb y ≠ 10) (g : tS By Nb y = X) : X = y := by
  have k := sN_k hT y0
  rw [← g]; exact tS_no (by omega)
theorem LT_go {y z : Int} (hT : TPm By Nb σ) (y0 : 0 ≤ y) (h : 97 ≤ sN By Nb y ∧ sN By Nb y ≤ 122) (e : z = y + 1) : rnx By Nb 1 z = rnx By Nb 1 y ∧ z ≤ Nb := by
  have k := sN_k hT y0
  subst e
  exact ⟨rnx_go (by omega) (by omega), by omega⟩
theorem DG_go {y z : Int} (hT : TPm By Nb σ) (y0 : 0 ≤ y) (h : 48 ≤ sN By Nb y ∧ sN By Nb y ≤ 57) (e : z = y + 1) : rnx By Nb 2 z = rnx By Nb 2 y ∧ z ≤ Nb ∧ By y = sN By Nb y := by
  have k := sN_k hT y0
  subst e
  exact ⟨rnx_go (by omega) (by omega), by omega, by omega⟩
theorem VL_go {s y z u v : Int} (hs : s ≤ y) (e : z = y + 1) (g : v = vl By 99999 s y) (hu : u = min 99999 (10 * v + By y - 48)) : u = vl By 99999 s z := by
  subst e; rw [vl_go hs, ← g]; exact hu
theorem TKm_0 {f y : Int} (hT : TPm By Nb σ') (f0 : 0 ≤ f) (f1 : f ≤ Nb) (y0 : 0 ≤ y) (eS : tS By Nb f = y) (h : sN By Nb y = -1) (c8 : ci σ 159 8 = y) (c9 : ci σ 159 9 = y) (c10 : ci σ 159 10 = 0) : TKm By Nb f σ := by
  have k := sN_k hT y0
  have e1 : tK By Nb f = 0 := by unfold tK; rw [eS]; omega
  have e2 : tE By Nb f = y := by unfold tE; rw [if_pos e1]; exact eS
  exact ⟨f0, f1, by rw [e2]; exact c8, by rw [eS]; exact c9, by rw [e1]; exact c10, fun z => by omega⟩
theorem TKm_1 {f y e : Int} (hT : TPm By Nb σ') (f0 : 0 ≤ f) (f1 : f ≤ Nb) (y0 : 0 ≤ y) (eS : tS By Nb f = y) (h : 97 ≤ sN By Nb y ∧ sN By Nb y ≤ 122) (e0 : 0 ≤ e) (hr : rnx By Nb 1 e = rnx By Nb 1 y) (hx : ¬ (97 ≤ sN By Nb e ∧ sN By Nb e ≤ 122)) (c8 : ci σ 159 8 = e) (c9 : ci σ 159 9 = y) (c10 : ci σ 159 10 = 1) : TKm By Nb f σ := by
  have k := sN_k hT y0
  have k2 := sN_k hT e0
  have e1 : tK By Nb f = 1 := by unfold tK; rw [eS]; omega
  have e2 : tE By Nb f = e := by
    unfold tE; rw [if_neg (by omega), if_pos (Or.inl e1), e1, eS, ← hr]; exact rnx_no (by omega)
  exact ⟨f0, f1, by rw [e2]; exact c8, by rw [eS]; exact c9, by rw [e1]; exact c10, fun z => by omega⟩
theorem TKm_2 {f y e : Int} (hT : TPm By Nb σ') (f0 : 0 ≤ f) (f1 : f ≤ Nb) (y0 : 0 ≤ y) (eS : tS By Nb f = y) (h : 48 ≤ sN By Nb y ∧ sN By Nb y ≤ 57) (e0 : 0 ≤ e) (hr : rnx By Nb 2 e = rnx By Nb 2 y) (hx : ¬ (48 ≤ sN By Nb e ∧ sN By Nb e ≤ 57)) (c8 : ci σ 159 8 = e) (c9 : ci σ 159 9 = y) (c10 : ci σ 159 10 = 2) (c11 : ci σ 159 11 = vl By 99999 y e) : TKm By Nb f σ := by
  have k := sN_k hT y0
  have k2 := sN_k hT e0
  have e1 : tK By Nb f = 2 := by unfold tK; rw [eS]; omega
  have e2 : tE By Nb f = e := by
    unfold tE; rw [if_neg (by omega), if_pos (Or.inr e1), e1, eS, ← hr]; exact rnx_no (by omega)
  exact ⟨f0, f1, by rw [e2]; exact c8, by rw [eS]; exact c9, by rw [e1]; exact c10, fun _ => by rw [← tV_cap e1, eS, e2]; exact c11⟩
theorem TKm_3 {f y : Int} (hT : TPm By Nb σ') (f0 : 0 ≤ f) (f1 : f ≤ Nb) (y0 : 0 ≤ y) (eS : tS By Nb f = y) (h : sN By Nb y = 59) (c8 : ci σ 159 8 = y + 1) (c9 : ci σ 159 9 = y) (c10 : ci σ 159 10 = 3) : TKm By Nb f σ := by
  have k := sN_k hT y0
  have e1 : tK By Nb f = 3 := by unfold tK; rw [eS]; omega
  have e2 : tE By Nb f = y + 1 := by unfold tE; rw [if_neg (by omega), if_neg (by omega), eS]
  exact ⟨f0, f1, by rw [e2]; exact c8, by rw [eS]; exact c9, by rw [e1]; exact c10, fun z => by omega⟩
theorem TKm_4 {f y : Int} (hT : TPm By Nb σ') (f0 : 0 ≤ f) (f1 : f ≤ Nb) (y0 : 0 ≤ y) (eS : tS By Nb f = y) (h : sN By Nb y ≠ -1 ∧ ¬ (97 ≤ sN By Nb y ∧ sN By Nb y ≤ 122) ∧ ¬ (48 ≤ sN By Nb y ∧ sN By Nb y ≤ 57) ∧ sN By Nb y ≠ 59) (c8 : ci σ 159 8 = y + 1) (c9 : ci σ 159 9 = y) (c10 : ci σ 159 10 = 4) : TKm By Nb f σ := by
  have k := sN_k hT y0
  have e1 : tK By Nb f = 4 := by unfold tK; rw [eS]; omega
  have e2 : tE By Nb f = y + 1 := by unfold tE; rw [if_neg (by omega), if_neg (by omega), eS]
  exact ⟨f0, f1, by rw [e2]; exact c8, by rw [eS]; exact c9, by rw [e1]; exact c10, fun z => by omega⟩
end MLS
section MLT
variable {By : Int → Int} {Nb : Int} {Sp S T : PS} {σ0 σ σ' : SG} {W : List (Nat × Nat)}
theorem tN_cg {a a' b b' : Int} (h : a = a') (h2 : b = b') : tN By Nb a b S = tN By Nb a' b' S := by subst h h2; rfl
theorem err_cg {a a' : Int} (h : a = a') : err By Nb a S = err By Nb a' S := by subst h; rfl
theorem tN_gg {a b : Int} (h : (tN By Nb a b S).1 = 0) : S.1 = 0 ∧ tK By Nb S.2.2.1 = 2 ∧ a ≤ tV By Nb S.2.2.1 ∧ tV By Nb S.2.2.1 ≤ b := by
  have := tN_g h; exact ⟨this.1, this.2.1, this.2.2.1, this.2.2.2.1⟩
theorem gDeed_w : (gDeed By Nb S).2.2.2 = S.2.2.2 := by rw [gDeed_d]; unfold dD; exact pss_w
theorem ML_fa {f g : Int32} (H : ML By Nb σ S) (h8 : (σ 159)[8]? = some (.int f)) (h9 : (σ 159)[9]? = some (.int g)) : S.1 = 0 → tE By Nb S.2.2.1 = f.toInt ∧ tS By Nb S.2.2.1 = g.toInt ∧ f.toInt ≤ Nb ∧ g.toInt ≤ f.toInt := fun z => by
  have a := (H.2.2.2 z).1
  have e1 : f.toInt = tE By Nb S.2.2.1 := by rw [← a.2.2.1]; exact (ci_at (j := 8) h8 rfl).symm
  have e2 : g.toInt = tS By Nb S.2.2.1 := by rw [← a.2.2.2.1]; exact (ci_at (j := 9) h9 rfl).symm
  have r := tE_rng (B := By) a.2.1
  exact ⟨e1.symm, e2.symm, by omega, by omega⟩
theorem iW_g {i : Nat} {B : Int → Int} {n : Int} (h : iW B n i S = 1) : S.1 = 0 := by
  by_cases z : S.1 = 0
  · exact z
  · rw [iW_bad z] at h; omega
/-- a word is compared letter by letter: so far alike, or not at all -/
def ISQ (By : Int → Int) (Nb : Int) (i : Nat) (S : PS) (b k : Int) : Prop := 0 ≤ k ∧ k ≤ ((LW i).length : Int) ∧ ((b = 1 ∧ S.1 = 0 ∧ tK By Nb S.2.2.1 = 1 ∧ tE By Nb S.2.2.1 - tS By Nb S.2.2.1 = ((LW i).length : Int) ∧ eqW By (tS By Nb S.2.2.1 + k) ((LW i).drop k.toNat) = eqW By (tS By Nb S.2.2.1) (LW i)) ∨ (b = 0 ∧ iW By Nb i S = 0))
theorem iW_0 {i : Nat} (h : S.1 ≠ 0 ∨ tK By Nb S.2.2.1 ≠ 1 ∨ tE By Nb S.2.2.1 - tS By Nb S.2.2.1 ≠ ((LW i).length : Int)) : iW By Nb i S = 0 := by
  unfold iW
  rw [if_neg]
  intro q
  have q2 := q.2
  unfold wd at q2
  simp only [Bool.and_eq_true, decide_eq_true_eq] at q2
  omega
theorem ISQ_s {i : Nat} {b k : Int} (hk : k = 0) (h : (b = 1 ∧ S.1 = 0 ∧ tK By Nb S.2.2.1 = 1 ∧ tE By Nb S.2.2.1 - tS By Nb S.2.2.1 = ((LW i).length : Int)) ∨ (b = 0 ∧ (S.1 ≠ 0 ∨ tK By Nb S.2.2.1 ≠ 1 ∨ tE By Nb S.2.2.1 - tS By Nb S.2.2.1 ≠ ((LW i).length : Int)))) : ISQ By Nb i S b k := by
  subst hk
  refine ⟨by omega, by omega, ?_⟩
  rcases h with h | h
  · exact Or.inl ⟨h.1, h.2.1, h.2.2.1, h.2.2.2, by rw [show tS By Nb S.2.2.1 + 0 = tS By Nb S.2.2.1 by omega]; rfl⟩
  · exact Or.inr ⟨h.1, iW_0 h.2⟩
theorem ISQ_n {i : Nat} {b k b' k' J : Int} {c z : Int32} (H : ML By Nb σ S) (g : ISQ By Nb i S b k) (hb : b = 1) (hl : k < ((LW i).length : Int)) (hJ : S.1 = 0 → J = tS By Nb S.2.2.1 + k) (hc : (σ 163)[J.toNat]? = some (.int c)) (hz : z.toInt = (LW i).getD k.toNat 0) (e : k' = k + 1) (h : (b' = 1 ∧ c.toInt = z.toInt) ∨ (b' = 0 ∧ c.toInt ≠ z.toInt)) : ISQ By Nb i S b' k' := by
  obtain ⟨k0, kl, g⟩ := g
  rcases g with ⟨-, g1, g2, g3, g4⟩ | ⟨g1, -⟩
  · have hJ := hJ g1
    have a := (H.2.2.2 g1).1
    have p0 : 0 ≤ S.2.2.1 := a.1
    have r := tE_rng (B := By) a.2.1
    have s0 := tS_rng (B := By) (n := Nb) (p := S.2.2.1)
    have eb : By (tS By Nb S.2.2.1 + k) = c.toInt := by
      rw [← (H.1.2.2.2 (tS By Nb S.2.2.1 + k) (by omega) (by omega)).1]; exact ci_at hc hJ.symm
    have st := eqW_step (B := By) (LW i) k.toNat (tS By Nb S.2.2.1) (by omega)
    rw [show ((k.toNat : Nat) : Int) = k by omega, show (((k.toNat + 1 : Nat)) : Int) = k' by omega, show k.toNat + 1 = k'.toNat by omega] at st
    subst hb
    refine ⟨by omega, by omega, ?_⟩
    rcases h with ⟨h1, h2⟩ | ⟨h1, h2⟩
    · refine Or.inl ⟨h1, g1, g2, g3, ?_⟩
      rw [← g4, st, decide_eq_true (by rw [eb, h2, hz]), Bool.true_and]
    · refine Or.inr ⟨h1, ?_⟩
      have no : eqW By (tS By Nb S.2.2.1) (LW i) = false := by
        rw [← g4, st, decide_eq_false (by rw [eb, ← hz]; exact h2), Bool.false_and]
      unfold iW
      rw [if_neg]
      intro q
      have q2 := q.2
      unfold wd at q2
      rw [no, Bool.and_false] at q2
      exact absurd q2 (by decide)
  · omega
theorem ISQ_x {i : Nat} {b k : Int} (g : ISQ By Nb i S b k) (h : b = 0 ∨ ((LW i).length : Int) ≤ k) : b = iW By Nb i S := by
  obtain ⟨k0, kl, g⟩ := g
  rcases g with ⟨g0, g1, g2, g3, g4⟩ | ⟨g0, g1⟩
  · have e : (LW i).drop k.toNat = [] := List.drop_eq_nil_of_le (by omega)
    rw [e] at g4
    have w : wd By Nb i S.2.2.1 = true := by
      unfold wd
      rw [decide_eq_true g2, decide_eq_true g3, ← g4]; rfl
    unfold iW
    rw [if_pos ⟨g1, w⟩]; exact g0
  · rw [g0, g1]
theorem LWB : ∀ i, i < NSTR → ∀ k, k < LENS.getD i 0 → ((BYT.getD i []).getD k 0).toInt = (LW i).getD k 0 := by decide +kernel
end MLT
section ENY
variable {fr lo : Nat} {scr : AS} {F : MR} {P : PO} {pc pc' len tgt : Nat} {pos : Nat × Nat} {i : Instr} {lv lv' : ALv} {st st' r : List Value} {σ σ0 : SG} {W : List (Nat × Nat)}
theorem En_scharX (i n : Nat) {z : Nat} {j : Int32} {J : Int} (hf : fc F pc = some (.invokevirtual z, len, tgt)) (he : fnd (mcl F) z = some (6, 0, pos)) (hJ : j.toInt = J) (hn : (decide (i < NSTR) && decide (LENS.getD i 0 = n)) = true) (h0 : 0 ≤ J) (h1 : J < (n : Int)) (hb : (decide (4 ≤ fr) && decide (85 ≤ lo) && decide (cats r ≤ 8)) = true) (k : ∀ y : Int32, 97 ≤ y.toInt → y.toInt ≤ 122 → y.toInt = (LW i).getD J.toNat 0 → En fr lo scr F P (pc + 3) lv (.int y :: r) σ) : En fr lo scr F P pc lv (.int j :: .retAddr (2 * i + 1) :: r) σ := by
  simp only [Bool.and_eq_true, decide_eq_true_eq] at hn hb
  obtain ⟨hi, rfl⟩ := hn
  have m1 : mml mr_0 = 2 := rfl
  have b := byt_ok i hi j.toInt.toNat (by omega)
  have b2 := LWB i hi j.toInt.toNat (by omega)
  refine En_call6 (G := mr_0) (vs := [.int j]) (r := r) hf he rfl rfl rfl hi ?_ (s_char σ i j hi (by omega) (by omega)) (by omega) (by rw [m1]; omega) (fun v σ' h => ?_)
  · rw [m1]
    simp only [Bool.and_eq_true, decide_eq_true_eq]
    exact ⟨⟨⟨⟨Nat.le_add_left _ _, by omega⟩, by omega⟩, hb.2⟩, Nat.le_refl _⟩
  · obtain ⟨rfl, rfl⟩ := h
    exact k _ b.1.2.1 b.1.2.2 (by rw [← hJ]; exact b2)
end ENY
section MLU
variable {By : Int → Int} {Nb : Int} {Sp S T : PS} {σ0 σ σ' : SG} {W : List (Nat × Nat)}
theorem ML_ci {i j : Int} (H : ML By Nb σ S) (z : S.1 = 0) (e : i = j) (i0 : 0 ≤ i) (i1 : i < 226) : ci σ 165 i = S.2.2.2 j := by subst e; exact (H.2.2.2 z).2 i i0 i1
theorem ML_wi {i J : Int} {y : Int32} (H : ML By Nb σ S) (z : S.1 = 0) (h : (σ 165)[J.toNat]? = some (.int y)) (e : i = J) (i0 : 0 ≤ i) (i1 : i < 226) : S.2.2.2 i = y.toInt := by subst e; exact ML_w H z h i0 i1
theorem cpI_cg {f g : Int → Int} {a b : Int} (e : a = b) (h : ∀ i : Int, (i = 2 ∨ i = 13 ∨ i = 17 ∨ i = 21 ∨ i = 25) → f i = g i) : cpI f a = cpI g b := by
  subst e; unfold cpI
  rw [h 2 (by omega), h 13 (by omega), h 17 (by omega), h 21 (by omega), h 25 (by omega)]
theorem ML_cp {a b : Int} (H : ML By Nb σ S) (z : S.1 = 0) (e : a = b) : cpI (ci σ 165) a = cpI S.2.2.2 b := cpI_cg e (fun i hi => (H.2.2.2 z).2 i (by omega) (by omega))
theorem gDeed_g (h : (gDeed By Nb S).1 = 0) : S.1 = 0 := by rw [gDeed_d] at h; exact dD_g h
theorem sbI_cg {a a' b b' : Int} (h : a = a') (h2 : b = b') : sbI a b = sbI a' b' := by subst h h2; rfl
theorem sub_sbw {z w x y : Int32} {X Y : Int} (hz : z = x &&& w) (hw : w = y ^^^ (Int32.ofInt (-1))) (hX : x.toInt = X) (hY : y.toInt = Y) (h0 : 0 ≤ X) (h2 : 0 ≤ Y) (h3 : Y ≤ 15) : (z.toInt = 0 → sbI X Y = 1) ∧ (z.toInt ≠ 0 → sbI X Y ≠ 1) := by
  by_cases b : X ≤ 15
  · have := sub_sb hz hw hX hY h0 b h2 h3
    exact ⟨this.1, fun q => by rw [this.2 q]; omega⟩
  · refine ⟨fun q => ?_, fun _ q => ?_⟩
    · have := andn_zero hz hw q hX hY h2; omega
    · have := sbI_le h0 h2 q; omega
def NCP (σ : SG) (a y : Int) : Prop := ∀ q : Int, 0 ≤ q → q < y → ci σ 165 (13 + 4 * q) ≠ a
theorem NCP_s {a y y' J : Int} {c : Int32} (g : NCP σ a y) (hc : (σ 165)[J.toNat]? = some (.int c)) (hJ : J = 13 + 4 * y) (hn : c.toInt ≠ a) (e : y' = y + 1) : NCP σ a y' := fun q q0 q1 => by
  by_cases z : q = y
  · rw [z, ci_at hc (by omega : 13 + 4 * y = J)]; exact hn
  · exact g q q0 (by omega)
theorem CPI_1 {a y J : Int} {n c : Int32} (hn : (σ 165)[((2 : Int)).toNat]? = some (.int n)) (hc : (σ 165)[J.toNat]? = some (.int c)) (hJ : J = 13 + 4 * y) (y0 : 0 ≤ y) (yn : y < n.toInt) (n4 : n.toInt ≤ 4) (e : c.toInt = a) {r : Int} (hr : r = 1) : r = cpI (ci σ 165) a := by
  have e2 : ci σ 165 2 = n.toInt := ci_at hn rfl
  have e3 : ci σ 165 (13 + 4 * y) = a := by rw [ci_at hc (by omega : 13 + 4 * y = J)]; exact e
  unfold cpI
  rw [e2]
  rcases (show y = 0 ∨ y = 1 ∨ y = 2 ∨ y = 3 by omega) with h | h | h | h <;> subst h <;> simp only [Int.mul_zero, Int.add_zero, Int.mul_one, Int.reduceMul, Int.reduceAdd] at e3 <;> rw [if_pos (by omega)] <;> exact hr
theorem CPI_n {a y : Int} {n : Int32} (hn : (σ 165)[((2 : Int)).toNat]? = some (.int n)) (g : NCP σ a y) (yn : n.toInt ≤ y) (n4 : n.toInt ≤ 4) {r : Int} (hr : r = 0) : r = cpI (ci σ 165) a := by
  have e2 : ci σ 165 2 = n.toInt := ci_at hn rfl
  unfold cpI
  rw [e2, if_neg]
  · exact hr
  · intro q
    rcases q with q | q | q | q
    · exact g 0 (by omega) (by omega) q.2
    · exact g 1 (by omega) (by omega) q.2
    · exact g 2 (by omega) (by omega) q.2
    · exact g 3 (by omega) (by omega) q.2
end MLU
section MLV
variable {By : Int → Int} {Nb : Int} {Sp S T : PS} {σ0 σ σ' : SG} {W : List (Nat × Nat)}
theorem tN_cg2 {a a' b b' : Int} (h : S.1 = 0 → a = a') (h2 : S.1 = 0 → b = b') : tN By Nb a b S = tN By Nb a' b' S := by
  by_cases z : S.1 = 0
  · rw [h z, h2 z]
  · rw [tN_bad z, tN_bad z]
theorem gRule_cg {a a' : Int} (h : a = a') : gRule By Nb a S = gRule By Nb a' S := by subst h; rfl
theorem orP_cg {a a' b b' : Int} (h : a = a') (h2 : b = b') : orP a b = orP a' b' := by subst h h2; rfl
theorem orP_all : ∀ i : Fin 64, ∀ j : Fin 6, ((Int32.ofInt (i.val : Int)) ||| ((Int32.ofInt 1) <<< ((Int32.ofInt (j.val : Int)) &&& 31))).toInt = ((i.val ||| 2 ^ j.val : Nat) : Int) := by decide +kernel
theorem orP_lt : ∀ i : Fin 64, ∀ j : Fin 6, (i.val ||| 2 ^ j.val) < 64 := by decide +kernel
theorem orP_v {x y z : Int32} {X Y : Int} (hz : z = x ||| ((Int32.ofInt 1) <<< (y &&& 31))) (hX : x.toInt = X) (hY : y.toInt = Y) (h0 : 0 ≤ X) (h1 : X ≤ 63) (h2 : 0 ≤ Y) (h3 : Y ≤ 5) : z.toInt = orP X Y ∧ 0 ≤ z.toInt ∧ z.toInt ≤ 63 := by
  have a : x = Int32.ofInt ((X.toNat : Nat) : Int) := ofNat_of (by omega)
  have b : y = Int32.ofInt ((Y.toNat : Nat) : Int) := ofNat_of (by omega)
  have c := orP_all ⟨X.toNat, by omega⟩ ⟨Y.toNat, by omega⟩
  have d := orP_lt ⟨X.toNat, by omega⟩ ⟨Y.toNat, by omega⟩
  simp only at c d; rw [← a, ← b, ← hz] at c
  unfold orP
  exact ⟨c, by omega, by omega⟩
theorem gN1_pos (i : Nat) (h : iW By Nb i S = 1) (hi : i = 2 ∨ i = 6 ∨ i = 3 ∨ i = 17 ∨ i = 9 ∨ i = 5 ∨ i = 1 ∨ i = 0) : gN1 By Nb S = S := by
  unfold gN1 gKn orI
  rw [if_pos]
  rcases hi with e | e | e | e | e | e | e | e <;> subst e <;> simp [h]
theorem gN1_neg (h2 : iW By Nb 2 S = 0) (h6 : iW By Nb 6 S = 0) (h3 : iW By Nb 3 S = 0) (h17 : iW By Nb 17 S = 0) (h9 : iW By Nb 9 S = 0) (h5 : iW By Nb 5 S = 0) (h1 : iW By Nb 1 S = 0) (h0 : iW By Nb 0 S = 0) : gN1 By Nb S = err By Nb 1 S := by
  unfold gN1 gKn orI
  rw [h2, h6, h3, h17, h9, h5, h1, h0, if_neg (by simp)]
theorem gN1_id (h : (gN1 By Nb S).1 = 0) : gN1 By Nb S = S := by
  unfold gN1 at h ⊢
  by_cases k : gKn By Nb S = 1
  · rw [if_pos k]
  · rw [if_neg k] at h; exact absurd h (err_ne (by omega))
theorem gN1_iW {i : Nat} (h : (gN1 By Nb S).1 = 0) : iW By Nb i (gN1 By Nb S) = iW By Nb i S := by rw [gN1_id h]
theorem gN2_pos (h : (iW By Nb 2 S = 1 ∧ S.2.2.2 2 = 4) ∨ (iW By Nb 3 S = 1 ∧ S.2.2.2 3 = 12) ∨ (iW By Nb 5 S = 1 ∧ S.2.2.2 4 = 4) ∨ (iW By Nb 1 S = 1 ∧ S.2.2.2 5 = 6)) : gN2 By Nb S = err By Nb 3 S := by unfold gN2; rw [if_pos h]
theorem gN2_neg (h : ¬ ((iW By Nb 2 S = 1 ∧ S.2.2.2 2 = 4) ∨ (iW By Nb 3 S = 1 ∧ S.2.2.2 3 = 12) ∨ (iW By Nb 5 S = 1 ∧ S.2.2.2 4 = 4) ∨ (iW By Nb 1 S = 1 ∧ S.2.2.2 5 = 6))) : gN2 By Nb S = S := by unfold gN2; rw [if_neg h]
theorem gN12_id (h : (gN2 By Nb (gN1 By Nb S)).1 = 0) : gN2 By Nb (gN1 By Nb S) = S := by
  have e : gN2 By Nb (gN1 By Nb S) = gN1 By Nb S := by
    unfold gN2 at h ⊢
    split at h
    · exact absurd h (err_ne (by omega))
    · rename_i q; rw [if_neg q]
  rw [e] at h ⊢
  exact gN1_id h
end MLV
section MLY
variable {By : Int → Int} {Nb : Int} {Sp S T : PS} {σ0 σ σ' : SG} {W : List (Nat × Nat)}
/-- the tape, ahead of a reading -/
def TBm (By : Int → Int) (Nb : Int) (σ : SG) : Prop := 0 ≤ Nb ∧ Nb ≤ 1600 ∧ ci σ 159 5 = Nb ∧ ∀ i : Int, 0 ≤ i → i < Nb → ci σ 163 i = By i ∧ -128 ≤ By i ∧ By i ≤ 127
theorem TPm_of {m : Int32} (H : TBm By Nb σ0) (h : Fr W σ0 σ) (hw : (!W.contains (39, 0)) = true) (h5 : (σ0 159)[5]? = some (.int m)) (h7 : (σ 159)[7]? = some (.int m)) : TPm By Nb σ := by
  obtain ⟨a, b, c, d⟩ := H
  refine ⟨a, b, ?_, fun i i0 i1 => ?_⟩
  · rw [← c, ci_at (i := 7) (j := 7) h7 rfl, ci_at (i := 5) (j := 5) h5 rfl]
  · rw [ci_fr h tgz_163 (by rw [Bool.and_eq_true]; exact ⟨by decide +kernel, hw⟩)]; exact d i i0 i1
theorem fr_ty {l u i : Int} (hσ : WT σ) (j : Nat) (e : ((j : Nat) : Int) = i) (hj : (decide ((41 : Nat) < 900) && decide (j < LN 41)) = true) (ht : FT 41 j = (0, l, u)) : l ≤ ci σ 165 i ∧ ci σ 165 i ≤ u := by
  subst e
  obtain ⟨y, h, h1, h2⟩ := WT_peekI hσ tgz_165 ht hj
  have : ci σ 165 (j : Int) = y.toInt := by
    unfold ci; rw [show ((j : Int)).toNat = j by omega, h]
  omega
theorem WFw_of (hσ : WT σ) (H : ML By Nb σ S) (z : S.1 = 0) : WFw S.2.2.2 ∧ 0 ≤ S.2.2.2 7 ∧ S.2.2.2 7 ≤ 1600 := by
  have w := (H.2.2.2 z).2
  have a0 := fr_ty (l := 0) (u := 4) (i := 0) hσ 0 rfl (by decide +kernel) (by decide +kernel)
  have a2 := fr_ty (l := 0) (u := 4) (i := 2) hσ 2 rfl (by decide +kernel) (by decide +kernel)
  have a3 := fr_ty (l := 0) (u := 12) (i := 3) hσ 3 rfl (by decide +kernel) (by decide +kernel)
  have a4 := fr_ty (l := 0) (u := 4) (i := 4) hσ 4 rfl (by decide +kernel) (by decide +kernel)
  have a5 := fr_ty (l := 0) (u := 6) (i := 5) hσ 5 rfl (by decide +kernel) (by decide +kernel)
  have a7 := fr_ty (l := 0) (u := 1600) (i := 7) hσ 7 rfl (by decide +kernel) (by decide +kernel)
  have b0 := fr_ty (l := 0) (u := 12) (i := 12) hσ 12 rfl (by decide +kernel) (by decide +kernel)
  have b1 := fr_ty (l := 0) (u := 12) (i := 16) hσ 16 rfl (by decide +kernel) (by decide +kernel)
  have b2 := fr_ty (l := 0) (u := 12) (i := 20) hσ 20 rfl (by decide +kernel) (by decide +kernel)
  have b3 := fr_ty (l := 0) (u := 12) (i := 24) hσ 24 rfl (by decide +kernel) (by decide +kernel)
  have e0 := w 0 (by omega) (by omega)
  have e2 := w 2 (by omega) (by omega)
  have e3 := w 3 (by omega) (by omega)
  have e4 := w 4 (by omega) (by omega)
  have e5 := w 5 (by omega) (by omega)
  have e7 := w 7 (by omega) (by omega)
  have f0 := w 12 (by omega) (by omega)
  have f1 := w 16 (by omega) (by omega)
  have f2 := w 20 (by omega) (by omega)
  have f3 := w 24 (by omega) (by omega)
  refine ⟨⟨by omega, by omega, by omega, by omega, by omega, by omega, fun d d0 d4 => ?_⟩, by omega, by omega⟩
  rcases (show d = 0 ∨ d = 1 ∨ d = 2 ∨ d = 3 by omega) with h | h | h | h <;> subst h
  · show S.2.2.2 12 ≤ 12; omega
  · show S.2.2.2 16 ≤ 12; omega
  · show S.2.2.2 20 ≤ 12; omega
  · show S.2.2.2 24 ≤ 12; omega
theorem fRead_x {f : Nat} (h : S.1 ≠ 0 ∨ tK By Nb S.2.2.1 = 0) : fRead By Nb f S = S := by
  cases f with
  | zero => rfl
  | succ f => unfold fRead; rw [if_neg (by omega)]
def MSC (By : Int → Int) (Nb : Int) (σ0 σ : SG) (r : Int) : Prop := ci σ 159 12 = (fRead By Nb 1601 S00).1 ∧ ci σ 159 13 = (fRead By Nb 1601 S00).2.1 ∧ ((fRead By Nb 1601 S00).1 ≠ 0 → r = -4 ∧ ∀ i : Int, ci σ 160 i = ci σ0 160 i) ∧ ((fRead By Nb 1601 S00).1 = 0 → r = (fRead By Nb 1601 S00).2.2.2 7 ∧ ∀ i : Int, 0 ≤ i → i < 226 → ci σ 160 i = (fRead By Nb 1601 S00).2.2.2 i)
theorem MSC_bad {f : Nat} {r : Int} (H : ML By Nb σ S) (e1 : fRead By Nb f S = fRead By Nb 1601 S00) (z : S.1 ≠ 0) (hr : r = -4) (hs : SWd σ0 σ) : MSC By Nb σ0 σ r := by
  unfold MSC
  rw [← e1, fRead_x (Or.inl z)]
  exact ⟨H.2.1, H.2.2.1, fun _ => ⟨hr, hs⟩, fun q => absurd q z⟩
theorem MSC_ok {f : Nat} {r : Int32} {i : Int} (H : ML By Nb σ S) (e1 : fRead By Nb f S = fRead By Nb 1601 S00) (z : S.1 = 0) (tk : tK By Nb S.2.2.1 = 0) (C : CPY (ff σ) (wf σ) i) (hi : 226 ≤ i) (hr : (σ 160)[((7 : Int)).toNat]? = some (.int r)) : MSC By Nb σ0 σ r.toInt := by
  unfold MSC
  rw [← e1, fRead_x (Or.inr tk)]
  have w : ∀ i : Int, 0 ≤ i → i < 226 → ci σ 160 i = S.2.2.2 i := fun x x0 x1 => by
    rw [← (H.2.2.2 z).2 x x0 x1]; exact C x x0 (by omega)
  refine ⟨H.2.1, H.2.2.1, fun q => absurd z q, fun _ => ⟨?_, w⟩⟩
  rw [← w 7 (by omega) (by omega)]; exact (ci_at (j := 7) hr rfl).symm
theorem ML_ne {a m : Nat} (H : ML By Nb σ S) (h2 : ∀ b q, (b ≠ a ∨ q ≠ m) → (σ' b)[q]? = (σ b)[q]?) (ha : 159 ≠ a ∧ 163 ≠ a ∧ 165 ≠ a) : ML By Nb σ' S := by
  obtain ⟨⟨a1, a2, a3, a4⟩, b, c, d⟩ := H
  have n1 (j : Int) : ci σ' 159 j = ci σ 159 j := ci_ne h2 ha.1 j
  have n3 (j : Int) : ci σ' 163 j = ci σ 163 j := ci_ne h2 ha.2.1 j
  have n5 (j : Int) : ci σ' 165 j = ci σ 165 j := ci_ne h2 ha.2.2 j
  refine ⟨⟨a1, a2, by rw [n1]; exact a3, fun i i0 i1 => by rw [n3]; exact a4 i i0 i1⟩, by rw [n1]; exact b, by rw [n1]; exact c, fun z => ?_⟩
  obtain ⟨⟨p0, p1, q1, q2, q3, q4⟩, dw⟩ := d z
  exact ⟨⟨p0, p1, by rw [n1]; exact q1, by rw [n1]; exact q2, by rw [n1]; exact q3, fun y => by rw [n1]; exact q4 y⟩, fun j j0 j1 => by rw [n5]; exact dw j j0 j1⟩
end MLY
