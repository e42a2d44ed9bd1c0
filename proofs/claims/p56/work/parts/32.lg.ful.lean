section FLL
variable {By : Int → Int} {Nb : Int} {σ σ1 σ2 : SG} {W W' : List (Nat × Nat)} {p p2 : Nat} {f w : Int → Int}
/-- the whole relation: tapes, faults, plans' own rows; flags; images; the plan that is there shows the model's numbers; twins; whose lessons came by teach(); what the images show -/
def FUL (σ : SG) : Prop := RDL σ ∧ FLGs σ ∧ IMX σ ∧ (∀ p : Nat, (σ 0)[9]? = some (.ref p) → PLA p ∧ KN σ p (wf σ) (act (wf σ))) ∧ TWN (wf σ) ∧ TGT (wf σ) ∧ ∀ k : Nat, k < 3 → ci σ 71 (k : Int) ≠ 0 → KN σ (72 + 26 * k) (imf σ (k : Int)) (act (imf σ (k : Int))) ∧ TWN (imf σ (k : Int)) ∧ TGT (imf σ (k : Int))
theorem wf_fr (h : Fr W σ σ1) (hw : (!W.contains (36, 0)) = true) : wf σ1 = wf σ := by
  funext i
  exact ci_fr h tgz_160 (by rw [Bool.and_eq_true]; exact ⟨by decide +kernel, hw⟩) i
theorem imf_fr (h : Fr W σ σ1) (hw : (!W.contains (37, 0)) = true) (k : Int) : imf σ1 k = imf σ k := by
  funext i
  exact ci_fr h tgz_161 (by rw [Bool.and_eq_true]; exact ⟨by decide +kernel, hw⟩) _
theorem IMX_fr (H : IMX σ) (h : Fr W σ σ1) (hw : (FXI W && !W.contains (29, 0)) = true) : IMX σ1 := fun k k3 => by
  rw [Bool.and_eq_true] at hw
  obtain ⟨a, b⟩ := H k k3
  exact ⟨(h _ _ (inWa tgz_70 (by rw [Bool.and_eq_true]; exact ⟨by decide +kernel, hw.2⟩))).trans a, FXI_fr (PLI_k k3) b h hw.1⟩
theorem KNb_fr {A : Int → Prop} {k : Nat} (hk : PLB k) (H : KN σ k w A) (h : Fr W σ σ1) (hw : OTW W = true) : KN σ1 k w A := fun i i0 i1 x => by
  rw [← H i i0 i1 x]
  have l := lc_0 i0 i1
  unfold PLB at hk
  exact ci_eq (h _ _ (OTW_n hw (by omega) (by omega)))
theorem p9_fr (h : Fr W σ σ1) (hw : (!W.contains (0, 9)) = true) : (σ1 0)[9]? = (σ 0)[9]? := h _ _ (inW tgz_0 (nq _ hw))
theorem flg_fr (h : Fr W σ σ1) (hw : (!W.contains (30, 0)) = true) (k : Int) : ci σ1 71 k = ci σ 71 k := ci_fr h tgz_71 (by rw [Bool.and_eq_true]; exact ⟨by decide +kernel, hw⟩) k
theorem wf_ty {l u i : Int} (hσ : WT σ) (j : Nat) (e : ((j : Nat) : Int) = i) (hj : (decide ((36 : Nat) < 900) && decide (j < LN 36)) = true) (ht : FT 36 j = (0, l, u)) : l ≤ wf σ i ∧ wf σ i ≤ u := by
  subst e
  obtain ⟨y, h, h1, h2⟩ := WT_peekI hσ tgz_160 ht hj
  have : wf σ (j : Int) = y.toInt := by
    show ci σ 160 (j : Int) = _
    unfold ci; rw [show ((j : Int)).toNat = j by omega, h]
  omega
theorem WFw_w (hσ : WT σ) : WFw (wf σ) := by
  have a0 := wf_ty (l := 0) (u := 4) (i := 0) hσ 0 rfl (by decide +kernel) (by decide +kernel)
  have a2 := wf_ty (l := 0) (u := 4) (i := 2) hσ 2 rfl (by decide +kernel) (by decide +kernel)
  have a3 := wf_ty (l := 0) (u := 12) (i := 3) hσ 3 rfl (by decide +kernel) (by decide +kernel)
  have a4 := wf_ty (l := 0) (u := 4) (i := 4) hσ 4 rfl (by decide +kernel) (by decide +kernel)
  have a5 := wf_ty (l := 0) (u := 6) (i := 5) hσ 5 rfl (by decide +kernel) (by decide +kernel)
  have b0 := wf_ty (l := 0) (u := 12) (i := 12) hσ 12 rfl (by decide +kernel) (by decide +kernel)
  have b1 := wf_ty (l := 0) (u := 12) (i := 16) hσ 16 rfl (by decide +kernel) (by decide +kernel)
  have b2 := wf_ty (l := 0) (u := 12) (i := 20) hσ 20 rfl (by decide +kernel) (by decide +kernel)
  have b3 := wf_ty (l := 0) (u := 12) (i := 24) hσ 24 rfl (by decide +kernel) (by decide +kernel)
  refine ⟨by omega, by omega, by omega, by omega, by omega, by omega, fun d d0 d4 => ?_⟩
  rcases (show d = 0 ∨ d = 1 ∨ d = 2 ∨ d = 3 by omega) with h | h | h | h <;> subst h
  · show wf σ 12 ≤ 12; omega
  · show wf σ 16 ≤ 12; omega
  · show wf σ 20 ≤ 12; omega
  · show wf σ 24 ≤ 12; omega
theorem wf6_rng (hσ : WT σ) : 0 ≤ wf σ 6 ∧ wf σ 6 ≤ 60 := wf_ty (l := 0) (u := 60) (i := 6) hσ 6 rfl (by decide +kernel) (by decide +kernel)
theorem im6_all : ∀ k : Fin 3, FT 37 (226 * k.val + 6) = (0, 0, 60) := by decide +kernel
theorem imf6 {k : Nat} (hσ : WT σ) (h : k < 3) : imf σ (k : Int) 6 ≤ 60 := by
  have t := im6_all ⟨k, h⟩
  simp only at t
  obtain ⟨y, g, h1, h2⟩ := WT_peekI hσ tgz_161 t (by
    have : LN 37 = 678 := by decide +kernel
    rw [this]
    simp
    omega)
  have : imf σ (k : Int) 6 = y.toInt := by
    show ci σ 161 (226 * (k : Int) + 6) = _
    unfold ci; rw [show (226 * (k : Int) + 6).toNat = 226 * k + 6 by omega, g]
  omega
/-- what a call may write that leaves plans, images and the model's numbers alone -/
def FKW (W : List (Nat × Nat)) : Bool := OTW W && !W.contains (0, 9) && !W.contains (36, 0) && !W.contains (37, 0) && !W.contains (38, 0)
theorem OTW_m {q : Nat × Nat} (hw : OTW W = true) (h : 18 ≤ q.1 ∧ q.1 ≤ 31) : W.contains q = false := by
  unfold OTW at hw
  rw [List.all_eq_true] at hw
  rw [Bool.eq_false_iff]
  intro z
  have z2 := hw _ (List.elem_iff.mp z)
  simp only [Bool.or_eq_true, decide_eq_true_eq] at z2
  omega
theorem OTW_x (hw : OTW W = true) : (FXI W && !W.contains (29, 0)) = true ∧ (!W.contains (30, 0)) = true := by
  have k (a b : Nat) (h : 18 ≤ a ∧ a ≤ 31) : (!W.contains (a, b)) = true := by rw [OTW_m (q := (a, b)) hw h]; rfl
  unfold FXI
  rw [k 31 4 (by omega), k 31 5 (by omega), k 31 9 (by omega), k 31 10 (by omega), k 31 12 (by omega), k 31 13 (by omega), k 31 15 (by omega), k 19 0 (by omega), k 20 0 (by omega), k 20 1 (by omega), k 28 0 (by omega), k 29 0 (by omega), k 30 0 (by omega)]
  exact ⟨rfl, rfl⟩
/-- the images, kept over a call that writes no plan, or one plan's block alone -/
theorem IMK_fr (H : ∀ k : Nat, k < 3 → ci σ 71 (k : Int) ≠ 0 → KN σ (72 + 26 * k) (imf σ (k : Int)) (act (imf σ (k : Int))) ∧ TWN (imf σ (k : Int)) ∧ TGT (imf σ (k : Int))) (h : Fr W σ σ1) (hw : OTW W = true) (hw' : (!W.contains (37, 0)) = true) : ∀ k : Nat, k < 3 → ci σ1 71 (k : Int) ≠ 0 → KN σ1 (72 + 26 * k) (imf σ1 (k : Int)) (act (imf σ1 (k : Int))) ∧ TWN (imf σ1 (k : Int)) ∧ TGT (imf σ1 (k : Int)) := fun k k3 z => by
  rw [flg_fr h (OTW_x hw).2] at z
  rw [imf_fr h hw']
  obtain ⟨a, b⟩ := H k k3 z
  exact ⟨KNb_fr (PLI_B (PLI_k k3)) a h hw, b⟩
theorem IMK_out (H : ∀ k : Nat, k < 3 → ci σ 71 (k : Int) ≠ 0 → KN σ (72 + 26 * k) (imf σ (k : Int)) (act (imf σ (k : Int))) ∧ TWN (imf σ (k : Int)) ∧ TGT (imf σ (k : Int))) (h : Fr W σ σ1) (hP : PLA p) (O : OUT σ σ1 p) (hw' : (!W.contains (37, 0)) = true) : ∀ k : Nat, k < 3 → ci σ1 71 (k : Int) ≠ 0 → KN σ1 (72 + 26 * k) (imf σ1 (k : Int)) (act (imf σ1 (k : Int))) ∧ TWN (imf σ1 (k : Int)) ∧ TGT (imf σ1 (k : Int)) := fun k k3 z => by
  have e : ci σ1 71 (k : Int) = ci σ 71 (k : Int) := by
    unfold PLA at hP
    exact ci_eq (O 71 _ (by omega) (by omega) (by omega))
  rw [e] at z
  rw [imf_fr h hw']
  obtain ⟨a, b⟩ := H k k3 z
  exact ⟨KN_out (PLI_B (PLI_k k3)) (PL_sep hP (PLI_k k3)) a O, b⟩
/-- calls that change nothing of all this -/
theorem FUL_kp (H : FUL σ) (h : Fr W σ σ1) (h' : Fr W' σ1 σ2) (kw : FKW W = true) (kw' : FKW W' = true) (R : RDL σ2) : FUL σ2 := by
  obtain ⟨-, F, X, K, T, G, I⟩ := H
  unfold FKW at kw kw'
  simp only [Bool.and_eq_true] at kw kw'
  obtain ⟨⟨⟨⟨a1, a2⟩, a3⟩, a4⟩, a5⟩ := kw
  obtain ⟨⟨⟨⟨b1, b2⟩, b3⟩, b4⟩, b5⟩ := kw'
  have e : wf σ2 = wf σ := (wf_fr h' b3).trans (wf_fr h a3)
  have d (g : Nat) (V : List (Nat × Nat)) (x : (!V.contains (g, 0)) = true) (y : decide (KD g ≠ 0) = true) : (decide (KD g ≠ 0) && !V.contains (g, 0)) = true := by rw [Bool.and_eq_true]; exact ⟨y, x⟩
  refine ⟨R, FLG_fr F h h' (d 30 W (OTW_x a1).2 (by decide +kernel)) (d 38 W a5 (by decide +kernel)) (d 30 W' (OTW_x b1).2 (by decide +kernel)) (d 38 W' b5 (by decide +kernel)), IMX_fr (IMX_fr X h (OTW_x a1).1) h' (OTW_x b1).1, fun p hp => ?_, by rw [e]; exact T, by rw [e]; exact G, IMK_fr (IMK_fr I h a1 a4) h' b1 b4⟩
  rw [p9_fr h' b2, p9_fr h a2] at hp
  rw [e]
  obtain ⟨P, K⟩ := K p hp
  exact ⟨P, KNb_fr (PLA_B P) (KNb_fr (PLA_B P) K h a1) h' b1⟩
/-- calls that change the plan and the model's numbers alike -/
theorem FUL_ch (H : FUL σ) (hσ2 : WT σ2) (hp : (σ 0)[9]? = some (.ref p)) (h : Fr W σ σ1) (h' : Fr W' σ1 σ2) (R : RDL σ2) (kw : (FXI W && !W.contains (29, 0) && !W.contains (0, 9) && !W.contains (37, 0) && !W.contains (38, 0) && !W.contains (30, 0)) = true) (kw' : (OTW W' && !W'.contains (0, 9) && !W'.contains (37, 0) && !W'.contains (38, 0)) = true) (K : KN σ1 p f (act f) ∧ OUT σ σ1 p) (hf : ∀ i : Int, 0 ≤ i → i < 226 → wf σ2 i = f i) (tw : TWN f) (tg : TGT f) : FUL σ2 := by
  obtain ⟨-, F, X, K0, -, -, I⟩ := H
  simp only [Bool.and_eq_true] at kw kw'
  obtain ⟨⟨⟨⟨⟨a1, a2⟩, a3⟩, a4⟩, a5⟩, a6⟩ := kw
  obtain ⟨⟨⟨b1, b2⟩, b3⟩, b4⟩ := kw'
  have P := (K0 p hp).1
  have d (g : Nat) (V : List (Nat × Nat)) (x : (!V.contains (g, 0)) = true) (y : decide (KD g ≠ 0) = true) : (decide (KD g ≠ 0) && !V.contains (g, 0)) = true := by rw [Bool.and_eq_true]; exact ⟨y, x⟩
  refine ⟨R, FLG_fr F h h' (d 30 W a6 (by decide +kernel)) (d 38 W a5 (by decide +kernel)) (d 30 W' (OTW_x b1).2 (by decide +kernel)) (d 38 W' b4 (by decide +kernel)), IMX_fr (IMX_fr X h (by rw [Bool.and_eq_true]; exact ⟨a1, a2⟩)) h' (OTW_x b1).1, fun q hq => ?_, ?_, ?_, IMK_fr (IMK_out I h P K.2 a4) h' b1 b3⟩
  · rw [p9_fr h' b2, p9_fr h a3, hp] at hq
    injection hq with hq
    injection hq with hq
    subst hq
    exact ⟨P, KN_cg (KNb_fr (PLA_B P) K.1 h' b1) hf⟩
  · exact TWN_eqv tw (fun i hi => hf i (by omega) (by omega))
  · refine fun j j0 j1 => ?_
    have e6 := hf 6 (by omega) (by omega)
    have e2 := hf 2 (by omega) (by omega)
    have k := tg j j0 (by omega)
    have n6 := wf6_rng hσ2
    rw [hf (166 + j) (by omega) (by omega), e2]; exact k
/-! the changes keep twins, and whose lessons came by teach() -/
def NNw (w : Int → Int) : Prop := 0 ≤ w 6 ∧ w 2 ≤ 4 ∧ ∀ d : Int, 0 ≤ d → d < 4 → 0 ≤ w (12 + 4 * d)
theorem NNw_w (hσ : WT σ) : NNw (wf σ) := by
  have a2 := wf_ty (l := 0) (u := 4) (i := 2) hσ 2 rfl (by decide +kernel) (by decide +kernel)
  have b0 := wf_ty (l := 0) (u := 12) (i := 12) hσ 12 rfl (by decide +kernel) (by decide +kernel)
  have b1 := wf_ty (l := 0) (u := 12) (i := 16) hσ 16 rfl (by decide +kernel) (by decide +kernel)
  have b2 := wf_ty (l := 0) (u := 12) (i := 20) hσ 20 rfl (by decide +kernel) (by decide +kernel)
  have b3 := wf_ty (l := 0) (u := 12) (i := 24) hσ 24 rfl (by decide +kernel) (by decide +kernel)
  refine ⟨(wf6_rng hσ).1, a2.2, fun d d0 d4 => ?_⟩
  rcases (show d = 0 ∨ d = 1 ∨ d = 2 ∨ d = 3 by omega) with h | h | h | h <;> subst h
  · exact b0.1
  · exact b1.1
  · exact b2.1
  · exact b3.1
theorem tcU_e {d k o : Int} (hn : NNw w) (d0 : 0 ≤ d) (d4 : d < 4) (x : Int) : tcU w d k o x = if x = 6 then w 6 + 1 else if x = 166 + w 6 then d else if x = 12 + 4 * d then w (12 + 4 * d) + 1 else if x = 26 + 24 * d + 2 * w (12 + 4 * d) + 1 then o else if x = 26 + 24 * d + 2 * w (12 + 4 * d) then k else w x := rfl
theorem tc_tw {d k o : Int} (H : TWN w) (hn : NNw w) : TWN (tcW w d k o) := by
  unfold tcW
  split
  · rename_i c
    obtain ⟨⟨d0, d1, -⟩, -⟩ := c
    have m0 := hn.2.2 d d0 (by have := hn.2.1; omega)
    have n0 := hn.1
    have d4 : d < 4 := by have := hn.2.1; omega
    refine TWN_eqv H (fun i hi => ?_)
    rw [tcU_e hn d0 d4, if_neg (by omega), if_neg (by omega), if_neg (by omega), if_neg (by omega), if_neg (by omega)]
  · exact H
theorem tc_tg {d k o : Int} (H : TGT w) (hn : NNw w) : TGT (tcW w d k o) := by
  unfold tcW
  split
  · rename_i c
    obtain ⟨⟨d0, d1, -⟩, c2, c3⟩ := c
    have m0 := hn.2.2 d d0 (by have := hn.2.1; omega)
    have n0 := hn.1
    have d4 : d < 4 := by have := hn.2.1; omega
    intro j j0 j1
    rw [tcU_e hn d0 d4, if_pos rfl] at j1
    rw [tcU_e hn d0 d4, tcU_e hn d0 d4, if_neg (by omega)]
    have e2 : (if (2 : Int) = 6 then w 6 + 1 else if (2 : Int) = 166 + w 6 then d else if (2 : Int) = 12 + 4 * d then w (12 + 4 * d) + 1 else if (2 : Int) = 26 + 24 * d + 2 * w (12 + 4 * d) + 1 then o else if (2 : Int) = 26 + 24 * d + 2 * w (12 + 4 * d) then k else w 2) = w 2 := by
      rw [if_neg (by omega), if_neg (by omega), if_neg (by omega), if_neg (by omega), if_neg (by omega)]
    rw [e2]
    by_cases z : j = w 6
    · rw [if_pos (by omega)]; omega
    · have := H j j0 (by omega)
      rw [if_neg (by omega), if_neg (by omega), if_neg (by omega), if_neg (by omega)]
      exact this
  · exact H
theorem ut_tw (H : TWN w) (hn : NNw w) (hg : TGT w) : TWN (utW w) := by
  unfold utW
  split
  · exact H
  · split
    · exact H
    · refine TWN_eqv H (fun i hi => ?_)
      have g := hg (w 6 - 1) (by omega) (by omega)
      have e : utU w i = if i = 12 + 4 * utD w then w (12 + 4 * utD w) - 1 else if i = 6 then w 6 - 1 else w i := rfl
      unfold utD at e
      rw [e, if_neg (by omega), if_neg (by omega)]
theorem ut_tg (H : TGT w) (hn : NNw w) : TGT (utW w) := by
  unfold utW
  split
  · exact H
  · split
    · exact H
    · have g := H (w 6 - 1) (by omega) (by omega)
      have e (i : Int) : utU w i = if i = 12 + 4 * w (166 + (w 6 - 1)) then w (12 + 4 * w (166 + (w 6 - 1))) - 1 else if i = 6 then w 6 - 1 else w i := rfl
      intro j j0 j1
      rw [e, if_neg (by omega), if_pos rfl] at j1
      have := H j j0 (by omega)
      have b := hn.2.1
      rw [e, e, if_neg (by omega), if_neg (by omega), if_neg (by omega), if_neg (by omega)]
      exact this
theorem tr_tw {d t n : Int} (H : TWN w) : TWN (trW w d t n) := by
  unfold trW
  split
  · rename_i c
    refine TWN_eqv H (fun i hi => ?_)
    exact if_neg (by omega)
  · exact H
theorem tr_tg {d t n : Int} (H : TGT w) (hn : NNw w) : TGT (trW w d t n) := by
  unfold trW
  split
  · rename_i c
    have b := hn.2.1
    refine TGT_eqv H (if_neg (by omega)) (if_neg (by omega)) (fun i hi => if_neg (by omega))
  · exact H
theorem ow_tw {m v : Int} (H : TWN w) : TWN (owW w m v) := by
  unfold owW
  split
  · refine TWN_eqv H (fun i hi => ?_)
    unfold uPd
    rw [if_neg (by omega), if_neg (by omega)]
  · exact H
theorem ow_tg {m v : Int} (H : TGT w) : TGT (owW w m v) := by
  unfold owW
  split
  · refine TGT_eqv H ?_ ?_ (fun i hi => ?_) <;>
    · unfold uPd
      rw [if_neg (by omega), if_neg (by omega)]
  · exact H
theorem cy_tg {d o : Int} (H : TGT w) (hn : NNw w) : TGT (cyW w d o) := by
  unfold cyW
  split
  · rename_i c
    have b := hn.2.1
    refine TGT_eqv H (if_neg (by omega)) (if_neg (by omega)) (fun i hi => if_neg (by omega))
  · exact H
theorem TGT_cg (H : TGT w) (e : ∀ i : Int, 0 ≤ i → i < 226 → f i = w i) (n6 : w 6 ≤ 60) : TGT f := fun j j0 j1 => by
  have e6 := e 6 (by omega) (by omega)
  rw [e 2 (by omega) (by omega), e (166 + j) (by omega) (by omega)]
  exact H j j0 (by omega)
/-- image() of both -/
theorem FUL_im {k k' : Int} (H : FUL σ) (hσ : WT σ) (hp : (σ 0)[9]? = some (.ref p)) (h : Fr W σ σ1) (h' : Fr W' σ1 σ2) (R : RDL σ2) (kw : (FXI W && !W.contains (29, 0) && !W.contains (0, 9) && !W.contains (36, 0) && !W.contains (37, 0) && !W.contains (38, 0)) = true) (kw' : (OTW W' && !W'.contains (0, 9)) = true) (C : IMC σ σ1 p k) (B : BSET σ1 σ2 162 k') (M : IMW σ1 σ2 k') (e : k' = k) : FUL σ2 := by
  subst e
  obtain ⟨-, F, X, K, T, G, I⟩ := H
  obtain ⟨P, K⟩ := K p hp
  simp only [Bool.and_eq_true] at kw kw'
  obtain ⟨⟨⟨⟨⟨a1, a2⟩, a3⟩, a4⟩, a5⟩, a6⟩ := kw
  obtain ⟨b1, b2⟩ := kw'
  obtain ⟨C1, C2, C3⟩ := C
  have d (g : Nat) (V : List (Nat × Nat)) (x : (!V.contains (g, 0)) = true) (y : decide (KD g ≠ 0) = true) : (decide (KD g ≠ 0) && !V.contains (g, 0)) = true := by rw [Bool.and_eq_true]; exact ⟨y, x⟩
  have w1 : wf σ1 = wf σ := wf_fr h a4
  have w2 : wf σ2 = wf σ := by
    rw [← w1]
    funext i
    exact M.2.2 i
  have n6 := (wf6_rng hσ).2
  have kp : KN σ1 p (wf σ) (act (wf σ)) := fun i i0 i1 x => by
    rw [← K i i0 i1 x]
    have := lc_0 i0 i1
    unfold PLA at P
    exact ci_eq (C2 _ _ (by omega) (by omega) (by omega) (fun _ _ => by omega))
  refine ⟨R, FLG_im F h h' (d 38 W a6 (by decide +kernel)) (d 30 W' (OTW_x b1).2 (by decide +kernel)) C3 B rfl, IMX_fr (IMX_fr X h (by rw [Bool.and_eq_true]; exact ⟨a1, a2⟩)) h' (OTW_x b1).1, fun q hq => ?_, by rw [w2]; exact T, by rw [w2]; exact G, fun j j3 z => ?_⟩
  · rw [p9_fr h' b2, p9_fr h a3, hp] at hq
    injection hq with hq
    injection hq with hq
    subst hq
    rw [w2]
    exact ⟨P, KNb_fr (PLA_B P) kp h' b1⟩
  · rw [flg_fr h' (OTW_x b1).2, C3 (j : Int) (by omega) (by omega)] at z
    by_cases y : (j : Int) = k'
    · have e : ∀ i : Int, 0 ≤ i → i < 226 → imf σ2 (j : Int) i = wf σ i := fun i i0 i1 => by
        have := (M.1 (by omega) (by omega)).1 i i0 i1
        show ci σ2 161 (226 * (j : Int) + i) = _
        rw [y, this, ← w1]
        rfl
      have kj : KN σ1 (72 + 26 * j) (wf σ) (act (wf σ)) := fun i i0 i1 x => by
        have c := C1 (by omega) (by omega) i i0 i1
        rw [show k'.toNat = j by omega] at c
        rw [c]
        exact K i i0 i1 x
      exact ⟨KN_cg (KNb_fr (PLI_B (PLI_k j3)) kj h' b1) e, TWN_eqv T (fun i hi => e i (by omega) (by omega)), TGT_cg G e n6⟩
    · rw [if_neg y] at z
      obtain ⟨a, b, c⟩ := I j j3 z
      have e : ∀ i : Int, 0 ≤ i → i < 226 → imf σ2 (j : Int) i = imf σ (j : Int) i := fun i i0 i1 => by
        rw [← imf_fr h a5 (j : Int)]
        show ci σ2 161 (226 * (j : Int) + i) = ci σ1 161 (226 * (j : Int) + i)
        by_cases x : 0 ≤ k' ∧ k' < 3
        · exact (M.1 x.1 x.2).2 _ (by omega) (by omega)
        · exact M.2.1 (by omega) _
      have kj : KN σ1 (72 + 26 * j) (imf σ (j : Int)) (act (imf σ (j : Int))) := fun i i0 i1 x => by
        rw [← a i i0 i1 x]
        have := lc_0 i0 i1
        exact ci_eq (C2 _ _ (by omega) (by omega) (by omega) (fun _ _ => by omega))
      refine ⟨KN_cg (KNb_fr (PLI_B (PLI_k j3)) kj h' b1) e, TWN_eqv b (fun i hi => e i (by omega) (by omega)), fun x x0 x1 => ?_⟩
      have e6 := e 6 (by omega) (by omega)
      have e2 := e 2 (by omega) (by omega)
      have g := c x x0 (by omega)
      have l : imf σ (j : Int) 6 ≤ 60 := imf6 hσ j3
      rw [e (166 + x) (by omega) (by omega), e2]; exact g
/-- back() of both -/
theorem FUL_bk {k k' : Int} (H : FUL σ) (hσ : WT σ) (hσ2 : WT σ2) (hp : (σ 0)[9]? = some (.ref p)) (h : Fr W σ σ1) (h' : Fr W' σ1 σ2) (R : RDL σ2) (kw : (FXI W && !W.contains (29, 0) && !W.contains (0, 9) && !W.contains (37, 0) && !W.contains (38, 0) && !W.contains (30, 0)) = true) (kw' : (OTW W' && !W'.contains (0, 9) && !W'.contains (37, 0) && !W'.contains (38, 0)) = true) (kx : (!W.contains (36, 0)) = true) (C : BKC σ σ1 p k (ci σ 71 k)) (M : BKM σ1 σ2 k' (ci σ1 162 k')) (e : k' = k) : FUL σ2 := by
  subst e
  have F := H.2.1
  have I := H.2.2.2.2.2.2
  obtain ⟨P, K⟩ := H.2.2.2.1 p hp
  have kw0 := kw
  simp only [Bool.and_eq_true] at kw0
  obtain ⟨⟨⟨⟨⟨a1, a2⟩, a3⟩, a4⟩, a5⟩, a6⟩ := kw0
  have w1 : wf σ1 = wf σ := wf_fr h kx
  have f1 : ci σ1 162 k' = ci σ 162 k' := ci_fr h tgz_162 (by rw [Bool.and_eq_true]; exact ⟨by decide +kernel, a5⟩) k'
  rw [f1] at M
  by_cases c : 0 ≤ k' ∧ k' < 3 ∧ ci σ 71 k' ≠ 0
  · obtain ⟨k0, k3, kf⟩ := c
    have fl := F k' k0 k3
    obtain ⟨C1, C2⟩ := C.1 k0 k3 kf
    have m := M.1 k0 k3 (by omega)
    rw [imf_fr h a4] at m
    have ek : ((k'.toNat : Nat) : Int) = k' := by omega
    obtain ⟨x, y, z⟩ := I k'.toNat (by omega) (by rw [ek]; exact kf)
    rw [ek] at x y z
    refine FUL_ch H hσ2 hp h h' R kw kw' ⟨fun i i0 i1 q => ?_, C2⟩ m y z
    rw [C1 i i0 i1]
    exact x i i0 i1 q
  · have s := C.2 (by omega)
    have fl : 0 ≤ k' → k' < 3 → ci σ 71 k' = ci σ 162 k' := fun x y => F k' x y
    have m := M.2 (by omega)
    refine FUL_ch H hσ2 hp h h' R kw kw' ⟨fun i i0 i1 q => ?_, fun b q b0 b1 _ => s b q b0 b1⟩ (fun i _ _ => by rw [m, w1]) H.2.2.2.2.1 H.2.2.2.2.2.1
    rw [← K i i0 i1 q]
    have := lc_0 i0 i1
    unfold PLA at P
    exact ci_eq (s _ _ (by omega) (by omega))
/-- school() of both -/
theorem FUL_sc {r r' : Int} (H : FUL σ) (hp : (σ 0)[9]? = some (.ref p)) (hP2 : PLA p2) (hne : p ≠ p2) (h : Fr W σ σ1) (h' : Fr W' σ1 σ2) (R : RDL σ2) (kw : (FXI W && !W.contains (29, 0) && !W.contains (36, 0) && !W.contains (37, 0) && !W.contains (38, 0) && !W.contains (30, 0)) = true) (kw' : (OTW W' && !W'.contains (0, 9) && !W'.contains (37, 0) && !W'.contains (38, 0)) = true) (O : OUT σ σ1 p2) (L : SPL By Nb σ1 p p2) (M : MSC By Nb σ1 σ2 r') (T6 : (fRead By Nb 1601 S00).1 = 0 → TW6 (fRead By Nb 1601 S00).2.2.2) : FUL σ2 := by
  obtain ⟨-, F, X, K, T, G, I⟩ := H
  obtain ⟨P, K⟩ := K p hp
  simp only [Bool.and_eq_true] at kw kw'
  obtain ⟨⟨⟨⟨⟨a1, a2⟩, a3⟩, a4⟩, a5⟩, a6⟩ := kw
  obtain ⟨⟨⟨b1, b2⟩, b3⟩, b4⟩ := kw'
  have d (g : Nat) (V : List (Nat × Nat)) (x : (!V.contains (g, 0)) = true) (y : decide (KD g ≠ 0) = true) : (decide (KD g ≠ 0) && !V.contains (g, 0)) = true := by rw [Bool.and_eq_true]; exact ⟨y, x⟩
  have w1 : wf σ1 = wf σ := wf_fr h a3
  have fl := FLG_fr F h h' (d 30 W a6 (by decide +kernel)) (d 38 W a5 (by decide +kernel)) (d 30 W' (OTW_x b1).2 (by decide +kernel)) (d 38 W' b4 (by decide +kernel))
  have ix := IMX_fr (IMX_fr X h (by rw [Bool.and_eq_true]; exact ⟨a1, a2⟩)) h' (OTW_x b1).1
  have im := IMK_fr (IMK_out I h hP2 O a4) h' b1 b3
  by_cases z : (fRead By Nb 1601 S00).1 = 0
  · obtain ⟨l1, l2⟩ := L.2 z
    have m := (M.2.2.2 z).2
    have t := T6 z
    refine ⟨R, fl, ix, fun q hq => ?_, TWN_eqv t.1 (fun i hi => m i (by omega) (by omega)), TGT_0 ((m 6 (by omega) (by omega)).trans t.2), im⟩
    rw [p9_fr h' b2, l1] at hq
    injection hq with hq
    injection hq with hq
    subst hq
    exact ⟨hP2, KN_cg (KNb_fr (PLA_B hP2) l2 h' b1) m⟩
  · have l1 := L.1 z
    have m := (M.2.2.1 z).2
    have w2 : wf σ2 = wf σ := by
      rw [← w1]
      funext i
      exact m i
    refine ⟨R, fl, ix, fun q hq => ?_, by rw [w2]; exact T, by rw [w2]; exact G, im⟩
    rw [p9_fr h' b2, l1] at hq
    injection hq with hq
    injection hq with hq
    subst hq
    rw [w2]
    have sp : p + 26 ≤ p2 ∨ p2 + 26 ≤ p := by
      unfold PLA at P hP2
      omega
    exact ⟨P, KNb_fr (PLA_B P) (KN_out (PLA_B P) sp K O) h' b1⟩
end FLL
