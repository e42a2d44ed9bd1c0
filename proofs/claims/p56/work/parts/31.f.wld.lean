section WLD
variable {fr lo : Nat} {scr : AS} {F : MR} {P : PO} {pc pc' len tgt : Nat} {i : Instr} {lv lv' : ALv} {st st' r : List Value} {σ σ0 : SG} {W : List (Nat × Nat)}
/-! a row of numbers with its types place by place -/
theorem En_ialdW {a g n : Nat} {j : Int32} {J : Int} (hf : fc F pc = some (.iaload, len, tgt)) (hJ : j.toInt = J) (ha : TG a = g) (hg : (KD g == 1 && (CL g == 0 || CL g == 0) && decide (g < 900)) = true) (hσ : WT σ) (h0 : 0 ≤ J) (hn : LN g = n) (h1 : J < (n : Int)) (ht : (List.range n).all (fun q => decide ((FT g q).1 = 0)) = true) (k : ∀ y : Int32, (σ a)[J.toNat]? = some (.int y) → vOK (FT g J.toNat) (.int y) → En fr lo scr F P (pc + 1) lv (.int y :: r) σ) : En fr lo scr F P pc lv (.int j :: .ref a :: r) σ := by
  obtain ⟨v, hv, hk, hl⟩ := ldR_ok (scr := scr) (r := r) ha hg hσ hJ h0 (by rw [hn]; exact h1)
  have t0 := of_decide_eq_true (List.all_eq_true.mp ht J.toNat (List.mem_range.mpr (by omega)))
  have hk2 := hk
  rw [show FT g J.toNat = (0, (FT g J.toNat).2.1, (FT g J.toNat).2.2) by rw [← t0]] at hk
  obtain ⟨y, rfl, h2, h3⟩ := vOK_int hk
  exact En_P1 hf rfl (oB_mk hl rfl) (k y hv hk2)
theorem En_iastW {a g n : Nat} {j y : Int32} {J : Int} (hf : fc F pc = some (.iastore, len, tgt)) (hJ : j.toInt = J) (ha : TG a = g) (hg : (KD g == 1 && CL g == 0 && decide (g < 900)) = true) (h0 : 0 ≤ J) (hn : LN g = n) (h1 : J < (n : Int)) (hv : vOK (FT g J.toNat) (.int y)) (hσ : WT σ) (hF : Fr W σ0 σ) (hW : W.contains (g, 0) = true)
    (k : ∀ σ', WT σ' → Fr W σ0 σ' → (σ' a)[J.toNat]? = some (.int y) → (∀ b i, (b ≠ a ∨ i ≠ J.toNat) → (σ' b)[i]? = (σ b)[i]?) → En fr lo scr F P (pc + 1) lv r σ') : En fr lo scr F P pc lv (.int y :: .int j :: .ref a :: r) σ :=
  En_iast (l := (FT g J.toNat).2.1) (u := (FT g J.toNat).2.2) hf hJ ha hg h0 (by rw [hn]; exact h1) (by have := hv.1; rw [← this]) hv.2 hσ hF hW k
end WLD
section WLE
theorem tyW : (TY 41).2.2.2 = (TY 36).2.2.2 ∧ (TY 37).2.2.2 = (TY 36).2.2.2 ++ ((TY 36).2.2.2 ++ (TY 36).2.2.2) ∧ (TY 36).2.2.2.length = 226 ∧ KD 36 = 1 ∧ KD 37 = 1 ∧ KD 41 = 1 := by decide +kernel
theorem pick_m {k : Nat} {l : List (Nat × Int × Int)} {j : Nat} (hk : k ≠ 0) (hl : l.length ≠ 1) : pick k l j = l.getD j (9, 0, 0) := by
  cases k with
  | zero => exact absurd rfl hk
  | succ k =>
    exact match l, hl with
    | [], _ => rfl
    | [_], h => absurd rfl h
    | _ :: _ :: _, _ => rfl
theorem ft_36 {q : Nat} : FT 36 q = (TY 36).2.2.2.getD q (9, 0, 0) := by
  obtain ⟨e1, e2, e3, k1, k2, k3⟩ := tyW
  exact pick_m (by rw [k1]; decide) (by rw [e3]; decide)
theorem ft_41 {q : Nat} : FT 41 q = (TY 36).2.2.2.getD q (9, 0, 0) := by
  obtain ⟨e1, e2, e3, k1, k2, k3⟩ := tyW
  unfold FT
  rw [e1]
  exact pick_m (by rw [k3]; decide) (by rw [e3]; decide)
theorem ft_37 {q : Nat} : FT 37 q = ((TY 36).2.2.2 ++ ((TY 36).2.2.2 ++ (TY 36).2.2.2)).getD q (9, 0, 0) := by
  obtain ⟨e1, e2, e3, k1, k2, k3⟩ := tyW
  unfold FT
  rw [e2]
  exact pick_m (by rw [k2]; decide) (by rw [List.length_append, List.length_append, e3]; decide)
theorem apl {l m : List (Nat × Int × Int)} {q : Nat} {d : Nat × Int × Int} (h : q < l.length) : (l ++ m).getD q d = l.getD q d := by
  rw [List.getD_eq_getElem?_getD, List.getD_eq_getElem?_getD, List.getElem?_append_left h]
theorem apr {l m : List (Nat × Int × Int)} {q n : Nat} {d : Nat × Int × Int} (h : l.length = n) : (l ++ m).getD (n + q) d = m.getD q d := by
  rw [List.getD_eq_getElem?_getD, List.getD_eq_getElem?_getD, List.getElem?_append_right (by omega), show n + q - l.length = q by omega]
theorem ft_w {q : Nat} (hq : q < 226) : FT 41 q = FT 36 q ∧ FT 37 q = FT 36 q ∧ FT 37 (226 + q) = FT 36 q ∧ FT 37 (452 + q) = FT 36 q := by
  have e3 := tyW.2.2.1
  refine ⟨ft_41.trans ft_36.symm, ft_37.trans ((apl (by omega)).trans ft_36.symm), ft_37.trans ((apr e3).trans ((apl (by omega)).trans ft_36.symm)), ?_⟩
  rw [show 452 + q = 226 + (226 + q) by omega]
  exact ft_37.trans ((apr e3).trans ((apr e3).trans ft_36.symm))
theorem ft_fw {J J' : Int} {y : Int32} (h : vOK (FT 41 J.toNat) (.int y)) (h0 : 0 ≤ J) (h1 : J < 226) (e : J' = J) : vOK (FT 36 J'.toNat) (.int y) := by
  subst e; rw [← (ft_w (by omega)).1]; exact h
theorem ft_wi {J J' k : Int} {y : Int32} (h : vOK (FT 36 J.toNat) (.int y)) (h0 : 0 ≤ J) (h1 : J < 226) (k0 : 0 ≤ k) (k2 : k ≤ 2) (e : J' = 226 * k + J) : vOK (FT 37 J'.toNat) (.int y) := by
  have w := ft_w (q := J.toNat) (by omega)
  rcases (show k = 0 ∨ k = 1 ∨ k = 2 by omega) with z | z | z
  · rw [show J'.toNat = J.toNat by omega, w.2.1]; exact h
  · rw [show J'.toNat = 226 + J.toNat by omega, w.2.2.1]; exact h
  · rw [show J'.toNat = 452 + J.toNat by omega, w.2.2.2]; exact h
theorem ft_iw {J J' k : Int} {y : Int32} (h : vOK (FT 37 J'.toNat) (.int y)) (h0 : 0 ≤ J) (h1 : J < 226) (k0 : 0 ≤ k) (k2 : k ≤ 2) (e : J' = 226 * k + J) : vOK (FT 36 J.toNat) (.int y) := by
  have w := ft_w (q := J.toNat) (by omega)
  rcases (show k = 0 ∨ k = 1 ∨ k = 2 by omega) with z | z | z
  · rw [show J'.toNat = J.toNat by omega, w.2.1] at h; exact h
  · rw [show J'.toNat = 226 + J.toNat by omega, w.2.2.1] at h; exact h
  · rw [show J'.toNat = 452 + J.toNat by omega, w.2.2.2] at h; exact h
/-! what is told of a school's numbers -/
def cntW (f : Int → Int) : Nat → Int → Nat
  | 0, _ => 0
  | n + 1, d => cntW f n d + (if f (166 + (n : Int)) = d then 1 else 0)
def WINV (f : Int → Int) : Prop := ((1 ≤ f 5 ∨ 1 ≤ f 7) → 1 ≤ f 1) ∧ 0 ≤ f 6 ∧ f 6 ≤ 60 ∧ ∀ d : Int, 0 ≤ d → d < 4 → (cntW f (f 6).toNat d : Int) ≤ f (12 + 4 * d)
theorem cntW_congr {f g : Int → Int} {d : Int} : ∀ n : Nat, (∀ j : Nat, j < n → f (166 + (j : Int)) = g (166 + (j : Int))) → cntW f n d = cntW g n d := by
  intro n
  induction n with
  | zero => intro _; rfl
  | succ n ih =>
    intro h
    unfold cntW
    rw [ih (fun j hj => h j (by omega)), h n (by omega)]
theorem WINV_congr {f g : Int → Int} (h : ∀ i : Int, 0 ≤ i → i < 226 → g i = f i) (H : WINV f) : WINV g := by
  obtain ⟨h1, h2, h3, h4⟩ := H
  refine ⟨?_, by rw [h 6 (by omega) (by omega)]; exact h2, by rw [h 6 (by omega) (by omega)]; exact h3, fun d d0 d4 => ?_⟩
  · rw [h 5 (by omega) (by omega), h 7 (by omega) (by omega), h 1 (by omega) (by omega)]; exact h1
  · rw [h 6 (by omega) (by omega), h (12 + 4 * d) (by omega) (by omega), cntW_congr (g := f) _ (fun j hj => h _ (by omega) (by omega))]
    exact h4 d d0 d4
/-- the numbers that it speaks of -/
def SAM (f g : Int → Int) : Prop := ∀ i : Int, (i = 1 ∨ i = 5 ∨ i = 6 ∨ i = 7 ∨ i = 12 ∨ i = 16 ∨ i = 20 ∨ i = 24 ∨ 166 ≤ i) → g i = f i
theorem WINV_sam {f g : Int → Int} (h : SAM f g) (H : WINV f) : WINV g := by
  obtain ⟨h1, h2, h3, h4⟩ := H
  refine ⟨?_, by rw [h 6 (by omega)]; exact h2, by rw [h 6 (by omega)]; exact h3, fun d d0 d4 => ?_⟩
  · rw [h 5 (by omega), h 7 (by omega), h 1 (by omega)]; exact h1
  · rw [h 6 (by omega), h (12 + 4 * d) (by omega), cntW_congr (g := f) _ (fun j hj => h _ (by omega))]
    exact h4 d d0 d4
theorem WINV_teach {f g : Int → Int} {d j x o m nt : Int} (H : WINV f) (h : ∀ i : Int, 0 ≤ i → g i = if i = 6 then nt + 1 else if i = 166 + nt then d else if i = 12 + 4 * d then m + 1 else if i = j + 1 then o else if i = j then x else f i) (hm : m = f (12 + 4 * d)) (hn : nt = f 6) (n59 : nt ≤ 59) (d0 : 0 ≤ d) (d4 : d < 4) (j0 : 26 ≤ j) (j1 : j ≤ 120) : WINV g := by
  obtain ⟨h1, h2, h3, h4⟩ := H
  have e6 : g 6 = nt + 1 := by rw [h 6 (by omega), if_pos rfl]
  have e (i : Int) (i0 : 0 ≤ i) (a1 : i ≠ 6) (a2 : i ≠ 166 + nt) (a3 : i ≠ 12 + 4 * d) (a4 : i ≠ j + 1) (a5 : i ≠ j) : g i = f i := by rw [h i i0, if_neg a1, if_neg a2, if_neg a3, if_neg a4, if_neg a5]
  refine ⟨?_, by omega, by omega, fun q q0 q4 => ?_⟩
  · rw [e 5 (by omega) (by omega) (by omega) (by omega) (by omega) (by omega), e 7 (by omega) (by omega) (by omega) (by omega) (by omega) (by omega), e 1 (by omega) (by omega) (by omega) (by omega) (by omega) (by omega)]; exact h1
  · have hq := h4 q q0 q4
    have en : (g 6).toNat = (f 6).toNat + 1 := by omega
    have ec : cntW g (f 6).toNat q = cntW f (f 6).toNat q := cntW_congr _ (fun k hk => e _ (by omega) (by omega) (by omega) (by omega) (by omega) (by omega))
    rw [en]
    unfold cntW
    rw [ec, show (166 : Int) + (((f 6).toNat : Nat) : Int) = 166 + nt by omega]
    have ed : g (166 + nt) = d := by rw [h _ (by omega), if_neg (by omega), if_pos rfl]
    rw [ed]
    by_cases z : d = q
    · subst z
      rw [if_pos rfl, h _ (by omega), if_neg (by omega), if_neg (by omega), if_pos rfl]
      omega
    · rw [if_neg z, e _ (by omega) (by omega) (by omega) (by omega) (by omega) (by omega)]
      omega
theorem WINV_ge {f : Int → Int} {d nt : Int} (H : WINV f) (hn : nt = f 6) (n1 : 1 ≤ nt) (hd : d = f (166 + (nt - 1))) (d0 : 0 ≤ d) (d4 : d < 4) : 1 ≤ f (12 + 4 * d) := by
  obtain ⟨h1, h2, h3, h4⟩ := H
  have := h4 d d0 d4
  rw [show (f 6).toNat = (nt - 1).toNat + 1 by omega] at this
  unfold cntW at this
  rw [show (166 : Int) + (((nt - 1).toNat : Nat) : Int) = 166 + (nt - 1) by omega, if_pos hd.symm] at this
  omega
theorem WINV_unteach {f g : Int → Int} {d m nt : Int} (H : WINV f) (h : ∀ i : Int, 0 ≤ i → g i = if i = 12 + 4 * d then m - 1 else if i = 6 then nt - 1 else f i) (hm : m = f (12 + 4 * d)) (hn : nt = f 6) (n1 : 1 ≤ nt) (hd : d = f (166 + (nt - 1))) (d0 : 0 ≤ d) (d4 : d < 4) : WINV g := by
  obtain ⟨h1, h2, h3, h4⟩ := H
  have e6 : g 6 = nt - 1 := by rw [h 6 (by omega), if_neg (by omega), if_pos rfl]
  have e (i : Int) (i0 : 0 ≤ i) (a1 : i ≠ 6) (a3 : i ≠ 12 + 4 * d) : g i = f i := by rw [h i i0, if_neg a3, if_neg a1]
  refine ⟨?_, by omega, by omega, fun q q0 q4 => ?_⟩
  · rw [e 5 (by omega) (by omega) (by omega), e 7 (by omega) (by omega) (by omega), e 1 (by omega) (by omega) (by omega)]; exact h1
  · have hq := h4 q q0 q4
    rw [show (f 6).toNat = (nt - 1).toNat + 1 by omega] at hq
    unfold cntW at hq
    rw [show (166 : Int) + (((nt - 1).toNat : Nat) : Int) = 166 + (nt - 1) by omega] at hq
    have ec : cntW g (nt - 1).toNat q = cntW f (nt - 1).toNat q := cntW_congr _ (fun k hk => e _ (by omega) (by omega) (by omega))
    rw [e6, ec]
    by_cases z : d = q
    · subst z
      rw [if_pos hd.symm] at hq
      rw [h _ (by omega), if_pos rfl]
      omega
    · rw [if_neg (fun w => z (by rw [hd, w]))] at hq
      rw [e _ (by omega) (by omega) (by omega)]
      omega
theorem WINV_teach2 {f g : Int → Int} {d j m nt J1 J2 J3 J4 J5 y1 y2 y3 y4 y5 : Int} (H : WINV f) (h : ∀ i : Int, 0 ≤ i → g i = if i = J5 then y5 else if i = J4 then y4 else if i = J3 then y3 else if i = J2 then y2 else if i = J1 then y1 else f i) (hm : m = f (12 + 4 * d)) (hn : nt = f 6) (n59 : nt ≤ 59) (d0 : 0 ≤ d) (d4 : d < 4) (j0 : 26 ≤ j) (j1 : j ≤ 120) (e1 : J1 = j) (e2 : J2 = j + 1) (e3 : J3 = 12 + 4 * d) (e4 : J4 = 166 + nt) (e5 : J5 = 6) (v3 : y3 = m + 1) (v4 : y4 = d) (v5 : y5 = nt + 1) : WINV g := by
  subst e1 e2 e3 e4 e5 v3 v4 v5
  exact WINV_teach H h hm hn n59 d0 d4 j0 j1
theorem WINV_unteach2 {f g : Int → Int} {d m nt J1 J2 y1 y2 : Int} (H : WINV f) (h : ∀ i : Int, 0 ≤ i → g i = if i = J2 then y2 else if i = J1 then y1 else f i) (hm : m = f (12 + 4 * d)) (hn : nt = f 6) (n1 : 1 ≤ nt) (hd : d = f (166 + (nt - 1))) (d0 : 0 ≤ d) (d4 : d < 4) (e1 : J1 = 6) (e2 : J2 = 12 + 4 * d) (v1 : y1 = nt - 1) (v2 : y2 = m - 1) : WINV g := by
  subst e1 e2 v1 v2
  exact WINV_unteach H h hm hn n1 hd d0 d4
def wf (σ : SG) : Int → Int := fun i => ci σ 160 i
def ff (σ : SG) : Int → Int := fun i => ci σ 165 i
def imf (σ : SG) (k : Int) : Int → Int := fun i => ci σ 161 (226 * k + i)
def WI (σ : SG) : Prop := WINV (wf σ) ∧ ∀ k : Int, 0 ≤ k → k < 3 → WINV (imf σ k)
theorem WI_fr {W : List (Nat × Nat)} {σ σ' : SG} (h : Fr W σ σ') (hw : (decide (KD 36 ≠ 0) && !W.contains (36, 0)) = true) (hw' : (decide (KD 37 ≠ 0) && !W.contains (37, 0)) = true) (H : WI σ) : WI σ' := by
  refine ⟨?_, fun k k0 k3 => ?_⟩
  · have e : wf σ' = wf σ := by funext i; exact ci_fr h tgz_160 hw i
    rw [e]; exact H.1
  · have e : imf σ' k = imf σ k := by funext i; exact ci_fr h tgz_161 hw' _
    rw [e]; exact H.2 k k0 k3
theorem WI_w {W : List (Nat × Nat)} {σ σ' : SG} (h : Fr W σ σ') (hw' : (decide (KD 37 ≠ 0) && !W.contains (37, 0)) = true) (H : WI σ) (hn : WINV (wf σ')) : WI σ' := by
  refine ⟨hn, fun k k0 k3 => ?_⟩
  have e : imf σ' k = imf σ k := by funext i; exact ci_fr h tgz_161 hw' _
  rw [e]; exact H.2 k k0 k3
theorem TPOS_of {σ : SG} (H : WI σ) : TPOS σ := H.1.1
theorem WI_nx {σ σ' : SG} {a n : Nat} (h2 : ∀ b q, (b ≠ a ∨ q ≠ n) → (σ' b)[q]? = (σ b)[q]?) (h6 : 160 ≠ a) (h7 : 161 ≠ a) (H : WI σ) : WI σ' := by
  refine ⟨?_, fun k k0 k3 => ?_⟩
  · have e : wf σ' = wf σ := by funext i; exact ci_ne h2 h6 i
    rw [e]; exact H.1
  · have e : imf σ' k = imf σ k := by funext i; exact ci_ne h2 h7 _
    rw [e]; exact H.2 k k0 k3
/-- a row copied up to a place -/
def CPY (f g : Int → Int) (i : Int) : Prop := ∀ x : Int, 0 ≤ x → x < i → g x = f x
theorem CPY_0 {f g : Int → Int} {i : Int} (e : i = 0) : CPY f g i := fun x h0 h1 => absurd h0 (by omega)
/-- fresh to world -/
theorem CPY_fw {σ σ' : SG} {i i' : Int} {z : Int32} (H : CPY (ff σ) (wf σ) i) (hz : (σ 165)[i.toNat]? = some (.int z)) (h1 : (σ' 160)[i.toNat]? = some (.int z)) (h2 : ∀ b q, (b ≠ 160 ∨ q ≠ i.toNat) → (σ' b)[q]? = (σ b)[q]?) (i0 : 0 ≤ i) (e : i' = i + 1) : CPY (ff σ') (wf σ') i' := by
  intro x x0 xi
  show ci σ' 160 x = ci σ' 165 x
  rw [ci_ne (b := 165) h2 (by decide), ci_st h1 h2 i0 x x0]
  by_cases q : x = i
  · rw [if_pos q, q]; exact (ci_at hz rfl).symm
  · rw [if_neg q]; exact H x x0 (by omega)
/-- world to an image -/
def CPI (σ0 σ : SG) (k i : Int) : Prop := (∀ x : Int, 0 ≤ x → x < i → ci σ 161 (226 * k + x) = ci σ0 160 x) ∧ ∀ y : Int, 0 ≤ y → (y < 226 * k ∨ 226 * k + 226 ≤ y) → ci σ 161 y = ci σ0 161 y
theorem CPI_0 {σ0 : SG} {k i : Int} (e : i = 0) : CPI σ0 σ0 k i := ⟨fun x h0 h1 => absurd h0 (by omega), fun _ _ _ => rfl⟩
theorem CPI_s {σ0 σ σ' : SG} {k i i' J : Int} {z : Int32} (H : CPI σ0 σ k i) (hw : SWd σ0 σ) (hz : (σ 160)[i.toNat]? = some (.int z)) (h1 : (σ' 161)[J.toNat]? = some (.int z)) (h2 : ∀ b q, (b ≠ 161 ∨ q ≠ J.toNat) → (σ' b)[q]? = (σ b)[q]?) (hJ : J = 226 * k + i) (k0 : 0 ≤ k) (i0 : 0 ≤ i) (i1 : i < 226) (e : i' = i + 1) : CPI σ0 σ' k i' := by
  refine ⟨fun x x0 xi => ?_, fun y y0 hy => ?_⟩
  · rw [ci_st h1 h2 (by omega) _ (by omega)]
    by_cases q : x = i
    · rw [if_pos (by omega), q, ← hw]; exact (ci_at hz rfl).symm
    · rw [if_neg (by omega)]; exact H.1 x x0 (by omega)
  · rw [ci_st h1 h2 (by omega) _ y0, if_neg (by omega)]; exact H.2 y y0 hy
theorem CPI_x {W : List (Nat × Nat)} {σ0 σ : SG} {k i : Int} (H : CPI σ0 σ k i) (hi : 226 ≤ i) (hw : SWd σ0 σ) (k0 : 0 ≤ k) (k3 : k < 3) (I : WI σ0) : WI σ := by
  refine ⟨?_, fun q q0 q3 => ?_⟩
  · have e : wf σ = wf σ0 := by funext x; exact hw x
    rw [e]; exact I.1
  · by_cases z : q = k
    · subst z
      exact WINV_congr (f := wf σ0) (fun x x0 x1 => H.1 x x0 (by omega)) I.1
    · refine WINV_congr (f := imf σ0 q) (fun x x0 x1 => ?_) (I.2 q q0 q3)
      exact H.2 _ (by omega) (by rcases Int.lt_or_gt_of_ne z with w | w <;> omega)
/-- an image to the world -/
def CPB (σ0 σ : SG) (k i : Int) : Prop := ∀ x : Int, 0 ≤ x → x < i → ci σ 160 x = ci σ0 161 (226 * k + x)
theorem CPB_0 {σ0 σ : SG} {k i : Int} (e : i = 0) : CPB σ0 σ k i := fun x h0 h1 => absurd h0 (by omega)
theorem CPB_s {W : List (Nat × Nat)} {σ0 σ σ' : SG} {k i i' J : Int} {z : Int32} (H : CPB σ0 σ k i) (hF : Fr W σ0 σ) (hw' : (decide (KD 37 ≠ 0) && !W.contains (37, 0)) = true) (hz : (σ 161)[J.toNat]? = some (.int z)) (h1 : (σ' 160)[i.toNat]? = some (.int z)) (h2 : ∀ b q, (b ≠ 160 ∨ q ≠ i.toNat) → (σ' b)[q]? = (σ b)[q]?) (hJ : J = 226 * k + i) (i0 : 0 ≤ i) (e : i' = i + 1) : CPB σ0 σ' k i' := by
  intro x x0 xi
  rw [ci_st h1 h2 i0 x x0]
  by_cases q : x = i
  · rw [if_pos q, ← ci_fr hF tgz_161 hw']; exact (ci_at hz (by omega)).symm
  · rw [if_neg q]; exact H x x0 (by omega)
theorem CPB_x {W : List (Nat × Nat)} {σ0 σ : SG} {k i : Int} (H : CPB σ0 σ k i) (hi : 226 ≤ i) (hF : Fr W σ0 σ) (hw' : (decide (KD 37 ≠ 0) && !W.contains (37, 0)) = true) (k0 : 0 ≤ k) (k3 : k < 3) (I : WI σ0) : WI σ :=
  WI_w hF hw' I (WINV_congr (f := imf σ0 k) (fun x x0 x1 => H x x0 (by omega)) (I.2 k k0 k3))
/-! the numbers that the reading leaves alone -/
def KF (σ σ' : SG) : Prop := ∀ i : Int, (i = 1 ∨ i = 6 ∨ i = 7) → ci σ' 165 i = ci σ 165 i
theorem KF_0 {σ : SG} : KF σ σ := fun _ _ => rfl
theorem KF_fr {W : List (Nat × Nat)} {σ0 σ σ' : SG} (H : KF σ0 σ) (h : Fr W σ σ') (hw : (decide (KD 41 ≠ 0) && !W.contains (41, 0)) = true) : KF σ0 σ' := fun i hi => by rw [ci_fr h tgz_165 hw i]; exact H i hi
theorem KF_tr {σ0 σ σ' : SG} (H : KF σ0 σ) (h : KF σ σ') : KF σ0 σ' := fun i hi => by rw [h i hi]; exact H i hi
theorem KF_st {σ0 σ σ' : SG} {J : Int} (H : KF σ0 σ) (h2 : ∀ b q, (b ≠ 165 ∨ q ≠ J.toNat) → (σ' b)[q]? = (σ b)[q]?) (hJ : 0 ≤ J) (h : J ≠ 1 ∧ J ≠ 6 ∧ J ≠ 7) : KF σ0 σ' := fun i hi => by
  rw [show ci σ' 165 i = ci σ 165 i from ci_eq (h2 165 _ (Or.inr (by omega)))]; exact H i hi
def KR (σ σ' : SG) : Prop := ∀ i : Int, 0 ≤ i → i ≤ 7 → ci σ' 165 i = ci σ 165 i
theorem KF_of {σ σ' : SG} (h : KR σ σ') : KF σ σ' := fun i hi => h i (by omega) (by omega)
theorem KR_0 {σ : SG} : KR σ σ := fun _ _ _ => rfl
theorem KR_fr {W : List (Nat × Nat)} {σ0 σ σ' : SG} (H : KR σ0 σ) (h : Fr W σ σ') (hw : (decide (KD 41 ≠ 0) && !W.contains (41, 0)) = true) : KR σ0 σ' := fun i h0 h7 => by rw [ci_fr h tgz_165 hw i]; exact H i h0 h7
theorem KR_st {σ0 σ σ' : SG} {J : Int} (H : KR σ0 σ) (h2 : ∀ b q, (b ≠ 165 ∨ q ≠ J.toNat) → (σ' b)[q]? = (σ b)[q]?) (hJ : 8 ≤ J) : KR σ0 σ' := fun i h0 h7 => by
  rw [show ci σ' 165 i = ci σ 165 i from ci_eq (h2 165 _ (Or.inr (by omega)))]; exact H i h0 h7
/-- what holds of fresh between two lines; k: a fault or none -/
def FI (σ : SG) (k : Int) : Prop := ci σ 165 6 = 0 ∧ (k = 0 → (1 ≤ ci σ 165 7 → 1 ≤ ci σ 165 1) ∧ (ci σ 165 7 = 0 → ci σ 165 5 = 0))
theorem f_rng {σ : SG} (hσ : WT σ) : 0 ≤ ci σ 165 5 ∧ 0 ≤ ci σ 165 7 ∧ ci σ 165 7 ≤ 1600 := by
  have a := ci_rng (J := 5) (l := 0) (u := 6) hσ tgz_165 (by decide) (by omega) (lnI (by decide +kernel : LN _ = 226) (by omega)) (by decide +kernel)
  have b := ci_rng (J := 7) (l := 0) (u := 1600) hσ tgz_165 (by decide) (by omega) (lnI (by decide +kernel : LN _ = 226) (by omega)) (by decide +kernel)
  exact ⟨a.1, b.1, b.2⟩
theorem f_many {σ : SG} (hσ : WT σ) {d : Int} (d0 : 0 ≤ d) (d4 : d < 4) : 0 ≤ ci σ 165 (12 + 4 * d) := (ci_rng (J := 12 + 4 * d) (l := 0) (u := 12) hσ tgz_165 (by decide) (by omega) (lnI (by decide +kernel : LN _ = 226) (by omega)) (FTrow 41 12 4 4 (by decide +kernel) (by omega) (by omega) (by omega))).1
/-- a fresh school that was read without a fault -/
theorem FI_x {W : List (Nat × Nat)} {σ0 σ : SG} {k i : Int} (hσ : WT σ) (H : FI σ k) (hk : k = 0) (C : CPY (ff σ) (wf σ) i) (hi : 226 ≤ i) (hF : Fr W σ0 σ) (hw' : (decide (KD 37 ≠ 0) && !W.contains (37, 0)) = true) (I : WI σ0) : WI σ := by
  obtain ⟨h6, hT⟩ := H
  obtain ⟨h7, h5⟩ := hT hk
  have fr := f_rng hσ
  have e (x : Int) (x0 : 0 ≤ x) (x1 : x < 226) : wf σ x = ci σ 165 x := C x x0 (by omega)
  refine WI_w hF hw' I ⟨?_, ?_, ?_, fun d d0 d4 => ?_⟩
  · rw [e 5 (by omega) (by omega), e 7 (by omega) (by omega), e 1 (by omega) (by omega)]; omega
  · rw [e 6 (by omega) (by omega)]; omega
  · rw [e 6 (by omega) (by omega)]; omega
  · rw [e 6 (by omega) (by omega), h6, e (12 + 4 * d) (by omega) (by omega)]
    exact f_many hσ d0 d4
theorem FI_z {σ : SG} {k k' : Int} (H : FI σ k) (e : k' = k) : FI σ k' := by subst e; exact H
theorem FI_ne {σ σ' : SG} {a n : Nat} {k : Int} (H : FI σ k) (h2 : ∀ b q, (b ≠ a ∨ q ≠ n) → (σ' b)[q]? = (σ b)[q]?) (ha : 165 ≠ a) : FI σ' k := by
  unfold FI
  rw [ci_ne h2 ha, ci_ne h2 ha, ci_ne h2 ha, ci_ne h2 ha]; exact H
def CLF (σ : SG) (i : Int) : Prop := ∀ x : Int, 0 ≤ x → x < i → ci σ 165 x = 0
theorem CLF_0 {σ : SG} {i : Int} (e : i = 0) : CLF σ i := fun x h0 h1 => absurd h0 (by omega)
theorem CLF_s {σ σ' : SG} {i i' : Int} {y : Int32} (H : CLF σ i) (h1 : (σ' 165)[i.toNat]? = some (.int y)) (h2 : ∀ b q, (b ≠ 165 ∨ q ≠ i.toNat) → (σ' b)[q]? = (σ b)[q]?) (hy : y.toInt = 0) (i0 : 0 ≤ i) (e : i' = i + 1) : CLF σ' i' := by
  intro x x0 xi
  rw [ci_st h1 h2 i0 x x0]
  by_cases q : x = i
  · rw [if_pos q, hy]
  · rw [if_neg q]; exact H x x0 (by omega)
theorem CLF_226 {σ : SG} {i : Int} (H : CLF σ i) (h : 226 ≤ i) : CLF σ 226 := fun x h0 h1 => H x h0 (by omega)
theorem CLF_fr {W : List (Nat × Nat)} {σ σ' : SG} {i : Int} (H : CLF σ i) (h : Fr W σ σ') (hw : (decide (KD 41 ≠ 0) && !W.contains (41, 0)) = true) : CLF σ' i := fun x h0 h1 => by rw [ci_fr h tgz_165 hw]; exact H x h0 h1
theorem FI_0 {σ : SG} {k : Int} (H : CLF σ 226) : FI σ k := by
  have h1 := H 6 (by omega) (by omega)
  have h2 := H 7 (by omega) (by omega)
  have h3 := H 5 (by omega) (by omega)
  exact ⟨h1, fun _ => ⟨fun z => by omega, fun _ => h3⟩⟩
theorem WI_sw {W : List (Nat × Nat)} {σ σ' : SG} (hw : SWd σ σ') (h : Fr W σ σ') (hw' : (decide (KD 37 ≠ 0) && !W.contains (37, 0)) = true) (H : WI σ) : WI σ' := WI_w h hw' H (by
  have e : wf σ' = wf σ := by funext i; exact hw i
  rw [e]; exact H.1)
theorem ft0_ok : (TY 36).2.2.2.all (fun t => decide (t.1 = 0 ∧ t.2.1 ≤ 0 ∧ 0 ≤ t.2.2)) = true := by decide +kernel
theorem ft_zero {J : Int} {y : Int32} (h0 : 0 ≤ J) (h1 : J < 226) (hy : y.toInt = 0) : vOK (FT 41 J.toNat) (.int y) := by
  have e3 := tyW.2.2.1
  have hm : FT 41 J.toNat ∈ (TY 36).2.2.2 := by
    rw [ft_41, List.getD_eq_getElem?_getD, List.getElem?_eq_getElem (by omega), Option.getD_some]
    exact List.getElem_mem _
  have := of_decide_eq_true (List.all_eq_true.mp ft0_ok _ hm)
  exact ⟨this.1, by rw [hy]; exact this.2.1, by rw [hy]; exact this.2.2⟩
end WLE
