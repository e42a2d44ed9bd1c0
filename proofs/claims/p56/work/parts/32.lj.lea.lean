/-! the rules of the class stand for the signs that are there -/
section LEA
variable {k k' o o' D D' : Int → Int} {σ0 σ σ' σ1 σ2 : SG} {W W' : List (Nat × Nat)} {w : Int → Int} {By : Int → Int} {Nb : Int}
def RULx (σ : SG) (s : Int) : Prop := ci σ 4 0 = pI s ∧ ci σ 4 1 = nR s ∧ TB σ 5 6 7 (pI s) (nR s)
def RSAM (σ0 σ : SG) : Prop := ∀ b q : Nat, 4 ≤ b → b ≤ 7 → (σ b)[q]? = (σ0 b)[q]?
def RUW (W : List (Nat × Nat)) : Bool := W.all (fun q => decide (q.1 < 4) || decide (7 < q.1))
theorem rul_tags : ∀ b : Fin 8, 4 ≤ b.val → TG b.val = b.val := by decide +kernel
theorem RSAM_0 : RSAM σ σ := fun _ _ _ _ => rfl
theorem RSAM_tr (H : RSAM σ0 σ) (H' : RSAM σ σ1) : RSAM σ0 σ1 := fun b q h1 h2 => (H' b q h1 h2).trans (H b q h1 h2)
theorem RSAM_fr (h : Fr W σ σ1) (hw : RUW W = true) : RSAM σ σ1 := fun b q h1 h2 => by
  refine h b q ?_
  rw [rul_tags ⟨b, by omega⟩ h1]
  unfold RUW at hw
  rw [List.all_eq_true] at hw
  rw [Bool.eq_false_iff]
  intro z
  have z2 := hw _ (List.elem_iff.mp z)
  simp only [Bool.or_eq_true, decide_eq_true_eq] at z2
  omega
theorem RSAM_ne {x n : Nat} (H : RSAM σ0 σ) (h : ∀ b' i', (b' ≠ x ∨ i' ≠ n) → (σ1 b')[i']? = (σ b')[i']?) (hx : x < 4 ∨ 7 < x) : RSAM σ0 σ1 := fun b q h1 h2 => (h b q (Or.inl (by omega))).trans (H b q h1 h2)
theorem RULx_sam {s : Int} (H : RULx σ s) (h : RSAM σ σ1) : RULx σ1 s := by
  obtain ⟨a, b, c⟩ := H
  refine ⟨(ci_eq (h 4 _ (by omega) (by omega))).trans a, (ci_eq (h 4 _ (by omega) (by omega))).trans b, fun i i0 i1 => ?_⟩
  rw [ci_eq (h 5 _ (by omega) (by omega)), ci_eq (h 6 _ (by omega) (by omega)), ci_eq (h 7 _ (by omega) (by omega))]
  exact c i i0 i1
theorem RULx_eq {s s' : Int} (H : RULx σ s) (e : s' = s) : RULx σ s' := by subst e; exact H
def RUT (σ : SG) : Prop := 0 < wf σ 7 → RULx σ (wf σ 0)
/-- doors are there with a school alone -/
def QX (w : Int → Int) : Prop := 0 < w 2 → 0 < w 7
def QXS (σ : SG) : Prop := QX (wf σ) ∧ ∀ k : Nat, k < 3 → ci σ 71 (k : Int) ≠ 0 → QX (imf σ (k : Int))
def LEA (σ : SG) : Prop := FUL σ ∧ RUT σ ∧ QXS σ
theorem QX_e {f : Int → Int} (H : QX w) (h2 : f 2 = w 2) (h7 : f 7 = w 7) : QX f := fun z => by have := H (by omega); omega
def QXW (W : List (Nat × Nat)) : Bool := !W.contains (37, 0) && !W.contains (30, 0)
theorem QXI_fr (H : ∀ k : Nat, k < 3 → ci σ 71 (k : Int) ≠ 0 → QX (imf σ (k : Int))) (h : Fr W σ σ1) (hw : QXW W = true) : ∀ k : Nat, k < 3 → ci σ1 71 (k : Int) ≠ 0 → QX (imf σ1 (k : Int)) := fun k k3 z => by
  unfold QXW at hw
  rw [Bool.and_eq_true] at hw
  rw [flg_fr h hw.2] at z
  rw [imf_fr h hw.1]; exact H k k3 z
theorem QXS_ch (H : QXS σ) (h : Fr W σ σ1) (h' : Fr W' σ1 σ2) (hw : QXW W = true) (hw' : QXW W' = true) (e2 : wf σ2 2 = wf σ 2) (e7 : wf σ2 7 = wf σ 7) : QXS σ2 := ⟨QX_e H.1 e2 e7, QXI_fr (QXI_fr H.2 h hw) h' hw'⟩
theorem QXS_fr (H : QXS σ) (h : Fr W σ σ1) (h' : Fr W' σ1 σ2) (hw : (QXW W && !W.contains (36, 0)) = true) (hw' : (QXW W' && !W'.contains (36, 0)) = true) : QXS σ2 := by
  rw [Bool.and_eq_true] at hw hw'
  have e : wf σ2 = wf σ := (wf_fr h' hw'.2).trans (wf_fr h hw.2)
  exact QXS_ch H h h' hw.1 hw'.1 (by rw [e]) (by rw [e])
theorem QXS_w {f : Int → Int} (H : QXS σ) (h : Fr W σ σ1) (h' : Fr W' σ1 σ2) (hw : QXW W = true) (hw' : QXW W' = true) (hf : ∀ i : Int, 0 ≤ i → i < 226 → wf σ2 i = f i) (e2 : f 2 = wf σ 2) (e7 : f 7 = wf σ 7) : QXS σ2 := QXS_ch H h h' hw hw' ((hf 2 (by omega) (by omega)).trans e2) ((hf 7 (by omega) (by omega)).trans e7)
theorem fRead_7 : ∀ (f : Nat) (S : PS), S.2.2.2 7 ≤ (fRead By Nb f S).2.2.2 7 ∧ ((fRead By Nb f S).2.2.2 7 = S.2.2.2 7 → fRead By Nb f S = S) := by
  intro f
  induction f with
  | zero => intro S; exact ⟨Int.le_refl _, fun _ => rfl⟩
  | succ f ih =>
    intro S
    have e : (fLine By Nb S).2.2.2 7 = S.2.2.2 7 + 1 := by
      unfold fLine; dsimp only [wst, uPd]; exact if_pos rfl
    show S.2.2.2 7 ≤ (if S.1 = 0 ∧ tK By Nb S.2.2.1 ≠ 0 then fRead By Nb f (fLine By Nb S) else S).2.2.2 7 ∧ ((if S.1 = 0 ∧ tK By Nb S.2.2.1 ≠ 0 then fRead By Nb f (fLine By Nb S) else S).2.2.2 7 = S.2.2.2 7 → (if S.1 = 0 ∧ tK By Nb S.2.2.1 ≠ 0 then fRead By Nb f (fLine By Nb S) else S) = S)
    split
    · have k := (ih (fLine By Nb S)).1
      exact ⟨by omega, fun z => by omega⟩
    · exact ⟨Int.le_refl _, fun _ => rfl⟩
theorem fRead_q : QX (fRead By Nb 1601 S00).2.2.2 := fun z => by
  have k := fRead_7 (By := By) (Nb := Nb) 1601 S00
  have z7 : S00.2.2.2 7 = 0 := rfl
  have z2 : S00.2.2.2 2 = 0 := rfl
  rcases Int.lt_or_le 0 ((fRead By Nb 1601 S00).2.2.2 7) with y | y
  · exact y
  · rw [k.2 (by omega)] at z; omega
theorem QXS_sc {r' : Int} (H : QXS σ) (h : Fr W σ σ1) (h' : Fr W' σ1 σ2) (hw : (QXW W && !W.contains (36, 0)) = true) (hw' : QXW W' = true) (M : MSC By Nb σ1 σ2 r') : QXS σ2 := by
  rw [Bool.and_eq_true] at hw
  refine ⟨?_, QXI_fr (QXI_fr H.2 h hw.1) h' hw'⟩
  by_cases z : (fRead By Nb 1601 S00).1 = 0
  · have m := (M.2.2.2 z).2
    exact QX_e fRead_q (m 2 (by omega) (by omega)) (m 7 (by omega) (by omega))
  · have w2 : wf σ2 = wf σ := by
      rw [← wf_fr h hw.2]
      funext i
      exact (M.2.2.1 z).2 i
    rw [w2]; exact H.1
theorem QXS_im {p : Nat} {k k' : Int} (H : QXS σ) (h : Fr W σ σ1) (h' : Fr W' σ1 σ2) (hw : (!W.contains (36, 0) && !W.contains (37, 0)) = true) (hw' : (!W'.contains (30, 0)) = true) (C : IMC σ σ1 p k) (M : IMW σ1 σ2 k') (e : k' = k) : QXS σ2 := by
  subst e
  rw [Bool.and_eq_true] at hw
  have w1 : wf σ1 = wf σ := wf_fr h hw.1
  have w2 : wf σ2 = wf σ := by
    rw [← w1]
    funext i
    exact M.2.2 i
  refine ⟨by rw [w2]; exact H.1, fun j j3 z => ?_⟩
  rw [flg_fr h' hw', C.2.2 (j : Int) (by omega) (by omega)] at z
  by_cases y : (j : Int) = k'
  · have e : ∀ i : Int, 0 ≤ i → i < 226 → imf σ2 (j : Int) i = wf σ i := fun i i0 i1 => by
      have := (M.1 (by omega) (by omega)).1 i i0 i1
      show ci σ2 161 (226 * (j : Int) + i) = _
      rw [y, this, ← w1]
      rfl
    exact QX_e H.1 (e 2 (by omega) (by omega)) (e 7 (by omega) (by omega))
  · rw [if_neg y] at z
    have e : ∀ i : Int, 0 ≤ i → i < 226 → imf σ2 (j : Int) i = imf σ (j : Int) i := fun i i0 i1 => by
      rw [← imf_fr h hw.2 (j : Int)]
      show ci σ2 161 (226 * (j : Int) + i) = ci σ1 161 (226 * (j : Int) + i)
      by_cases x : 0 ≤ k' ∧ k' < 3
      · exact (M.1 x.1 x.2).2 _ (by omega) (by omega)
      · exact M.2.1 (by omega) _
    exact QX_e (H.2 j j3 z) (e 2 (by omega) (by omega)) (e 7 (by omega) (by omega))
theorem RUT_kp (H : RUT σ) (h : Fr W σ σ1) (h' : Fr W' σ1 σ2) (hw : RUW W = true) (hw' : RUW W' = true) (e0 : wf σ2 0 = wf σ 0) (e7 : wf σ2 7 = wf σ 7) : RUT σ2 := fun z => by
  rw [e0]
  exact RULx_sam (RULx_sam (H (by omega)) (RSAM_fr h hw)) (RSAM_fr h' hw')
theorem RUT_fr (H : RUT σ) (h : Fr W σ σ1) (h' : Fr W' σ1 σ2) (hw : (RUW W && !W.contains (36, 0)) = true) (hw' : (RUW W' && !W'.contains (36, 0)) = true) : RUT σ2 := by
  rw [Bool.and_eq_true] at hw hw'
  have e : wf σ2 = wf σ := (wf_fr h' hw'.2).trans (wf_fr h hw.2)
  exact RUT_kp H h h' hw.1 hw'.1 (by rw [e]) (by rw [e])
theorem RUT_ch {f : Int → Int} (H : RUT σ) (h : Fr W σ σ1) (h' : Fr W' σ1 σ2) (hw : (RUW W && !W.contains (36, 0)) = true) (hw' : RUW W' = true) (hf : ∀ i : Int, 0 ≤ i → i < 226 → wf σ2 i = f i) (e0 : f 0 = wf σ 0) (e7 : f 7 = wf σ 7) : RUT σ2 := by
  rw [Bool.and_eq_true] at hw
  exact RUT_kp H h h' hw.1 hw' ((hf 0 (by omega) (by omega)).trans e0) ((hf 7 (by omega) (by omega)).trans e7)
/-- a plan that is there shows its signs -/
theorem FUL_sg {q : Nat} (F : FUL σ2) (hq : (σ2 0)[9]? = some (.ref q)) : PLA q ∧ ci σ2 q 1 = wf σ2 0 := by
  obtain ⟨-, -, -, K, -⟩ := F
  obtain ⟨P, K⟩ := K q hq
  have e := K 0 (by omega) (by omega) (Or.inl (by omega))
  rw [lcO_lt (by decide) (by decide), Nat.add_zero] at e
  exact ⟨P, e⟩
theorem RUT_new {q : Nat} (F : FUL σ2) (hq : (σ1 0)[9]? = some (.ref q)) (h' : Fr W' σ1 σ2) (kw : (OTW W' && !W'.contains (0, 9) && RUW W') = true) (R : RULx σ1 (ci σ1 q 1)) : RUT σ2 := fun _ => by
  rw [Bool.and_eq_true, Bool.and_eq_true] at kw
  obtain ⟨P, e⟩ := FUL_sg F ((p9_fr h' kw.1.2).trans hq)
  have hb : 18 ≤ q ∧ q < 150 := by unfold PLA at P; omega
  have e2 : ci σ2 q 1 = ci σ1 q 1 := ci_eq (h' _ _ (OTW_n kw.1.1 hb.1 hb.2))
  rw [← e, e2]
  exact RULx_sam R (RSAM_fr h' kw.2)
def RSC (By : Int → Int) (Nb : Int) (σ0 σ : SG) (p2 : Nat) : Prop := ((fRead By Nb 1601 S00).1 = 0 → RULx σ (ci σ p2 1)) ∧ ((fRead By Nb 1601 S00).1 ≠ 0 → RSAM σ0 σ)
theorem RUT_sch {p p2 : Nat} {r' : Int} (H : RUT σ) (F : FUL σ2) (h : Fr W σ σ1) (h' : Fr W' σ1 σ2) (kw : (!W.contains (36, 0)) = true) (kw' : (OTW W' && !W'.contains (0, 9) && RUW W') = true) (L : SPL By Nb σ1 p p2) (M : MSC By Nb σ1 σ2 r') (R : RSC By Nb σ σ1 p2) : RUT σ2 := by
  by_cases z : (fRead By Nb 1601 S00).1 = 0
  · exact RUT_new F (L.2 z).1 h' kw' (R.1 z)
  · have w2 : wf σ2 = wf σ := by
      rw [← wf_fr h kw]
      funext i
      exact (M.2.2.1 z).2 i
    rw [Bool.and_eq_true, Bool.and_eq_true] at kw'
    intro y
    rw [w2] at y ⊢
    exact RULx_sam (RULx_sam (H y) (R.2 z)) (RSAM_fr h' kw'.2)
def RBK (σ0 σ : SG) (p : Nat) (k f : Int) : Prop := (0 ≤ k → k < 3 → f ≠ 0 → RULx σ (ci σ p 1)) ∧ ((k < 0 ∨ 2 < k ∨ f = 0) → RSAM σ0 σ)
theorem RUT_bk {p : Nat} {k k' f f' : Int} (H : RUT σ) (F : FUL σ2) (hp : (σ 0)[9]? = some (.ref p)) (h : Fr W σ σ1) (h' : Fr W' σ1 σ2) (kw : (!W.contains (36, 0) && !W.contains (0, 9)) = true) (kw' : (OTW W' && !W'.contains (0, 9) && RUW W') = true) (M : BKM σ1 σ2 k' f') (R : RBK σ σ1 p k f) (e : k' = k) (ef : f' = f) : RUT σ2 := by
  rw [Bool.and_eq_true] at kw
  by_cases z : 0 ≤ k ∧ k < 3 ∧ f ≠ 0
  · exact RUT_new F ((p9_fr h kw.2).trans hp) h' kw' (R.1 z.1 z.2.1 z.2.2)
  · have z' : k < 0 ∨ 2 < k ∨ f = 0 := by omega
    have w2 : wf σ2 = wf σ := by
      rw [← wf_fr h kw.1]
      funext i
      exact M.2 (by omega) i
    rw [Bool.and_eq_true, Bool.and_eq_true] at kw'
    intro y
    rw [w2] at y ⊢
    exact RULx_sam (RULx_sam (H y) (R.2 z')) (RSAM_fr h' kw'.2)
theorem flg_eq {j : Int} (H : FUL σ) (h : Fr W σ σ1) (hw : (!W.contains (38, 0)) = true) (j0 : 0 ≤ j) (j3 : j < 3) : ci σ1 162 j = ci σ 71 j := by
  obtain ⟨-, F, -⟩ := H
  rw [F j j0 j3]
  exact ci_fr h tgz_162 (by rw [Bool.and_eq_true]; exact ⟨by decide +kernel, hw⟩) j
theorem RUT_bk2 {p : Nat} {k k' : Int} (H : RUT σ) (F0 : FUL σ) (F : FUL σ2) (hp : (σ 0)[9]? = some (.ref p)) (h : Fr W σ σ1) (h' : Fr W' σ1 σ2) (kw : (!W.contains (36, 0) && !W.contains (0, 9)) = true) (kx : (!W.contains (38, 0)) = true) (kw' : (OTW W' && !W'.contains (0, 9) && RUW W') = true) (M : BKM σ1 σ2 k' (ci σ1 162 k')) (R : RBK σ σ1 p k (ci σ 71 k)) (e : k' = k) : RUT σ2 := by
  subst e
  by_cases z : 0 ≤ k' ∧ k' < 3
  · exact RUT_bk H F hp h h' kw kw' M R rfl (flg_eq F0 h kx z.1 z.2)
  · have M' : BKM σ1 σ2 k' (ci σ 71 k') := ⟨fun a b _ => absurd ⟨a, b⟩ z, fun _ => M.2 (by omega)⟩
    exact RUT_bk H F hp h h' kw kw' M' R rfl rfl
theorem QXS_bk {k' : Int} (H : QXS σ) (F0 : FUL σ) (h : Fr W σ σ1) (h' : Fr W' σ1 σ2) (hw : (QXW W && !W.contains (36, 0) && !W.contains (38, 0)) = true) (hw' : QXW W' = true) (M : BKM σ1 σ2 k' (ci σ1 162 k')) : QXS σ2 := by
  rw [Bool.and_eq_true, Bool.and_eq_true] at hw
  refine ⟨?_, QXI_fr (QXI_fr H.2 h hw.1.1) h' hw'⟩
  have w1 : wf σ1 = wf σ := wf_fr h hw.1.2
  by_cases z : 0 ≤ k' ∧ k' < 3 ∧ ci σ1 162 k' ≠ 0
  · have m := M.1 z.1 z.2.1 z.2.2
    have f := flg_eq F0 h hw.2 z.1 z.2.1
    have ek : ((k'.toNat : Nat) : Int) = k' := by omega
    have q := H.2 k'.toNat (by omega) (by rw [ek, ← f]; exact z.2.2)
    have w37 := hw.1.1
    unfold QXW at w37
    rw [Bool.and_eq_true] at w37
    rw [ek, ← imf_fr h w37.1] at q
    exact QX_e q (m 2 (by omega) (by omega)) (m 7 (by omega) (by omega))
  · have m := M.2 (by omega)
    exact QX_e H.1 ((m 2).trans (by rw [w1])) ((m 7).trans (by rw [w1]))
/-! lessons of a plan -/
/-! lessons as their rows are typed -/
/-- a row more of the learner's -/
def ADQ (σ0 σ : SG) (m x y : Int) : Prop := ∀ i : Int, 0 ≤ i → ci σ 169 i = (if i = m then x else ci σ0 169 i) ∧ ci σ 170 i = (if i = m then y else ci σ0 170 i)
theorem DOf_e {m v x i n X : Int} (h : x = DOf m v i.toNat) (e : n = i) (hX : X = x) : X = DOf m v n.toNat := by subst e hX; exact h
end LEA
