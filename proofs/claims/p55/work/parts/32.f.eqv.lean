/-! 32.f.eqv -/
section
section PUE
/-! the same line as the model reads it, and that it comes to the same -/
def eqv (S T : PS) : Prop := S.1 = T.1 ∧ S.2.1 = T.2.1 ∧ (S.1 = 0 → S.2.2.1 = T.2.2.1 ∧ ∀ i, S.2.2.2 i = T.2.2.2 i)
theorem eqv_rfl {S : PS} : eqv S S := ⟨rfl, rfl, fun _ => ⟨rfl, fun _ => rfl⟩⟩
theorem eqv_bad {S T : PS} (h : S.1 ≠ 0) (h1 : S.1 = T.1) (h2 : S.2.1 = T.2.1) : eqv S T := ⟨h1, h2, fun z => absurd z h⟩
def gDeed (B : Int → Int) (n : Int) (S : PS) : PS := if iW B n 8 S = 1 then adv B n S else pss B n (iW B n 12 S) S
def gWay (B : Int → Int) (n : Int) (S : PS) : PS := if iW B n 4 S = 1 then wst (adv B n S) (10 + 4 * S.2.2.2 2) 0 else if iW B n 11 S = 1 then wst (adv B n S) (10 + 4 * S.2.2.2 2) 1 else wst (pss B n (iW B n 7 S) S) (10 + 4 * S.2.2.2 2) 2
def gDoor (B : Int → Int) (n : Int) (S : PS) : PS :=
  let k := 10 + 4 * S.2.2.2 2
  let S1 := gWay B n S
  let S2 := pss B n (iW B n 14 S1) S1
  let S3 := wst (tN B n 0 50 S2) (k + 1) (tV B n S2.2.2.1)
  wst (wst (wst S3 (k + 2) 0) (k + 3) (-1)) 2 (S.2.2.2 2 + 1)
def gLs1 (B : Int → Int) (n : Int) (S : PS) : PS := if S.1 = 0 ∧ tK B n S.2.2.1 = 2 ∧ tV B n S.2.2.1 < S.2.2.2 2 ∧ S.2.2.2 (12 + 4 * tV B n S.2.2.1) = 12 then err B n 3 S else S
def gLesson (B : Int → Int) (n : Int) (S : PS) : PS :=
  let S0 := gLs1 B n S
  let S1 := tN B n 0 (S.2.2.2 2 - 1) S0
  let d := tV B n S0.2.2.1
  let S2 := tN B n 0 (pI (S.2.2.2 0) - 1) S1
  let S3 := gDeed B n S2
  if S3.1 = 0 then wst (wst (wst S3 (26 + 24 * d + 2 * S.2.2.2 (12 + 4 * d)) (tV B n S1.2.2.1)) (26 + 24 * d + 2 * S.2.2.2 (12 + 4 * d) + 1) (iW B n 8 S2)) (12 + 4 * d) (S.2.2.2 (12 + 4 * d) + 1) else S3
def gTw1 (B : Int → Int) (n : Int) (S : PS) : PS := if S.1 = 0 ∧ tK B n S.2.2.1 = 2 ∧ tV B n S.2.2.1 < S.2.2.2 2 ∧ (S.2.2.2 (13 + 4 * tV B n S.2.2.1) ≠ -1 ∨ cpI S.2.2.2 (tV B n S.2.2.1) = 1) then err B n 2 S else S
def gTw2 (B : Int → Int) (n a : Int) (S : PS) : PS := if S.1 = 0 ∧ tK B n S.2.2.1 = 2 ∧ tV B n S.2.2.1 < S.2.2.2 2 ∧ (tV B n S.2.2.1 = a ∨ S.2.2.2 (13 + 4 * tV B n S.2.2.1) ≠ -1) then err B n 2 S else S
def gTwin (B : Int → Int) (n : Int) (S : PS) : PS :=
  let S0 := gTw1 B n S
  let S1 := tN B n 0 (S.2.2.2 2 - 1) S0
  let a := tV B n S0.2.2.1
  let S2 := gTw2 B n a S1
  let S3 := tN B n 0 (S.2.2.2 2 - 1) S2
  if S3.1 = 0 then wst S3 (13 + 4 * a) (tV B n S2.2.2.1) else S3
def gRl1 (B : Int → Int) (n m : Int) (S : PS) : PS := if S.1 = 0 ∧ tK B n S.2.2.1 = 2 ∧ sbI (min 99999 (tV B n S.2.2.1)) m ≠ 1 then err B n 2 S else S
def gRule (B : Int → Int) (n i : Int) (S : PS) : PS :=
  let S1 := tN B n 0 (pI (S.2.2.2 0) - 1) S
  let m := tV B n S.2.2.1
  let S2 := gRl1 B n m S1
  let S3 := tN B n 0 (pI (S.2.2.2 0) - 1) S2
  if S3.1 = 0 then wst (wst S3 i m) (i + 1) (tV B n S2.2.2.1) else S3
def gExam (B : Int → Int) (n : Int) (S : PS) : PS :=
  let k := 122 + 2 * S.2.2.2 3
  let S4 := wst (tN B n 0 (pI (S.2.2.2 0) - 1) S) k (tV B n S.2.2.1)
  let S5 := wst (gDeed B n S4) (k + 1) (iW B n 8 S4)
  wst S5 3 (S.2.2.2 3 + 1)
def gHouse (B : Int → Int) (n : Int) (S : PS) : PS := wst (gRule B n (146 + 2 * S.2.2.2 4) S) 4 (S.2.2.2 4 + 1)
def gCourse (B : Int → Int) (n : Int) (S : PS) : PS :=
  let S3 := pss B n (iW B n 15 S) S
  wst (wst (tN B n 1 9 S3) (154 + 2 * S.2.2.2 5) (tV B n S3.2.2.1)) 5 (S.2.2.2 5 + 1)
def gAhead (B : Int → Int) (n : Int) (S : PS) : PS :=
  let S4 := tN B n 0 (S.2.2.2 5 - 1) S
  let a := tV B n S.2.2.1
  let S5 := tN B n (a + 1) (S.2.2.2 5 - 1) S4
  let b := tV B n S4.2.2.1
  if S5.1 = 0 then wst S5 (155 + 2 * b) (orP (S.2.2.2 (155 + 2 * b)) a) else S5
def gKn (B : Int → Int) (n : Int) (S : PS) : Int := orI (iW B n 2 S) (orI (iW B n 6 S) (orI (iW B n 3 S) (orI (iW B n 17 S) (orI (iW B n 9 S) (orI (iW B n 5 S) (orI (iW B n 1 S) (iW B n 0 S)))))))
def gN1 (B : Int → Int) (n : Int) (S : PS) : PS := if gKn B n S = 1 then S else err B n 1 S
def gN2 (B : Int → Int) (n : Int) (S : PS) : PS := if (iW B n 2 S = 1 ∧ S.2.2.2 2 = 4) ∨ (iW B n 3 S = 1 ∧ S.2.2.2 3 = 12) ∨ (iW B n 5 S = 1 ∧ S.2.2.2 4 = 4) ∨ (iW B n 1 S = 1 ∧ S.2.2.2 5 = 6) then err B n 3 S else S
def gNext (B : Int → Int) (n : Int) (S : PS) : PS :=
  let S2 := gN2 B n (gN1 B n S)
  if S2.1 ≠ 0 then S2 else
  if iW B n 2 S2 = 1 then gDoor B n (adv B n S2) else
  if iW B n 6 S2 = 1 then gLesson B n (adv B n S2) else
  if iW B n 3 S2 = 1 then gExam B n (adv B n S2) else
  if iW B n 17 S2 = 1 then gTwin B n (adv B n S2) else
  if iW B n 9 S2 = 1 then gRule B n 8 (adv B n S2) else
  if iW B n 5 S2 = 1 then gHouse B n (adv B n S2) else
  if iW B n 1 S2 = 1 then gCourse B n (adv B n S2) else gAhead B n (adv B n S2)
def gL1 (B : Int → Int) (n : Int) (S : PS) : PS := if S.1 = 0 ∧ tK B n S.2.2.1 ≠ 3 then err B n 1 S else S
def gLine (B : Int → Int) (n : Int) (S : PS) : PS :=
  let S1 := if S.2.2.2 7 = 0 then fFirst B n S else gNext B n S
  wst (adv B n (gL1 B n S1)) 7 (S.2.2.2 7 + 1)
/-! small things -/
section SML
variable {B : Int → Int} {n : Int} {S : PS}
theorem err_bad {k : Int} (h : S.1 ≠ 0) : err B n k S = S := by unfold err; rw [if_neg h]
theorem adv_bad (h : S.1 ≠ 0) : adv B n S = S := by unfold adv; rw [if_neg h]
theorem err_1 {k : Int} (h : S.1 = 0) : (err B n k S).1 = k := by unfold err; rw [if_pos h]
theorem err_ne {k : Int} (hk : k ≠ 0) : (err B n k S).1 ≠ 0 := by unfold err; split <;> omega
theorem adv_1 : (adv B n S).1 = S.1 := by unfold adv; split <;> rfl
theorem adv_w : (adv B n S).2.2.2 = S.2.2.2 := by unfold adv; split <;> rfl
theorem err_w {k : Int} : (err B n k S).2.2.2 = S.2.2.2 := by unfold err; split <;> rfl
theorem pss_w {c : Int} : (pss B n c S).2.2.2 = S.2.2.2 := by unfold pss; split; exact adv_w; exact err_w
theorem pss_bad {c : Int} (h : S.1 ≠ 0) : pss B n c S = S := by unfold pss; rw [adv_bad h, err_bad h]; exact ite_self _
theorem nH_bad {lo hi : Int} (h : S.1 ≠ 0) : nH B n lo hi S = S := by unfold nH; rw [err_bad h, err_bad h]; (repeat' split) <;> rfl
theorem nH_w {lo hi : Int} : (nH B n lo hi S).2.2.2 = S.2.2.2 := by unfold nH; (repeat' split) <;> first | exact err_w | rfl
theorem nH_ok {lo hi : Int} (h : S.1 = 0) : (nH B n lo hi S).1 = 0 ↔ tK B n S.2.2.1 = 2 ∧ lo ≤ tV B n S.2.2.1 ∧ tV B n S.2.2.1 ≤ hi := by
  unfold nH
  by_cases h2 : tK B n S.2.2.1 = 2
  · rw [if_neg (by omega)]
    by_cases h3 : tV B n S.2.2.1 < lo ∨ hi < tV B n S.2.2.1
    · rw [if_pos h3, err_1 h]; omega
    · rw [if_neg h3]; omega
  · rw [if_pos h2, err_1 h]; omega
theorem nH_id {lo hi : Int} (h : (nH B n lo hi S).1 = 0) : nH B n lo hi S = S := by
  by_cases z : S.1 = 0
  · have := (nH_ok z).mp h; unfold nH; rw [if_neg (by omega), if_neg (by omega)]
  · rw [nH_bad z]
theorem tN_w {lo hi : Int} : (tN B n lo hi S).2.2.2 = S.2.2.2 := by unfold tN; rw [adv_w, nH_w]
theorem tN_bad {lo hi : Int} (h : S.1 ≠ 0) : tN B n lo hi S = S := by unfold tN; rw [nH_bad h, adv_bad h]
theorem tN_1 {lo hi : Int} : (tN B n lo hi S).1 = (nH B n lo hi S).1 := by unfold tN; exact adv_1
theorem tN_k {lo hi : Int} (h : S.1 = 0) (h2 : tK B n S.2.2.1 ≠ 2) : tN B n lo hi S = err B n 1 S := by
  unfold tN nH; rw [if_pos h2, adv_bad (err_ne (by omega))]
theorem tN_v {lo hi : Int} (h : S.1 = 0) (h2 : tK B n S.2.2.1 = 2) (h3 : tV B n S.2.2.1 < lo ∨ hi < tV B n S.2.2.1) : tN B n lo hi S = err B n 2 S := by
  unfold tN nH; rw [if_neg (by omega), if_pos h3, adv_bad (err_ne (by omega))]
theorem tN_ok {lo hi : Int} (h2 : tK B n S.2.2.1 = 2) (h3 : lo ≤ tV B n S.2.2.1) (h4 : tV B n S.2.2.1 ≤ hi) : tN B n lo hi S = adv B n S := by
  unfold tN nH; rw [if_neg (by omega), if_neg (by omega)]
theorem tN_g {lo hi : Int} (h : (tN B n lo hi S).1 = 0) : S.1 = 0 ∧ tK B n S.2.2.1 = 2 ∧ lo ≤ tV B n S.2.2.1 ∧ tV B n S.2.2.1 ≤ hi ∧ tN B n lo hi S = adv B n S := by
  by_cases z : S.1 = 0
  · rw [tN_1] at h
    have := (nH_ok z).mp h
    exact ⟨z, this.1, this.2.1, this.2.2, tN_ok this.1 this.2.1 this.2.2⟩
  · rw [tN_bad z] at h; exact absurd h z
theorem pss_g {c : Int} (h : (pss B n c S).1 = 0) : S.1 = 0 ∧ c = 1 ∧ pss B n c S = adv B n S := by
  by_cases z : S.1 = 0
  · unfold pss at h ⊢
    by_cases y : c = 1
    · rw [if_pos y]; exact ⟨z, y, rfl⟩
    · rw [if_neg y, err_1 z] at h; omega
  · rw [pss_bad z] at h; exact absurd h z
theorem iW_01 {i : Nat} : iW B n i S = 0 ∨ iW B n i S = 1 := by unfold iW; split <;> omega
theorem iW_bad {i : Nat} (h : S.1 ≠ 0) : iW B n i S = 0 := by unfold iW; rw [if_neg (fun q => h q.1)]
theorem iW_wst {i : Nat} {j v : Int} : iW B n i (wst S j v) = iW B n i S := rfl
theorem adv_wst {j v : Int} : adv B n (wst S j v) = wst (adv B n S) j v := by
  unfold adv
  by_cases h : S.1 = 0
  · rw [if_pos h, if_pos (show (wst S j v).1 = 0 from h)]; rfl
  · rw [if_neg h, if_neg (show ¬ (wst S j v).1 = 0 from h)]
theorem err_wst {k j v : Int} : err B n k (wst S j v) = wst (err B n k S) j v := by
  unfold err
  by_cases h : S.1 = 0
  · rw [if_pos h, if_pos (show (wst S j v).1 = 0 from h)]; rfl
  · rw [if_neg h, if_neg (show ¬ (wst S j v).1 = 0 from h)]
theorem pss_wst {c j v : Int} : pss B n c (wst S j v) = wst (pss B n c S) j v := by
  unfold pss; split; exact adv_wst; exact err_wst
theorem nH_wst {lo hi j v : Int} : nH B n lo hi (wst S j v) = wst (nH B n lo hi S) j v := by
  unfold nH
  show (if tK B n S.2.2.1 ≠ 2 then err B n 1 (wst S j v) else if tV B n S.2.2.1 < lo ∨ hi < tV B n S.2.2.1 then err B n 2 (wst S j v) else wst S j v) = _
  rw [err_wst, err_wst]; (repeat' split) <;> rfl
theorem tN_wst {lo hi j v : Int} : tN B n lo hi (wst S j v) = wst (tN B n lo hi S) j v := by unfold tN; rw [nH_wst, adv_wst]
theorem gDeed_wst {j v : Int} : gDeed B n (wst S j v) = wst (gDeed B n S) j v := by
  unfold gDeed; rw [iW_wst, iW_wst, adv_wst, pss_wst]; split <;> rfl
theorem gDeed_d : gDeed B n S = dD B n S := by
  unfold gDeed dD orI
  rcases iW_01 (B := B) (n := n) (i := 8) (S := S) with h | h
  · rw [if_neg (by omega)]
    rcases iW_01 (B := B) (n := n) (i := 12) (S := S) with h2 | h2
    · rw [if_neg (by omega), h2]
    · rw [if_pos (by omega), h2]
  · rw [if_pos h, if_pos (by omega)]; unfold pss; rw [if_pos rfl]
theorem dD_bad (h : S.1 ≠ 0) : dD B n S = S := pss_bad h
theorem sbI_le {x m : Int} (x0 : 0 ≤ x) (m0 : 0 ≤ m) (h : sbI x m = 1) : x ≤ m := by
  unfold sbI at h
  by_cases z : sbN x.toNat m.toNat = true
  · unfold sbN at z
    have := eq_of_beq z
    have h2 := Nat.and_le_right (n := x.toNat) (m := m.toNat)
    omega
  · rw [if_neg z] at h; omega
/-! line for line -/
theorem gWay_f : gWay B n S = wst (tW B n S) (10 + 4 * S.2.2.2 2) (wyV B n S) := by
  rcases iW_01 (B := B) (n := n) (i := 4) (S := S) with h | h <;> rcases iW_01 (B := B) (n := n) (i := 11) (S := S) with h2 | h2 <;> rcases iW_01 (B := B) (n := n) (i := 7) (S := S) with h3 | h3 <;> simp [gWay, tW, wyV, orI, pss, h, h2, h3]
theorem eq_door (h2 : S.2.2.2 2 < 4) : eqv (gDoor B n (adv B n S)) (fDoor B n S) := by
  unfold gDoor fDoor
  rw [if_neg (by omega)]
  dsimp only
  rw [gWay_f, iW_wst, pss_wst, tN_wst, adv_w]
  generalize tN B n 0 50 (pss B n (iW B n 14 (tW B n (adv B n S))) (tW B n (adv B n S))) = X
  by_cases z : X.1 = 0
  · rw [if_pos z]; exact eqv_rfl
  · rw [if_neg z]; exact eqv_bad z rfl rfl
theorem dD_g (h : (dD B n S).1 = 0) : S.1 = 0 := (pss_g h).1
theorem eq_lesson (h : S.1 = 0) (h2 : S.2.2.2 2 ≤ 4) (hm : ∀ d : Int, 0 ≤ d → d < 4 → S.2.2.2 (12 + 4 * d) ≤ 12) : eqv (gLesson B n (adv B n S)) (fLesson B n S) := by
  unfold gLesson fLesson
  dsimp only
  have hA : (adv B n S).1 = 0 := by rw [adv_1]; exact h
  have wA : (adv B n S).2.2.2 = S.2.2.2 := adv_w
  generalize hX : adv B n S = X at hA wA ⊢
  rw [wA]
  by_cases z : (nH B n 0 (S.2.2.2 2 - 1) X).1 = 0
  · have q := (nH_ok hA).mp z
    have zz : ¬ (nH B n 0 (S.2.2.2 2 - 1) X).1 ≠ 0 := by omega
    rw [if_neg zz]
    have m := hm (tV B n X.2.2.1) (by omega) (by omega)
    by_cases y : S.2.2.2 (12 + 4 * tV B n X.2.2.1) = 12
    · have e : gLs1 B n X = err B n 3 X := by unfold gLs1; rw [if_pos ⟨hA, q.1, by rw [wA]; omega, by rw [wA]; exact y⟩]
      have b : (err B n 3 X).1 ≠ 0 := err_ne (by omega)
      rw [if_pos (c := 12 ≤ S.2.2.2 (12 + 4 * tV B n X.2.2.1)) (by omega), e, tN_bad b, tN_bad b, gDeed_d, dD_bad b, if_neg b, nH_id z]
      exact eqv_rfl
    · have e : gLs1 B n X = X := by unfold gLs1; rw [if_neg (fun p => y (by have := p.2.2.2; rw [wA] at this; exact this))]
      rw [if_neg (c := 12 ≤ S.2.2.2 (12 + 4 * tV B n X.2.2.1)) (by omega), e, nH_id z, tN_ok q.1 q.2.1 q.2.2, gDeed_d]
      unfold fSaid
      dsimp only
      rw [adv_w, wA]
      by_cases g : (dD B n (tN B n 0 (pI (S.2.2.2 0) - 1) (adv B n X))).1 = 0
      · rw [if_pos g, if_pos g]
        have e2 : (dD B n (tN B n 0 (pI (S.2.2.2 0) - 1) (adv B n X))).2.2.2 = S.2.2.2 := by unfold dD; rw [pss_w, tN_w, adv_w, wA]
        rw [e2]; exact eqv_rfl
      · rw [if_neg g, if_neg g]; exact eqv_rfl
  · rw [if_pos z]
    have nq := fun q => z ((nH_ok (B := B) (n := n) (lo := 0) (hi := S.2.2.2 2 - 1) hA).mpr q)
    have e : gLs1 B n X = X := by
      unfold gLs1
      rw [if_neg (fun p => nq ⟨p.2.1, (tV_rng p.2.1).1, by have := p.2.2.1; rw [wA] at this; omega⟩)]
    have b : (tN B n 0 (S.2.2.2 2 - 1) X).1 ≠ 0 := by rw [tN_1]; exact z
    rw [e, tN_bad b, gDeed_d, dD_bad b, if_neg b]
    unfold tN at b ⊢
    rw [adv_1] at b
    rw [adv_bad b]; exact eqv_rfl
theorem eq_exam (h : S.1 = 0) (h2 : S.2.2.2 3 < 12) : eqv (gExam B n (adv B n S)) (fExam B n S) := by
  unfold gExam fExam
  rw [if_neg (by omega)]
  unfold fSaid
  dsimp only
  rw [gDeed_wst, iW_wst, gDeed_d, adv_w]
  have e2 : (dD B n (tN B n 0 (pI (S.2.2.2 0) - 1) (adv B n S))).2.2.2 = S.2.2.2 := by unfold dD; rw [pss_w, tN_w, adv_w]
  by_cases z : (dD B n (tN B n 0 (pI (S.2.2.2 0) - 1) (adv B n S))).1 = 0
  · rw [if_pos z, e2]; exact eqv_rfl
  · rw [if_neg z]; exact eqv_bad z rfl rfl
theorem eq_twin (h : S.1 = 0) (h2 : S.2.2.2 2 ≤ 4) : eqv (gTwin B n (adv B n S)) (fTwin B n S) := by
  unfold gTwin fTwin
  dsimp only
  have hA : (adv B n S).1 = 0 := by rw [adv_1]; exact h
  have wA : (adv B n S).2.2.2 = S.2.2.2 := adv_w
  generalize hX : adv B n S = X at hA wA ⊢
  rw [wA]
  by_cases z : (nH B n 0 (S.2.2.2 2 - 1) X).1 = 0
  · have q := (nH_ok hA).mp z
    by_cases y : S.2.2.2 (13 + 4 * tV B n X.2.2.1) ≠ -1 ∨ cpI S.2.2.2 (tV B n X.2.2.1) = 1
    · have e : gTw1 B n X = err B n 2 X := by unfold gTw1; rw [if_pos ⟨hA, q.1, by rw [wA]; omega, by rw [wA]; exact y⟩]
      have e' : tw1 B n X = err B n 2 X := by unfold tw1; rw [wA, if_pos ⟨z, y⟩]
      have b : (err B n 2 X).1 ≠ 0 := err_ne (by omega)
      have e3 : ∀ a, gTw2 B n a (err B n 2 X) = err B n 2 X := fun a => by unfold gTw2; rw [if_neg (fun p => b p.1)]
      rw [e, e', if_pos b, tN_bad b, e3, tN_bad b, if_neg b]
      exact eqv_rfl
    · have e : gTw1 B n X = X := by unfold gTw1; rw [if_neg (fun p => y (by have := p.2.2.2; rw [wA] at this; exact this))]
      have e' : tw1 B n X = X := by unfold tw1; rw [wA, if_neg (fun p => y p.2), nH_id z]
      rw [e, e', if_neg (c := X.1 ≠ 0) (by omega), tN_ok q.1 q.2.1 q.2.2]
      have hB : (adv B n X).1 = 0 := by rw [adv_1]; exact hA
      have wB : (adv B n X).2.2.2 = S.2.2.2 := by rw [adv_w]; exact wA
      generalize hY : adv B n X = Y at hB wB ⊢
      by_cases z2 : (nH B n 0 (S.2.2.2 2 - 1) Y).1 = 0
      · have q2 := (nH_ok hB).mp z2
        by_cases y2 : tV B n Y.2.2.1 = tV B n X.2.2.1 ∨ S.2.2.2 (13 + 4 * tV B n Y.2.2.1) ≠ -1
        · have e3 : gTw2 B n (tV B n X.2.2.1) Y = err B n 2 Y := by unfold gTw2; rw [if_pos ⟨hB, q2.1, by rw [wB]; omega, by rw [wB]; exact y2⟩]
          have e4 : tw2 B n (tV B n X.2.2.1) Y = err B n 2 Y := by unfold tw2; rw [wB, if_pos ⟨z2, y2⟩]
          have b : (err B n 2 Y).1 ≠ 0 := err_ne (by omega)
          rw [e3, e4, tN_bad b, if_neg b, if_pos b]; exact eqv_rfl
        · have e3 : gTw2 B n (tV B n X.2.2.1) Y = Y := by unfold gTw2; rw [if_neg (fun p => y2 (by have := p.2.2.2; rw [wB] at this; exact this))]
          have e4 : tw2 B n (tV B n X.2.2.1) Y = Y := by unfold tw2; rw [wB, if_neg (fun p => y2 p.2), nH_id z2]
          rw [e3, e4, tN_ok q2.1 q2.2.1 q2.2.2, if_pos (c := (adv B n Y).1 = 0) (by rw [adv_1]; exact hB), if_neg (c := Y.1 ≠ 0) (by omega), adv_wst]
          exact eqv_rfl
      · have nq := fun q => z2 ((nH_ok (B := B) (n := n) (lo := 0) (hi := S.2.2.2 2 - 1) hB).mpr q)
        have e3 : gTw2 B n (tV B n X.2.2.1) Y = Y := by
          unfold gTw2
          rw [if_neg (fun p => nq ⟨p.2.1, (tV_rng p.2.1).1, by have := p.2.2.1; rw [wB] at this; omega⟩)]
        have e4 : tw2 B n (tV B n X.2.2.1) Y = nH B n 0 (S.2.2.2 2 - 1) Y := by unfold tw2; rw [wB, if_neg (fun p => z2 p.1)]
        have b : (tN B n 0 (S.2.2.2 2 - 1) Y).1 ≠ 0 := by rw [tN_1]; exact z2
        rw [e3, e4, if_neg b, if_pos z2]
        unfold tN at b ⊢
        rw [adv_1] at b
        rw [adv_bad b]; exact eqv_rfl
  · have nq := fun q => z ((nH_ok (B := B) (n := n) (lo := 0) (hi := S.2.2.2 2 - 1) hA).mpr q)
    have e : gTw1 B n X = X := by
      unfold gTw1
      rw [if_neg (fun p => nq ⟨p.2.1, (tV_rng p.2.1).1, by have := p.2.2.1; rw [wA] at this; omega⟩)]
    have e' : tw1 B n X = nH B n 0 (S.2.2.2 2 - 1) X := by unfold tw1; rw [wA, if_neg (fun p => z p.1)]
    have b : (tN B n 0 (S.2.2.2 2 - 1) X).1 ≠ 0 := by rw [tN_1]; exact z
    have e3 : ∀ a, gTw2 B n a (tN B n 0 (S.2.2.2 2 - 1) X) = tN B n 0 (S.2.2.2 2 - 1) X := fun a => by unfold gTw2; rw [if_neg (fun p => b p.1)]
    rw [e, e', if_pos z, e3, tN_bad b, if_neg b]
    unfold tN at b ⊢
    rw [adv_1] at b
    rw [adv_bad b]; exact eqv_rfl
theorem pI_rg {s : Int} (h0 : 0 ≤ s) (h1 : s ≤ 4) : 1 ≤ pI s ∧ pI s ≤ 16 := by
  rcases (show s = 0 ∨ s = 1 ∨ s = 2 ∨ s = 3 ∨ s = 4 by omega) with h | h | h | h | h <;> subst h <;> decide
theorem eq_part {T : PS} {m k : Int} (m0 : 0 ≤ m) (mk : m ≤ k - 1) (k16 : k ≤ 16) : tN B n 0 (k - 1) (gRl1 B n m T) = tP B n m T := by
  by_cases z : T.1 = 0
  · unfold tP
    by_cases q : tK B n T.2.2.1 = 2
    · have r := tV_rng q
      by_cases y : sbI (min 99999 (tV B n T.2.2.1)) m = 1
      · have e : gRl1 B n m T = T := by unfold gRl1; rw [if_neg (fun p => p.2.2 y)]
        have l := sbI_le (by omega) m0 y
        have e2 : min 99999 (tV B n T.2.2.1) = tV B n T.2.2.1 := by omega
        rw [e2] at y
        rw [e, if_neg (fun p => p.2 y), tN_ok q (by omega) (by omega), tN_ok q (by omega) (by omega)]
      · have e : gRl1 B n m T = err B n 2 T := by unfold gRl1; rw [if_pos ⟨z, q, y⟩]
        rw [e, tN_bad (err_ne (by omega))]
        by_cases u : tV B n T.2.2.1 ≤ 15
        · have e2 : min 99999 (tV B n T.2.2.1) = tV B n T.2.2.1 := by omega
          rw [e2] at y
          rw [if_pos ⟨(nH_ok z).mpr ⟨q, by omega, u⟩, y⟩]
        · rw [if_neg (fun p => by have := (nH_ok z).mp p.1; omega), tN_v z q (by omega)]
    · have e : gRl1 B n m T = T := by unfold gRl1; rw [if_neg (fun p => q p.2.1)]
      rw [e, if_neg (fun p => q ((nH_ok z).mp p.1).1), tN_k z q, tN_k z q]
  · have e : gRl1 B n m T = T := by unfold gRl1; rw [if_neg (fun p => z p.1)]
    unfold tP
    rw [e, nH_bad z, if_neg (fun p => z p.1), tN_bad z, tN_bad z]
theorem tP_bad {m : Int} (z : S.1 ≠ 0) : tP B n m S = S := by
  unfold tP; rw [nH_bad z, if_neg (fun p => z p.1), tN_bad z]
theorem gRl1_bad {m : Int} (z : S.1 ≠ 0) : gRl1 B n m S = S := by unfold gRl1; rw [if_neg (fun p => z p.1)]
theorem gRl1_P {m : Int} : (gRl1 B n m S).2.2.1 = S.2.2.1 := by unfold gRl1 err; (repeat' split) <;> rfl
theorem eq_rule {i : Int} (h0 : 0 ≤ S.2.2.2 0) (h4 : S.2.2.2 0 ≤ 4) : gRule B n i S = fRule B n i S := by
  have p := pI_rg h0 h4
  unfold gRule fRule
  dsimp only
  rw [gRl1_P]
  by_cases z : (tN B n 0 (pI (S.2.2.2 0) - 1) S).1 = 0
  · have g := tN_g z
    rw [eq_part (by omega) (by omega) (by omega)]
  · rw [gRl1_bad z, tN_bad z, tP_bad z]
theorem eq_house (h0 : 0 ≤ S.2.2.2 0) (h4 : S.2.2.2 0 ≤ 4) (h2 : S.2.2.2 4 < 4) : eqv (gHouse B n (adv B n S)) (fHouse B n S) := by
  unfold gHouse fHouse
  rw [if_neg (by omega)]
  dsimp only
  rw [adv_w, eq_rule (by rw [adv_w]; exact h0) (by rw [adv_w]; exact h4)]
  by_cases z : (fRule B n (146 + 2 * S.2.2.2 4) (adv B n S)).1 = 0
  · rw [if_pos z]; exact eqv_rfl
  · rw [if_neg z]; exact eqv_bad z rfl rfl
theorem eq_course (h2 : S.2.2.2 5 < 6) : eqv (gCourse B n (adv B n S)) (fCourse B n S) := by
  unfold gCourse fCourse
  rw [if_neg (by omega)]
  dsimp only
  rw [adv_w]
  by_cases z : (tN B n 1 9 (pss B n (iW B n 15 (adv B n S)) (adv B n S))).1 = 0
  · rw [if_pos z]; exact eqv_rfl
  · rw [if_neg z]; exact eqv_bad z rfl rfl
theorem eq_ahead : gAhead B n (adv B n S) = fAhead B n S := by
  unfold gAhead fAhead
  dsimp only
  rw [adv_w]
theorem eqW_uniq : ∀ (w w' : List Int) (s : Int), w.length = w'.length → eqW B s w = true → eqW B s w' = true → w = w' := by
  intro w
  induction w with
  | nil => intro w' s h _ _; cases w' with
    | nil => rfl
    | cons c cs => simp at h
  | cons c cs ih =>
    intro w' s h h1 h2
    cases w' with
    | nil => simp at h
    | cons d ds =>
      simp only [eqW, Bool.and_eq_true, decide_eq_true_eq] at h1 h2
      rw [← h1.1, ← h2.1, ih ds (s + 1) (by simpa using h) h1.2 h2.2]
theorem iW_uniq {i j : Nat} (h : iW B n i S = 1) (h2 : iW B n j S = 1) : LW i = LW j := by
  unfold iW at h h2
  have a : S.1 = 0 ∧ wd B n i S.2.2.1 = true := by
    by_cases z : S.1 = 0 ∧ wd B n i S.2.2.1 = true
    · exact z
    · rw [if_neg z] at h; omega
  have b : S.1 = 0 ∧ wd B n j S.2.2.1 = true := by
    by_cases z : S.1 = 0 ∧ wd B n j S.2.2.1 = true
    · exact z
    · rw [if_neg z] at h2; omega
  have a2 := a.2
  have b2 := b.2
  unfold wd at a2 b2
  simp only [Bool.and_eq_true, decide_eq_true_eq] at a2 b2
  exact eqW_uniq _ _ _ (by omega) a2.2 b2.2
theorem iW_x (i j : Nat) (h : iW B n i S = 1) (hn : LW i ≠ LW j) : iW B n j S = 0 := by
  rcases iW_01 (B := B) (n := n) (i := j) (S := S) with q | q
  · exact q
  · exact absurd (iW_uniq h q) hn
/-- what holds of the numbers of a school that is being read -/
def WFw (w : Int → Int) : Prop := 0 ≤ w 0 ∧ w 0 ≤ 4 ∧ w 2 ≤ 4 ∧ w 3 ≤ 12 ∧ w 4 ≤ 4 ∧ w 5 ≤ 6 ∧ ∀ d : Int, 0 ≤ d → d < 4 → w (12 + 4 * d) ≤ 12
theorem eq_next (h : S.1 = 0) (hw : WFw S.2.2.2) : eqv (gNext B n S) (fNext B n S) := by
  obtain ⟨w0, w04, w2, w3, w4, w5, wd⟩ := hw
  unfold gNext fNext
  dsimp only
  by_cases hk : gKn B n S = 1
  · have e1 : gN1 B n S = S := by unfold gN1; rw [if_pos hk]
    rw [e1]
    have lim : ∀ {Q : Prop}, (((iW B n 2 S = 1 ∧ S.2.2.2 2 = 4) ∨ (iW B n 3 S = 1 ∧ S.2.2.2 3 = 12) ∨ (iW B n 5 S = 1 ∧ S.2.2.2 4 = 4) ∨ (iW B n 1 S = 1 ∧ S.2.2.2 5 = 6)) ∨ ¬ ((iW B n 2 S = 1 ∧ S.2.2.2 2 = 4) ∨ (iW B n 3 S = 1 ∧ S.2.2.2 3 = 12) ∨ (iW B n 5 S = 1 ∧ S.2.2.2 4 = 4) ∨ (iW B n 1 S = 1 ∧ S.2.2.2 5 = 6)) → Q) → Q := fun k => k (Classical.em _)
    have b : (err B n 3 S).1 ≠ 0 := err_ne (by omega)
    have nz : ¬ S.1 ≠ 0 := by omega
    by_cases i2 : iW B n 2 S = 1
    · have j3 := iW_x 2 3 i2 (by decide); have j5 := iW_x 2 5 i2 (by decide); have j1 := iW_x 2 1 i2 (by decide)
      rw [if_pos (c := iW B n 2 S = 1) i2]
      by_cases f : S.2.2.2 2 = 4
      · have e2 : gN2 B n S = err B n 3 S := by unfold gN2; rw [if_pos (Or.inl ⟨i2, f⟩)]
        rw [e2, if_pos b]; unfold fDoor; rw [if_pos (by omega)]; exact eqv_rfl
      · have e2 : gN2 B n S = S := by unfold gN2; rw [if_neg (by omega)]
        rw [e2, if_neg nz, if_pos i2]; exact eq_door (by omega)
    · rw [if_neg (c := iW B n 2 S = 1) i2]
      by_cases i6 : iW B n 6 S = 1
      · have j3 := iW_x 6 3 i6 (by decide); have j5 := iW_x 6 5 i6 (by decide); have j1 := iW_x 6 1 i6 (by decide)
        have e2 : gN2 B n S = S := by unfold gN2; rw [if_neg (by omega)]
        rw [if_pos (c := iW B n 6 S = 1) i6, e2, if_neg nz, if_neg i2, if_pos i6]; exact eq_lesson h w2 wd
      · rw [if_neg (c := iW B n 6 S = 1) i6]
        by_cases i3 : iW B n 3 S = 1
        · have j5 := iW_x 3 5 i3 (by decide); have j1 := iW_x 3 1 i3 (by decide)
          rw [if_pos (c := iW B n 3 S = 1) i3]
          by_cases f : S.2.2.2 3 = 12
          · have e2 : gN2 B n S = err B n 3 S := by unfold gN2; rw [if_pos (Or.inr (Or.inl ⟨i3, f⟩))]
            rw [e2, if_pos b]; unfold fExam; rw [if_pos (by omega)]; exact eqv_rfl
          · have e2 : gN2 B n S = S := by unfold gN2; rw [if_neg (by omega)]
            rw [e2, if_neg nz, if_neg i2, if_neg i6, if_pos i3]; exact eq_exam h (by omega)
        · rw [if_neg (c := iW B n 3 S = 1) i3]
          by_cases i17 : iW B n 17 S = 1
          · have j5 := iW_x 17 5 i17 (by decide); have j1 := iW_x 17 1 i17 (by decide)
            have e2 : gN2 B n S = S := by unfold gN2; rw [if_neg (by omega)]
            rw [if_pos (c := iW B n 17 S = 1) i17, e2, if_neg nz, if_neg i2, if_neg i6, if_neg i3, if_pos i17]; exact eq_twin h w2
          · rw [if_neg (c := iW B n 17 S = 1) i17]
            by_cases i9 : iW B n 9 S = 1
            · have j5 := iW_x 9 5 i9 (by decide); have j1 := iW_x 9 1 i9 (by decide)
              have e2 : gN2 B n S = S := by unfold gN2; rw [if_neg (by omega)]
              rw [if_pos (c := iW B n 9 S = 1) i9, e2, if_neg nz, if_neg i2, if_neg i6, if_neg i3, if_neg i17, if_pos i9]
              unfold fOwner; rw [eq_rule (by rw [adv_w]; exact w0) (by rw [adv_w]; exact w04)]; exact eqv_rfl
            · rw [if_neg (c := iW B n 9 S = 1) i9]
              by_cases i5 : iW B n 5 S = 1
              · have j1 := iW_x 5 1 i5 (by decide)
                rw [if_pos (c := iW B n 5 S = 1) i5]
                by_cases f : S.2.2.2 4 = 4
                · have e2 : gN2 B n S = err B n 3 S := by unfold gN2; rw [if_pos (by omega)]
                  rw [e2, if_pos b]; unfold fHouse; rw [if_pos (by omega)]; exact eqv_rfl
                · have e2 : gN2 B n S = S := by unfold gN2; rw [if_neg (by omega)]
                  rw [e2, if_neg nz, if_neg i2, if_neg i6, if_neg i3, if_neg i17, if_neg i9, if_pos i5]; exact eq_house w0 w04 (by omega)
              · rw [if_neg (c := iW B n 5 S = 1) i5]
                by_cases i1 : iW B n 1 S = 1
                · rw [if_pos (c := iW B n 1 S = 1) i1]
                  by_cases f : S.2.2.2 5 = 6
                  · have e2 : gN2 B n S = err B n 3 S := by unfold gN2; rw [if_pos (by omega)]
                    rw [e2, if_pos b]; unfold fCourse; rw [if_pos (by omega)]; exact eqv_rfl
                  · have e2 : gN2 B n S = S := by unfold gN2; rw [if_neg (by omega)]
                    rw [e2, if_neg nz, if_neg i2, if_neg i6, if_neg i3, if_neg i17, if_neg i9, if_neg i5, if_pos i1]; exact eq_course (by omega)
                · have e2 : gN2 B n S = S := by unfold gN2; rw [if_neg (by omega)]
                  have i0 : iW B n 0 S = 1 := by
                    unfold gKn orI at hk
                    rcases iW_01 (B := B) (n := n) (i := 0) (S := S) with q | q
                    · exfalso; simp [i2, i6, i3, i17, i9, i5, i1, q] at hk
                    · exact q
                  rw [if_neg (c := iW B n 1 S = 1) i1, if_pos (c := iW B n 0 S = 1) i0, e2, if_neg nz, if_neg i2, if_neg i6, if_neg i3, if_neg i17, if_neg i9, if_neg i5, if_neg i1, eq_ahead]
                  exact eqv_rfl
  · have b : (err B n 1 S).1 ≠ 0 := err_ne (by omega)
    have e1 : gN1 B n S = err B n 1 S := by unfold gN1; rw [if_neg hk]
    have e2 : gN2 B n (err B n 1 S) = err B n 1 S := by
      unfold gN2
      rw [iW_bad b, iW_bad b, iW_bad b, iW_bad b, if_neg (by omega)]
    have no : ∀ i, (i = 2 ∨ i = 6 ∨ i = 3 ∨ i = 17 ∨ i = 9 ∨ i = 5 ∨ i = 1 ∨ i = 0) → ¬ iW B n i S = 1 := by
      intro i hi q
      apply hk
      unfold gKn orI
      rcases hi with e | e | e | e | e | e | e | e <;> subst e <;> simp [q]
    rw [e1, e2, if_pos b, if_neg (no 2 (by omega)), if_neg (no 6 (by omega)), if_neg (no 3 (by omega)), if_neg (no 17 (by omega)), if_neg (no 9 (by omega)), if_neg (no 5 (by omega)), if_neg (no 1 (by omega)), if_neg (no 0 (by omega))]
    exact eqv_rfl
theorem eq_pss {T : PS} (e : eqv S T) : eqv (adv B n (gL1 B n S)) (pss B n (if tK B n T.2.2.1 = 3 then 1 else 0) T) := by
  obtain ⟨e1, e2, e3⟩ := e
  by_cases z : S.1 = 0
  · obtain ⟨e4, e5⟩ := e3 z
    have zT : T.1 = 0 := by omega
    unfold gL1
    rw [e4]
    by_cases q : tK B n T.2.2.1 = 3
    · rw [if_neg (fun p => p.2 q), if_pos q]
      unfold pss adv
      rw [if_pos rfl, if_pos z, if_pos zT]
      exact ⟨e1, e2, fun _ => ⟨by rw [e4], e5⟩⟩
    · rw [if_pos ⟨z, q⟩, if_neg q, adv_bad (err_ne (by omega))]
      unfold pss err
      rw [if_pos z, if_neg (by omega), if_pos zT]
      exact eqv_bad (by show (1 : Int) ≠ 0; omega) rfl (by show tS B n _ = tS B n _; rw [e4])
  · have zT : T.1 ≠ 0 := by omega
    have e6 : gL1 B n S = S := by unfold gL1; rw [if_neg (fun p => z p.1)]
    rw [e6, adv_bad z, pss_bad zT]
    exact eqv_bad z e1 e2
theorem eqv_wst {T : PS} {i v : Int} (e : eqv S T) : eqv (wst S i v) (wst T i v) := by
  obtain ⟨e1, e2, e3⟩ := e
  refine ⟨e1, e2, fun z => ⟨(e3 z).1, fun j => ?_⟩⟩
  show uPd S.2.2.2 i v j = uPd T.2.2.2 i v j
  unfold uPd
  rw [(e3 z).2 j]
theorem eq_line (h : S.1 = 0) (hw : WFw S.2.2.2) : eqv (gLine B n S) (fLine B n S) := by
  unfold gLine fLine
  dsimp only
  by_cases z : S.2.2.2 7 = 0
  · rw [if_pos z, if_pos z]; exact eqv_wst (eq_pss eqv_rfl)
  · rw [if_neg z, if_neg z]; exact eqv_wst (eq_pss (eq_next h hw))
end SML
end PUE
end
/-! 32.fz.gnx -/
section
section GNX
variable {By : Int → Int} {Nb : Int} {S : PS}
theorem gNx_2 (e : gN2 By Nb (gN1 By Nb S) = S) (g : S.1 = 0)  (h2 : iW By Nb 2 S = 1) : gNext By Nb S = gDoor By Nb (adv By Nb S) := by
  unfold gNext
  dsimp only
  rw [e, if_neg (by omega), if_pos h2]
theorem gNx_6 (e : gN2 By Nb (gN1 By Nb S) = S) (g : S.1 = 0) (h2 : iW By Nb 2 S = 0) (h6 : iW By Nb 6 S = 1) : gNext By Nb S = gLesson By Nb (adv By Nb S) := by
  unfold gNext
  dsimp only
  rw [e, if_neg (by omega), if_neg (by omega), if_pos h6]
theorem gNx_3 (e : gN2 By Nb (gN1 By Nb S) = S) (g : S.1 = 0) (h2 : iW By Nb 2 S = 0) (h6 : iW By Nb 6 S = 0) (h3 : iW By Nb 3 S = 1) : gNext By Nb S = gExam By Nb (adv By Nb S) := by
  unfold gNext
  dsimp only
  rw [e, if_neg (by omega), if_neg (by omega), if_neg (by omega), if_pos h3]
theorem gNx_17 (e : gN2 By Nb (gN1 By Nb S) = S) (g : S.1 = 0) (h2 : iW By Nb 2 S = 0) (h6 : iW By Nb 6 S = 0) (h3 : iW By Nb 3 S = 0) (h17 : iW By Nb 17 S = 1) : gNext By Nb S = gTwin By Nb (adv By Nb S) := by
  unfold gNext
  dsimp only
  rw [e, if_neg (by omega), if_neg (by omega), if_neg (by omega), if_neg (by omega), if_pos h17]
theorem gNx_9 (e : gN2 By Nb (gN1 By Nb S) = S) (g : S.1 = 0) (h2 : iW By Nb 2 S = 0) (h6 : iW By Nb 6 S = 0) (h3 : iW By Nb 3 S = 0) (h17 : iW By Nb 17 S = 0) (h9 : iW By Nb 9 S = 1) : gNext By Nb S = gRule By Nb 8 (adv By Nb S) := by
  unfold gNext
  dsimp only
  rw [e, if_neg (by omega), if_neg (by omega), if_neg (by omega), if_neg (by omega), if_neg (by omega), if_pos h9]
theorem gNx_5 (e : gN2 By Nb (gN1 By Nb S) = S) (g : S.1 = 0) (h2 : iW By Nb 2 S = 0) (h6 : iW By Nb 6 S = 0) (h3 : iW By Nb 3 S = 0) (h17 : iW By Nb 17 S = 0) (h9 : iW By Nb 9 S = 0) (h5 : iW By Nb 5 S = 1) : gNext By Nb S = gHouse By Nb (adv By Nb S) := by
  unfold gNext
  dsimp only
  rw [e, if_neg (by omega), if_neg (by omega), if_neg (by omega), if_neg (by omega), if_neg (by omega), if_neg (by omega), if_pos h5]
theorem gNx_1 (e : gN2 By Nb (gN1 By Nb S) = S) (g : S.1 = 0) (h2 : iW By Nb 2 S = 0) (h6 : iW By Nb 6 S = 0) (h3 : iW By Nb 3 S = 0) (h17 : iW By Nb 17 S = 0) (h9 : iW By Nb 9 S = 0) (h5 : iW By Nb 5 S = 0) (h1 : iW By Nb 1 S = 1) : gNext By Nb S = gCourse By Nb (adv By Nb S) := by
  unfold gNext
  dsimp only
  rw [e, if_neg (by omega), if_neg (by omega), if_neg (by omega), if_neg (by omega), if_neg (by omega), if_neg (by omega), if_neg (by omega), if_pos h1]
theorem gNx_0 (e : gN2 By Nb (gN1 By Nb S) = S) (g : S.1 = 0) (h2 : iW By Nb 2 S = 0) (h6 : iW By Nb 6 S = 0) (h3 : iW By Nb 3 S = 0) (h17 : iW By Nb 17 S = 0) (h9 : iW By Nb 9 S = 0) (h5 : iW By Nb 5 S = 0) (h1 : iW By Nb 1 S = 0) : gNext By Nb S = gAhead By Nb (adv By Nb S) := by
  unfold gNext
  dsimp only
  rw [e, if_neg (by omega), if_neg (by omega), if_neg (by omega), if_neg (by omega), if_neg (by omega), if_neg (by omega), if_neg (by omega), if_neg (by omega)]
end GNX
end
/-! 32.g.ml -/
section
section MLS
/-- what follows, kept apart until it is wanted -/
def Imp (p q : Prop) : Prop := p → q
theorem Imp_m {p q : Prop} (h : Imp p q) (x : p) : q := h x
/-! the model's cells while it reads -/
variable {By : Int → Int} {Nb : Int} {Sp S T : PS} {σ0 σ σ' : SG} {W : List (Nat × Nat)}
theorem cf_fr {b g : Nat} {j : Int} (h : Fr W σ σ') (hb : TG b = g) (hw : W.contains (g, SL g j.toNat) = false) : ci σ' b j = ci σ b j := ci_eq (h b _ (inW hb hw))
def sN (By : Int → Int) (Nb a : Int) : Int := if a < Nb then By a % 256 else -1
def TPm (By : Int → Int) (Nb : Int) (σ : SG) : Prop := 0 ≤ Nb ∧ Nb ≤ 1600 ∧ ci σ 159 7 = Nb ∧ ∀ i : Int, 0 ≤ i → i < Nb → ci σ 163 i = By i ∧ -128 ≤ By i ∧ By i ≤ 127
def TKm (By : Int → Int) (Nb p : Int) (σ : SG) : Prop := 0 ≤ p ∧ p ≤ Nb ∧ ci σ 159 8 = tE By Nb p ∧ ci σ 159 9 = tS By Nb p ∧ ci σ 159 10 = tK By Nb p ∧ (tK By Nb p = 2 → ci σ 159 11 = min 99999 (tV By Nb p))
def ML (By : Int → Int) (Nb : Int) (σ : SG) (S : PS) : Prop := TPm By Nb σ ∧ ci σ 159 12 = S.1 ∧ ci σ 159 13 = S.2.1 ∧ (S.1 = 0 → TKm By Nb S.2.2.1 σ ∧ ∀ i : Int, 0 ≤ i → i < 226 → ci σ 165 i = S.2.2.2 i)
def TPW (W : List (Nat × Nat)) : Bool := !W.contains (35, 7) && !W.contains (39, 0)
def TKW (W : List (Nat × Nat)) : Bool := !W.contains (35, 8) && !W.contains (35, 9) && !W.contains (35, 10) && !W.contains (35, 11)
def MLW (W : List (Nat × Nat)) : Bool := TPW W && TKW W && !W.contains (35, 12) && !W.contains (35, 13) && !W.contains (41, 0)
theorem nq (q : Nat × Nat) (h : (!W.contains q) = true) : W.contains q = false := by
  rw [Bool.not_eq_true'] at h; exact h
theorem f159 {j : Nat} (h : Fr W σ σ') (hj : j < 36) (hw : W.contains (35, j) = false) : ci σ' 159 (j : Int) = ci σ 159 (j : Int) := by
  refine cf_fr h tgz_159 ?_
  rw [show ((j : Int)).toNat = j by omega, show SL 35 j = j from rfl]; exact hw
theorem TPm_fr (H : TPm By Nb σ) (h : Fr W σ σ') (hw : TPW W = true) : TPm By Nb σ' := by
  unfold TPW at hw
  rw [Bool.and_eq_true] at hw
  obtain ⟨a, b, c, d⟩ := H
  refine ⟨a, b, ?_, fun i i0 i1 => ?_⟩
  · rw [← c]; exact f159 (j := 7) h (by omega) (nq _ hw.1)
  · rw [ci_fr h tgz_163 (by rw [Bool.and_eq_true]; exact ⟨by decide +kernel, hw.2⟩)]; exact d i i0 i1
theorem TKm_fr {p : Int} (H : TKm By Nb p σ) (h : Fr W σ σ') (hw : TKW W = true) : TKm By Nb p σ' := by
  unfold TKW at hw
  simp only [Bool.and_eq_true] at hw
  obtain ⟨p0, p1, a, b, c, d⟩ := H
  refine ⟨p0, p1, ?_, ?_, ?_, fun z => ?_⟩
  · rw [← a]; exact f159 (j := 8) h (by omega) (nq _ hw.1.1.1)
  · rw [← b]; exact f159 (j := 9) h (by omega) (nq _ hw.1.1.2)
  · rw [← c]; exact f159 (j := 10) h (by omega) (nq _ hw.1.2)
  · rw [← d z]; exact f159 (j := 11) h (by omega) (nq _ hw.2)
theorem ML_fr (H : ML By Nb σ S) (h : Fr W σ σ') (hw : MLW W = true) : ML By Nb σ' S := by
  unfold MLW at hw
  simp only [Bool.and_eq_true] at hw
  obtain ⟨a, b, c, d⟩ := H
  refine ⟨TPm_fr a h hw.1.1.1.1, ?_, ?_, fun z => ⟨TKm_fr (d z).1 h hw.1.1.1.2, fun i i0 i1 => ?_⟩⟩
  · rw [← b]; exact f159 (j := 12) h (by omega) (nq _ hw.1.1.2)
  · rw [← c]; exact f159 (j := 13) h (by omega) (nq _ hw.1.2)
  · rw [ci_fr h tgz_165 (by rw [Bool.and_eq_true]; exact ⟨by decide +kernel, hw.2⟩)]; exact (d z).2 i i0 i1
theorem ML_eq (H : ML By Nb σ S) (e : S = T) : ML By Nb σ T := by subst e; exact H
theorem ML_eqv (H : ML By Nb σ S) (e : eqv S T) : ML By Nb σ T := by
  obtain ⟨a, b, c, d⟩ := H
  obtain ⟨e1, e2, e3⟩ := e
  refine ⟨a, by rw [← e1]; exact b, by rw [← e2]; exact c, fun z => ?_⟩
  have zS : S.1 = 0 := by rw [e1]; exact z
  obtain ⟨e4, e5⟩ := e3 zS
  rw [← e4]
  exact ⟨(d zS).1, fun i i0 i1 => by rw [(d zS).2 i i0 i1, e5]⟩
theorem ML_k {k : Int32} (H : ML By Nb σ S) (h : (σ 159)[12]? = some (Value.int k)) : S.1 = k.toInt := by
  rw [← H.2.1]; exact ci_at (j := 12) h rfl
theorem ML_t {t : Int32} (H : ML By Nb σ S) (h : (σ 159)[10]? = some (Value.int t)) : S.1 = 0 → tK By Nb S.2.2.1 = t.toInt := fun z => by
  rw [← (H.2.2.2 z).1.2.2.2.2.1]; exact ci_at (j := 10) h rfl
theorem ML_u {u : Int32} (H : ML By Nb σ S) (h : (σ 159)[11]? = some (Value.int u)) : S.1 = 0 → tK By Nb S.2.2.1 = 2 → u.toInt = min 99999 (tV By Nb S.2.2.1) ∧ 0 ≤ tV By Nb S.2.2.1 := fun z y => by
  rw [← (H.2.2.2 z).1.2.2.2.2.2 y]; exact ⟨(ci_at (j := 11) h rfl).symm, (tV_rng y).1⟩
theorem ML_at {f : Int32} (H : ML By Nb σ S) (z : S.1 = 0) (h : (σ 159)[8]? = some (Value.int f)) : f.toInt ≤ Nb := by
  have a := (H.2.2.2 z).1
  rw [show f.toInt = tE By Nb S.2.2.1 by rw [← a.2.2.1]; exact (ci_at (j := 8) h rfl).symm]
  exact (tE_rng a.2.1).2.1
theorem ML_w {i : Int} {y : Int32} (H : ML By Nb σ S) (z : S.1 = 0) (h : (σ 165)[i.toNat]? = some (Value.int y)) (i0 : 0 ≤ i) (i1 : i < 226) : S.2.2.2 i = y.toInt := by
  rw [← (H.2.2.2 z).2 i i0 i1]; exact ci_at h rfl
theorem ML_wst {J i v : Int} {y : Int32} (H : ML By Nb σ S) (h1 : (σ' 165)[J.toNat]? = some (Value.int y)) (h2 : ∀ b q, (b ≠ 165 ∨ q ≠ J.toNat) → (σ' b)[q]? = (σ b)[q]?) (J0 : 0 ≤ J) (e : S.1 = 0 → i = J ∧ v = y.toInt) : ML By Nb σ' (wst S i v) := by
  obtain ⟨⟨a1, a2, a3, a4⟩, b, c, d⟩ := H
  have n1 (j : Int) : ci σ' 159 j = ci σ 159 j := ci_ne h2 (by decide) j
  have n3 (j : Int) : ci σ' 163 j = ci σ 163 j := ci_ne h2 (by decide) j
  refine ⟨⟨a1, a2, by rw [n1]; exact a3, fun i i0 i1 => by rw [n3]; exact a4 i i0 i1⟩, by rw [n1]; exact b, by rw [n1]; exact c, fun z => ?_⟩
  obtain ⟨⟨p0, p1, q1, q2, q3, q4⟩, dw⟩ := d z
  obtain ⟨rfl, rfl⟩ := e z
  refine ⟨⟨p0, p1, by rw [n1]; exact q1, by rw [n1]; exact q2, by rw [n1]; exact q3, fun y => by rw [n1]; exact q4 y⟩, fun j j0 j1 => ?_⟩
  rw [ci_st h1 h2 J0 j j0]
  show _ = uPd S.2.2.2 i y.toInt j
  unfold uPd
  rw [dw j j0 j1]
theorem ML_err {k : Int} (H : ML By Nb σ S) (z : S.1 = 0) (hk : k ≠ 0) (h : Fr W σ σ') (hw : TPW W = true) (h12 : ci σ' 159 12 = k) {y : Int32} (h9 : (σ 159)[9]? = some (Value.int y)) (h13 : ci σ' 159 13 = y.toInt) : ML By Nb σ' (err By Nb k S) := by
  unfold err
  rw [if_pos z]
  refine ⟨TPm_fr H.1 h hw, h12, ?_, fun q => absurd q hk⟩
  show ci σ' 159 13 = tS By Nb S.2.2.1
  rw [h13, ← (H.2.2.2 z).1.2.2.2.1]; exact (ci_at (j := 9) h9 rfl).symm
theorem ML_adv {f : Int32} (H : ML By Nb σ S) (z : S.1 = 0) (h8 : (σ 159)[8]? = some (Value.int f)) (h : Fr W σ σ') (hw : (TPW W && !W.contains (35, 12) && !W.contains (35, 13) && !W.contains (41, 0)) = true) (hK : TKm By Nb f.toInt σ') : ML By Nb σ' (adv By Nb S) := by
  simp only [Bool.and_eq_true] at hw
  obtain ⟨a, b, c, d⟩ := H
  have e : f.toInt = tE By Nb S.2.2.1 := by rw [← (d z).1.2.2.1]; exact (ci_at (j := 8) h8 rfl).symm
  rw [e] at hK
  unfold adv
  rw [if_pos z]
  refine ⟨TPm_fr a h hw.1.1.1, ?_, ?_, fun _ => ⟨hK, fun i i0 i1 => ?_⟩⟩
  · show ci σ' 159 12 = S.1
    rw [← b]; exact f159 (j := 12) h (by omega) (nq _ hw.1.1.2)
  · show ci σ' 159 13 = S.2.1
    rw [← c]; exact f159 (j := 13) h (by omega) (nq _ hw.1.2)
  · rw [ci_fr h tgz_165 (by rw [Bool.and_eq_true]; exact ⟨by decide +kernel, hw.2⟩)]; exact (d z).2 i i0 i1
/-! one byte -/
theorem sN_none {n : Int32} {a r : Int} (hT : TPm By Nb σ) (hn : (σ 159)[7]? = some (Value.int n)) (h : n.toInt ≤ a) (hr : r = -1) : r = sN By Nb a := by
  have : Nb = n.toInt := by rw [← hT.2.2.1]; exact ci_at (j := 7) hn rfl
  unfold sN; rw [if_neg (by omega)]; exact hr
theorem sN_some {z c n : Int32} {a : Int} (hT : TPm By Nb σ) (hn : (σ 159)[7]? = some (Value.int n)) (a0 : 0 ≤ a) (h : a < n.toInt) (hc : (σ 163)[a.toNat]? = some (Value.int c)) (hz : z = c &&& ((Int16.ofInt 255).toInt32)) : z.toInt = sN By Nb a := by
  have e : Nb = n.toInt := by rw [← hT.2.2.1]; exact ci_at (j := 7) hn rfl
  have k := hT.2.2.2 a a0 (by omega)
  have e2 : ci σ 163 a = c.toInt := ci_at hc rfl
  have := seeF_some (z := z) (c := c) (n := n.toInt) (a := a) ⟨h, by omega, by omega⟩ hz
  unfold seeF at this; rw [if_pos h] at this
  unfold sN; rw [if_pos (by omega), ← k.1, e2]; exact this
theorem sN_k {a : Int} (hT : TPm By Nb σ) (a0 : 0 ≤ a) : (sN By Nb a = -1 ∧ kA By Nb a = 0 ∧ Nb ≤ a) ∨ (a < Nb ∧ 0 ≤ sN By Nb a ∧ (((97 ≤ sN By Nb a ∧ sN By Nb a ≤ 122) ∧ kA By Nb a = 1) ∨ ((48 ≤ sN By Nb a ∧ sN By Nb a ≤ 57) ∧ kA By Nb a = 2 ∧ By a = sN By Nb a) ∨ (sN By Nb a = 59 ∧ kA By Nb a = 3) ∨ ((¬ (97 ≤ sN By Nb a ∧ sN By Nb a ≤ 122) ∧ ¬ (48 ≤ sN By Nb a ∧ sN By Nb a ≤ 57) ∧ sN By Nb a ≠ 59) ∧ kA By Nb a = 4)) ∧ (sN By Nb a = 32 ↔ By a = 32) ∧ (sN By Nb a = 10 ↔ By a = 10)) := by
  by_cases h : a < Nb
  · have k := hT.2.2.2 a a0 h
    refine Or.inr ?_
    unfold sN kA
    rw [if_pos h, if_neg (by omega)]
    refine ⟨h, by omega, ?_, by omega, by omega⟩
    by_cases h1 : 97 ≤ By a ∧ By a ≤ 122
    · rw [if_pos h1]; omega
    · rw [if_neg h1]
      by_cases h2 : 48 ≤ By a ∧ By a ≤ 57
      · rw [if_pos h2]; omega
      · rw [if_neg h2]
        by_cases h3 : By a = 59
        · rw [if_pos h3]; omega
        · rw [if_neg h3]; omega
  · refine Or.inl ⟨?_, ?_, by omega⟩
    · unfold sN; rw [if_neg h]
    · unfold kA; rw [if_pos (by omega)]
theorem BL_go {y z X : Int} (hT : TPm By Nb σ) (y0 : 0 ≤ y) (h : sN By Nb y = 32 ∨ sN By Nb y = 10) (e : z = y + 1) (g : tS By Nb y = X) : tS By Nb z = X ∧ z ≤ Nb := by
  have k := sN_k hT y0
  subst e
  rw [tS_go (by omega) (by omega)]; exact ⟨g, by omega⟩
theorem BL_no {y X : Int} (hT : TPm By Nb σ) (y0 : 0 ≤ y) (h : sN By Nb y ≠ 32 ∧ sN By Nb y ≠ 10) (g : tS By Nb y = X) : X = y := by
  have k := sN_k hT y0
  rw [← g]; exact tS_no (by omega)
theorem LT_go {y z : Int} (hT : TPm By Nb σ) (y0 : 0 ≤ y) (h : 97 ≤ sN By Nb y ∧ sN By Nb y ≤ 122) (e : z = y + 1) : rnx By Nb 1 z = rnx By Nb 1 y ∧ z ≤ Nb := by
  have k := sN_k hT y0
  subst e
  exact ⟨rnx_go (by omega) (by omega), by omega⟩
theorem DG_go {y z : Int} (hT : TPm By Nb σ) (y0 : 0 ≤ y) (h : 48 ≤ sN By Nb y ∧ sN By Nb y ≤ 57) (e : z = y + 1) : rnx By Nb 2 z = rnx By Nb 2 y ∧ z ≤ Nb ∧ By y = sN By Nb y := by
  have k := sN_k hT y0
  subst e
  exact ⟨rnx_go (by omega) (by omega), by omega, by omega⟩
theorem VL_go {s y z u v : Int} (hs : s ≤ y) (e : z = y + 1) (g : v = vl By 99999 s y) (hu : u = min 99999 (10 * v + By y - 48)) : u = vl By 99999 s z := by
  subst e; rw [vl_go hs, ← g]; exact hu
theorem TKm_0 {f y : Int} (hT : TPm By Nb σ') (f0 : 0 ≤ f) (f1 : f ≤ Nb) (y0 : 0 ≤ y) (eS : tS By Nb f = y) (h : sN By Nb y = -1) (c8 : ci σ 159 8 = y) (c9 : ci σ 159 9 = y) (c10 : ci σ 159 10 = 0) : TKm By Nb f σ := by
  have k := sN_k hT y0
  have e1 : tK By Nb f = 0 := by unfold tK; rw [eS]; omega
  have e2 : tE By Nb f = y := by unfold tE; rw [if_pos e1]; exact eS
  exact ⟨f0, f1, by rw [e2]; exact c8, by rw [eS]; exact c9, by rw [e1]; exact c10, fun z => by omega⟩
theorem TKm_1 {f y e : Int} (hT : TPm By Nb σ') (f0 : 0 ≤ f) (f1 : f ≤ Nb) (y0 : 0 ≤ y) (eS : tS By Nb f = y) (h : 97 ≤ sN By Nb y ∧ sN By Nb y ≤ 122) (e0 : 0 ≤ e) (hr : rnx By Nb 1 e = rnx By Nb 1 y) (hx : ¬ (97 ≤ sN By Nb e ∧ sN By Nb e ≤ 122)) (c8 : ci σ 159 8 = e) (c9 : ci σ 159 9 = y) (c10 : ci σ 159 10 = 1) : TKm By Nb f σ := by
  have k := sN_k hT y0
  have e1 : tK By Nb f = 1 := by clear hx; unfold tK; rw [eS]; omega
  have k2 := sN_k hT e0
  have e2 : tE By Nb f = e := by
    unfold tE; rw [if_neg (by omega), if_pos (Or.inl e1), e1, eS, ← hr]; exact rnx_no (by omega)
  exact ⟨f0, f1, by rw [e2]; exact c8, by rw [eS]; exact c9, by rw [e1]; exact c10, fun z => by omega⟩
theorem TKm_2 {f y e : Int} (hT : TPm By Nb σ') (f0 : 0 ≤ f) (f1 : f ≤ Nb) (y0 : 0 ≤ y) (eS : tS By Nb f = y) (h : 48 ≤ sN By Nb y ∧ sN By Nb y ≤ 57) (e0 : 0 ≤ e) (hr : rnx By Nb 2 e = rnx By Nb 2 y) (hx : ¬ (48 ≤ sN By Nb e ∧ sN By Nb e ≤ 57)) (c8 : ci σ 159 8 = e) (c9 : ci σ 159 9 = y) (c10 : ci σ 159 10 = 2) (c11 : ci σ 159 11 = vl By 99999 y e) : TKm By Nb f σ := by
  have k := sN_k hT y0
  have e1 : tK By Nb f = 2 := by clear hx; unfold tK; rw [eS]; omega
  have k2 := sN_k hT e0
  have e2 : tE By Nb f = e := by
    unfold tE; rw [if_neg (by omega), if_pos (Or.inr e1), e1, eS, ← hr]; exact rnx_no (by omega)
  exact ⟨f0, f1, by rw [e2]; exact c8, by rw [eS]; exact c9, by rw [e1]; exact c10, fun _ => by rw [← tV_cap e1, eS, e2]; exact c11⟩
theorem TKm_3 {f y : Int} (hT : TPm By Nb σ') (f0 : 0 ≤ f) (f1 : f ≤ Nb) (y0 : 0 ≤ y) (eS : tS By Nb f = y) (h : sN By Nb y = 59) (c8 : ci σ 159 8 = y + 1) (c9 : ci σ 159 9 = y) (c10 : ci σ 159 10 = 3) : TKm By Nb f σ := by
  have k := sN_k hT y0
  have e1 : tK By Nb f = 3 := by unfold tK; rw [eS]; omega
  have e2 : tE By Nb f = y + 1 := by unfold tE; rw [if_neg (by omega), if_neg (by omega), eS]
  exact ⟨f0, f1, by rw [e2]; exact c8, by rw [eS]; exact c9, by rw [e1]; exact c10, fun z => by omega⟩
theorem TKm_4 {f y : Int} (hT : TPm By Nb σ') (f0 : 0 ≤ f) (f1 : f ≤ Nb) (y0 : 0 ≤ y) (eS : tS By Nb f = y) (h : sN By Nb y ≠ -1 ∧ ¬ (97 ≤ sN By Nb y ∧ sN By Nb y ≤ 122) ∧ ¬ (48 ≤ sN By Nb y ∧ sN By Nb y ≤ 57) ∧ sN By Nb y ≠ 59) (c8 : ci σ 159 8 = y + 1) (c9 : ci σ 159 9 = y) (c10 : ci σ 159 10 = 4) : TKm By Nb f σ := by
  have k := sN_k hT y0
  have e1 : tK By Nb f = 4 := by unfold tK; rw [eS]; omega
  have e2 : tE By Nb f = y + 1 := by unfold tE; rw [if_neg (by omega), if_neg (by omega), eS]
  exact ⟨f0, f1, by rw [e2]; exact c8, by rw [eS]; exact c9, by rw [e1]; exact c10, fun z => by omega⟩
end MLS
section MLT
variable {By : Int → Int} {Nb : Int} {Sp S T : PS} {σ0 σ σ' : SG} {W : List (Nat × Nat)}
theorem tN_cg {a a' b b' : Int} (h : a = a') (h2 : b = b') : tN By Nb a b S = tN By Nb a' b' S := by subst h h2; rfl
theorem err_cg {a a' : Int} (h : a = a') : err By Nb a S = err By Nb a' S := by subst h; rfl
theorem tN_gg {a b : Int} (h : (tN By Nb a b S).1 = 0) : S.1 = 0 ∧ tK By Nb S.2.2.1 = 2 ∧ a ≤ tV By Nb S.2.2.1 ∧ tV By Nb S.2.2.1 ≤ b := by
  have := tN_g h; exact ⟨this.1, this.2.1, this.2.2.1, this.2.2.2.1⟩
theorem gDeed_w : (gDeed By Nb S).2.2.2 = S.2.2.2 := by rw [gDeed_d]; unfold dD; exact pss_w
theorem ML_fa {f g : Int32} (H : ML By Nb σ S) (h8 : (σ 159)[8]? = some (Value.int f)) (h9 : (σ 159)[9]? = some (Value.int g)) : S.1 = 0 → tE By Nb S.2.2.1 = f.toInt ∧ tS By Nb S.2.2.1 = g.toInt ∧ f.toInt ≤ Nb ∧ g.toInt ≤ f.toInt := fun z => by
  have a := (H.2.2.2 z).1
  have e1 : f.toInt = tE By Nb S.2.2.1 := by rw [← a.2.2.1]; exact (ci_at (j := 8) h8 rfl).symm
  have e2 : g.toInt = tS By Nb S.2.2.1 := by rw [← a.2.2.2.1]; exact (ci_at (j := 9) h9 rfl).symm
  have r := tE_rng (B := By) a.2.1
  exact ⟨e1.symm, e2.symm, by omega, by omega⟩
theorem iW_g {i : Nat} {B : Int → Int} {n : Int} (h : iW B n i S = 1) : S.1 = 0 := by
  by_cases z : S.1 = 0
  · exact z
  · rw [iW_bad z] at h; omega
/-- a word is compared letter by letter: so far alike, or not at all -/
def ISQ (By : Int → Int) (Nb : Int) (i : Nat) (S : PS) (b k : Int) : Prop := 0 ≤ k ∧ k ≤ ((LW i).length : Int) ∧ ((b = 1 ∧ S.1 = 0 ∧ tK By Nb S.2.2.1 = 1 ∧ tE By Nb S.2.2.1 - tS By Nb S.2.2.1 = ((LW i).length : Int) ∧ eqW By (tS By Nb S.2.2.1 + k) ((LW i).drop k.toNat) = eqW By (tS By Nb S.2.2.1) (LW i)) ∨ (b = 0 ∧ iW By Nb i S = 0))
theorem iW_0 {i : Nat} (h : S.1 ≠ 0 ∨ tK By Nb S.2.2.1 ≠ 1 ∨ tE By Nb S.2.2.1 - tS By Nb S.2.2.1 ≠ ((LW i).length : Int)) : iW By Nb i S = 0 := by
  unfold iW
  rw [if_neg]
  intro q
  have q2 := q.2
  unfold wd at q2
  simp only [Bool.and_eq_true, decide_eq_true_eq] at q2
  omega
theorem ISQ_s {i : Nat} {b k : Int} (hk : k = 0) (h : (b = 1 ∧ S.1 = 0 ∧ tK By Nb S.2.2.1 = 1 ∧ tE By Nb S.2.2.1 - tS By Nb S.2.2.1 = ((LW i).length : Int)) ∨ (b = 0 ∧ (S.1 ≠ 0 ∨ tK By Nb S.2.2.1 ≠ 1 ∨ tE By Nb S.2.2.1 - tS By Nb S.2.2.1 ≠ ((LW i).length : Int)))) : ISQ By Nb i S b k := by
  subst hk
  refine ⟨by omega, by omega, ?_⟩
  rcases h with h | h
  · exact Or.inl ⟨h.1, h.2.1, h.2.2.1, h.2.2.2, by rw [show tS By Nb S.2.2.1 + 0 = tS By Nb S.2.2.1 by omega]; rfl⟩
  · exact Or.inr ⟨h.1, iW_0 h.2⟩
theorem ISQ_n {i : Nat} {b k b' k' J : Int} {c z : Int32} (H : ML By Nb σ S) (g : ISQ By Nb i S b k) (hb : b = 1) (hl : k < ((LW i).length : Int)) (hJ : S.1 = 0 → J = tS By Nb S.2.2.1 + k) (hc : (σ 163)[J.toNat]? = some (Value.int c)) (hz : z.toInt = (LW i).getD k.toNat 0) (e : k' = k + 1) (h : (b' = 1 ∧ c.toInt = z.toInt) ∨ (b' = 0 ∧ c.toInt ≠ z.toInt)) : ISQ By Nb i S b' k' := by
  obtain ⟨k0, kl, g⟩ := g
  rcases g with ⟨-, g1, g2, g3, g4⟩ | ⟨g1, -⟩
  · have hJ := hJ g1
    have a := (H.2.2.2 g1).1
    have p0 : 0 ≤ S.2.2.1 := a.1
    have r := tE_rng (B := By) a.2.1
    have s0 := tS_rng (B := By) (n := Nb) (p := S.2.2.1)
    have eb : By (tS By Nb S.2.2.1 + k) = c.toInt := by
      rw [← (H.1.2.2.2 (tS By Nb S.2.2.1 + k) (by omega) (by omega)).1]; exact ci_at hc hJ.symm
    have st := eqW_step (B := By) (LW i) k.toNat (tS By Nb S.2.2.1) (by omega)
    rw [show ((k.toNat : Nat) : Int) = k by omega, show (((k.toNat + 1 : Nat)) : Int) = k' by omega, show k.toNat + 1 = k'.toNat by omega] at st
    subst hb
    refine ⟨by omega, by omega, ?_⟩
    rcases h with ⟨h1, h2⟩ | ⟨h1, h2⟩
    · refine Or.inl ⟨h1, g1, g2, g3, ?_⟩
      rw [← g4, st, decide_eq_true (by rw [eb, h2, hz]), Bool.true_and]
    · refine Or.inr ⟨h1, ?_⟩
      have no : eqW By (tS By Nb S.2.2.1) (LW i) = false := by
        rw [← g4, st, decide_eq_false (by rw [eb, ← hz]; exact h2), Bool.false_and]
      unfold iW
      rw [if_neg]
      intro q
      have q2 := q.2
      unfold wd at q2
      rw [no, Bool.and_false] at q2
      exact absurd q2 (by decide)
  · omega
theorem ISQ_x {i : Nat} {b k : Int} (g : ISQ By Nb i S b k) (h : b = 0 ∨ ((LW i).length : Int) ≤ k) : b = iW By Nb i S := by
  obtain ⟨k0, kl, g⟩ := g
  rcases g with ⟨g0, g1, g2, g3, g4⟩ | ⟨g0, g1⟩
  · have e : (LW i).drop k.toNat = [] := List.drop_eq_nil_of_le (by omega)
    rw [e] at g4
    have w : wd By Nb i S.2.2.1 = true := by
      unfold wd
      rw [decide_eq_true g2, decide_eq_true g3, ← g4]; rfl
    unfold iW
    rw [if_pos ⟨g1, w⟩]; exact g0
  · rw [g0, g1]
theorem LWB : ∀ i, i < NSTR → ∀ k, k < LENS.getD i 0 → ((BYT.getD i []).getD k 0).toInt = (LW i).getD k 0 := by decide +kernel
end MLT
section ENY
variable {fr lo : Nat} {scr : AS} {F : MR} {P : PO} {pc pc' len tgt : Nat} {pos : Nat × Nat} {i : Instr} {lv lv' : ALv} {st st' r : List Value} {σ σ0 : SG} {W : List (Nat × Nat)}
theorem En_scharX (i n : Nat) {z : Nat} {j : Int32} {J : Int} (hf : fc F pc = some (.invokevirtual z, len, tgt)) (he : fnd (mcl F) z = some (6, 0, pos)) (hJ : j.toInt = J) (hn : (decide (i < NSTR) && decide (LENS.getD i 0 = n)) = true) (h0 : 0 ≤ J) (h1 : J < (n : Int)) (hb : (decide (4 ≤ fr) && decide (85 ≤ lo) && decide (cats r ≤ 8)) = true) (k : ∀ y : Int32, 97 ≤ y.toInt → y.toInt ≤ 122 → y.toInt = (LW i).getD J.toNat 0 → En fr lo scr F P (pc + 3) lv (.int y :: r) σ) : En fr lo scr F P pc lv (.int j :: .retAddr (2 * i + 1) :: r) σ := by
  simp only [Bool.and_eq_true, decide_eq_true_eq] at hn hb
  obtain ⟨hi, rfl⟩ := hn
  have m1 : mml mr_0 = 2 := rfl
  have b := byt_ok i hi j.toInt.toNat (by omega)
  have b2 := LWB i hi j.toInt.toNat (by omega)
  refine En_call6 (G := mr_0) (vs := [.int j]) (r := r) hf he rfl rfl rfl hi ?_ (s_char σ i j hi (by omega) (by omega)) (by omega) (by rw [m1]; omega) (fun v σ' h => ?_)
  · rw [m1]
    simp only [Bool.and_eq_true, decide_eq_true_eq]
    exact ⟨⟨⟨⟨Nat.le_add_left _ _, by omega⟩, by omega⟩, hb.2⟩, Nat.le_refl _⟩
  · obtain ⟨rfl, rfl⟩ := h
    exact k _ b.1.2.1 b.1.2.2 (by rw [← hJ]; exact b2)
end ENY
section MLU
variable {By : Int → Int} {Nb : Int} {Sp S T : PS} {σ0 σ σ' : SG} {W : List (Nat × Nat)}
theorem ML_ci {i j : Int} (H : ML By Nb σ S) (z : S.1 = 0) (e : i = j) (i0 : 0 ≤ i) (i1 : i < 226) : ci σ 165 i = S.2.2.2 j := by subst e; exact (H.2.2.2 z).2 i i0 i1
theorem ML_wi {i J : Int} {y : Int32} (H : ML By Nb σ S) (z : S.1 = 0) (h : (σ 165)[J.toNat]? = some (Value.int y)) (e : i = J) (i0 : 0 ≤ i) (i1 : i < 226) : S.2.2.2 i = y.toInt := by subst e; exact ML_w H z h i0 i1
theorem cpI_cg {f g : Int → Int} {a b : Int} (e : a = b) (h : ∀ i : Int, (i = 2 ∨ i = 13 ∨ i = 17 ∨ i = 21 ∨ i = 25) → f i = g i) : cpI f a = cpI g b := by
  subst e; unfold cpI
  rw [h 2 (by omega), h 13 (by omega), h 17 (by omega), h 21 (by omega), h 25 (by omega)]
theorem ML_cp {a b : Int} (H : ML By Nb σ S) (z : S.1 = 0) (e : a = b) : cpI (ci σ 165) a = cpI S.2.2.2 b := cpI_cg e (fun i hi => (H.2.2.2 z).2 i (by omega) (by omega))
theorem gDeed_g (h : (gDeed By Nb S).1 = 0) : S.1 = 0 := by rw [gDeed_d] at h; exact dD_g h
theorem sbI_cg {a a' b b' : Int} (h : a = a') (h2 : b = b') : sbI a b = sbI a' b' := by subst h h2; rfl
theorem sub_sbw {z w x y : Int32} {X Y : Int} (hz : z = x &&& w) (hw : w = y ^^^ (Int32.ofInt (-1))) (hX : x.toInt = X) (hY : y.toInt = Y) (h0 : 0 ≤ X) (h2 : 0 ≤ Y) (h3 : Y ≤ 15) : (z.toInt = 0 → sbI X Y = 1) ∧ (z.toInt ≠ 0 → sbI X Y ≠ 1) := by
  by_cases b : X ≤ 15
  · have := sub_sb hz hw hX hY h0 b h2 h3
    exact ⟨this.1, fun q => by rw [this.2 q]; omega⟩
  · refine ⟨fun q => ?_, fun _ q => ?_⟩
    · have := andn_zero hz hw q hX hY h2; omega
    · have := sbI_le h0 h2 q; omega
def NCP (σ : SG) (a y : Int) : Prop := ∀ q : Int, 0 ≤ q → q < y → ci σ 165 (13 + 4 * q) ≠ a
theorem NCP_s {a y y' J : Int} {c : Int32} (g : NCP σ a y) (hc : (σ 165)[J.toNat]? = some (Value.int c)) (hJ : J = 13 + 4 * y) (hn : c.toInt ≠ a) (e : y' = y + 1) : NCP σ a y' := fun q q0 q1 => by
  by_cases z : q = y
  · rw [z, ci_at hc (by omega : 13 + 4 * y = J)]; exact hn
  · exact g q q0 (by omega)
theorem CPI_1 {a y J : Int} {n c : Int32} (hn : (σ 165)[((2 : Int)).toNat]? = some (Value.int n)) (hc : (σ 165)[J.toNat]? = some (Value.int c)) (hJ : J = 13 + 4 * y) (y0 : 0 ≤ y) (yn : y < n.toInt) (n4 : n.toInt ≤ 4) (e : c.toInt = a) {r : Int} (hr : r = 1) : r = cpI (ci σ 165) a := by
  have e2 : ci σ 165 2 = n.toInt := ci_at hn rfl
  have e3 : ci σ 165 (13 + 4 * y) = a := by rw [ci_at hc (by omega : 13 + 4 * y = J)]; exact e
  unfold cpI
  rw [e2]
  rcases (show y = 0 ∨ y = 1 ∨ y = 2 ∨ y = 3 by omega) with h | h | h | h <;> subst h <;> simp only [Int.mul_zero, Int.add_zero, Int.mul_one, Int.reduceMul, Int.reduceAdd] at e3 <;> rw [if_pos (by omega)] <;> exact hr
theorem CPI_n {a y : Int} {n : Int32} (hn : (σ 165)[((2 : Int)).toNat]? = some (Value.int n)) (g : NCP σ a y) (yn : n.toInt ≤ y) (n4 : n.toInt ≤ 4) {r : Int} (hr : r = 0) : r = cpI (ci σ 165) a := by
  have e2 : ci σ 165 2 = n.toInt := ci_at hn rfl
  unfold cpI
  rw [e2, if_neg]
  · exact hr
  · intro q
    rcases q with q | q | q | q
    · exact g 0 (by omega) (by omega) q.2
    · exact g 1 (by omega) (by omega) q.2
    · exact g 2 (by omega) (by omega) q.2
    · exact g 3 (by omega) (by omega) q.2
end MLU
section MLV
variable {By : Int → Int} {Nb : Int} {Sp S T : PS} {σ0 σ σ' : SG} {W : List (Nat × Nat)}
theorem tN_cg2 {a a' b b' : Int} (h : S.1 = 0 → a = a') (h2 : S.1 = 0 → b = b') : tN By Nb a b S = tN By Nb a' b' S := by
  by_cases z : S.1 = 0
  · rw [h z, h2 z]
  · rw [tN_bad z, tN_bad z]
theorem gRule_cg {a a' : Int} (h : a = a') : gRule By Nb a S = gRule By Nb a' S := by subst h; rfl
theorem orP_cg {a a' b b' : Int} (h : a = a') (h2 : b = b') : orP a b = orP a' b' := by subst h h2; rfl
theorem orP_all : ∀ i : Fin 64, ∀ j : Fin 6, ((Int32.ofInt (i.val : Int)) ||| ((Int32.ofInt 1) <<< ((Int32.ofInt (j.val : Int)) &&& 31))).toInt = ((i.val ||| 2 ^ j.val : Nat) : Int) := by decide +kernel
theorem orP_lt : ∀ i : Fin 64, ∀ j : Fin 6, (i.val ||| 2 ^ j.val) < 64 := by decide +kernel
theorem orP_v {x y z : Int32} {X Y : Int} (hz : z = x ||| ((Int32.ofInt 1) <<< (y &&& 31))) (hX : x.toInt = X) (hY : y.toInt = Y) (h0 : 0 ≤ X) (h1 : X ≤ 63) (h2 : 0 ≤ Y) (h3 : Y ≤ 5) : z.toInt = orP X Y ∧ 0 ≤ z.toInt ∧ z.toInt ≤ 63 := by
  have a : x = Int32.ofInt ((X.toNat : Nat) : Int) := ofNat_of (by omega)
  have b : y = Int32.ofInt ((Y.toNat : Nat) : Int) := ofNat_of (by omega)
  have c := orP_all ⟨X.toNat, by omega⟩ ⟨Y.toNat, by omega⟩
  have d := orP_lt ⟨X.toNat, by omega⟩ ⟨Y.toNat, by omega⟩
  simp only at c d; rw [← a, ← b, ← hz] at c
  unfold orP
  exact ⟨c, by omega, by omega⟩
theorem gN1_pos (i : Nat) (h : iW By Nb i S = 1) (hi : i = 2 ∨ i = 6 ∨ i = 3 ∨ i = 17 ∨ i = 9 ∨ i = 5 ∨ i = 1 ∨ i = 0) : gN1 By Nb S = S := by
  unfold gN1 gKn orI
  rw [if_pos]
  rcases hi with e | e | e | e | e | e | e | e <;> subst e <;> simp [h]
theorem gN1_neg (h2 : iW By Nb 2 S = 0) (h6 : iW By Nb 6 S = 0) (h3 : iW By Nb 3 S = 0) (h17 : iW By Nb 17 S = 0) (h9 : iW By Nb 9 S = 0) (h5 : iW By Nb 5 S = 0) (h1 : iW By Nb 1 S = 0) (h0 : iW By Nb 0 S = 0) : gN1 By Nb S = err By Nb 1 S := by
  unfold gN1 gKn orI
  rw [h2, h6, h3, h17, h9, h5, h1, h0, if_neg (by simp)]
theorem gN1_id (h : (gN1 By Nb S).1 = 0) : gN1 By Nb S = S := by
  unfold gN1 at h ⊢
  by_cases k : gKn By Nb S = 1
  · rw [if_pos k]
  · rw [if_neg k] at h; exact absurd h (err_ne (by omega))
theorem gN1_iW {i : Nat} (h : (gN1 By Nb S).1 = 0) : iW By Nb i (gN1 By Nb S) = iW By Nb i S := by rw [gN1_id h]
theorem gN2_pos (h : (iW By Nb 2 S = 1 ∧ S.2.2.2 2 = 4) ∨ (iW By Nb 3 S = 1 ∧ S.2.2.2 3 = 12) ∨ (iW By Nb 5 S = 1 ∧ S.2.2.2 4 = 4) ∨ (iW By Nb 1 S = 1 ∧ S.2.2.2 5 = 6)) : gN2 By Nb S = err By Nb 3 S := by unfold gN2; rw [if_pos h]
theorem gN2_neg (h : ¬ ((iW By Nb 2 S = 1 ∧ S.2.2.2 2 = 4) ∨ (iW By Nb 3 S = 1 ∧ S.2.2.2 3 = 12) ∨ (iW By Nb 5 S = 1 ∧ S.2.2.2 4 = 4) ∨ (iW By Nb 1 S = 1 ∧ S.2.2.2 5 = 6))) : gN2 By Nb S = S := by unfold gN2; rw [if_neg h]
theorem gN12_id (h : (gN2 By Nb (gN1 By Nb S)).1 = 0) : gN2 By Nb (gN1 By Nb S) = S := by
  have e : gN2 By Nb (gN1 By Nb S) = gN1 By Nb S := by
    unfold gN2 at h ⊢
    split at h
    · exact absurd h (err_ne (by omega))
    · rename_i q; rw [if_neg q]
  rw [e] at h ⊢
  exact gN1_id h
end MLV
section MLY
variable {By : Int → Int} {Nb : Int} {Sp S T : PS} {σ0 σ σ' : SG} {W : List (Nat × Nat)}
/-- the tape, ahead of a reading -/
def TBm (By : Int → Int) (Nb : Int) (σ : SG) : Prop := 0 ≤ Nb ∧ Nb ≤ 1600 ∧ ci σ 159 5 = Nb ∧ ∀ i : Int, 0 ≤ i → i < Nb → ci σ 163 i = By i ∧ -128 ≤ By i ∧ By i ≤ 127
theorem TPm_of {m : Int32} (H : TBm By Nb σ0) (h : Fr W σ0 σ) (hw : (!W.contains (39, 0)) = true) (h5 : (σ0 159)[5]? = some (Value.int m)) (h7 : (σ 159)[7]? = some (Value.int m)) : TPm By Nb σ := by
  obtain ⟨a, b, c, d⟩ := H
  refine ⟨a, b, ?_, fun i i0 i1 => ?_⟩
  · rw [← c, ci_at (i := 7) (j := 7) h7 rfl, ci_at (i := 5) (j := 5) h5 rfl]
  · rw [ci_fr h tgz_163 (by rw [Bool.and_eq_true]; exact ⟨by decide +kernel, hw⟩)]; exact d i i0 i1
theorem fr_ty {l u i : Int} (hσ : WT σ) (j : Nat) (e : ((j : Nat) : Int) = i) (hj : (decide ((41 : Nat) < 900) && decide (j < LN 41)) = true) (ht : FT 41 j = (0, l, u)) : l ≤ ci σ 165 i ∧ ci σ 165 i ≤ u := by
  subst e
  obtain ⟨y, h, h1, h2⟩ := WT_peekI hσ tgz_165 ht hj
  have : ci σ 165 (j : Int) = y.toInt := by
    unfold ci; rw [show ((j : Int)).toNat = j by omega, h]
  omega
theorem WFw_of (hσ : WT σ) (H : ML By Nb σ S) (z : S.1 = 0) : WFw S.2.2.2 ∧ 0 ≤ S.2.2.2 7 ∧ S.2.2.2 7 ≤ 1600 := by
  have w := (H.2.2.2 z).2
  have a0 := fr_ty (l := 0) (u := 4) (i := 0) hσ 0 rfl (by decide +kernel) (by decide +kernel)
  have a2 := fr_ty (l := 0) (u := 4) (i := 2) hσ 2 rfl (by decide +kernel) (by decide +kernel)
  have a3 := fr_ty (l := 0) (u := 12) (i := 3) hσ 3 rfl (by decide +kernel) (by decide +kernel)
  have a4 := fr_ty (l := 0) (u := 4) (i := 4) hσ 4 rfl (by decide +kernel) (by decide +kernel)
  have a5 := fr_ty (l := 0) (u := 6) (i := 5) hσ 5 rfl (by decide +kernel) (by decide +kernel)
  have a7 := fr_ty (l := 0) (u := 1600) (i := 7) hσ 7 rfl (by decide +kernel) (by decide +kernel)
  have b0 := fr_ty (l := 0) (u := 12) (i := 12) hσ 12 rfl (by decide +kernel) (by decide +kernel)
  have b1 := fr_ty (l := 0) (u := 12) (i := 16) hσ 16 rfl (by decide +kernel) (by decide +kernel)
  have b2 := fr_ty (l := 0) (u := 12) (i := 20) hσ 20 rfl (by decide +kernel) (by decide +kernel)
  have b3 := fr_ty (l := 0) (u := 12) (i := 24) hσ 24 rfl (by decide +kernel) (by decide +kernel)
  have e0 := w 0 (by omega) (by omega)
  have e2 := w 2 (by omega) (by omega)
  have e3 := w 3 (by omega) (by omega)
  have e4 := w 4 (by omega) (by omega)
  have e5 := w 5 (by omega) (by omega)
  have e7 := w 7 (by omega) (by omega)
  have f0 := w 12 (by omega) (by omega)
  have f1 := w 16 (by omega) (by omega)
  have f2 := w 20 (by omega) (by omega)
  have f3 := w 24 (by omega) (by omega)
  refine ⟨⟨by omega, by omega, by omega, by omega, by omega, by omega, fun d d0 d4 => ?_⟩, by omega, by omega⟩
  rcases (show d = 0 ∨ d = 1 ∨ d = 2 ∨ d = 3 by omega) with h | h | h | h <;> subst h
  · show S.2.2.2 12 ≤ 12; omega
  · show S.2.2.2 16 ≤ 12; omega
  · show S.2.2.2 20 ≤ 12; omega
  · show S.2.2.2 24 ≤ 12; omega
theorem fRead_x {f : Nat} (h : S.1 ≠ 0 ∨ tK By Nb S.2.2.1 = 0) : fRead By Nb f S = S := by
  cases f with
  | zero => rfl
  | succ f => unfold fRead; rw [if_neg (by omega)]
def MSC (By : Int → Int) (Nb : Int) (σ0 σ : SG) (r : Int) : Prop := ci σ 159 12 = (fRead By Nb 1601 S00).1 ∧ ci σ 159 13 = (fRead By Nb 1601 S00).2.1 ∧ ((fRead By Nb 1601 S00).1 ≠ 0 → r = -4 ∧ ∀ i : Int, ci σ 160 i = ci σ0 160 i) ∧ ((fRead By Nb 1601 S00).1 = 0 → r = (fRead By Nb 1601 S00).2.2.2 7 ∧ ∀ i : Int, 0 ≤ i → i < 226 → ci σ 160 i = (fRead By Nb 1601 S00).2.2.2 i)
theorem MSC_bad {f : Nat} {r : Int} (H : ML By Nb σ S) (e1 : fRead By Nb f S = fRead By Nb 1601 S00) (z : S.1 ≠ 0) (hr : r = -4) (hs : SWd σ0 σ) : MSC By Nb σ0 σ r := by
  unfold MSC
  rw [← e1, fRead_x (Or.inl z)]
  exact ⟨H.2.1, H.2.2.1, fun _ => ⟨hr, hs⟩, fun q => absurd q z⟩
theorem MSC_ok {f : Nat} {r : Int32} {i : Int} (H : ML By Nb σ S) (e1 : fRead By Nb f S = fRead By Nb 1601 S00) (z : S.1 = 0) (tk : tK By Nb S.2.2.1 = 0) (C : CPY (ff σ) (wf σ) i) (hi : 226 ≤ i) (hr : (σ 160)[((7 : Int)).toNat]? = some (Value.int r)) : MSC By Nb σ0 σ r.toInt := by
  unfold MSC
  rw [← e1, fRead_x (Or.inr tk)]
  have w : ∀ i : Int, 0 ≤ i → i < 226 → ci σ 160 i = S.2.2.2 i := fun x x0 x1 => by
    rw [← (H.2.2.2 z).2 x x0 x1]; exact C x x0 (by omega)
  refine ⟨H.2.1, H.2.2.1, fun q => absurd z q, fun _ => ⟨?_, w⟩⟩
  rw [← w 7 (by omega) (by omega)]; exact (ci_at (j := 7) hr rfl).symm
theorem ML_ne {a m : Nat} (H : ML By Nb σ S) (h2 : ∀ b q, (b ≠ a ∨ q ≠ m) → (σ' b)[q]? = (σ b)[q]?) (ha : 159 ≠ a ∧ 163 ≠ a ∧ 165 ≠ a) : ML By Nb σ' S := by
  obtain ⟨⟨a1, a2, a3, a4⟩, b, c, d⟩ := H
  have n1 (j : Int) : ci σ' 159 j = ci σ 159 j := ci_ne h2 ha.1 j
  have n3 (j : Int) : ci σ' 163 j = ci σ 163 j := ci_ne h2 ha.2.1 j
  have n5 (j : Int) : ci σ' 165 j = ci σ 165 j := ci_ne h2 ha.2.2 j
  refine ⟨⟨a1, a2, by rw [n1]; exact a3, fun i i0 i1 => by rw [n3]; exact a4 i i0 i1⟩, by rw [n1]; exact b, by rw [n1]; exact c, fun z => ?_⟩
  obtain ⟨⟨p0, p1, q1, q2, q3, q4⟩, dw⟩ := d z
  exact ⟨⟨p0, p1, by rw [n1]; exact q1, by rw [n1]; exact q2, by rw [n1]; exact q3, fun y => by rw [n1]; exact q4 y⟩, fun j j0 j1 => by rw [n5]; exact dw j j0 j1⟩
end MLY
end
/-! 32.h.cl -/
section
section CLS
/-! the class's cells while it reads -/
variable {By : Int → Int} {Nb : Int} {Sp S T : PS} {σ0 σ σ' : SG} {W : List (Nat × Nat)} {a : Nat}
def TPc (By : Int → Int) (Nb : Int) (σ : SG) : Prop := 0 ≤ Nb ∧ Nb ≤ 1600 ∧ ci σ 1 1 = Nb ∧ ∀ i : Int, 0 ≤ i → i < Nb → ci σ 2 i = By i ∧ -128 ≤ By i ∧ By i ≤ 127
def TKc (By : Int → Int) (Nb p : Int) (σ : SG) : Prop := 0 ≤ p ∧ p ≤ Nb ∧ ci σ 3 3 = tE By Nb p ∧ ci σ 3 2 = tS By Nb p ∧ ci σ 3 1 = tK By Nb p ∧ (tK By Nb p = 2 → ci σ 3 4 = tV By Nb p)
def CT (By : Int → Int) (Nb : Int) (σ : SG) (S : PS) : Prop := TPc By Nb σ ∧ ci σ 3 5 = S.1 ∧ ci σ 3 6 = S.2.1 ∧ (S.1 = 0 → TKc By Nb S.2.2.1 σ)
def TQW (W : List (Nat × Nat)) : Bool := !W.contains (1, 1) && !W.contains (2, 0)
def TRW (W : List (Nat × Nat)) : Bool := !W.contains (3, 1) && !W.contains (3, 2) && !W.contains (3, 3) && !W.contains (3, 4)
def CTW (W : List (Nat × Nat)) : Bool := TQW W && TRW W && !W.contains (3, 5) && !W.contains (3, 6)
theorem f3 {j : Nat} (h : Fr W σ σ') (hj : j < 7) (hw : W.contains (3, j) = false) : ci σ' 3 (j : Int) = ci σ 3 (j : Int) := by
  refine cf_fr h tgz_3 ?_
  rw [show ((j : Int)).toNat = j by omega, show SL 3 j = j from rfl]; exact hw
theorem f1 (h : Fr W σ σ') (hw : W.contains (1, 1) = false) : ci σ' 1 1 = ci σ 1 1 := by
  refine cf_fr h tgz_1 ?_
  rw [show (1 : Int).toNat = 1 from rfl, show SL 1 1 = 1 from rfl]; exact hw
theorem TPc_fr (H : TPc By Nb σ) (h : Fr W σ σ') (hw : TQW W = true) : TPc By Nb σ' := by
  unfold TQW at hw
  rw [Bool.and_eq_true] at hw
  obtain ⟨a, b, c, d⟩ := H
  refine ⟨a, b, by rw [← c]; exact f1 h (nq _ hw.1), fun i i0 i1 => ?_⟩
  rw [ci_fr h tgz_2 (by rw [Bool.and_eq_true]; exact ⟨by decide +kernel, hw.2⟩)]; exact d i i0 i1
theorem TKc_fr {p : Int} (H : TKc By Nb p σ) (h : Fr W σ σ') (hw : TRW W = true) : TKc By Nb p σ' := by
  unfold TRW at hw
  simp only [Bool.and_eq_true] at hw
  obtain ⟨p0, p1, a, b, c, d⟩ := H
  refine ⟨p0, p1, ?_, ?_, ?_, fun z => ?_⟩
  · rw [← a]; exact f3 (j := 3) h (by omega) (nq _ hw.1.2)
  · rw [← b]; exact f3 (j := 2) h (by omega) (nq _ hw.1.1.2)
  · rw [← c]; exact f3 (j := 1) h (by omega) (nq _ hw.1.1.1)
  · rw [← d z]; exact f3 (j := 4) h (by omega) (nq _ hw.2)
theorem CT_fr (H : CT By Nb σ S) (h : Fr W σ σ') (hw : CTW W = true) : CT By Nb σ' S := by
  unfold CTW at hw
  simp only [Bool.and_eq_true] at hw
  obtain ⟨a, b, c, d⟩ := H
  refine ⟨TPc_fr a h hw.1.1.1, ?_, ?_, fun z => TKc_fr (d z) h hw.1.1.2⟩
  · rw [← b]; exact f3 (j := 5) h (by omega) (nq _ hw.1.2)
  · rw [← c]; exact f3 (j := 6) h (by omega) (nq _ hw.2)
theorem CT_eq (H : CT By Nb σ S) (e : S = T) : CT By Nb σ T := by subst e; exact H
theorem CT_wst {i v : Int} (H : CT By Nb σ S) : CT By Nb σ (wst S i v) := H
theorem CT_k {k : Int32} (H : CT By Nb σ S) (h : (σ 3)[5]? = some (Value.int k)) : S.1 = k.toInt := by rw [← H.2.1]; exact ci_at (j := 5) h rfl
theorem CT_t {t : Int32} (H : CT By Nb σ S) (h : (σ 3)[1]? = some (Value.int t)) : S.1 = 0 → tK By Nb S.2.2.1 = t.toInt := fun z => by
  rw [← (H.2.2.2 z).2.2.2.2.1]; exact ci_at (j := 1) h rfl
theorem CT_u {u : Int32} (H : CT By Nb σ S) (h : (σ 3)[4]? = some (Value.int u)) : S.1 = 0 → tK By Nb S.2.2.1 = 2 → u.toInt = tV By Nb S.2.2.1 ∧ 0 ≤ tV By Nb S.2.2.1 := fun z y => by
  rw [← (H.2.2.2 z).2.2.2.2.2 y]; exact ⟨(ci_at (j := 4) h rfl).symm, by rw [(H.2.2.2 z).2.2.2.2.2 y]; exact (tV_rng y).1⟩
theorem CT_fa {f g : Int32} (H : CT By Nb σ S) (h8 : (σ 3)[3]? = some (Value.int f)) (h9 : (σ 3)[2]? = some (Value.int g)) : S.1 = 0 → tE By Nb S.2.2.1 = f.toInt ∧ tS By Nb S.2.2.1 = g.toInt ∧ f.toInt ≤ Nb ∧ g.toInt ≤ f.toInt := fun z => by
  have a := H.2.2.2 z
  have e1 : f.toInt = tE By Nb S.2.2.1 := by rw [← a.2.2.1]; exact (ci_at (j := 3) h8 rfl).symm
  have e2 : g.toInt = tS By Nb S.2.2.1 := by rw [← a.2.2.2.1]; exact (ci_at (j := 2) h9 rfl).symm
  have r := tE_rng (B := By) a.2.1
  exact ⟨e1.symm, e2.symm, by omega, by omega⟩
theorem CT_at {f : Int32} (H : CT By Nb σ S) (z : S.1 = 0) (h : (σ 3)[3]? = some (Value.int f)) : f.toInt ≤ Nb := by
  have a := H.2.2.2 z
  rw [show f.toInt = tE By Nb S.2.2.1 by rw [← a.2.2.1]; exact (ci_at (j := 3) h rfl).symm]
  exact (tE_rng a.2.1).2.1
theorem CT_err {k : Int} (H : CT By Nb σ S) (z : S.1 = 0) (hk : k ≠ 0) (h : Fr W σ σ') (hw : TQW W = true) (h5 : ci σ' 3 5 = k) {y : Int32} (h9 : (σ 3)[2]? = some (Value.int y)) (h13 : ci σ' 3 6 = y.toInt) : CT By Nb σ' (err By Nb k S) := by
  unfold err
  rw [if_pos z]
  refine ⟨TPc_fr H.1 h hw, h5, ?_, fun q => absurd q hk⟩
  show ci σ' 3 6 = tS By Nb S.2.2.1
  rw [h13, ← (H.2.2.2 z).2.2.2.1]; exact (ci_at (j := 2) h9 rfl).symm
theorem CT_adv {f : Int32} (H : CT By Nb σ S) (z : S.1 = 0) (h8 : (σ 3)[3]? = some (Value.int f)) (h : Fr W σ σ') (hw : (TQW W && !W.contains (3, 5) && !W.contains (3, 6)) = true) (hK : TKc By Nb f.toInt σ') : CT By Nb σ' (adv By Nb S) := by
  simp only [Bool.and_eq_true] at hw
  obtain ⟨a, b, c, d⟩ := H
  have e : f.toInt = tE By Nb S.2.2.1 := by rw [← (d z).2.2.1]; exact (ci_at (j := 3) h8 rfl).symm
  rw [e] at hK
  unfold adv
  rw [if_pos z]
  refine ⟨TPc_fr a h hw.1.1, ?_, ?_, fun _ => hK⟩
  · show ci σ' 3 5 = S.1
    rw [← b]; exact f3 (j := 5) h (by omega) (nq _ hw.1.2)
  · show ci σ' 3 6 = S.2.1
    rw [← c]; exact f3 (j := 6) h (by omega) (nq _ hw.2)
/-! one byte -/
theorem kA_c {n c : Int32} {i : Int} (hT : TPc By Nb σ) (hn : (σ 1)[1]? = some (Value.int n)) (hc : i < n.toInt → (σ 2)[i.toNat]? = some (Value.int c)) (i0 : 0 ≤ i) : (n.toInt ≤ i ∧ kA By Nb i = 0) ∨ (i < n.toInt ∧ By i = c.toInt ∧ ((97 ≤ c.toInt ∧ c.toInt ≤ 122 ∧ kA By Nb i = 1) ∨ (48 ≤ c.toInt ∧ c.toInt ≤ 57 ∧ kA By Nb i = 2) ∨ (c.toInt = 59 ∧ kA By Nb i = 3) ∨ (¬ (97 ≤ c.toInt ∧ c.toInt ≤ 122) ∧ ¬ (48 ≤ c.toInt ∧ c.toInt ≤ 57) ∧ c.toInt ≠ 59 ∧ kA By Nb i = 4))) := by
  have e : Nb = n.toInt := by rw [← hT.2.2.1]; exact ci_at (j := 1) hn rfl
  by_cases h : i < n.toInt
  · refine Or.inr ⟨h, ?_⟩
    have k := hT.2.2.2 i i0 (by omega)
    have e2 : ci σ 2 i = c.toInt := ci_at (hc h) rfl
    refine ⟨by omega, ?_⟩
    unfold kA
    rw [if_neg (by omega)]
    by_cases h1 : 97 ≤ By i ∧ By i ≤ 122
    · rw [if_pos h1]; omega
    · rw [if_neg h1]
      by_cases h2 : 48 ≤ By i ∧ By i ≤ 57
      · rw [if_pos h2]; omega
      · rw [if_neg h2]
        by_cases h3 : By i = 59
        · rw [if_pos h3]; omega
        · rw [if_neg h3]; omega
  · refine Or.inl ⟨by omega, ?_⟩
    unfold kA; rw [if_pos (by omega)]
theorem By_c {n c : Int32} {i : Int} (hT : TPc By Nb σ) (hn : (σ 1)[1]? = some (Value.int n)) (i0 : 0 ≤ i) (h : i < n.toInt) (hc : (σ 2)[i.toNat]? = some (Value.int c)) : i < Nb ∧ By i = c.toInt := by
  have e : Nb = n.toInt := by rw [← hT.2.2.1]; exact ci_at (j := 1) hn rfl
  have k := hT.2.2.2 i i0 (by omega)
  have e2 : ci σ 2 i = c.toInt := ci_at hc rfl
  omega
theorem Nb_c {n : Int32} (hT : TPc By Nb σ) (hn : (σ 1)[1]? = some (Value.int n)) : n.toInt = Nb := by rw [← hT.2.2.1]; exact (ci_at (j := 1) hn rfl).symm
theorem TKc_of {f y k e : Int} (f0 : 0 ≤ f) (f1 : f ≤ Nb) (eS : tS By Nb f = y) (hk : kA By Nb y = k) (hE : (k = 0 ∧ e = y) ∨ ((k = 3 ∨ k = 4) ∧ e = y + 1) ∨ ((k = 1 ∨ k = 2) ∧ rnx By Nb k e = rnx By Nb k y ∧ kA By Nb e ≠ k)) (c3 : ci σ 3 3 = e) (c2 : ci σ 3 2 = y) (c1 : ci σ 3 1 = k) (c4 : k = 2 → ci σ 3 4 = vl By 1000000 y e) : TKc By Nb f σ := by
  have e1 : tK By Nb f = k := by unfold tK; rw [eS]; exact hk
  have e2 : tE By Nb f = e := by
    unfold tE
    rw [e1]
    rcases hE with h | h | h
    · rw [if_pos h.1, eS]; exact h.2.symm
    · rw [if_neg (by omega), if_neg (by omega), eS]; exact h.2.symm
    · rw [if_neg (by omega), if_pos h.1, eS, ← h.2.1]; exact rnx_no h.2.2
  refine ⟨f0, f1, by rw [e2]; exact c3, by rw [eS]; exact c2, by rw [e1]; exact c1, fun z => ?_⟩
  unfold tV; rw [eS, e2]; exact c4 (by omega)
/-! where the plan keeps a number -/
def lcO (i : Int) : Nat := if i < 10 then (if i = 3 then 2 else 0) else if i < 26 then (if (i - 10) % 4 = 2 then 11 + 4 * ((i - 10) / 4).toNat else 10 + 4 * ((i - 10) / 4).toNat) else if i < 122 then (if (i - 26) % 2 = 0 then 12 + 4 * ((i - 26) / 24).toNat else 13 + 4 * ((i - 26) / 24).toNat) else if i < 146 then (if i % 2 = 0 then 3 else 4) else if i < 154 then (if i % 2 = 0 then 5 else 6) else if i < 166 then (if i % 2 = 0 then 7 else 8) else 9
def lcB (i : Int) : Int := if i < 10 then [1, 2, 3, 2, 8, 11, 14, 0, 6, 7].getD i.toNat 0 else if i < 26 then [1, 2, 2, 3].getD ((i - 10) % 4).toNat 0 else if i < 122 then ((i - 26) % 24) / 2 else if i < 146 then (i - 122) / 2 else if i < 154 then (i - 146) / 2 else if i < 166 then (i - 154) / 2 else i - 166
def lcV : List (List Nat) := [[7, 0, 1, 2, 0, 0, 8, 9, 4, 0, 0, 5, 0, 0, 6], [0], [0, 0, 3], [122, 124, 126, 128, 130, 132, 134, 136, 138, 140, 142, 144], [123, 125, 127, 129, 131, 133, 135, 137, 139, 141, 143, 145], [146, 148, 150, 152], [147, 149, 151, 153], [154, 156, 158, 160, 162, 164], [155, 157, 159, 161, 163, 165], [166, 167, 168, 169, 170, 171, 172, 173, 174, 175, 176, 177, 178, 179, 180, 181, 182, 183, 184, 185, 186, 187, 188, 189, 190, 191, 192, 193, 194, 195, 196, 197, 198, 199, 200, 201, 202, 203, 204, 205, 206, 207, 208, 209, 210, 211, 212, 213, 214, 215, 216, 217, 218, 219, 220, 221, 222, 223, 224, 225], [0, 10, 11, 13], [0, 0, 12], [26, 28, 30, 32, 34, 36, 38, 40, 42, 44, 46, 48], [27, 29, 31, 33, 35, 37, 39, 41, 43, 45, 47, 49], [0, 14, 15, 17], [0, 0, 16], [50, 52, 54, 56, 58, 60, 62, 64, 66, 68, 70, 72], [51, 53, 55, 57, 59, 61, 63, 65, 67, 69, 71, 73], [0, 18, 19, 21], [0, 0, 20], [74, 76, 78, 80, 82, 84, 86, 88, 90, 92, 94, 96], [75, 77, 79, 81, 83, 85, 87, 89, 91, 93, 95, 97], [0, 22, 23, 25], [0, 0, 24], [98, 100, 102, 104, 106, 108, 110, 112, 114, 116, 118, 120], [99, 101, 103, 105, 107, 109, 111, 113, 115, 117, 119, 121]]
theorem lc_inv : ∀ i : Fin 226, (lcV.getD (lcO (i.val : Int)) []).getD (lcB (i.val : Int)).toNat 999 = i.val := by decide +kernel
theorem lc_inj (i j : Fin 226) (h : lcO (i.val : Int) = lcO (j.val : Int)) (h2 : (lcB (i.val : Int)).toNat = (lcB (j.val : Int)).toNat) : i = j := by
  have a := lc_inv i
  rw [h, h2] at a
  exact Fin.ext (a.symm.trans (lc_inv j))
theorem lc_rng : ∀ i : Fin 226, lcO (i.val : Int) < 26 ∧ 0 ≤ lcB (i.val : Int) := by decide +kernel
theorem lc_uniq {i j : Int} (i0 : 0 ≤ i) (i1 : i < 226) (j0 : 0 ≤ j) (j1 : j < 226) (h : lcO i = lcO j) (h2 : (lcB i).toNat = (lcB j).toNat) : i = j := by
  have k := lc_inj ⟨i.toNat, by omega⟩ ⟨j.toNat, by omega⟩
  simp only at k
  rw [show ((i.toNat : Nat) : Int) = i by omega, show ((j.toNat : Nat) : Int) = j by omega] at k
  have := congrArg Fin.val (k h h2)
  simp only at this; omega
theorem lc_0 {i : Int} (i0 : 0 ≤ i) (i1 : i < 226) : lcO i < 26 ∧ 0 ≤ lcB i := by
  have k := lc_rng ⟨i.toNat, by omega⟩
  simp only at k
  rw [show ((i.toNat : Nat) : Int) = i by omega] at k; exact k
/-- the plan at a shows these numbers -/
def KN (σ : SG) (a : Nat) (w : Int → Int) (A : Int → Prop) : Prop := ∀ i : Int, 0 ≤ i → i < 226 → A i → ci σ (a + lcO i) (lcB i) = w i
theorem KN_sub {w : Int → Int} {A A' : Int → Prop} (H : KN σ a w A) (h : ∀ i : Int, 0 ≤ i → i < 226 → A' i → A i) : KN σ a w A' := fun i i0 i1 x => H i i0 i1 (h i i0 i1 x)
theorem KN_st {w : Int → Int} {A : Int → Prop} {b q : Nat} {y : Int32} {j v : Int} (H : KN σ a w A) (h1 : (σ' b)[q]? = some (Value.int y)) (h2 : ∀ b' q', (b' ≠ b ∨ q' ≠ q) → (σ' b')[q']? = (σ b')[q']?) (j0 : 0 ≤ j) (j1 : j < 226) (hb : b = a + lcO j) (hq : q = (lcB j).toNat) (hv : v = y.toInt) : KN σ' a (uPd w j v) (fun i => A i ∨ i = j) := fun i i0 i1 x => by
  unfold uPd
  by_cases e : i = j
  · subst e hb hq; rw [if_pos rfl, hv]; unfold ci; rw [h1]
  · rw [if_neg e]
    have x : A i := by rcases x with x | x; exact x; exact absurd x e
    rw [← H i i0 i1 x]
    refine ci_eq (h2 _ _ ?_)
    by_cases z : a + lcO i = b
    · refine Or.inr (fun z2 => e (lc_uniq i0 i1 j0 j1 (by omega) (by omega)))
    · exact Or.inl z
theorem KN_ne {w : Int → Int} {A : Int → Prop} {b q : Nat} (H : KN σ a w A) (h2 : ∀ b' q', (b' ≠ b ∨ q' ≠ q) → (σ' b')[q']? = (σ b')[q']?) (hb : b < a ∨ a + 26 ≤ b) : KN σ' a w A := fun i i0 i1 x => by
  rw [← H i i0 i1 x]; have := lc_0 i0 i1; exact ci_eq (h2 _ _ (Or.inl (by omega)))
/-- which numbers count -/
def act (w : Int → Int) (i : Int) : Prop := i < 10 ∨ (10 ≤ i ∧ i < 26 ∧ (i - 10) / 4 < w 2) ∨ (26 ≤ i ∧ i < 122 ∧ (i - 26) / 24 < w 2 ∧ ((i - 26) % 24) / 2 < w (12 + 4 * ((i - 26) / 24))) ∨ (122 ≤ i ∧ i < 146 ∧ (i - 122) / 2 < w 3) ∨ (146 ≤ i ∧ i < 154 ∧ (i - 146) / 2 < w 4) ∨ (154 ≤ i ∧ i < 166 ∧ (i % 2 = 1 ∨ (i - 154) / 2 < w 5)) ∨ (166 ≤ i ∧ i - 166 < w 6)
def PLA (a : Nat) : Prop := a = 18 ∨ a = 44
/-- the plan's own rows and doors stay where they are -/
def FXP (σ : SG) (a : Nat) : Prop := (σ a)[4]? = some (Value.ref (a + 1)) ∧ (σ a)[5]? = some (Value.ref (a + 2)) ∧ (σ a)[9]? = some (Value.ref (a + 5)) ∧ (σ a)[10]? = some (Value.ref (a + 6)) ∧ (σ a)[12]? = some (Value.ref (a + 7)) ∧ (σ a)[13]? = some (Value.ref (a + 8)) ∧ (σ a)[15]? = some (Value.ref (a + 9)) ∧ (σ (a + 2))[0]? = some (Value.ref (a + 3)) ∧ (σ (a + 2))[1]? = some (Value.ref (a + 4)) ∧ ∀ d : Nat, d < 4 → (σ (a + 1))[d]? = some (Value.ref (a + 10 + 4 * d)) ∧ (σ (a + 10 + 4 * d))[0]? = some (Value.ref (a + 11 + 4 * d)) ∧ (σ (a + 11 + 4 * d))[0]? = some (Value.ref (a + 12 + 4 * d)) ∧ (σ (a + 11 + 4 * d))[1]? = some (Value.ref (a + 13 + 4 * d))
def FXW (W : List (Nat × Nat)) : Bool := !W.contains (18, 4) && !W.contains (18, 5) && !W.contains (18, 9) && !W.contains (18, 10) && !W.contains (18, 12) && !W.contains (18, 13) && !W.contains (18, 15) && !W.contains (19, 0) && !W.contains (20, 0) && !W.contains (20, 1) && !W.contains (28, 0)
theorem pl_tags : ∀ a : Fin 69, (a.val = 18 ∨ a.val = 44) → TG a.val = 18 ∧ TG (a.val + 1) = 19 ∧ TG (a.val + 2) = 20 ∧ TG (a.val + 3) = 21 ∧ TG (a.val + 4) = 22 ∧ TG (a.val + 5) = 23 ∧ TG (a.val + 6) = 24 ∧ TG (a.val + 7) = 25 ∧ TG (a.val + 8) = 26 ∧ TG (a.val + 9) = 27 ∧ ∀ d : Fin 4, TG (a.val + 10 + 4 * d.val) = 28 ∧ TG (a.val + 11 + 4 * d.val) = 20 ∧ TG (a.val + 12 + 4 * d.val) = 21 ∧ TG (a.val + 13 + 4 * d.val) = 22 := by decide +kernel
theorem PLt (h : PLA a) : TG a = 18 ∧ TG (a + 1) = 19 ∧ TG (a + 2) = 20 ∧ TG (a + 3) = 21 ∧ TG (a + 4) = 22 ∧ TG (a + 5) = 23 ∧ TG (a + 6) = 24 ∧ TG (a + 7) = 25 ∧ TG (a + 8) = 26 ∧ TG (a + 9) = 27 ∧ ∀ d : Nat, d < 4 → TG (a + 10 + 4 * d) = 28 ∧ TG (a + 11 + 4 * d) = 20 ∧ TG (a + 12 + 4 * d) = 21 ∧ TG (a + 13 + 4 * d) = 22 := by
  have h' : a = 18 ∨ a = 44 := h
  have k := pl_tags ⟨a, by omega⟩ h'
  obtain ⟨k0, k1, k2, k3, k4, k5, k6, k7, k8, k9, kd⟩ := k
  exact ⟨k0, k1, k2, k3, k4, k5, k6, k7, k8, k9, fun d hd => kd ⟨d, hd⟩⟩
theorem FXP_fr (hp : PLA a) (H : FXP σ a) (h : Fr W σ σ') (hw : FXW W = true) : FXP σ' a := by
  unfold FXW at hw
  simp only [Bool.and_eq_true] at hw
  obtain ⟨⟨⟨⟨⟨⟨⟨⟨⟨⟨w4, w5⟩, w9⟩, w10⟩, w12⟩, w13⟩, w15⟩, wd⟩, wl0⟩, wl1⟩, wdr⟩ := hw
  obtain ⟨t0, t1, t2, t3, t4, t5, t6, t7, t8, t9, td⟩ := PLt hp
  obtain ⟨h4, h5, h9, h10, h12, h13, h15, e0, e1, hd⟩ := H
  refine ⟨(h _ _ (inW t0 (nq _ w4))).trans h4, (h _ _ (inW t0 (nq _ w5))).trans h5, (h _ _ (inW t0 (nq _ w9))).trans h9, (h _ _ (inW t0 (nq _ w10))).trans h10, (h _ _ (inW t0 (nq _ w12))).trans h12, (h _ _ (inW t0 (nq _ w13))).trans h13, (h _ _ (inW t0 (nq _ w15))).trans h15, (h _ _ (inW t2 (nq _ wl0))).trans e0, (h _ _ (inW t2 (nq _ wl1))).trans e1, fun d d4 => ?_⟩
  obtain ⟨a1, a2, a3, a4⟩ := hd d d4
  obtain ⟨b1, b2, b3, b4⟩ := td d d4
  exact ⟨(h _ _ (inWa t1 (by rw [Bool.and_eq_true]; exact ⟨by decide +kernel, wd⟩))).trans a1, (h _ _ (inW b1 (nq _ wdr))).trans a2, (h _ _ (inW b2 (nq _ wl0))).trans a3, (h _ _ (inW b2 (nq _ wl1))).trans a4⟩
theorem ref_uniq {o : Option Value} {x y : Nat} (h : o = some (Value.ref x)) (h2 : o = some (Value.ref y)) : x = y := by
  rw [h] at h2; injection h2 with h3; injection h3
end CLS
section CLT
variable {By : Int → Int} {Nb : Int} {Sp S T : PS} {σ0 σ σ' : SG} {W : List (Nat × Nat)} {a : Nat}
theorem kA_end {n : Int32} {i r : Int} (hT : TPc By Nb σ) (hn : (σ 1)[1]? = some (Value.int n)) (h : n.toInt ≤ i) (hr : r = 0) : r = kA By Nb i := by
  have := Nb_c hT hn
  unfold kA; rw [if_pos (by omega)]; exact hr
theorem kA_ge {i : Int} : Nb ≤ i → kA By Nb i = 0 := fun h => by unfold kA; rw [if_pos h]
theorem BLc_go {y z X : Int} (h : y < Nb) (h2 : By y = 32 ∨ By y = 10) (e : z = y + 1) (g : tS By Nb y = X) : tS By Nb z = X ∧ z ≤ Nb := by
  subst e; rw [tS_go h h2]; exact ⟨g, by omega⟩
theorem BLc_no {y X : Int} (g : tS By Nb y = X) (h : Nb ≤ y ∨ (By y ≠ 32 ∧ By y ≠ 10)) : X = y := by rw [← g]; exact tS_no (by omega)
/-- the word or number so far -/
def STL (By : Int → Int) (Nb k s e v : Int) : Prop := ((k = 1 ∨ k = 2) → rnx By Nb k e = rnx By Nb k s ∧ s ≤ e) ∧ (k = 2 → v = vl By 1000000 s e) ∧ (k = 0 → e = s) ∧ (k = 3 ∨ k = 4 → e = s + 1)
theorem STL_0 {k s e v : Int} (h : (k = 0 ∧ e = s) ∨ ((k = 3 ∨ k = 4) ∧ e = s + 1) ∨ ((k = 1 ∨ k = 2) ∧ e = s ∧ v = 0)) : STL By Nb k s e v := by
  refine ⟨fun q => ?_, fun q => ?_, fun q => by omega, fun q => by omega⟩
  · have : e = s := by omega
    rw [this]; exact ⟨rfl, by omega⟩
  · have h1 : e = s := by omega
    have h2 : v = 0 := by omega
    rw [h1, h2, vl_0]
theorem STL_s {k s e v e' v' : Int} (g : STL By Nb k s e v) (hk : k = 1 ∨ k = 2) (h : kA By Nb e = k) (he : e' = e + 1) (hv : k = 2 → v' = min 1000000 (10 * v + By e - 48)) : STL By Nb k s e' v' := by
  obtain ⟨g1, g2, -, -⟩ := g
  obtain ⟨g1, g3⟩ := g1 hk
  subst he
  refine ⟨fun _ => ⟨?_, by omega⟩, fun q => ?_, fun q => by omega, fun q => by omega⟩
  · rw [rnx_go (by omega) h]; exact g1
  · rw [vl_go g3, ← g2 q]; exact hv q
theorem STL_x {k s e v : Int} (g : STL By Nb k s e v) (hk : 0 ≤ k ∧ k ≤ 4) (h : (k = 1 ∨ k = 2) → kA By Nb e ≠ k) : (k = 0 ∧ e = s) ∨ ((k = 3 ∨ k = 4) ∧ e = s + 1) ∨ ((k = 1 ∨ k = 2) ∧ rnx By Nb k e = rnx By Nb k s ∧ kA By Nb e ≠ k) := by
  obtain ⟨g1, g2, g3, g4⟩ := g
  by_cases q : k = 1 ∨ k = 2
  · exact Or.inr (Or.inr ⟨q, (g1 q).1, h q⟩)
  · by_cases z : k = 0
    · exact Or.inl ⟨z, g3 z⟩
    · exact Or.inr (Or.inl ⟨by omega, g4 (by omega)⟩)
theorem ISQc_s {i : Nat} {k : Int} (hk : k = 0) (h1 : S.1 = 0) (h2 : tK By Nb S.2.2.1 = 1) (h3 : tE By Nb S.2.2.1 - tS By Nb S.2.2.1 = ((LW i).length : Int)) : ISQ By Nb i S 1 k := ISQ_s hk (Or.inl ⟨rfl, h1, h2, h3⟩)
theorem psc_1 {c : Int} (h : c = 1) : adv By Nb S = pss By Nb c S := by unfold pss; rw [if_pos h]
theorem psc_0 {c : Int} (h : c ≠ 1) : err By Nb 1 S = pss By Nb c S := by unfold pss; rw [if_neg h]
theorem ISQc_n {i : Nat} {k k' J b' : Int} {c z : Int32} (H : CT By Nb σ S) (g : ISQ By Nb i S 1 k) (hl : k < ((LW i).length : Int)) (hJ : J = tS By Nb S.2.2.1 + k) (hc : (σ 2)[J.toNat]? = some (Value.int c)) (hz : z.toInt = (LW i).getD k.toNat 0) (e : k' = k + 1) (h : (b' = 1 ∧ c.toInt = z.toInt) ∨ (b' = 0 ∧ c.toInt ≠ z.toInt)) : ISQ By Nb i S b' k' := by
  obtain ⟨k0, kl, g⟩ := g
  rcases g with ⟨-, g1, g2, g3, g4⟩ | ⟨g1, -⟩
  · have a := H.2.2.2 g1
    have p0 : 0 ≤ S.2.2.1 := a.1
    have r := tE_rng (B := By) a.2.1
    have s0 := tS_rng (B := By) (n := Nb) (p := S.2.2.1)
    have eb : By (tS By Nb S.2.2.1 + k) = c.toInt := by
      rw [← (H.1.2.2.2 (tS By Nb S.2.2.1 + k) (by omega) (by omega)).1]; exact ci_at hc hJ.symm
    have st := eqW_step (B := By) (LW i) k.toNat (tS By Nb S.2.2.1) (by omega)
    rw [show ((k.toNat : Nat) : Int) = k by omega, show (((k.toNat + 1 : Nat)) : Int) = k' by omega, show k.toNat + 1 = k'.toNat by omega] at st
    refine ⟨by omega, by omega, ?_⟩
    rcases h with ⟨h1, h2⟩ | ⟨h1, h2⟩
    · refine Or.inl ⟨h1, g1, g2, g3, ?_⟩
      rw [← g4, st, decide_eq_true (by rw [eb, h2, hz]), Bool.true_and]
    · refine Or.inr ⟨h1, ?_⟩
      have no : eqW By (tS By Nb S.2.2.1) (LW i) = false := by
        rw [← g4, st, decide_eq_false (by rw [eb, ← hz]; exact h2), Bool.false_and]
      unfold iW
      rw [if_neg]
      intro q
      have q2 := q.2
      unfold wd at q2
      rw [no, Bool.and_false] at q2
      exact absurd q2 (by decide)
  · omega
theorem nHc_1 {lo hi : Int} (h : S.1 = 0 → tK By Nb S.2.2.1 ≠ 2) : nH By Nb lo hi S = err By Nb 1 S := by
  by_cases z : S.1 = 0
  · unfold nH; rw [if_pos (h z)]
  · rw [nH_bad z, err_bad z]
theorem nHc_2 {lo hi : Int} (h : S.1 = 0 → tK By Nb S.2.2.1 = 2 ∧ (tV By Nb S.2.2.1 < lo ∨ hi < tV By Nb S.2.2.1)) : nH By Nb lo hi S = err By Nb 2 S := by
  by_cases z : S.1 = 0
  · unfold nH; rw [if_neg (by have := (h z).1; omega), if_pos (h z).2]
  · rw [nH_bad z, err_bad z]
theorem nHc_0 {lo hi : Int} (h : S.1 = 0 → tK By Nb S.2.2.1 = 2 ∧ lo ≤ tV By Nb S.2.2.1 ∧ tV By Nb S.2.2.1 ≤ hi) : nH By Nb lo hi S = S := by
  by_cases z : S.1 = 0
  · have := h z; unfold nH; rw [if_neg (by omega), if_neg (by omega)]
  · rw [nH_bad z]
theorem nH_cg2 {a a' b b' : Int} (h : S.1 = 0 → a = a') (h2 : S.1 = 0 → b = b') : nH By Nb a b S = nH By Nb a' b' S := by
  by_cases z : S.1 = 0
  · rw [h z, h2 z]
  · rw [nH_bad z, nH_bad z]
theorem nH_gg {a b : Int} (h : (nH By Nb a b S).1 = 0) : S.1 = 0 ∧ tK By Nb S.2.2.1 = 2 ∧ a ≤ tV By Nb S.2.2.1 ∧ tV By Nb S.2.2.1 ≤ b := by
  by_cases z : S.1 = 0
  · exact ⟨z, (nH_ok z).mp h⟩
  · rw [nH_bad z] at h; exact absurd h z
theorem pss_cg2 {c c' : Int} (h : S.1 = 0 → c = c') : pss By Nb c S = pss By Nb c' S := by
  by_cases z : S.1 = 0
  · rw [h z]
  · rw [pss_bad z, pss_bad z]
theorem tPc_b {m : Int} (z : (nH By Nb 0 15 S).1 ≠ 0) : tP By Nb m S = nH By Nb 0 15 S := by
  unfold tP; rw [if_neg (fun q => z q.1)]; unfold tN; exact adv_bad z
theorem tPc_e {m : Int} (z : (nH By Nb 0 15 S).1 = 0) (h : sbI (tV By Nb S.2.2.1) m ≠ 1) : tP By Nb m S = err By Nb 2 (nH By Nb 0 15 S) := by
  unfold tP; rw [if_pos ⟨z, h⟩, nH_id z]
theorem tPc_a {m : Int} (h : sbI (tV By Nb S.2.2.1) m = 1) : tP By Nb m S = adv By Nb (nH By Nb 0 15 S) := by
  unfold tP; rw [if_neg (fun q => q.2 h)]; rfl
theorem tWc {c : Int} (h : S.1 = 0 → (c = 1 ∧ (iW By Nb 4 S = 1 ∨ iW By Nb 11 S = 1 ∨ iW By Nb 7 S = 1)) ∨ (c = 0 ∧ iW By Nb 4 S = 0 ∧ iW By Nb 11 S = 0 ∧ iW By Nb 7 S = 0)) : pss By Nb c S = tW By Nb S := by
  unfold tW
  refine pss_cg2 (fun z => ?_)
  unfold orI
  rcases h z with ⟨h1, h2⟩ | ⟨h1, h2, h3, h4⟩
  · rcases h2 with h2 | h2 | h2 <;> simp [h1, h2]
  · simp [h1, h2, h3, h4]
theorem wyVc {r : Int} (h : (iW By Nb 4 S = 1 ∧ r = 0) ∨ (iW By Nb 4 S = 0 ∧ iW By Nb 11 S = 1 ∧ r = 1) ∨ (iW By Nb 4 S = 0 ∧ iW By Nb 11 S = 0 ∧ r = 2)) : r = wyV By Nb S := by
  unfold wyV
  rcases h with ⟨h1, h2⟩ | ⟨h1, h2, h3⟩ | ⟨h1, h2, h3⟩ <;> simp [*]
end CLT
end
/-! 32.i.pl -/
section
section PLN
/-! the plan's numbers, kept and changed -/
variable {By : Int → Int} {Nb : Int} {Sp S T : PS} {σ0 σ σ' : SG} {W : List (Nat × Nat)} {a : Nat}
def KNW (W : List (Nat × Nat)) : Bool := W.all (fun q => decide (q.1 < 18) || decide (28 < q.1))
theorem lc_tag : ∀ i : Fin 226, 18 ≤ TG (18 + lcO (i.val : Int)) ∧ TG (18 + lcO (i.val : Int)) ≤ 28 ∧ 18 ≤ TG (44 + lcO (i.val : Int)) ∧ TG (44 + lcO (i.val : Int)) ≤ 28 := by decide +kernel
theorem lc_tg {i : Int} (hp : PLA a) (i0 : 0 ≤ i) (i1 : i < 226) : 18 ≤ TG (a + lcO i) ∧ TG (a + lcO i) ≤ 28 := by
  have k := lc_tag ⟨i.toNat, by omega⟩
  simp only at k
  rw [show ((i.toNat : Nat) : Int) = i by omega] at k
  rcases hp with h | h <;> subst h
  · exact ⟨k.1, k.2.1⟩
  · exact ⟨k.2.2.1, k.2.2.2⟩
theorem KN_fr {w : Int → Int} {A : Int → Prop} (hp : PLA a) (H : KN σ a w A) (h : Fr W σ σ') (hw : KNW W = true) : KN σ' a w A := fun i i0 i1 x => by
  rw [← H i i0 i1 x]
  refine ci_eq (h _ _ ?_)
  have t := lc_tg hp i0 i1
  unfold KNW at hw
  rw [List.all_eq_true] at hw
  rw [Bool.eq_false_iff]
  intro q
  have q2 := hw _ (List.elem_iff.mp q)
  simp only [Bool.or_eq_true, decide_eq_true_eq] at q2
  omega
theorem KN_w {w w' : Int → Int} {A : Int → Prop} (H : KN σ a w A) (e : w = w') : KN σ a w' A := by subst e; exact H
theorem KN_v {w : Int → Int} {A : Int → Prop} {i : Int} {b q : Nat} {y : Int32} (H : KN σ a w A) (x : A i) (i0 : 0 ≤ i) (i1 : i < 226) (hb : b = a + lcO i) (hq : q = (lcB i).toNat) (h : (σ b)[q]? = some (Value.int y)) : w i = y.toInt := by
  rw [← H i i0 i1 x]; unfold ci; rw [← hb, ← hq, h]
/-! where things lie -/
theorem lcO_lt {i : Int} (h : i < 10) (h3 : i ≠ 3) : lcO i = 0 := by unfold lcO; rw [if_pos h, if_neg h3]
theorem lcO_3 : lcO 3 = 2 := by decide
theorem lc_dr : ∀ d : Fin 4, lcO (10 + 4 * (d.val : Int)) = 10 + 4 * d.val ∧ lcO (11 + 4 * (d.val : Int)) = 10 + 4 * d.val ∧ lcO (12 + 4 * (d.val : Int)) = 11 + 4 * d.val ∧ lcO (13 + 4 * (d.val : Int)) = 10 + 4 * d.val ∧ lcB (10 + 4 * (d.val : Int)) = 1 ∧ lcB (11 + 4 * (d.val : Int)) = 2 ∧ lcB (12 + 4 * (d.val : Int)) = 2 ∧ lcB (13 + 4 * (d.val : Int)) = 3 := by decide +kernel
theorem lc_d {d : Int} (h0 : 0 ≤ d) (h4 : d < 4) : lcO (10 + 4 * d) = 10 + 4 * d.toNat ∧ lcO (11 + 4 * d) = 10 + 4 * d.toNat ∧ lcO (12 + 4 * d) = 11 + 4 * d.toNat ∧ lcO (13 + 4 * d) = 10 + 4 * d.toNat ∧ lcB (10 + 4 * d) = 1 ∧ lcB (11 + 4 * d) = 2 ∧ lcB (12 + 4 * d) = 2 ∧ lcB (13 + 4 * d) = 3 := by
  have k := lc_dr ⟨d.toNat, by omega⟩
  simp only at k
  rw [show ((d.toNat : Nat) : Int) = d by omega] at k; exact k
theorem lc_ls : ∀ d : Fin 4, ∀ m : Fin 12, lcO (26 + 24 * (d.val : Int) + 2 * (m.val : Int)) = 12 + 4 * d.val ∧ lcO (26 + 24 * (d.val : Int) + 2 * (m.val : Int) + 1) = 13 + 4 * d.val ∧ lcB (26 + 24 * (d.val : Int) + 2 * (m.val : Int)) = (m.val : Int) ∧ lcB (26 + 24 * (d.val : Int) + 2 * (m.val : Int) + 1) = (m.val : Int) := by decide +kernel
theorem lc_l {d m : Int} (h0 : 0 ≤ d) (h4 : d < 4) (m0 : 0 ≤ m) (m1 : m < 12) : lcO (26 + 24 * d + 2 * m) = 12 + 4 * d.toNat ∧ lcO (26 + 24 * d + 2 * m + 1) = 13 + 4 * d.toNat ∧ lcB (26 + 24 * d + 2 * m) = m ∧ lcB (26 + 24 * d + 2 * m + 1) = m := by
  have k := lc_ls ⟨d.toNat, by omega⟩ ⟨m.toNat, by omega⟩
  simp only at k
  rw [show ((d.toNat : Nat) : Int) = d by omega, show ((m.toNat : Nat) : Int) = m by omega] at k; exact k
theorem lc_es : ∀ m : Fin 12, lcO (122 + 2 * (m.val : Int)) = 3 ∧ lcO (122 + 2 * (m.val : Int) + 1) = 4 ∧ lcB (122 + 2 * (m.val : Int)) = (m.val : Int) ∧ lcB (122 + 2 * (m.val : Int) + 1) = (m.val : Int) := by decide +kernel
theorem lc_e {m : Int} (m0 : 0 ≤ m) (m1 : m < 12) : lcO (122 + 2 * m) = 3 ∧ lcO (122 + 2 * m + 1) = 4 ∧ lcB (122 + 2 * m) = m ∧ lcB (122 + 2 * m + 1) = m := by
  have k := lc_es ⟨m.toNat, by omega⟩
  simp only at k
  rw [show ((m.toNat : Nat) : Int) = m by omega] at k; exact k
theorem lc_hs : ∀ m : Fin 4, lcO (146 + 2 * (m.val : Int)) = 5 ∧ lcO (146 + 2 * (m.val : Int) + 1) = 6 ∧ lcB (146 + 2 * (m.val : Int)) = (m.val : Int) ∧ lcB (146 + 2 * (m.val : Int) + 1) = (m.val : Int) := by decide +kernel
theorem lc_h {m : Int} (m0 : 0 ≤ m) (m1 : m < 4) : lcO (146 + 2 * m) = 5 ∧ lcO (146 + 2 * m + 1) = 6 ∧ lcB (146 + 2 * m) = m ∧ lcB (146 + 2 * m + 1) = m := by
  have k := lc_hs ⟨m.toNat, by omega⟩
  simp only at k
  rw [show ((m.toNat : Nat) : Int) = m by omega] at k; exact k
theorem lc_cs : ∀ m : Fin 6, lcO (154 + 2 * (m.val : Int)) = 7 ∧ lcO (155 + 2 * (m.val : Int)) = 8 ∧ lcB (154 + 2 * (m.val : Int)) = (m.val : Int) ∧ lcB (155 + 2 * (m.val : Int)) = (m.val : Int) := by decide +kernel
theorem lc_c {m : Int} (m0 : 0 ≤ m) (m1 : m < 6) : lcO (154 + 2 * m) = 7 ∧ lcO (155 + 2 * m) = 8 ∧ lcB (154 + 2 * m) = m ∧ lcB (155 + 2 * m) = m := by
  have k := lc_cs ⟨m.toNat, by omega⟩
  simp only at k
  rw [show ((m.toNat : Nat) : Int) = m by omega] at k; exact k
/-! what counts behind a change -/
theorem act_low {w : Int → Int} {j v i : Int} (hj : j < 10 ∧ j ≠ 2 ∧ j ≠ 3 ∧ j ≠ 4 ∧ j ≠ 5 ∧ j ≠ 6) (h : act (uPd w j v) i) : act w i := by
  have e2 : uPd w j v 2 = w 2 := if_neg (by omega)
  have e3 : uPd w j v 3 = w 3 := if_neg (by omega)
  have e4 : uPd w j v 4 = w 4 := if_neg (by omega)
  have e5 : uPd w j v 5 = w 5 := if_neg (by omega)
  have e6 : uPd w j v 6 = w 6 := if_neg (by omega)
  unfold act at h
  rw [e2, e3, e4, e5, e6] at h
  rcases h with h | h | h | h | h | h | h
  · exact Or.inl h
  · exact Or.inr (Or.inl h)
  · have e : uPd w j v (12 + 4 * ((i - 26) / 24)) = w (12 + 4 * ((i - 26) / 24)) := if_neg (by omega)
    rw [e] at h
    exact Or.inr (Or.inr (Or.inl h))
  · exact Or.inr (Or.inr (Or.inr (Or.inl h)))
  · exact Or.inr (Or.inr (Or.inr (Or.inr (Or.inl h))))
  · exact Or.inr (Or.inr (Or.inr (Or.inr (Or.inr (Or.inl h)))))
  · exact Or.inr (Or.inr (Or.inr (Or.inr (Or.inr (Or.inr h)))))
/-- a number that no count is -/
theorem act_in {w : Int → Int} {j v i : Int} (hj : 10 ≤ j) (hk : j < 26 → (j - 10) % 4 ≠ 2) (h : act (uPd w j v) i) : act w i := by
  have e2 : uPd w j v 2 = w 2 := if_neg (by omega)
  have e3 : uPd w j v 3 = w 3 := if_neg (by omega)
  have e4 : uPd w j v 4 = w 4 := if_neg (by omega)
  have e5 : uPd w j v 5 = w 5 := if_neg (by omega)
  have e6 : uPd w j v 6 = w 6 := if_neg (by omega)
  unfold act at h
  rw [e2, e3, e4, e5, e6] at h
  rcases h with h | h | h | h | h | h | h
  · exact Or.inl h
  · exact Or.inr (Or.inl h)
  · have e : uPd w j v (12 + 4 * ((i - 26) / 24)) = w (12 + 4 * ((i - 26) / 24)) := if_neg (by omega)
    rw [e] at h
    exact Or.inr (Or.inr (Or.inl h))
  · exact Or.inr (Or.inr (Or.inr (Or.inl h)))
  · exact Or.inr (Or.inr (Or.inr (Or.inr (Or.inl h))))
  · exact Or.inr (Or.inr (Or.inr (Or.inr (Or.inr (Or.inl h)))))
  · exact Or.inr (Or.inr (Or.inr (Or.inr (Or.inr (Or.inr h)))))
theorem act_n3 {w : Int → Int} {m v i : Int} (hm : w 3 = m) (hv : v = m + 1) (h : act (uPd w 3 v) i) : act w i ∨ i = 122 + 2 * m ∨ i = 122 + 2 * m + 1 := by
  have e2 : uPd w 3 v 2 = w 2 := if_neg (by omega)
  have e3 : uPd w 3 v 3 = v := if_pos rfl
  have e4 : uPd w 3 v 4 = w 4 := if_neg (by omega)
  have e5 : uPd w 3 v 5 = w 5 := if_neg (by omega)
  have e6 : uPd w 3 v 6 = w 6 := if_neg (by omega)
  unfold act at h
  rw [e2, e3, e4, e5, e6] at h
  rcases h with h | h | h | h | h | h | h
  · exact Or.inl (Or.inl h)
  · exact Or.inl (Or.inr (Or.inl h))
  · have e : uPd w 3 v (12 + 4 * ((i - 26) / 24)) = w (12 + 4 * ((i - 26) / 24)) := if_neg (by omega)
    rw [e] at h
    exact Or.inl (Or.inr (Or.inr (Or.inl h)))
  · by_cases y : (i - 122) / 2 < w 3
    · exact Or.inl (Or.inr (Or.inr (Or.inr (Or.inl ⟨h.1, h.2.1, y⟩))))
    · exact Or.inr (by omega)
  · exact Or.inl (Or.inr (Or.inr (Or.inr (Or.inr (Or.inl h)))))
  · exact Or.inl (Or.inr (Or.inr (Or.inr (Or.inr (Or.inr (Or.inl h))))))
  · exact Or.inl (Or.inr (Or.inr (Or.inr (Or.inr (Or.inr (Or.inr h))))))
theorem act_n4 {w : Int → Int} {m v i : Int} (hm : w 4 = m) (hv : v = m + 1) (h : act (uPd w 4 v) i) : act w i ∨ i = 146 + 2 * m ∨ i = 146 + 2 * m + 1 := by
  have e2 : uPd w 4 v 2 = w 2 := if_neg (by omega)
  have e3 : uPd w 4 v 3 = w 3 := if_neg (by omega)
  have e4 : uPd w 4 v 4 = v := if_pos rfl
  have e5 : uPd w 4 v 5 = w 5 := if_neg (by omega)
  have e6 : uPd w 4 v 6 = w 6 := if_neg (by omega)
  unfold act at h
  rw [e2, e3, e4, e5, e6] at h
  rcases h with h | h | h | h | h | h | h
  · exact Or.inl (Or.inl h)
  · exact Or.inl (Or.inr (Or.inl h))
  · have e : uPd w 4 v (12 + 4 * ((i - 26) / 24)) = w (12 + 4 * ((i - 26) / 24)) := if_neg (by omega)
    rw [e] at h
    exact Or.inl (Or.inr (Or.inr (Or.inl h)))
  · exact Or.inl (Or.inr (Or.inr (Or.inr (Or.inl h))))
  · by_cases y : (i - 146) / 2 < w 4
    · exact Or.inl (Or.inr (Or.inr (Or.inr (Or.inr (Or.inl ⟨h.1, h.2.1, y⟩)))))
    · exact Or.inr (by omega)
  · exact Or.inl (Or.inr (Or.inr (Or.inr (Or.inr (Or.inr (Or.inl h))))))
  · exact Or.inl (Or.inr (Or.inr (Or.inr (Or.inr (Or.inr (Or.inr h))))))
theorem act_n5 {w : Int → Int} {m v i : Int} (hm : w 5 = m) (hv : v = m + 1) (h : act (uPd w 5 v) i) : act w i ∨ i = 154 + 2 * m := by
  have e2 : uPd w 5 v 2 = w 2 := if_neg (by omega)
  have e3 : uPd w 5 v 3 = w 3 := if_neg (by omega)
  have e4 : uPd w 5 v 4 = w 4 := if_neg (by omega)
  have e5 : uPd w 5 v 5 = v := if_pos rfl
  have e6 : uPd w 5 v 6 = w 6 := if_neg (by omega)
  unfold act at h
  rw [e2, e3, e4, e5, e6] at h
  rcases h with h | h | h | h | h | h | h
  · exact Or.inl (Or.inl h)
  · exact Or.inl (Or.inr (Or.inl h))
  · have e : uPd w 5 v (12 + 4 * ((i - 26) / 24)) = w (12 + 4 * ((i - 26) / 24)) := if_neg (by omega)
    rw [e] at h
    exact Or.inl (Or.inr (Or.inr (Or.inl h)))
  · exact Or.inl (Or.inr (Or.inr (Or.inr (Or.inl h))))
  · exact Or.inl (Or.inr (Or.inr (Or.inr (Or.inr (Or.inl h)))))
  · by_cases y : i % 2 = 1 ∨ (i - 154) / 2 < w 5
    · exact Or.inl (Or.inr (Or.inr (Or.inr (Or.inr (Or.inr (Or.inl ⟨h.1, h.2.1, y⟩))))))
    · exact Or.inr (by omega)
  · exact Or.inl (Or.inr (Or.inr (Or.inr (Or.inr (Or.inr (Or.inr h))))))
/-- a lesson more -/
theorem act_ls {w : Int → Int} {d m v i : Int} (d0 : 0 ≤ d) (d4 : d < 4) (hm : w (12 + 4 * d) = m) (hv : v = m + 1) (h : act (uPd w (12 + 4 * d) v) i) : act w i ∨ i = 26 + 24 * d + 2 * m ∨ i = 26 + 24 * d + 2 * m + 1 := by
  have e2 : uPd w (12 + 4 * d) v 2 = w 2 := if_neg (by omega)
  have e3 : uPd w (12 + 4 * d) v 3 = w 3 := if_neg (by omega)
  have e4 : uPd w (12 + 4 * d) v 4 = w 4 := if_neg (by omega)
  have e5 : uPd w (12 + 4 * d) v 5 = w 5 := if_neg (by omega)
  have e6 : uPd w (12 + 4 * d) v 6 = w 6 := if_neg (by omega)
  unfold act at h
  rw [e2, e3, e4, e5, e6] at h
  rcases h with h | h | h | h | h | h | h
  · exact Or.inl (Or.inl h)
  · exact Or.inl (Or.inr (Or.inl h))
  · by_cases y : (i - 26) / 24 = d
    · have e : uPd w (12 + 4 * d) v (12 + 4 * ((i - 26) / 24)) = v := if_pos (by omega)
      rw [e] at h
      by_cases z : (i - 26) % 24 / 2 < m
      · exact Or.inl (Or.inr (Or.inr (Or.inl ⟨h.1, h.2.1, h.2.2.1, by rw [y, hm]; exact z⟩)))
      · exact Or.inr (by omega)
    · have e : uPd w (12 + 4 * d) v (12 + 4 * ((i - 26) / 24)) = w (12 + 4 * ((i - 26) / 24)) := if_neg (by omega)
      rw [e] at h; exact Or.inl (Or.inr (Or.inr (Or.inl h)))
  · exact Or.inl (Or.inr (Or.inr (Or.inr (Or.inl h))))
  · exact Or.inl (Or.inr (Or.inr (Or.inr (Or.inr (Or.inl h)))))
  · exact Or.inl (Or.inr (Or.inr (Or.inr (Or.inr (Or.inr (Or.inl h))))))
  · exact Or.inl (Or.inr (Or.inr (Or.inr (Or.inr (Or.inr (Or.inr h))))))
/-- a door more -/
theorem act_dr {w : Int → Int} {v0 v1 v2 i : Int} (d0 : 0 ≤ w 2) (d4 : w 2 < 4) (h : act (uPd (uPd (uPd (uPd (uPd w (10 + 4 * w 2) v0) (10 + 4 * w 2 + 1) v1) (10 + 4 * w 2 + 2) 0) (10 + 4 * w 2 + 3) v2) 2 (w 2 + 1)) i) : act w i ∨ i = 10 + 4 * w 2 ∨ i = 10 + 4 * w 2 + 1 ∨ i = 10 + 4 * w 2 + 2 ∨ i = 10 + 4 * w 2 + 3 := by
  generalize hf : uPd (uPd (uPd (uPd (uPd w (10 + 4 * w 2) v0) (10 + 4 * w 2 + 1) v1) (10 + 4 * w 2 + 2) 0) (10 + 4 * w 2 + 3) v2) 2 (w 2 + 1) = f at h
  have e : ∀ x : Int, f x = if x = 2 then w 2 + 1 else if x = 10 + 4 * w 2 + 3 then v2 else if x = 10 + 4 * w 2 + 2 then 0 else if x = 10 + 4 * w 2 + 1 then v1 else if x = 10 + 4 * w 2 then v0 else w x := fun x => by rw [← hf]; rfl
  have e2 : f 2 = w 2 + 1 := by rw [e, if_pos rfl]
  have e3 : f 3 = w 3 := by rw [e, if_neg (by omega), if_neg (by omega), if_neg (by omega), if_neg (by omega), if_neg (by omega)]
  have e4 : f 4 = w 4 := by rw [e, if_neg (by omega), if_neg (by omega), if_neg (by omega), if_neg (by omega), if_neg (by omega)]
  have e5 : f 5 = w 5 := by rw [e, if_neg (by omega), if_neg (by omega), if_neg (by omega), if_neg (by omega), if_neg (by omega)]
  have e6 : f 6 = w 6 := by rw [e, if_neg (by omega), if_neg (by omega), if_neg (by omega), if_neg (by omega), if_neg (by omega)]
  unfold act at h
  rw [e2, e3, e4, e5, e6] at h
  rcases h with h | h | h | h | h | h | h
  · exact Or.inl (Or.inl h)
  · by_cases y : (i - 10) / 4 < w 2
    · exact Or.inl (Or.inr (Or.inl ⟨h.1, h.2.1, y⟩))
    · exact Or.inr (by omega)
  · by_cases y : (i - 26) / 24 = w 2
    · have e7 : f (12 + 4 * ((i - 26) / 24)) = 0 := by rw [e, if_neg (by omega), if_neg (by omega), if_pos (by omega)]
      rw [e7] at h; exfalso; omega
    · have e7 : f (12 + 4 * ((i - 26) / 24)) = w (12 + 4 * ((i - 26) / 24)) := by rw [e, if_neg (by omega), if_neg (by omega), if_neg (by omega), if_neg (by omega), if_neg (by omega)]
      rw [e7] at h
      exact Or.inl (Or.inr (Or.inr (Or.inl ⟨h.1, h.2.1, by omega, h.2.2.2⟩)))
  · exact Or.inl (Or.inr (Or.inr (Or.inr (Or.inl h))))
  · exact Or.inl (Or.inr (Or.inr (Or.inr (Or.inr (Or.inl h)))))
  · exact Or.inl (Or.inr (Or.inr (Or.inr (Or.inr (Or.inr (Or.inl h))))))
  · exact Or.inl (Or.inr (Or.inr (Or.inr (Or.inr (Or.inr (Or.inr h))))))
end PLN
end
/-! 32.j.ad -/
section
section ADP
variable {By : Int → Int} {Nb : Int} {Sp S T : PS} {σ0 σ σ' σ1 σ2 σ3 σ4 : SG} {W : List (Nat × Nat)} {a : Nat}
/-- one lesson is put behind the others -/
def ADDp (σ0 σ : SG) (s kn op : Nat) (m x y : Int) : Prop := ci σ kn m = x ∧ ci σ op m = y ∧ ci σ s 2 = m + 1 ∧ ∀ b q : Nat, ¬ (b = kn ∧ q = m.toNat) → ¬ (b = op ∧ q = m.toNat) → ¬ (b = s ∧ q = 2) → (σ b)[q]? = (σ0 b)[q]?
theorem ADD_mk {s kn op : Nat} {J x y : Int} {u v w : Int32} (k1 : (σ1 kn)[J.toNat]? = some (Value.int u)) (n1 : ∀ b q, (b ≠ kn ∨ q ≠ J.toNat) → (σ1 b)[q]? = (σ0 b)[q]?) (k2 : (σ2 op)[J.toNat]? = some (Value.int v)) (n2 : ∀ b q, (b ≠ op ∨ q ≠ J.toNat) → (σ2 b)[q]? = (σ1 b)[q]?) (k3 : (σ3 s)[2]? = some (Value.int w)) (n3 : ∀ b q, (b ≠ s ∨ q ≠ 2) → (σ3 b)[q]? = (σ2 b)[q]?) (ts : TG s = 20) (tk : TG kn = 21) (to : TG op = 22) (hx : x = u.toInt) (hy : y = v.toInt) (hw : w.toInt = J + 1) : ADDp σ0 σ3 s kn op J x y := by
  have d1 : kn ≠ op := fun e => by rw [e, to] at tk; omega
  have d2 : kn ≠ s := fun e => by rw [e, ts] at tk; omega
  have d3 : op ≠ s := fun e => by rw [e, ts] at to; omega
  refine ⟨?_, ?_, ?_, fun b q a1 a2 a3 => ?_⟩
  · unfold ci; rw [n3 _ _ (Or.inl d2), n2 _ _ (Or.inl d1), k1, hx]
  · unfold ci; rw [n3 _ _ (Or.inl d3), k2, hy]
  · unfold ci; rw [show (2 : Int).toNat = 2 from rfl, k3]; exact hw
  · rw [n3 b q (by omega), n2 b q (by omega), n1 b q (by omega)]
theorem KN_add {w : Int → Int} {A : Int → Prop} {s kn op : Nat} {m x y i i' j : Int} (H : KN σ a w A) (P : ADDp σ σ' s kn op m x y) (i0 : 0 ≤ i) (e' : i' = i + 1) (i1 : i' < 226) (j0 : 0 ≤ j) (j1 : j < 226) (hs : s = a + lcO j) (hs2 : lcB j = 2) (hk : kn = a + lcO i) (hk2 : lcB i = m) (ho : op = a + lcO i') (ho2 : lcB i' = m) (m0 : 0 ≤ m) : KN σ' a (uPd (uPd (uPd w i x) i' y) j (m + 1)) (fun t => ((A t ∨ t = i) ∨ t = i') ∨ t = j) := fun t t0 t1 h => by
  obtain ⟨p1, p2, p3, p4⟩ := P
  unfold uPd
  by_cases e3 : t = j
  · rw [if_pos e3, e3, ← hs, hs2]; exact p3
  · rw [if_neg e3]
    by_cases e2 : t = i'
    · rw [if_pos e2, e2, ← ho, ho2]; exact p2
    · rw [if_neg e2]
      by_cases e1 : t = i
      · rw [if_pos e1, e1, ← hk, hk2]; exact p1
      · rw [if_neg e1]
        have h : A t := by rcases h with ((h | h) | h) | h; exact h; exact absurd h e1; exact absurd h e2; exact absurd h e3
        rw [← H t t0 t1 h]
        refine ci_eq (p4 _ _ ?_ ?_ ?_)
        · intro z; exact e1 (lc_uniq t0 t1 i0 (by omega) (by omega) (by omega))
        · intro z; exact e2 (lc_uniq t0 t1 (by omega) i1 (by omega) (by omega))
        · intro z; exact e3 (lc_uniq t0 t1 j0 j1 (by omega) (by omega))
/-- a door begins -/
def BGNp (σ0 σ : SG) (s l : Nat) (x y : Int) : Prop := ci σ s 1 = x ∧ ci σ s 2 = y ∧ ci σ s 3 = -1 ∧ ci σ l 2 = 0 ∧ ∀ b q : Nat, ¬ (b = s ∧ q = 1) → ¬ (b = s ∧ q = 2) → ¬ (b = s ∧ q = 3) → ¬ (b = l ∧ q = 2) → (σ b)[q]? = (σ0 b)[q]?
theorem BGN_mk {s l : Nat} {x y : Int} {u v c z : Int32} (k1 : (σ1 s)[1]? = some (Value.int u)) (n1 : ∀ b q, (b ≠ s ∨ q ≠ 1) → (σ1 b)[q]? = (σ0 b)[q]?) (k2 : (σ2 s)[2]? = some (Value.int v)) (n2 : ∀ b q, (b ≠ s ∨ q ≠ 2) → (σ2 b)[q]? = (σ1 b)[q]?) (k3 : (σ3 s)[3]? = some (Value.int c)) (n3 : ∀ b q, (b ≠ s ∨ q ≠ 3) → (σ3 b)[q]? = (σ2 b)[q]?) (k4 : (σ4 l)[2]? = some (Value.int z)) (n4 : ∀ b q, (b ≠ l ∨ q ≠ 2) → (σ4 b)[q]? = (σ3 b)[q]?) (ts : TG s = 28) (tl : TG l = 20) (hx : x = u.toInt) (hy : y = v.toInt) (hc : c.toInt = -1) (hz : z.toInt = 0) : BGNp σ0 σ4 s l x y := by
  have d1 : s ≠ l := fun e => by rw [e, tl] at ts; omega
  refine ⟨?_, ?_, ?_, ?_, fun b q a1 a2 a3 a4 => ?_⟩
  · unfold ci; rw [show (1 : Int).toNat = 1 from rfl, n4 _ _ (Or.inl d1), n3 _ _ (Or.inr (by decide)), n2 _ _ (Or.inr (by decide)), k1, hx]
  · unfold ci; rw [show (2 : Int).toNat = 2 from rfl, n4 _ _ (Or.inl d1), n3 _ _ (Or.inr (by decide)), k2, hy]
  · unfold ci; rw [show (3 : Int).toNat = 3 from rfl, n4 _ _ (Or.inl d1), k3]; exact hc
  · unfold ci; rw [show (2 : Int).toNat = 2 from rfl, k4]; exact hz
  · rw [n4 b q (by omega), n3 b q (by omega), n2 b q (by omega), n1 b q (by omega)]
theorem KN_bgn {w : Int → Int} {A : Int → Prop} {s l : Nat} {d x y : Int} (H : KN σ a w A) (P : BGNp σ σ' s l x y) (d0 : 0 ≤ d) (d4 : d < 4) (hs : s = a + 10 + 4 * d.toNat) (hl : l = a + 11 + 4 * d.toNat) : KN σ' a (uPd (uPd (uPd (uPd w (10 + 4 * d) x) (10 + 4 * d + 1) y) (10 + 4 * d + 2) 0) (10 + 4 * d + 3) (-1)) (fun t => (((A t ∨ t = 10 + 4 * d) ∨ t = 10 + 4 * d + 1) ∨ t = 10 + 4 * d + 2) ∨ t = 10 + 4 * d + 3) := fun t t0 t1 h => by
  obtain ⟨p1, p2, p3, p4, p5⟩ := P
  have L := lc_d d0 d4
  rw [show 11 + 4 * d = 10 + 4 * d + 1 by omega, show 12 + 4 * d = 10 + 4 * d + 2 by omega, show 13 + 4 * d = 10 + 4 * d + 3 by omega] at L
  obtain ⟨o0, o1, o2, o3, b0, b1, b2, b3⟩ := L
  unfold uPd
  by_cases e3 : t = 10 + 4 * d + 3
  · rw [if_pos e3, e3, o3, b3, ← Nat.add_assoc, ← hs]; exact p3
  · rw [if_neg e3]
    by_cases e2 : t = 10 + 4 * d + 2
    · rw [if_pos e2, e2, o2, b2, ← Nat.add_assoc, ← hl]; exact p4
    · rw [if_neg e2]
      by_cases e1 : t = 10 + 4 * d + 1
      · rw [if_pos e1, e1, o1, b1, ← Nat.add_assoc, ← hs]; exact p2
      · rw [if_neg e1]
        by_cases e0 : t = 10 + 4 * d
        · rw [if_pos e0, e0, o0, b0, ← Nat.add_assoc, ← hs]; exact p1
        · rw [if_neg e0]
          have h : A t := by rcases h with (((h | h) | h) | h) | h; exact h; exact absurd h e0; exact absurd h e1; exact absurd h e2; exact absurd h e3
          rw [← H t t0 t1 h]
          refine ci_eq (p5 _ _ ?_ ?_ ?_ ?_)
          · intro z; exact e0 (lc_uniq t0 t1 (by omega) (by omega) (by omega) (by rw [b0]; omega))
          · intro z; exact e1 (lc_uniq t0 t1 (by omega) (by omega) (by omega) (by rw [b1]; omega))
          · intro z; exact e3 (lc_uniq t0 t1 (by omega) (by omega) (by omega) (by rw [b3]; omega))
          · intro z; exact e2 (lc_uniq t0 t1 (by omega) (by omega) (by omega) (by rw [b2]; omega))
theorem CT_ne {b n : Nat} (H : CT By Nb σ S) (h2 : ∀ b' q', (b' ≠ b ∨ q' ≠ n) → (σ' b')[q']? = (σ b')[q']?) (hb : 3 < b) : CT By Nb σ' S := by
  obtain ⟨⟨a1, a2, a3, a4⟩, b1, c, d⟩ := H
  have n1 (j : Int) : ci σ' 1 j = ci σ 1 j := ci_ne h2 (by omega) j
  have n2 (j : Int) : ci σ' 2 j = ci σ 2 j := ci_ne h2 (by omega) j
  have n3 (j : Int) : ci σ' 3 j = ci σ 3 j := ci_ne h2 (by omega) j
  refine ⟨⟨a1, a2, by rw [n1]; exact a3, fun i i0 i1 => by rw [n2]; exact a4 i i0 i1⟩, by rw [n3]; exact b1, by rw [n3]; exact c, fun z => ?_⟩
  obtain ⟨p0, p1, q1, q2, q3, q4⟩ := d z
  exact ⟨p0, p1, by rw [n3]; exact q1, by rw [n3]; exact q2, by rw [n3]; exact q3, fun y => by rw [n3]; exact q4 y⟩
/-! doors and lessons, from the plan on -/
theorem DRc {s q z : Nat} {d : Int} (hX : FXP σ s) (hd : (σ s)[4]? = some (Value.ref q)) (hz : (σ q)[d.toNat]? = some (Value.ref z)) (d0 : 0 ≤ d) (d4 : d < 4) : z = s + 10 + 4 * d.toNat := by
  have e := ref_uniq hd hX.1
  subst e
  exact ref_uniq hz (hX.2.2.2.2.2.2.2.2.2 d.toNat (by omega)).1
theorem DLc {s z l : Nat} {d : Int} (hX : FXP σ s) (hz : z = s + 10 + 4 * d.toNat) (hl : (σ z)[0]? = some (Value.ref l)) (d0 : 0 ≤ d) (d4 : d < 4) : l = s + 11 + 4 * d.toNat := by
  subst hz
  exact ref_uniq hl (hX.2.2.2.2.2.2.2.2.2 d.toNat (by omega)).2.1
/-- whom nobody copies so far -/
def NCw (w : Int → Int) (a y : Int) : Prop := ∀ q : Int, 0 ≤ q → q < y → w (13 + 4 * q) ≠ a
theorem NCw_s {w : Int → Int} {a y y' : Int} (g : NCw w a y) (h : w (13 + 4 * y) ≠ a) (e : y' = y + 1) : NCw w a y' := fun q q0 q1 => by
  by_cases z : q = y
  · rw [z]; exact h
  · exact g q q0 (by omega)
theorem CPw_1 {w : Int → Int} {a y r : Int} (y0 : 0 ≤ y) (yn : y < w 2) (n4 : w 2 ≤ 4) (h : w (13 + 4 * y) = a) (hr : r = 1) : r = cpI w a := by
  unfold cpI
  rcases (show y = 0 ∨ y = 1 ∨ y = 2 ∨ y = 3 by omega) with e | e | e | e <;> subst e <;> simp only [Int.mul_zero, Int.add_zero, Int.mul_one, Int.reduceMul, Int.reduceAdd] at h <;> rw [if_pos (by omega)] <;> exact hr
theorem CPw_n {w : Int → Int} {a y r : Int} (g : NCw w a y) (yn : w 2 ≤ y) (hr : r = 0) : r = cpI w a := by
  unfold cpI
  rw [if_neg]
  · exact hr
  · intro q
    rcases q with q | q | q | q
    · exact g 0 (by omega) (by omega) q.2
    · exact g 1 (by omega) (by omega) q.2
    · exact g 2 (by omega) (by omega) q.2
    · exact g 3 (by omega) (by omega) q.2
end ADP
section ADQ
variable {By : Int → Int} {Nb : Int} {Sp S T : PS} {σ0 σ σ' : SG} {W : List (Nat × Nat)} {a : Nat}
/-- a row of lessons: where its size, its knocks and its deeds lie -/
def LSN (σ : SG) (a b : Nat) (w : Int → Int) (ix jx : Int) : Prop := b = a + lcO jx ∧ lcB jx = 2 ∧ b + 1 = a + lcO ix ∧ lcB ix = w jx ∧ b + 2 = a + lcO (ix + 1) ∧ lcB (ix + 1) = w jx ∧ 0 ≤ ix ∧ ix + 1 < 226 ∧ 0 ≤ jx ∧ jx < 226 ∧ act w jx ∧ (σ b)[0]? = some (Value.ref (b + 1)) ∧ (σ b)[1]? = some (Value.ref (b + 2)) ∧ 0 ≤ w jx ∧ w jx ≤ 11
theorem LSN_e {b : Nat} {w : Int → Int} {m : Int} (hX : FXP σ a) (hb : b = a + 2) (hm : w 3 = m) (m0 : 0 ≤ m) (m1 : m ≤ 11) : LSN σ a b w (122 + 2 * m) 3 := by
  have l := lc_e (m := m) (by omega) (by omega)
  subst hb
  exact ⟨by rw [lcO_3], by decide, by rw [l.1], by rw [l.2.2.1, hm], by rw [l.2.1], by rw [l.2.2.2, hm], by omega, by omega, by omega, by omega, Or.inl (by omega), hX.2.2.2.2.2.2.2.1, hX.2.2.2.2.2.2.2.2.1, by omega, by omega⟩
theorem LSN_d {b : Nat} {w : Int → Int} {m d : Int} (hX : FXP σ a) (d0 : 0 ≤ d) (d4 : d < 4) (dn : d < w 2) (hb : b = a + 11 + 4 * d.toNat) (hm : w (12 + 4 * d) = m) (m0 : 0 ≤ m) (m1 : m ≤ 11) : LSN σ a b w (26 + 24 * d + 2 * m) (12 + 4 * d) := by
  have l := lc_l (d := d) (m := m) d0 d4 (by omega) (by omega)
  have k := lc_d d0 d4
  have x := hX.2.2.2.2.2.2.2.2.2 d.toNat (by omega)
  subst hb
  exact ⟨by rw [k.2.2.1]; omega, k.2.2.2.2.2.2.1, by rw [l.1]; omega, by rw [l.2.2.1, hm], by rw [l.2.1]; omega, by rw [l.2.2.2, hm], by omega, by omega, by omega, by omega, Or.inr (Or.inl ⟨by omega, by omega, by omega⟩), by have e : a + 12 + 4 * d.toNat = a + 11 + 4 * d.toNat + 1 := (by omega); rw [← e]; exact x.2.2.1, by have e : a + 13 + 4 * d.toNat = a + 11 + 4 * d.toNat + 2 := (by omega); rw [← e]; exact x.2.2.2, by omega, by omega⟩
theorem uPd3_cg {w : Int → Int} {i i' j x y m x' y' m' : Int} (hx : x = x') (hy : y = y') (hm : m = m') : uPd (uPd (uPd w i x) i' y) j (m + 1) = uPd (uPd (uPd w i x') i' y') j (m' + 1) := by subst hx hy hm; rfl
theorem uPd4_cg {w : Int → Int} {i i' i2 i3 x y x' y' : Int} (hx : x = x') (hy : y = y') : uPd (uPd (uPd (uPd w i x) i' y) i2 0) i3 (-1) = uPd (uPd (uPd (uPd w i x') i' y') i2 0) i3 (-1) := by subst hx hy; rfl
theorem dDc {c : Int} (h : S.1 = 0 → (c = 1 ∧ (iW By Nb 8 S = 1 ∨ iW By Nb 12 S = 1)) ∨ (c = 0 ∧ iW By Nb 8 S = 0 ∧ iW By Nb 12 S = 0)) : pss By Nb c S = dD By Nb S := by
  unfold dD
  refine pss_cg2 (fun z => ?_)
  unfold orI
  rcases h z with ⟨h1, h2⟩ | ⟨h1, h2, h3⟩
  · rcases h2 with h2 | h2 <;> simp [h1, h2]
  · simp [h1, h2, h3]
theorem tP_cg2 {m m' : Int} (h : S.1 = 0 → m = m') : tP By Nb m S = tP By Nb m' S := by
  by_cases z : S.1 = 0
  · rw [h z]
  · rw [tP_bad z, tP_bad z]
theorem tP_w {m : Int} : (tP By Nb m S).2.2.2 = S.2.2.2 := by unfold tP; split; exact err_w; exact tN_w
theorem tP_g {m : Int} (h : (tP By Nb m S).1 = 0) : S.1 = 0 := by
  by_cases z : S.1 = 0
  · exact z
  · rw [tP_bad z] at h; exact absurd h z
theorem tW_w : (tW By Nb S).2.2.2 = S.2.2.2 := by unfold tW; exact pss_w
theorem tW_g (h : (tW By Nb S).1 = 0) : S.1 = 0 := by unfold tW at h; exact (pss_g h).1
theorem fSaid_w {i j : Int} (h : (fSaid By Nb i j S).1 = 0) : ∃ x o : Int, (fSaid By Nb i j S).2.2.2 = uPd (uPd (uPd S.2.2.2 i x) (i + 1) o) j (S.2.2.2 j + 1) := by
  unfold fSaid at h ⊢
  dsimp only at h ⊢
  by_cases z : (dD By Nb (tN By Nb 0 (pI (S.2.2.2 0) - 1) S)).1 = 0
  · rw [if_pos z]
    refine ⟨tV By Nb S.2.2.1, iW By Nb 8 (tN By Nb 0 (pI (S.2.2.2 0) - 1) S), ?_⟩
    have e : (dD By Nb (tN By Nb 0 (pI (S.2.2.2 0) - 1) S)).2.2.2 = S.2.2.2 := by unfold dD; rw [pss_w, tN_w]
    show uPd (uPd (uPd (dD By Nb (tN By Nb 0 (pI (S.2.2.2 0) - 1) S)).2.2.2 _ _) _ _) _ _ = _
    rw [e]
  · rw [if_neg z] at h; exact absurd h z
theorem KN_exm {i m : Int} (h : (fSaid By Nb i 3 S).1 = 0) (H : KN σ a (fSaid By Nb i 3 S).2.2.2 (fun t => ((act S.2.2.2 t ∨ t = i) ∨ t = i + 1) ∨ t = 3)) (hi : i = 122 + 2 * m) (hm : S.2.2.2 3 = m) (m0 : 0 ≤ m) : KN σ a (fSaid By Nb i 3 S).2.2.2 (act (fSaid By Nb i 3 S).2.2.2) := by
  obtain ⟨x, o, e⟩ := fSaid_w h
  refine KN_sub H (fun t t0 t1 y => ?_)
  rw [e] at y
  have e3 : uPd (uPd S.2.2.2 i x) (i + 1) o 3 = m := by unfold uPd; rw [if_neg (by omega), if_neg (by omega)]; exact hm
  rcases act_n3 e3 (by rw [hm]) y with q | q | q
  · exact Or.inl (Or.inl (Or.inl (act_in (by omega) (by omega) (act_in (by omega) (by omega) q))))
  · exact Or.inl (Or.inl (Or.inr (by omega)))
  · exact Or.inl (Or.inr (by omega))
theorem KN_les {i j m d : Int} (h : (fSaid By Nb i j S).1 = 0) (H : KN σ a (fSaid By Nb i j S).2.2.2 (fun t => ((act S.2.2.2 t ∨ t = i) ∨ t = i + 1) ∨ t = j)) (d0 : 0 ≤ d) (d4 : d < 4) (hj : j = 12 + 4 * d) (hi : i = 26 + 24 * d + 2 * m) (hm : S.2.2.2 j = m) (m0 : 0 ≤ m) : KN σ a (fSaid By Nb i j S).2.2.2 (act (fSaid By Nb i j S).2.2.2) := by
  obtain ⟨x, o, e⟩ := fSaid_w h
  refine KN_sub H (fun t t0 t1 y => ?_)
  rw [e] at y
  subst hj
  have e3 : uPd (uPd S.2.2.2 i x) (i + 1) o (12 + 4 * d) = m := by unfold uPd; rw [if_neg (by omega), if_neg (by omega)]; exact hm
  rcases act_ls d0 d4 e3 (by rw [hm]) y with q | q | q
  · exact Or.inl (Or.inl (Or.inl (act_in (by omega) (by omega) (act_in (by omega) (by omega) q))))
  · exact Or.inl (Or.inl (Or.inr (by omega)))
  · exact Or.inl (Or.inr (by omega))
theorem tw1_p {d : Int} (h : (nH By Nb 0 (S.2.2.2 2 - 1) S).1 = 0) (hd : d = tV By Nb S.2.2.1) (c : S.2.2.2 (13 + 4 * d) ≠ -1 ∨ cpI S.2.2.2 d = 1) : tw1 By Nb S = err By Nb 2 (nH By Nb 0 (S.2.2.2 2 - 1) S) := by
  subst hd; unfold tw1; rw [if_pos ⟨h, c⟩, nH_id h]
theorem tw1_n {d : Int} (h : (nH By Nb 0 (S.2.2.2 2 - 1) S).1 = 0 → d = tV By Nb S.2.2.1 ∧ S.2.2.2 (13 + 4 * d) = -1 ∧ cpI S.2.2.2 d ≠ 1) : tw1 By Nb S = nH By Nb 0 (S.2.2.2 2 - 1) S := by
  unfold tw1
  rw [if_neg]
  intro q
  obtain ⟨rfl, h2, h3⟩ := h q.1
  rcases q.2 with q | q
  · exact q h2
  · exact h3 q
theorem tw2_p {c d : Int} (h : (nH By Nb 0 (S.2.2.2 2 - 1) S).1 = 0) (hd : d = tV By Nb S.2.2.1) (q : d = c ∨ S.2.2.2 (13 + 4 * d) ≠ -1) : tw2 By Nb c S = err By Nb 2 (nH By Nb 0 (S.2.2.2 2 - 1) S) := by
  subst hd; unfold tw2; rw [if_pos ⟨h, q⟩, nH_id h]
theorem tw2_n {c d : Int} (h : (nH By Nb 0 (S.2.2.2 2 - 1) S).1 = 0 → d = tV By Nb S.2.2.1 ∧ d ≠ c ∧ S.2.2.2 (13 + 4 * d) = -1) : tw2 By Nb c S = nH By Nb 0 (S.2.2.2 2 - 1) S := by
  unfold tw2
  rw [if_neg]
  intro q
  obtain ⟨rfl, h2, h3⟩ := h q.1
  rcases q.2 with q | q
  · exact h2 q
  · exact q h3
end ADQ
section ADR
theorem ADr {P : Prop} {t k : Int} (h : P ∨ t = k ∨ t = k + 1 ∨ t = k + 2 ∨ t = k + 3) : ((((P ∨ t = k) ∨ t = k + 1) ∨ t = k + 2) ∨ t = k + 3) ∨ t = 2 := by
  rcases h with q | q | q | q | q
  · exact Or.inl (Or.inl (Or.inl (Or.inl (Or.inl q))))
  · exact Or.inl (Or.inl (Or.inl (Or.inl (Or.inr q))))
  · exact Or.inl (Or.inl (Or.inl (Or.inr q)))
  · exact Or.inl (Or.inl (Or.inr q))
  · exact Or.inl (Or.inr q)
theorem ACs {w : Int → Int} {v t : Int} (w0 : 0 ≤ w 5) (h : act (uPd (uPd w (154 + 2 * w 5) v) 5 (w 5 + 1)) t) : (act w t ∨ t = 154 + 2 * w 5) ∨ t = 5 := by
  have e : uPd w (154 + 2 * w 5) v 5 = w 5 := if_neg (by omega)
  rcases act_n5 e rfl h with q | q
  · exact Or.inl (Or.inl (act_in (by omega) (by omega) q))
  · exact Or.inl (Or.inr q)
theorem AHs {w : Int → Int} {v x t : Int} (w0 : 0 ≤ w 4) (h : act (uPd (uPd (uPd w (146 + 2 * w 4) v) (146 + 2 * w 4 + 1) x) 4 (w 4 + 1)) t) : ((act w t ∨ t = 146 + 2 * w 4) ∨ t = 146 + 2 * w 4 + 1) ∨ t = 4 := by
  have e : uPd (uPd w (146 + 2 * w 4) v) (146 + 2 * w 4 + 1) x 4 = w 4 := by unfold uPd; rw [if_neg (by omega), if_neg (by omega)]
  rcases act_n4 e rfl h with q | q | q
  · exact Or.inl (Or.inl (Or.inl (act_in (by omega) (by omega) (act_in (by omega) (by omega) q))))
  · exact Or.inl (Or.inl (Or.inr q))
  · exact Or.inl (Or.inr q)
end ADR
section ADS
variable {By : Int → Int} {Nb : Int} {Sp S T : PS} {σ0 σ σ' : SG} {W : List (Nat × Nat)} {a s : Nat}
def FZi (σ : SG) (a : Nat) (y : Int) : Prop := ∀ k : Int, 0 ≤ k → k < y → ci σ a k = 0
theorem FZi_0 {y : Int} (h : y = 0) : FZi σ a y := fun k k0 k1 => absurd k0 (by omega)
theorem FZi_s {y y' J : Int} {z : Int32} (g : FZi σ a y) (h1 : (σ' a)[J.toNat]? = some (Value.int z)) (h2 : ∀ b q, (b ≠ a ∨ q ≠ J.toNat) → (σ' b)[q]? = (σ b)[q]?) (hz : z.toInt = 0) (J0 : 0 ≤ J ∧ J = y) (e : y' = y + 1) : FZi σ' a y' := fun k k0 k1 => by
  rw [ci_st h1 h2 J0.1 k k0]
  by_cases q : k = J
  · rw [if_pos q]; exact hz
  · rw [if_neg q]; exact g k k0 (by omega)
theorem FZi_x {y : Int} (g : FZi σ a y) (h : 6 ≤ y) : ∀ k : Int, 0 ≤ k → k < 6 → ci σ a k = 0 := fun k k0 k1 => g k k0 (by omega)
theorem lc_z : ∀ i : Fin 226, i.val < 10 ∨ (154 ≤ i.val ∧ i.val < 166 ∧ i.val % 2 = 1) → (lcO (i.val : Int), lcB (i.val : Int)) ∈ [(0, 0), (0, 1), (0, 2), (0, 3), (2, 2), (0, 6), (0, 7), (0, 8), (0, 11), (0, 14), (8, 0), (8, 1), (8, 2), (8, 3), (8, 4), (8, 5)] := by decide +kernel
theorem KN_clr (h0 : ci σ s 0 = 0) (h1 : ci σ s 1 = 0) (h2 : ci σ s 2 = 0) (h3 : ci σ s 3 = 0) (h4 : ci σ (s + 2) 2 = 0) (h6 : ci σ s 6 = 0) (h7 : ci σ s 7 = 0) (h8 : ci σ s 8 = 0) (h11 : ci σ s 11 = 0) (h14 : ci σ s 14 = 0) (ha : ∀ k : Int, 0 ≤ k → k < 6 → ci σ (s + 8) k = 0) : KN σ s (fun _ => 0) (act (fun _ => 0)) := fun i i0 i1 x => by
  have x2 : i < 10 ∨ (154 ≤ i ∧ i < 166 ∧ i % 2 = 1) := by unfold act at x; (try dsimp only at x); omega
  have m := lc_z ⟨i.toNat, by omega⟩ (by simp only; omega)
  simp only at m
  rw [show ((i.toNat : Nat) : Int) = i by omega] at m
  show ci σ (s + lcO i) (lcB i) = 0
  simp only [List.mem_cons, Prod.mk.injEq, List.not_mem_nil, or_false] at m
  rcases m with ⟨a, b⟩ | ⟨a, b⟩ | ⟨a, b⟩ | ⟨a, b⟩ | ⟨a, b⟩ | ⟨a, b⟩ | ⟨a, b⟩ | ⟨a, b⟩ | ⟨a, b⟩ | ⟨a, b⟩ | ⟨a, b⟩ | ⟨a, b⟩ | ⟨a, b⟩ | ⟨a, b⟩ | ⟨a, b⟩ | ⟨a, b⟩ <;> rw [a, b] <;> first | assumption | exact ha _ (by omega) (by omega)
end ADS
section ADT
variable {By : Int → Int} {Nb : Int} {Sp S S3 T : PS} {σ0 σ σ' : SG} {W : List (Nat × Nat)} {a s : Nat}
/-- what a whole reading leaves -/
def RDC (By : Int → Int) (Nb : Int) (a : Nat) (σ : SG) : Prop := CT By Nb σ (fRead By Nb 1601 S00) ∧ ((fRead By Nb 1601 S00).1 = 0 → KN σ a (fRead By Nb 1601 S00).2.2.2 (act (fRead By Nb 1601 S00).2.2.2))
def RLI (By : Int → Int) (Nb : Int) (a : Nat) (σ : SG) (y : Int) : Prop := ∃ (S : PS) (f : Nat), CT By Nb σ S ∧ (S.1 = 0 → KN σ a S.2.2.2 (act S.2.2.2) ∧ S.2.2.2 7 = y) ∧ fRead By Nb f S = fRead By Nb 1601 S00 ∧ (f : Int) + y = 1601
theorem RLI_0 {p y : Int} {k q : Int32} (hK : TPc By Nb σ ∧ TKc By Nb p σ) (hp : p = 0) (h5 : (σ 3)[5]? = some (Value.int k)) (hk : k.toInt = 0) (h6 : (σ 3)[6]? = some (Value.int q)) (hq : q.toInt = -1) (hN : KN σ a (fun _ => 0) (act (fun _ => 0))) (hy : y = 0) : RLI By Nb a σ y := by
  subst hp hy
  refine ⟨S00, 1601, ⟨hK.1, ?_, ?_, fun _ => hK.2⟩, fun _ => ⟨hN, rfl⟩, rfl, rfl⟩
  · rw [ci_at (i := 5) (j := 5) h5 rfl, hk]; rfl
  · rw [ci_at (i := 6) (j := 6) h6 rfl, hq]; rfl
theorem RLI_s {f : Nat} {y y' : Int} (e1 : fRead By Nb f S = fRead By Nb 1601 S00) (e2 : (f : Int) + y = 1601) (h : y ≤ 1600) (z : S.1 = 0) (tk : tK By Nb S.2.2.1 ≠ 0) (eL : fLine By Nb S = S3) (c : CT By Nb σ S3) (k : Imp (S3.1 = 0) (KN σ a S3.2.2.2 (act S3.2.2.2))) {w : Int} (l : S3.2.2.2 7 = w) (e : y' = y + 1 ∧ w = y + 1) : RLI By Nb a σ y' := by
  obtain ⟨g, rfl⟩ : ∃ g, f = g + 1 := ⟨f - 1, by omega⟩
  refine ⟨S3, g, c, fun q => ⟨Imp_m k q, by omega⟩, ?_, by omega⟩
  rw [← e1]
  conv => rhs; unfold fRead
  rw [if_pos ⟨z, tk⟩, eL]
theorem RLI_x {f : Nat} {y : Int} (c : CT By Nb σ S) (k : S.1 = 0 → KN σ a S.2.2.2 (act S.2.2.2) ∧ S.2.2.2 7 = y) (e1 : fRead By Nb f S = fRead By Nb 1601 S00) (h : S.1 = 0 → (f : Int) = 0 ∨ tK By Nb S.2.2.1 = 0) : RDC By Nb a σ := by
  have e : fRead By Nb f S = S := by
    by_cases z : S.1 = 0
    · rcases h z with q | q
      · have : f = 0 := by omega
        subst this; rfl
      · exact fRead_x (Or.inr q)
    · exact fRead_x (Or.inl z)
  unfold RDC
  rw [← e1, e]
  exact ⟨c, fun z => (k z).1⟩
def SCC (By : Int → Int) (Nb : Int) (σ : SG) (r : Int) : Prop := ci σ 3 5 = (fRead By Nb 1601 S00).1 ∧ ci σ 3 6 = (fRead By Nb 1601 S00).2.1 ∧ ((fRead By Nb 1601 S00).1 ≠ 0 → r = -4) ∧ ((fRead By Nb 1601 S00).1 = 0 → r = (fRead By Nb 1601 S00).2.2.2 7)
theorem fNx_2  (h2 : iW By Nb 2 S = 1) : fNext By Nb S = fDoor By Nb S := by
  unfold fNext
  rw [if_pos h2]
theorem fNx_6 (h2 : iW By Nb 2 S = 0) (h6 : iW By Nb 6 S = 1) : fNext By Nb S = fLesson By Nb S := by
  unfold fNext
  rw [if_neg (by omega), if_pos h6]
theorem fNx_3 (h2 : iW By Nb 2 S = 0) (h6 : iW By Nb 6 S = 0) (h3 : iW By Nb 3 S = 1) : fNext By Nb S = fExam By Nb S := by
  unfold fNext
  rw [if_neg (by omega), if_neg (by omega), if_pos h3]
theorem fNx_17 (h2 : iW By Nb 2 S = 0) (h6 : iW By Nb 6 S = 0) (h3 : iW By Nb 3 S = 0) (h17 : iW By Nb 17 S = 1) : fNext By Nb S = fTwin By Nb S := by
  unfold fNext
  rw [if_neg (by omega), if_neg (by omega), if_neg (by omega), if_pos h17]
theorem fNx_9 (h2 : iW By Nb 2 S = 0) (h6 : iW By Nb 6 S = 0) (h3 : iW By Nb 3 S = 0) (h17 : iW By Nb 17 S = 0) (h9 : iW By Nb 9 S = 1) : fNext By Nb S = fOwner By Nb S := by
  unfold fNext
  rw [if_neg (by omega), if_neg (by omega), if_neg (by omega), if_neg (by omega), if_pos h9]
theorem fNx_5 (h2 : iW By Nb 2 S = 0) (h6 : iW By Nb 6 S = 0) (h3 : iW By Nb 3 S = 0) (h17 : iW By Nb 17 S = 0) (h9 : iW By Nb 9 S = 0) (h5 : iW By Nb 5 S = 1) : fNext By Nb S = fHouse By Nb S := by
  unfold fNext
  rw [if_neg (by omega), if_neg (by omega), if_neg (by omega), if_neg (by omega), if_neg (by omega), if_pos h5]
theorem fNx_1 (h2 : iW By Nb 2 S = 0) (h6 : iW By Nb 6 S = 0) (h3 : iW By Nb 3 S = 0) (h17 : iW By Nb 17 S = 0) (h9 : iW By Nb 9 S = 0) (h5 : iW By Nb 5 S = 0) (h1 : iW By Nb 1 S = 1) : fNext By Nb S = fCourse By Nb S := by
  unfold fNext
  rw [if_neg (by omega), if_neg (by omega), if_neg (by omega), if_neg (by omega), if_neg (by omega), if_neg (by omega), if_pos h1]
theorem fNx_0 (h2 : iW By Nb 2 S = 0) (h6 : iW By Nb 6 S = 0) (h3 : iW By Nb 3 S = 0) (h17 : iW By Nb 17 S = 0) (h9 : iW By Nb 9 S = 0) (h5 : iW By Nb 5 S = 0) (h1 : iW By Nb 1 S = 0) (h0 : iW By Nb 0 S = 1) : fNext By Nb S = fAhead By Nb S := by
  unfold fNext
  rw [if_neg (by omega), if_neg (by omega), if_neg (by omega), if_neg (by omega), if_neg (by omega), if_neg (by omega), if_neg (by omega), if_pos h0]
theorem fNx_n (h2 : iW By Nb 2 S = 0) (h6 : iW By Nb 6 S = 0) (h3 : iW By Nb 3 S = 0) (h17 : iW By Nb 17 S = 0) (h9 : iW By Nb 9 S = 0) (h5 : iW By Nb 5 S = 0) (h1 : iW By Nb 1 S = 0) (h0 : iW By Nb 0 S = 0) : fNext By Nb S = err By Nb 1 S := by
  unfold fNext
  rw [if_neg (by omega), if_neg (by omega), if_neg (by omega), if_neg (by omega), if_neg (by omega), if_neg (by omega), if_neg (by omega), if_neg (by omega)]
def fL1 (By : Int → Int) (Nb : Int) (S : PS) : PS := if S.2.2.2 7 = 0 then fFirst By Nb S else fNext By Nb S
theorem fL_line {S2 S3 : PS} (e2 : S2 = pss By Nb (if tK By Nb (fL1 By Nb S).2.2.1 = 3 then 1 else 0) (fL1 By Nb S)) (e3 : S3 = wst S2 7 (S.2.2.2 7 + 1)) : fLine By Nb S = S3 := by subst e3 e2; rfl
theorem fL1_0 (h : S.2.2.2 7 = 0) : fL1 By Nb S = fFirst By Nb S := by unfold fL1; rw [if_pos h]
theorem fL1_1 (h : S.2.2.2 7 ≠ 0) : fL1 By Nb S = fNext By Nb S := by unfold fL1; rw [if_neg h]
end ADT
end
/-! 32.k.by -/
section
section BYT
/-- the bytes of a number, the highest first -/
def b4 (x : Int32) (j : Int) : Int := ((x >>> ((Int32.ofInt (24 - 8 * j)) &&& 31)).toInt8.toInt32).toInt
theorem bu24 (x : Int32) : ((x.toUInt32 >>> (24 : UInt32)).toInt32).toInt8 = (x >>> (24 : Int32)).toInt8 := by
  apply Int8.toBitVec_inj.mp
  apply BitVec.eq_of_getLsbD_eq
  intro i hi
  have h1 : i < 32 := by omega
  have h2 : 24 + i < 32 := by omega
  simp [BitVec.getLsbD_signExtend, BitVec.getElem_sshiftRight, h1, h2]
theorem bu16 (x : Int32) : ((x.toUInt32 >>> (16 : UInt32)).toInt32).toInt8 = (x >>> (16 : Int32)).toInt8 := by
  apply Int8.toBitVec_inj.mp
  apply BitVec.eq_of_getLsbD_eq
  intro i hi
  have h1 : i < 32 := by omega
  have h2 : 16 + i < 32 := by omega
  simp [BitVec.getLsbD_signExtend, BitVec.getElem_sshiftRight, h1, h2]
theorem bu8 (x : Int32) : ((x.toUInt32 >>> (8 : UInt32)).toInt32).toInt8 = (x >>> (8 : Int32)).toInt8 := by
  apply Int8.toBitVec_inj.mp
  apply BitVec.eq_of_getLsbD_eq
  intro i hi
  have h1 : i < 32 := by omega
  have h2 : 8 + i < 32 := by omega
  simp [BitVec.getLsbD_signExtend, BitVec.getElem_sshiftRight, h1, h2]
theorem bu0 (x : Int32) : ((x.toUInt32 >>> (0 : UInt32)).toInt32).toInt8 = (x >>> (0 : Int32)).toInt8 := by
  apply Int8.toBitVec_inj.mp
  apply BitVec.eq_of_getLsbD_eq
  intro i hi
  have h1 : i < 32 := by omega
  simp [BitVec.getLsbD_signExtend, h1]
theorem s32_of {s : Int32} {n : Int} (h : s.toInt = n) : s = Int32.ofInt n := by rw [← h]; exact (Int32.ofInt_toInt s).symm
/-- the class's way, the model's way -/
theorem b4_u {x s z : Int32} {j : Int} (hz : z = ((x.toUInt32 >>> (s.toUInt32 &&& Int32.toUInt32 31)).toInt32).toInt8.toInt32) (hs : s.toInt = 24 - 8 * j) (j0 : 0 ≤ j) (j3 : j ≤ 3) : z.toInt = b4 x j := by
  have e := s32_of hs
  subst hz e
  unfold b4
  rcases (show j = 0 ∨ j = 1 ∨ j = 2 ∨ j = 3 by omega) with h | h | h | h <;> subst h
  · exact congrArg (fun q : Int8 => q.toInt32.toInt) (bu24 x)
  · exact congrArg (fun q : Int8 => q.toInt32.toInt) (bu16 x)
  · exact congrArg (fun q : Int8 => q.toInt32.toInt) (bu8 x)
  · exact congrArg (fun q : Int8 => q.toInt32.toInt) (bu0 x)
theorem b4_s {x s z : Int32} {j : Int} (hz : z = (x >>> (s &&& 31)).toInt8.toInt32) (hs : s.toInt = 24 - 8 * j) : z.toInt = b4 x j := by
  have e := s32_of hs
  subst hz e
  rfl
end BYT
section BYQ
variable {σ0 σ σ' σ1 σ2 σ3 σ4 σ5 : SG}
theorem b4_rng (x : Int32) (j : Int) : -128 ≤ b4 x j ∧ b4 x j ≤ 127 := i2b_rng _
/-- bytes of one number behind the others: y of them, from m on -/
def APB (σ0 σ : SG) (r : Nat) (m y : Int) (x : Int32) : Prop := (∀ j : Int, 0 ≤ j → j < y → ci σ r (m + j) = b4 x j) ∧ ∀ i : Int, 0 ≤ i → (i < m ∨ m + y ≤ i) → ci σ r i = ci σ0 r i
theorem APB_0 {r : Nat} {m y : Int} {x : Int32} (h : y = 0) : APB σ σ r m y x := ⟨fun j j0 j1 => absurd j0 (by omega), fun _ _ _ => rfl⟩
theorem APB_s {r : Nat} {m y y' J : Int} {x z : Int32} (g : APB σ0 σ r m y x) (h1 : (σ' r)[J.toNat]? = some (Value.int z)) (h2 : ∀ b q, (b ≠ r ∨ q ≠ J.toNat) → (σ' b)[q]? = (σ b)[q]?) (hJ : J = m + y) (m0 : 0 ≤ m) (y0 : 0 ≤ y) (hz : z.toInt = b4 x y) (e : y' = y + 1) : APB σ0 σ' r m y' x := by
  refine ⟨fun j j0 j1 => ?_, fun i i0 h => ?_⟩
  · rw [ci_st h1 h2 (by omega) (m + j) (by omega)]
    by_cases q : m + j = J
    · rw [if_pos q, hz]; exact congrArg (b4 x) (by omega)
    · rw [if_neg q]; exact g.1 j j0 (by omega)
  · rw [ci_st h1 h2 (by omega) i i0, if_neg (by omega)]
    exact g.2 i i0 (by omega)
theorem APB_ne {r b n : Nat} {m y : Int} {x : Int32} (g : APB σ0 σ r m y x) (h2 : ∀ b' q, (b' ≠ b ∨ q ≠ n) → (σ' b')[q]? = (σ b')[q]?) (hb : r ≠ b) : APB σ0 σ' r m y x := ⟨fun j j0 j1 => by rw [ci_ne h2 hb]; exact g.1 j j0 j1, fun i i0 h => by rw [ci_ne h2 hb]; exact g.2 i i0 h⟩
theorem APB_c {r : Nat} {m y y' : Int} {x : Int32} (g : APB σ0 σ r m y x) (e : y' = y) : APB σ0 σ r m y' x := by subst e; exact g
/-- one of five -/
def sel5 (a b c d e : Int32) (k : Int) : Int32 := if k = 0 then a else if k = 1 then b else if k = 2 then c else if k = 3 then d else e
def FDP (σ0 σ : SG) (r : Nat) (m y : Int) (a b c d e : Int32) : Prop := (∀ i : Int, 0 ≤ i → i < y → ci σ r (m + i) = b4 (sel5 a b c d e (i / 4)) (i % 4)) ∧ ∀ i : Int, 0 ≤ i → i < m → ci σ r i = ci σ0 r i
theorem FDP_0 {r : Nat} {m y : Int} {a b c d e : Int32} (h : y = 0) (hs : ∀ i : Int, ci σ r i = ci σ0 r i) : FDP σ0 σ r m y a b c d e := ⟨fun j j0 j1 => absurd j0 (by omega), fun i _ _ => hs i⟩
theorem FDP_s {r : Nat} {m y y' J q4 r4 : Int} {a b c d e z x : Int32} (g : FDP σ0 σ r m y a b c d e) (h1 : (σ' r)[J.toNat]? = some (Value.int z)) (h2 : ∀ b q, (b ≠ r ∨ q ≠ J.toNat) → (σ' b)[q]? = (σ b)[q]?) (hJ : J = m + y) (m0 : 0 ≤ m) (y0 : 0 ≤ y) (hx : x = sel5 a b c d e q4) (hz : z.toInt = b4 x r4) (hq : q4 = y / 4) (hr : r4 = y % 4) (e' : y' = y + 1) : FDP σ0 σ' r m y' a b c d e := by
  subst hx hq hr
  refine ⟨fun j j0 j1 => ?_, fun i i0 h => ?_⟩
  · rw [ci_st h1 h2 (by omega) (m + j) (by omega)]
    by_cases q : m + j = J
    · rw [if_pos q, hz, show j = y by omega]
    · rw [if_neg q]; exact g.1 j j0 (by omega)
  · rw [ci_st h1 h2 (by omega) i i0, if_neg (by omega)]
    exact g.2 i i0 h
theorem FDP_5 {r : Nat} {m : Int} {a b c d e : Int32} (m0 : 0 ≤ m) (g1 : APB σ0 σ1 r m 4 a) (g2 : APB σ1 σ2 r (m + 4) 4 b) (g3 : APB σ2 σ3 r (m + 8) 4 c) (g4 : APB σ3 σ4 r (m + 12) 4 d) (g5 : APB σ4 σ5 r (m + 16) 4 e) : FDP σ0 σ5 r m 20 a b c d e := by
  refine ⟨fun i i0 i1 => ?_, fun i i0 h => ?_⟩
  · unfold sel5
    rcases (show i / 4 = 0 ∨ i / 4 = 1 ∨ i / 4 = 2 ∨ i / 4 = 3 ∨ i / 4 = 4 by omega) with q | q | q | q | q
    · rw [if_pos q, g5.2 _ (by omega) (by omega), g4.2 _ (by omega) (by omega), g3.2 _ (by omega) (by omega), g2.2 _ (by omega) (by omega), ← g1.1 (i % 4) (by omega) (by omega)]; congr 1; omega
    · rw [if_neg (by omega), if_pos q, g5.2 _ (by omega) (by omega), g4.2 _ (by omega) (by omega), g3.2 _ (by omega) (by omega), ← g2.1 (i % 4) (by omega) (by omega)]; congr 1; omega
    · rw [if_neg (by omega), if_neg (by omega), if_pos q, g5.2 _ (by omega) (by omega), g4.2 _ (by omega) (by omega), ← g3.1 (i % 4) (by omega) (by omega)]; congr 1; omega
    · rw [if_neg (by omega), if_neg (by omega), if_neg (by omega), if_pos q, g5.2 _ (by omega) (by omega), ← g4.1 (i % 4) (by omega) (by omega)]; congr 1; omega
    · rw [if_neg (by omega), if_neg (by omega), if_neg (by omega), if_neg (by omega), ← g5.1 (i % 4) (by omega) (by omega)]; congr 1; omega
  · rw [g5.2 i i0 (by omega), g4.2 i i0 (by omega), g3.2 i i0 (by omega), g2.2 i i0 (by omega), g1.2 i i0 (by omega)]
theorem FV_sel {r : Nat} {a b c d e z : Int32} {q : Int} (h0 : (σ r)[((0 : Int)).toNat]? = some (Value.int a)) (h1 : (σ r)[((1 : Int)).toNat]? = some (Value.int b)) (h2 : (σ r)[((2 : Int)).toNat]? = some (Value.int c)) (h3 : (σ r)[((3 : Int)).toNat]? = some (Value.int d)) (h4 : (σ r)[((4 : Int)).toNat]? = some (Value.int e)) (hz : (σ r)[q.toNat]? = some (Value.int z)) (q0 : 0 ≤ q) (q4 : q ≤ 4) : z = sel5 a b c d e q := by
  have k : ∀ {o : Option Value} {x y : Int32}, o = some (Value.int x) → o = some (Value.int y) → x = y := fun p1 p2 => by rw [p1] at p2; injection p2 with p3; injection p3
  unfold sel5
  rcases (show q = 0 ∨ q = 1 ∨ q = 2 ∨ q = 3 ∨ q = 4 by omega) with w | w | w | w | w <;> subst w
  · exact k hz h0
  · exact k hz h1
  · exact k hz h2
  · exact k hz h3
  · exact k hz h4
/-- both tapes hold the same bytes -/
def TAPb (σ : SG) (t : Int) : Prop := ∀ i : Int, 0 ≤ i → i < t → ci σ 2 i = ci σ 163 i
theorem APB_d {r : Nat} {m y m' y' : Int} {x : Int32} (g : APB σ0 σ r m y x) (hm : m' = m) (hy : y' = y) : APB σ0 σ r m' y' x := by subst hm hy; exact g
theorem FDP_c {r : Nat} {m y y' : Int} {a b c d e : Int32} (g : FDP σ0 σ r m y a b c d e) (h : y' = y) : FDP σ0 σ r m y' a b c d e := by subst h; exact g
theorem FDP_ne {r q n : Nat} {m y : Int} {a b c d e : Int32} (g : FDP σ0 σ r m y a b c d e) (h2 : ∀ b' q', (b' ≠ q ∨ q' ≠ n) → (σ' b')[q']? = (σ b')[q']?) (hb : r ≠ q) : FDP σ0 σ' r m y a b c d e := ⟨fun i i0 i1 => by rw [ci_ne h2 hb]; exact g.1 i i0 i1, fun i i0 h => by rw [ci_ne h2 hb]; exact g.2 i i0 h⟩
end BYQ
end
/-! 32.l.rdl -/
section
section RDL
variable {By : Int → Int} {Nb : Int} {σ σ1 σ2 : SG} {W W' : List (Nat × Nat)}
/-- the two tapes, the two faults, and the plans' own rows -/
def RDL (σ : SG) : Prop := ∃ t : Int32, (σ 1)[1]? = some (Value.int t) ∧ (σ 159)[5]? = some (Value.int t) ∧ TAPb σ t.toInt ∧ ci σ 3 5 = ci σ 159 12 ∧ ci σ 3 6 = ci σ 159 13 ∧ FXP σ 18 ∧ FXP σ 44
def RDF (W : List (Nat × Nat)) : Bool := !W.contains (3, 5) && !W.contains (3, 6) && !W.contains (35, 12) && !W.contains (35, 13) && FXW W
def RDW (W : List (Nat × Nat)) : Bool := !W.contains (1, 1) && !W.contains (2, 0) && !W.contains (35, 5) && !W.contains (39, 0) && RDF W
theorem kept {a g j : Nat} {v : Value} (h : Fr W σ σ1) (ha : TG a = g) (hw : W.contains (g, SL g j) = false) (k : (σ a)[j]? = some v) : (σ1 a)[j]? = some v := (h _ _ (inW ha hw)).trans k
theorem RDF_ok (h : Fr W σ σ1) (hw : RDF W = true) : ci σ1 3 5 = ci σ 3 5 ∧ ci σ1 3 6 = ci σ 3 6 ∧ ci σ1 159 12 = ci σ 159 12 ∧ ci σ1 159 13 = ci σ 159 13 ∧ (FXP σ 18 → FXP σ1 18) ∧ (FXP σ 44 → FXP σ1 44) := by
  unfold RDF at hw
  simp only [Bool.and_eq_true] at hw
  exact ⟨f3 (j := 5) h (by omega) (nq _ hw.1.1.1.1), f3 (j := 6) h (by omega) (nq _ hw.1.1.1.2), f159 (j := 12) h (by omega) (nq _ hw.1.1.2), f159 (j := 13) h (by omega) (nq _ hw.1.2), fun x => FXP_fr (Or.inl rfl) x h hw.2, fun x => FXP_fr (Or.inr rfl) x h hw.2⟩
theorem RDL_fr (H : RDL σ) (h : Fr W σ σ1) (h' : Fr W' σ1 σ2) (hw : RDW W = true) (hw' : RDW W' = true) : RDL σ2 := by
  unfold RDW at hw hw'
  simp only [Bool.and_eq_true] at hw hw'
  obtain ⟨t, t1, t2, b, f5, f6, x1, x2⟩ := H
  have a := RDF_ok h hw.2
  have c := RDF_ok h' hw'.2
  refine ⟨t, kept h' tgz_1 (nq _ hw'.1.1.1.1) (kept h tgz_1 (nq _ hw.1.1.1.1) t1), kept h' tgz_159 (nq _ hw'.1.1.2) (kept h tgz_159 (nq _ hw.1.1.2) t2), fun i i0 i1 => ?_, ?_, ?_, c.2.2.2.2.1 (a.2.2.2.2.1 x1), c.2.2.2.2.2 (a.2.2.2.2.2 x2)⟩
  · have e1 : ∀ {V : List (Nat × Nat)} {τ τ' : SG}, Fr V τ τ' → (!V.contains (2, 0)) = true → ci τ' 2 i = ci τ 2 i := fun h hw => ci_fr h tgz_2 (by rw [Bool.and_eq_true]; exact ⟨by decide +kernel, hw⟩) i
    have e2 : ∀ {V : List (Nat × Nat)} {τ τ' : SG}, Fr V τ τ' → (!V.contains (39, 0)) = true → ci τ' 163 i = ci τ 163 i := fun h hw => ci_fr h tgz_163 (by rw [Bool.and_eq_true]; exact ⟨by decide +kernel, hw⟩) i
    rw [e1 h' hw'.1.1.1.2, e1 h hw.1.1.1.2, e2 h' hw'.1.2, e2 h hw.1.2]; exact b i i0 i1
  · rw [c.1, a.1, c.2.2.1, a.2.2.1]; exact f5
  · rw [c.2.1, a.2.1, c.2.2.2.1, a.2.2.2.1]; exact f6
def RDB (W : List (Nat × Nat)) : Bool := !W.contains (2, 0) && !W.contains (39, 0) && RDF W
/-- the tape is cut -/
theorem RDL_end {t v1 v2 : Int32} (H : RDL σ) (h : Fr W σ σ1) (h' : Fr W' σ1 σ2) (hw : RDB W = true) (hw' : RDB W' = true) (t1 : (σ 1)[1]? = some (Value.int t)) (p1 : (σ2 1)[1]? = some (Value.int v1)) (p2 : (σ2 159)[5]? = some (Value.int v2)) (e : v2.toInt = v1.toInt) (le : v1.toInt ≤ t.toInt) : RDL σ2 := by
  unfold RDB at hw hw'
  simp only [Bool.and_eq_true] at hw hw'
  obtain ⟨t', t1', t2, b, f5, f6, x1, x2⟩ := H
  rw [t1] at t1'
  injection t1' with t1'; injection t1' with t1'; subst t1'
  have e := Int32.toInt_inj.mp e
  subst e
  have a := RDF_ok h hw.2
  have c := RDF_ok h' hw'.2
  refine ⟨v2, p1, p2, fun i i0 i1 => ?_, ?_, ?_, c.2.2.2.2.1 (a.2.2.2.2.1 x1), c.2.2.2.2.2 (a.2.2.2.2.2 x2)⟩
  · have e1 : ∀ {V : List (Nat × Nat)} {τ τ' : SG}, Fr V τ τ' → (!V.contains (2, 0)) = true → ci τ' 2 i = ci τ 2 i := fun h hw => ci_fr h tgz_2 (by rw [Bool.and_eq_true]; exact ⟨by decide +kernel, hw⟩) i
    have e2 : ∀ {V : List (Nat × Nat)} {τ τ' : SG}, Fr V τ τ' → (!V.contains (39, 0)) = true → ci τ' 163 i = ci τ 163 i := fun h hw => ci_fr h tgz_163 (by rw [Bool.and_eq_true]; exact ⟨by decide +kernel, hw⟩) i
    rw [e1 h' hw'.1.1, e1 h hw.1.1, e2 h' hw'.1.2, e2 h hw.1.2]; exact b i i0 (by omega)
  · rw [c.1, a.1, c.2.2.1, a.2.2.1]; exact f5
  · rw [c.2.1, a.2.1, c.2.2.2.1, a.2.2.2.1]; exact f6
def RDE (W : List (Nat × Nat)) : Bool := !W.contains (39, 0) && RDF W
def RDE' (W : List (Nat × Nat)) : Bool := !W.contains (2, 0) && RDF W
/-- twenty bytes more -/
theorem RDL_feed {t v1 v2 a b c d e a' b' c' d' e' : Int32} (H : RDL σ) (h : Fr W σ σ1) (h' : Fr W' σ1 σ2) (hw : RDE W = true) (hw' : RDE' W' = true) (t1 : (σ 1)[1]? = some (Value.int t)) (t0 : 0 ≤ t.toInt) (p1 : (σ2 1)[1]? = some (Value.int v1)) (p2 : (σ2 159)[5]? = some (Value.int v2)) (ev : v2.toInt = v1.toInt) (hv : (t.toInt ≤ 1580 → v1.toInt = t.toInt + 20) ∧ (1580 < t.toInt → v1.toInt = t.toInt)) (Ec : (t.toInt ≤ 1580 → FDP σ σ1 2 t.toInt 20 a b c d e) ∧ (1580 < t.toInt → ∀ i : Int, ci σ1 2 i = ci σ 2 i)) (Em : (t.toInt ≤ 1580 → FDP σ1 σ2 163 t.toInt 20 a' b' c' d' e') ∧ (1580 < t.toInt → ∀ i : Int, ci σ2 163 i = ci σ1 163 i)) (ea : a'.toInt = a.toInt) (eb : b'.toInt = b.toInt) (ec : c'.toInt = c.toInt) (ed : d'.toInt = d.toInt) (ee : e'.toInt = e.toInt) : RDL σ2 := by
  unfold RDE at hw
  unfold RDE' at hw'
  rw [Bool.and_eq_true] at hw hw'
  obtain ⟨t', t1', t2, bb, f5, f6, x1, x2⟩ := H
  rw [t1] at t1'
  injection t1' with t1'; injection t1' with t1'; subst t1'
  obtain rfl := Int32.toInt_inj.mp ev
  obtain rfl := Int32.toInt_inj.mp ea
  obtain rfl := Int32.toInt_inj.mp eb
  obtain rfl := Int32.toInt_inj.mp ec
  obtain rfl := Int32.toInt_inj.mp ed
  obtain rfl := Int32.toInt_inj.mp ee
  have q := RDF_ok h hw.2
  have r := RDF_ok h' hw'.2
  have g1 (i : Int) : ci σ1 163 i = ci σ 163 i := ci_fr h tgz_163 (by rw [Bool.and_eq_true]; exact ⟨by decide +kernel, hw.1⟩) i
  have g2 (i : Int) : ci σ2 2 i = ci σ1 2 i := ci_fr h' tgz_2 (by rw [Bool.and_eq_true]; exact ⟨by decide +kernel, hw'.1⟩) i
  refine ⟨v2, p1, p2, fun i i0 i1 => ?_, ?_, ?_, r.2.2.2.2.1 (q.2.2.2.2.1 x1), r.2.2.2.2.2 (q.2.2.2.2.2 x2)⟩
  · rw [g2]
    by_cases z : t.toInt ≤ 1580
    · have F := Ec.1 z
      have G := Em.1 z
      have := hv.1 z
      by_cases y : i < t.toInt
      · rw [F.2 i i0 y, G.2 i i0 y, g1]; exact bb i i0 y
      · have k1 := F.1 (i - t.toInt) (by omega) (by omega)
        have k2 := G.1 (i - t.toInt) (by omega) (by omega)
        rw [show t.toInt + (i - t.toInt) = i by omega] at k1 k2
        rw [k1, k2]
    · have := hv.2 (by omega)
      rw [Ec.2 (by omega), Em.2 (by omega), g1]; exact bb i i0 (by omega)
  · rw [r.1, q.1, r.2.2.1, q.2.2.1]; exact f5
  · rw [r.2.1, q.2.1, r.2.2.2.1, q.2.2.2.1]; exact f6
theorem PLA_of {p : Nat} (h : TG p = 18) : PLA p := by
  have k : ∀ q : Fin 181, TG q.val = 18 → q.val = 18 ∨ q.val = 44 := by decide +kernel
  by_cases z : p < 181
  · exact k ⟨p, z⟩ h
  · exfalso
    have : TG p = 999 := by
      have l : TAGS.length = 181 := by decide +kernel
      unfold TG; rw [List.getD_eq_getElem?_getD, List.getElem?_eq_none (by omega)]; rfl
    omega
theorem FXP_p {p : Nat} (H : RDL σ) (h : TG p = 18) : FXP σ p := by
  obtain ⟨t, -, -, -, -, -, x1, x2⟩ := H
  rcases PLA_of h with e | e <;> subst e
  · exact x1
  · exact x2
theorem by_ty {i : Int} (hσ : WT σ) (i0 : 0 ≤ i) (i1 : i < 1600) : -128 ≤ ci σ 2 i ∧ ci σ 2 i ≤ 127 := by
  obtain ⟨y, h, h1, h2⟩ := WT_peekJ (J := i) (l := -128) (u := 127) hσ tgz_2 (by decide +kernel) i0 (lnI (by decide +kernel : LN _ = 1600) (by omega)) (FTsgl (by decide +kernel))
  have : ci σ 2 i = y.toInt := ci_at h rfl
  omega
theorem TPc_R {t : Int32} (hσ : WT σ) (t0 : 0 ≤ t.toInt) (t1 : t.toInt ≤ 1600) (h : (σ 1)[1]? = some (Value.int t)) : TPc (ci σ 2) t.toInt σ := ⟨t0, t1, ci_at (j := 1) h rfl, fun i i0 i1 => ⟨rfl, by_ty hσ i0 (by omega)⟩⟩
theorem TBm_R {t : Int32} (H : RDL σ) (hσ : WT σ) (t0 : 0 ≤ t.toInt) (t1 : t.toInt ≤ 1600) (k1 : (σ 1)[1]? = some (Value.int t)) (h : Fr W σ σ1) (hw : (!W.contains (35, 5) && !W.contains (39, 0)) = true) : TBm (ci σ 2) t.toInt σ1 := by
  rw [Bool.and_eq_true] at hw
  obtain ⟨t', t1', t2, b, -⟩ := H
  rw [k1] at t1'
  injection t1' with t1'; injection t1' with t1'; subst t1'
  refine ⟨t0, t1, ?_, fun i i0 i1 => ⟨?_, by_ty hσ i0 (by omega)⟩⟩
  · exact ci_at (j := 5) (kept h tgz_159 (nq _ hw.1) t2) rfl
  · rw [ci_fr h tgz_163 (by rw [Bool.and_eq_true]; exact ⟨by decide +kernel, hw.2⟩)]; exact (b i i0 i1).symm
/-- both have read -/
theorem RDL_sch {t v1 v2 : Int32} {r r' : Int} (H : RDL σ) (h : Fr W σ σ1) (h' : Fr W' σ1 σ2) (hw : FXW W = true) (hw' : (RDF W' || (FXW W' && !W'.contains (3, 5) && !W'.contains (3, 6))) = true) (p1 : (σ2 1)[1]? = some (Value.int v1)) (p2 : (σ2 159)[5]? = some (Value.int v2)) (e1 : v1.toInt = 0) (e2 : v2.toInt = 0) (Ec : SCC By Nb σ1 r) (Em : MSC By Nb σ1 σ2 r') : RDL σ2 := by
  obtain ⟨t', t1', t2, b, -, -, x1, x2⟩ := H
  have ev : v2 = v1 := Int32.toInt_inj.mp (by omega)
  subst ev
  have hz : FXW W' = true ∧ W'.contains (3, 5) = false ∧ W'.contains (3, 6) = false := by
    rw [Bool.or_eq_true] at hw'
    rcases hw' with k | k
    · unfold RDF at k; simp only [Bool.and_eq_true] at k; exact ⟨k.2, nq _ k.1.1.1.1, nq _ k.1.1.1.2⟩
    · simp only [Bool.and_eq_true] at k; exact ⟨k.1.1, nq _ k.1.2, nq _ k.2⟩
  refine ⟨v2, p1, p2, fun i i0 i1 => by omega, ?_, ?_, FXP_fr (Or.inl rfl) (FXP_fr (Or.inl rfl) x1 h hw) h' hz.1, FXP_fr (Or.inr rfl) (FXP_fr (Or.inr rfl) x2 h hw) h' hz.1⟩
  · rw [show ci σ2 3 5 = ci σ1 3 5 from f3 (j := 5) h' (by omega) hz.2.1, Ec.1, Em.1]
  · rw [show ci σ2 3 6 = ci σ1 3 6 from f3 (j := 6) h' (by omega) hz.2.2, Ec.2.1, Em.2.1]
theorem SC_eq {r r' : Int} (Ec : SCC By Nb σ1 r) (Em : MSC By Nb σ1 σ2 r') : r' = r := by
  by_cases z : (fRead By Nb 1601 S00).1 = 0
  · rw [Ec.2.2.2 z, (Em.2.2.2 z).1]
  · rw [Ec.2.2.1 z, (Em.2.2.1 z).1]
end RDL
end
/-! 32.la.bits -/
section
section BTS
/-! bits of small numbers, told by numbers -/
def aN (X Y : Int) : Int := ((X.toNat &&& Y.toNat : Nat) : Int)
def oN (X Y : Int) : Int := ((X.toNat ||| Y.toNat : Nat) : Int)
def xN (X Y : Int) : Int := ((X.toNat ^^^ Y.toNat : Nat) : Int)
def btI (A I : Int) : Int := A / pI I % 2
theorem tn32 {x : Int32} {X : Int} (h : x.toInt = X) (h0 : 0 ≤ X) : x.toBitVec.toNat = X.toNat ∧ X.toNat < 2147483648 := by
  have e : x.toInt = x.toBitVec.toInt := rfl
  have l := x.toBitVec.isLt
  rw [e, BitVec.toInt_eq_toNat_cond] at h
  split at h <;> omega
theorem bv32 {x : Int32} {n : Nat} (h : x.toBitVec.toNat = n) (hn : n < 2147483648) : x.toInt = (n : Int) := by
  have e : x.toInt = x.toBitVec.toInt := rfl
  rw [e, BitVec.toInt_eq_toNat_cond, if_pos (by omega), h]
theorem and_v {z x y : Int32} {X Y : Int} (hz : z = x &&& y) (hX : x.toInt = X) (hY : y.toInt = Y) (h0 : 0 ≤ X) (h2 : 0 ≤ Y) : z.toInt = aN X Y := by
  obtain ⟨a, a'⟩ := tn32 hX h0
  obtain ⟨b, b'⟩ := tn32 hY h2
  have l : X.toNat &&& Y.toNat ≤ X.toNat := Nat.and_le_left
  unfold aN
  refine bv32 ?_ (by omega)
  rw [hz, Int32.toBitVec_and, BitVec.toNat_and, a, b]
theorem aN_le {X Y : Int} (h0 : 0 ≤ X) (h2 : 0 ≤ Y) : 0 ≤ aN X Y ∧ aN X Y ≤ X ∧ aN X Y ≤ Y := by
  have l : X.toNat &&& Y.toNat ≤ X.toNat := Nat.and_le_left
  have r : X.toNat &&& Y.toNat ≤ Y.toNat := Nat.and_le_right
  unfold aN
  omega
theorem or_v {z x y : Int32} {X Y : Int} (hz : z = x ||| y) (hX : x.toInt = X) (hY : y.toInt = Y) (h0 : 0 ≤ X) (h2 : 0 ≤ Y) : z.toInt = oN X Y := by
  obtain ⟨a, a'⟩ := tn32 hX h0
  obtain ⟨b, b'⟩ := tn32 hY h2
  have l : X.toNat ||| Y.toNat < 2 ^ 31 := Nat.or_lt_two_pow (by omega) (by omega)
  unfold oN
  refine bv32 ?_ (by omega)
  rw [hz, Int32.toBitVec_or, BitVec.toNat_or, a, b]
theorem oN_lt {X Y : Int} (k : Nat) (h0 : 0 ≤ X) (h2 : 0 ≤ Y) (hX : X < ((2 ^ k : Nat) : Int)) (hY : Y < ((2 ^ k : Nat) : Int)) : 0 ≤ oN X Y ∧ oN X Y < ((2 ^ k : Nat) : Int) := by
  have l : X.toNat ||| Y.toNat < 2 ^ k := Nat.or_lt_two_pow (by omega) (by omega)
  unfold oN
  omega
/-- what is not in the other -/
theorem ones32 (i : Nat) (hi : i < 32) : (4294967295#32).getLsbD i = true := by
  have k : ∀ j : Fin 32, (4294967295#32).getLsbD j.val = true := by decide
  exact k ⟨i, hi⟩
theorem bv_dis (x y : BitVec 32) : (x &&& y) &&& (x &&& (y ^^^ 4294967295#32)) = 0#32 := by
  apply BitVec.eq_of_getLsbD_eq
  intro i hi
  simp only [BitVec.getLsbD_and, BitVec.getLsbD_xor, ones32 i hi, BitVec.getLsbD_zero]
  cases x.getLsbD i <;> cases y.getLsbD i <;> rfl
theorem bv_uni (x y : BitVec 32) : (x &&& y) ||| (x &&& (y ^^^ 4294967295#32)) = x := by
  apply BitVec.eq_of_getLsbD_eq
  intro i hi
  simp only [BitVec.getLsbD_or, BitVec.getLsbD_and, BitVec.getLsbD_xor, ones32 i hi]
  cases x.getLsbD i <;> cases y.getLsbD i <;> rfl
theorem bv_sum (x y : BitVec 32) : (x &&& y).toNat + (x &&& (y ^^^ 4294967295#32)).toNat = x.toNat := by
  rw [← BitVec.toNat_add_of_and_eq_zero (bv_dis x y), BitVec.add_eq_or_of_and_eq_zero _ _ (bv_dis x y), bv_uni]
theorem andn_v {z w x y : Int32} {X Y : Int} (hz : z = x &&& w) (hw : w = y ^^^ (Int32.ofInt (-1))) (hX : x.toInt = X) (hY : y.toInt = Y) (h0 : 0 ≤ X) (h2 : 0 ≤ Y) : z.toInt = X - aN X Y := by
  obtain ⟨a, a'⟩ := tn32 hX h0
  obtain ⟨b, b'⟩ := tn32 hY h2
  have s := bv_sum x.toBitVec y.toBitVec
  have m : (Int32.ofInt (-1)).toBitVec = 4294967295#32 := by decide
  have e : z.toBitVec = x.toBitVec &&& (y.toBitVec ^^^ 4294967295#32) := by
    rw [hz, hw, Int32.toBitVec_and, Int32.toBitVec_xor, m]
  rw [← e, BitVec.toNat_and, a, b] at s
  have k := bv32 (x := z) rfl (by omega)
  unfold aN
  omega
/-! shifts -/
theorem shl1_31 : ∀ j : Fin 31, ((Int32.ofInt 1) <<< ((Int32.ofInt (j.val : Int)) &&& 31)).toInt = ((2 ^ j.val : Nat) : Int) := by decide +kernel
theorem shl_v {z y : Int32} {Y : Int} (hz : z = (Int32.ofInt 1) <<< (y &&& 31)) (hY : y.toInt = Y) (h0 : 0 ≤ Y) (h1 : Y ≤ 30) : z.toInt = pI Y := by
  have a : y = Int32.ofInt ((Y.toNat : Nat) : Int) := ofNat_of (by omega)
  have c := shl1_31 ⟨Y.toNat, by omega⟩
  simp only at c
  rw [← a, ← hz] at c
  unfold pI
  exact c
theorem pI_pos (Y : Int) : 1 ≤ pI Y := by
  unfold pI
  have := Nat.two_pow_pos Y.toNat
  omega
theorem pI_mono {X Y : Int} (h : X ≤ Y) : pI X ≤ pI Y := by
  unfold pI
  have := Nat.pow_le_pow_right (show 1 ≤ 2 by decide) (show X.toNat ≤ Y.toNat by omega)
  omega
theorem smod_all : ∀ j : Fin 31, (((Int32.ofInt (j.val : Int)) &&& 31).toBitVec.smod 32).toNat = j.val := by decide +kernel
theorem shr_v {z x y : Int32} {X Y : Int} (hz : z = x >>> (y &&& 31)) (hX : x.toInt = X) (hY : y.toInt = Y) (h2 : 0 ≤ Y) (h3 : Y ≤ 30) : z.toInt = X / pI Y := by
  have a : y = Int32.ofInt ((Y.toNat : Nat) : Int) := ofNat_of (by omega)
  have c := smod_all ⟨Y.toNat, by omega⟩
  simp only at c
  rw [← a] at c
  rw [hz, pk_shr x (y &&& 31) Y.toNat c, Int.shiftRight_eq_div_pow, hX]
  rfl
theorem and1_v {z x y : Int32} {X : Int} (hz : z = x &&& y) (hX : x.toInt = X) (hY : y.toInt = 1) (h0 : 0 ≤ X) : z.toInt = X % 2 := by
  rw [and_v hz hX hY h0 (by omega)]
  unfold aN
  rw [show (1 : Int).toNat = 1 from rfl, Nat.and_one_is_mod]
  omega
theorem btI_rng (A I : Int) : 0 ≤ btI A I ∧ btI A I ≤ 1 := by
  unfold btI
  omega
theorem bit_v {z x y : Int32} {A I X : Int} (hz : z = x &&& y) (hX : x.toInt = X) (e : X = A / pI I) (hY : y.toInt = 1) (h0 : 0 ≤ A) : z.toInt = btI A I := by
  subst e
  unfold btI
  exact and1_v hz hX hY (Int.ediv_nonneg h0 (by have := pI_pos I; omega))
theorem oN_0 {A : Int} (h0 : 0 ≤ A) : oN A 0 = A := by
  unfold oN
  rw [show (0 : Int).toNat = 0 from rfl, Nat.or_zero]
  omega
end BTS
end
/-! 32.lb.full -/
section
section FUL
variable {σ0 σ σ' σ1 σ2 : SG} {W W' : List (Nat × Nat)} {a : Nat} {w w' : Int → Int}
/-! plans of any kind: the two of the class, the three images -/
def PLI (a : Nat) : Prop := a = 72 ∨ a = 98 ∨ a = 124
def PLB (a : Nat) : Prop := a = 18 ∨ a = 44 ∨ a = 72 ∨ a = 98 ∨ a = 124
theorem PLA_B (h : PLA a) : PLB a := by
  unfold PLA at h
  unfold PLB
  omega
theorem PLI_B (h : PLI a) : PLB a := by
  unfold PLI at h
  unfold PLB
  omega
theorem plb_tags : ∀ a : Fin 130, (a.val = 18 ∨ a.val = 44 ∨ a.val = 72 ∨ a.val = 98 ∨ a.val = 124) → TG (a.val + 1) = 19 ∧ TG (a.val + 2) = 20 ∧ TG (a.val + 3) = 21 ∧ TG (a.val + 4) = 22 ∧ TG (a.val + 5) = 23 ∧ TG (a.val + 6) = 24 ∧ TG (a.val + 7) = 25 ∧ TG (a.val + 8) = 26 ∧ TG (a.val + 9) = 27 ∧ ∀ d : Fin 4, TG (a.val + 10 + 4 * d.val) = 28 ∧ TG (a.val + 11 + 4 * d.val) = 20 ∧ TG (a.val + 12 + 4 * d.val) = 21 ∧ TG (a.val + 13 + 4 * d.val) = 22 := by decide +kernel
theorem PLbt (h : PLB a) : TG (a + 1) = 19 ∧ TG (a + 2) = 20 ∧ TG (a + 3) = 21 ∧ TG (a + 4) = 22 ∧ TG (a + 5) = 23 ∧ TG (a + 6) = 24 ∧ TG (a + 7) = 25 ∧ TG (a + 8) = 26 ∧ TG (a + 9) = 27 ∧ ∀ d : Nat, d < 4 → TG (a + 10 + 4 * d) = 28 ∧ TG (a + 11 + 4 * d) = 20 ∧ TG (a + 12 + 4 * d) = 21 ∧ TG (a + 13 + 4 * d) = 22 := by
  have h' : a = 18 ∨ a = 44 ∨ a = 72 ∨ a = 98 ∨ a = 124 := h
  have k := plb_tags ⟨a, by omega⟩ h'
  obtain ⟨k1, k2, k3, k4, k5, k6, k7, k8, k9, kd⟩ := k
  exact ⟨k1, k2, k3, k4, k5, k6, k7, k8, k9, fun d hd => kd ⟨d, hd⟩⟩
theorem pli_tags : TG 72 = 31 ∧ TG 98 = 31 ∧ TG 124 = 31 := by decide +kernel
theorem PLI_t (h : PLI a) : TG a = 31 := by
  rcases h with h | h | h <;> subst h
  · exact pli_tags.1
  · exact pli_tags.2.1
  · exact pli_tags.2.2
theorem PLI_of {p : Nat} (h : TG p = 31) : PLI p := by
  have k : ∀ q : Fin 181, TG q.val = 31 → q.val = 72 ∨ q.val = 98 ∨ q.val = 124 := by decide +kernel
  by_cases z : p < 181
  · exact k ⟨p, z⟩ h
  · exfalso
    have : TG p = 999 := by
      have l : TAGS.length = 181 := by decide +kernel
      unfold TG; rw [List.getD_eq_getElem?_getD, List.getElem?_eq_none (by omega)]; rfl
    omega
/-- an image's own rows stay where they are -/
def FXI (W : List (Nat × Nat)) : Bool := !W.contains (31, 4) && !W.contains (31, 5) && !W.contains (31, 9) && !W.contains (31, 10) && !W.contains (31, 12) && !W.contains (31, 13) && !W.contains (31, 15) && !W.contains (19, 0) && !W.contains (20, 0) && !W.contains (20, 1) && !W.contains (28, 0)
theorem FXI_fr (hp : PLI a) (H : FXP σ a) (h : Fr W σ σ') (hw : FXI W = true) : FXP σ' a := by
  unfold FXI at hw
  simp only [Bool.and_eq_true] at hw
  obtain ⟨⟨⟨⟨⟨⟨⟨⟨⟨⟨w4, w5⟩, w9⟩, w10⟩, w12⟩, w13⟩, w15⟩, wd⟩, wl0⟩, wl1⟩, wdr⟩ := hw
  have t0 := PLI_t hp
  obtain ⟨t1, t2, t3, t4, t5, t6, t7, t8, t9, td⟩ := PLbt (PLI_B hp)
  obtain ⟨h4, h5, h9, h10, h12, h13, h15, e0, e1, hd⟩ := H
  refine ⟨(h _ _ (inW t0 (nq _ w4))).trans h4, (h _ _ (inW t0 (nq _ w5))).trans h5, (h _ _ (inW t0 (nq _ w9))).trans h9, (h _ _ (inW t0 (nq _ w10))).trans h10, (h _ _ (inW t0 (nq _ w12))).trans h12, (h _ _ (inW t0 (nq _ w13))).trans h13, (h _ _ (inW t0 (nq _ w15))).trans h15, (h _ _ (inW t2 (nq _ wl0))).trans e0, (h _ _ (inW t2 (nq _ wl1))).trans e1, fun d d4 => ?_⟩
  obtain ⟨a1, a2, a3, a4⟩ := hd d d4
  obtain ⟨b1, b2, b3, b4⟩ := td d d4
  exact ⟨(h _ _ (inWa t1 (by rw [Bool.and_eq_true]; exact ⟨by decide +kernel, wd⟩))).trans a1, (h _ _ (inW b1 (nq _ wdr))).trans a2, (h _ _ (inW b2 (nq _ wl0))).trans a3, (h _ _ (inW b2 (nq _ wl1))).trans a4⟩
/-! the block of one plan alone is written -/
def OUT (σ0 σ : SG) (p : Nat) : Prop := ∀ b q : Nat, 18 ≤ b → b < 150 → (b < p ∨ p + 26 ≤ b) → (σ b)[q]? = (σ0 b)[q]?
theorem OUT_0 {p : Nat} : OUT σ σ p := fun _ _ _ _ _ => rfl
theorem OUT_st {p b q : Nat} (H : OUT σ0 σ p) (h2 : ∀ b' q', (b' ≠ b ∨ q' ≠ q) → (σ' b')[q']? = (σ b')[q']?) (h : p ≤ b ∧ b < p + 26) : OUT σ0 σ' p := fun b' q' h1 h3 h4 => by
  rw [h2 b' q' (by omega)]; exact H b' q' h1 h3 h4
theorem OUT_cp {p b : Nat} (H : OUT σ0 σ p) (h2 : ∀ b' q' : Nat, b' ≠ b → (σ' b')[q']? = (σ b')[q']?) (h : p ≤ b ∧ b < p + 26) : OUT σ0 σ' p := fun b' q' h1 h3 h4 => by
  rw [h2 b' q' (by omega)]; exact H b' q' h1 h3 h4
theorem OUT_tr {p : Nat} (H : OUT σ0 σ p) (H' : OUT σ σ' p) : OUT σ0 σ' p := fun b q h1 h3 h4 => by
  rw [H' b q h1 h3 h4]; exact H b q h1 h3 h4
def OTW (W : List (Nat × Nat)) : Bool := W.all (fun q => decide (q.1 < 18) || decide (31 < q.1))
theorem blk_tags : ∀ b : Fin 150, 18 ≤ b.val → 18 ≤ TG b.val ∧ TG b.val ≤ 31 := by decide +kernel
theorem OTW_n {b q : Nat} (hw : OTW W = true) (h1 : 18 ≤ b) (h3 : b < 150) : W.contains (TG b, SL (TG b) q) = false := by
  have k := blk_tags ⟨b, h3⟩ h1
  simp only at k
  unfold OTW at hw
  rw [List.all_eq_true] at hw
  rw [Bool.eq_false_iff]
  intro z
  have z2 := hw _ (List.elem_iff.mp z)
  simp only [Bool.or_eq_true, decide_eq_true_eq] at z2
  omega
theorem OUT_fr {p : Nat} (H : OUT σ0 σ p) (h : Fr W σ σ') (hw : OTW W = true) : OUT σ0 σ' p := fun b q h1 h3 h4 => by
  rw [h b q (OTW_n hw h1 h3)]; exact H b q h1 h3 h4
theorem OUT_add {p s kn op : Nat} {m x y : Int} (H : OUT σ0 σ p) (P : ADDp σ σ' s kn op m x y) (h1 : p ≤ s ∧ s < p + 26) (h2 : p ≤ kn ∧ kn < p + 26) (h3 : p ≤ op ∧ op < p + 26) : OUT σ0 σ' p := fun b q b0 b1 b2 => by
  rw [P.2.2.2 b q (by omega) (by omega) (by omega)]; exact H b q b0 b1 b2
theorem OUT_pn {p b q g : Nat} (H : OUT σ0 σ p) (h2 : ∀ b' q', (b' ≠ b ∨ q' ≠ q) → (σ' b')[q']? = (σ b')[q']?) (hb : TG b = g) (hg : (decide (g < 18) || decide (31 < g)) = true) : OUT σ0 σ' p := fun b' q' h1 h3 h4 => by
  have k := blk_tags ⟨b', h3⟩ h1
  simp only at k
  simp only [Bool.or_eq_true, decide_eq_true_eq] at hg
  have : b' ≠ b := fun e => by rw [e, hb] at k; omega
  rw [h2 b' q' (Or.inl this)]; exact H b' q' h1 h3 h4
theorem OUT_bgn {p s l : Nat} {x y : Int} (H : OUT σ0 σ p) (P : BGNp σ σ' s l x y) (h1 : p ≤ s ∧ s < p + 26) (h2 : p ≤ l ∧ l < p + 26) : OUT σ0 σ' p := fun b q b0 b1 b2 => by
  rw [P.2.2.2.2 b q (by omega) (by omega) (by omega) (by omega)]; exact H b q b0 b1 b2
theorem NE_s {a n : Nat} (H : ∀ b q : Nat, b ≠ a → (σ b)[q]? = (σ0 b)[q]?) (h2 : ∀ b q, (b ≠ a ∨ q ≠ n) → (σ' b)[q]? = (σ b)[q]?) : ∀ b q : Nat, b ≠ a → (σ' b)[q]? = (σ0 b)[q]? := fun b q h => (h2 b q (Or.inl h)).trans (H b q h)
theorem PL_sep {p k : Nat} (hp : PLA p) (hk : PLI k) : k + 26 ≤ p ∨ p + 26 ≤ k := by
  unfold PLA at hp
  unfold PLI at hk
  omega
theorem KN_out {p k : Nat} {A : Int → Prop} (hk : PLB k) (hs : k + 26 ≤ p ∨ p + 26 ≤ k) (H : KN σ0 k w A) (O : OUT σ0 σ p) : KN σ k w A := fun i i0 i1 x => by
  rw [← H i i0 i1 x]
  have l := lc_0 i0 i1
  unfold PLB at hk
  exact ci_eq (O _ _ (by omega) (by omega) (by omega))
/-! what counts, when numbers change -/
theorem act_le (h2 : w' 2 ≤ w 2) (h3 : w' 3 ≤ w 3) (h4 : w' 4 ≤ w 4) (h5 : w' 5 ≤ w 5) (h6 : w' 6 ≤ w 6) (hd : ∀ d : Int, 0 ≤ d → d < 4 → w' (12 + 4 * d) ≤ w (12 + 4 * d)) {i : Int} (h : act w' i) : act w i := by
  unfold act at h
  rcases h with h | h | h | h | h | h | h
  · exact Or.inl h
  · exact Or.inr (Or.inl (by omega))
  · have := hd ((i - 26) / 24) (by omega) (by omega)
    exact Or.inr (Or.inr (Or.inl ⟨h.1, h.2.1, by omega, by omega⟩))
  · exact Or.inr (Or.inr (Or.inr (Or.inl (by omega))))
  · exact Or.inr (Or.inr (Or.inr (Or.inr (Or.inl (by omega)))))
  · exact Or.inr (Or.inr (Or.inr (Or.inr (Or.inr (Or.inl (by omega))))))
  · exact Or.inr (Or.inr (Or.inr (Or.inr (Or.inr (Or.inr (by omega))))))
theorem act_cg (e : ∀ i : Int, 0 ≤ i → i < 226 → w' i = w i) {i : Int} (h : act w' i) : act w i :=
  act_le (by rw [e 2 (by omega) (by omega)]; exact Int.le_refl _) (by rw [e 3 (by omega) (by omega)]; exact Int.le_refl _) (by rw [e 4 (by omega) (by omega)]; exact Int.le_refl _) (by rw [e 5 (by omega) (by omega)]; exact Int.le_refl _) (by rw [e 6 (by omega) (by omega)]; exact Int.le_refl _) (fun d d0 d4 => by rw [e (12 + 4 * d) (by omega) (by omega)]; exact Int.le_refl _) h
theorem KN_cg {p : Nat} (H : KN σ p w (act w)) (e : ∀ i : Int, 0 ≤ i → i < 226 → w' i = w i) : KN σ p w' (act w') := fun i i0 i1 x => by
  rw [e i i0 i1]; exact H i i0 i1 (act_cg e x)
theorem act_n6 {w : Int → Int} {m v i : Int} (hm : w 6 = m) (hv : v = m + 1) (h : act (uPd w 6 v) i) : act w i ∨ i = 166 + m := by
  have e2 : uPd w 6 v 2 = w 2 := if_neg (by omega)
  have e3 : uPd w 6 v 3 = w 3 := if_neg (by omega)
  have e4 : uPd w 6 v 4 = w 4 := if_neg (by omega)
  have e5 : uPd w 6 v 5 = w 5 := if_neg (by omega)
  have e6 : uPd w 6 v 6 = v := if_pos rfl
  unfold act at h
  rw [e2, e3, e4, e5, e6] at h
  rcases h with h | h | h | h | h | h | h
  · exact Or.inl (Or.inl h)
  · exact Or.inl (Or.inr (Or.inl h))
  · have e : uPd w 6 v (12 + 4 * ((i - 26) / 24)) = w (12 + 4 * ((i - 26) / 24)) := if_neg (by omega)
    rw [e] at h
    exact Or.inl (Or.inr (Or.inr (Or.inl h)))
  · exact Or.inl (Or.inr (Or.inr (Or.inr (Or.inl h))))
  · exact Or.inl (Or.inr (Or.inr (Or.inr (Or.inr (Or.inl h)))))
  · exact Or.inl (Or.inr (Or.inr (Or.inr (Or.inr (Or.inr (Or.inl h))))))
  · by_cases y : i - 166 < m
    · exact Or.inl (Or.inr (Or.inr (Or.inr (Or.inr (Or.inr (Or.inr ⟨h.1, by omega⟩))))))
    · exact Or.inr (by omega)
/-! a lesson comes by teach(), and is taken back -/
def okL (w : Int → Int) (d k o : Int) : Prop := 0 ≤ d ∧ d < w 2 ∧ 0 < w 7 ∧ 0 ≤ k ∧ k < pI (w 0) ∧ 0 ≤ o ∧ o ≤ 1
noncomputable def tcR (w : Int → Int) (d k o : Int) : Int := @ite _ (okL w d k o) (Classical.propDecidable _) (if 12 ≤ w (12 + 4 * d) then -3 else if 60 ≤ w 6 then -5 else w (12 + 4 * d) + 1) (-2)
def tcU (w : Int → Int) (d k o : Int) : Int → Int := uPd (uPd (uPd (uPd (uPd w (26 + 24 * d + 2 * w (12 + 4 * d)) k) (26 + 24 * d + 2 * w (12 + 4 * d) + 1) o) (12 + 4 * d) (w (12 + 4 * d) + 1)) (166 + w 6) d) 6 (w 6 + 1)
noncomputable def tcW (w : Int → Int) (d k o : Int) : Int → Int := @ite _ (okL w d k o ∧ w (12 + 4 * d) < 12 ∧ w 6 < 60) (Classical.propDecidable _) (tcU w d k o) w
theorem tcR_2 {d k o r : Int} (h : ¬ okL w d k o) (hr : r = -2) : r = tcR w d k o := by unfold tcR; rw [if_neg h]; exact hr
theorem tcR_3 {d k o r : Int} (h : okL w d k o) (h2 : 12 ≤ w (12 + 4 * d)) (hr : r = -3) : r = tcR w d k o := by unfold tcR; rw [if_pos h, if_pos h2]; exact hr
theorem tcR_5 {d k o r : Int} (h : okL w d k o) (h2 : w (12 + 4 * d) < 12) (h3 : 60 ≤ w 6) (hr : r = -5) : r = tcR w d k o := by unfold tcR; rw [if_pos h, if_neg (by omega), if_pos h3]; exact hr
theorem tcR_y {d k o r : Int} (h : okL w d k o) (h2 : w (12 + 4 * d) < 12) (h3 : w 6 < 60) (hr : r = w (12 + 4 * d) + 1) : r = tcR w d k o := by unfold tcR; rw [if_pos h, if_neg (by omega), if_neg (by omega)]; exact hr
theorem tcW_n {d k o : Int} (h : ¬ (okL w d k o ∧ w (12 + 4 * d) < 12 ∧ w 6 < 60)) : tcW w d k o = w := by unfold tcW; rw [if_neg h]
theorem tcW_y {d k o : Int} (h : okL w d k o) (h2 : w (12 + 4 * d) < 12) (h3 : w 6 < 60) : tcW w d k o = tcU w d k o := by unfold tcW; rw [if_pos ⟨h, h2, h3⟩]
theorem act_tc {d k o i : Int} (d0 : 0 ≤ d) (d4 : d < 4) (m0 : 0 ≤ w (12 + 4 * d)) (m1 : w (12 + 4 * d) < 12) (n0 : 0 ≤ w 6) (h : act (tcU w d k o) i) : (((act w i ∨ i = 26 + 24 * d + 2 * w (12 + 4 * d)) ∨ i = 26 + 24 * d + 2 * w (12 + 4 * d) + 1) ∨ i = 12 + 4 * d) ∨ i = 166 + w 6 ∨ i = 6 := by
  unfold tcU at h
  have h := act_n6 (m := w 6) (by
    unfold uPd
    rw [if_neg (by omega), if_neg (by omega), if_neg (by omega), if_neg (by omega)]) rfl h
  rcases h with h | h
  · have h := act_in (by omega) (by omega) h
    have h := act_ls (m := w (12 + 4 * d)) d0 d4 (by
      unfold uPd
      rw [if_neg (by omega), if_neg (by omega)]) rfl h
    rcases h with h | h | h
    · exact Or.inl (Or.inl (Or.inl (Or.inl (act_in (by omega) (by omega) (act_in (by omega) (by omega) h)))))
    · exact Or.inl (Or.inl (Or.inl (Or.inr h)))
    · exact Or.inl (Or.inl (Or.inr h))
  · exact Or.inr (Or.inl h)
def utD (w : Int → Int) : Int := w (166 + (w 6 - 1))
noncomputable def utR (w : Int → Int) : Int := if w 7 ≤ 0 then -2 else if w 6 ≤ 0 then -5 else utD w
def utU (w : Int → Int) : Int → Int := uPd (uPd w 6 (w 6 - 1)) (12 + 4 * utD w) (w (12 + 4 * utD w) - 1)
noncomputable def utW (w : Int → Int) : Int → Int := if w 7 ≤ 0 then w else if w 6 ≤ 0 then w else utU w
theorem act_ut {i : Int} (d0 : 0 ≤ utD w) (d4 : utD w < 4) (h : act (utU w) i) : act w i := by
  have e : ∀ x : Int, utU w x = if x = 12 + 4 * utD w then w (12 + 4 * utD w) - 1 else if x = 6 then w 6 - 1 else w x := fun x => rfl
  refine act_le ?_ ?_ ?_ ?_ ?_ (fun d x0 x4 => ?_) h
  · rw [e, if_neg (by omega), if_neg (by omega)]; exact Int.le_refl _
  · rw [e, if_neg (by omega), if_neg (by omega)]; exact Int.le_refl _
  · rw [e, if_neg (by omega), if_neg (by omega)]; exact Int.le_refl _
  · rw [e, if_neg (by omega), if_neg (by omega)]; exact Int.le_refl _
  · rw [e, if_neg (by omega), if_pos rfl]; omega
  · rw [e]
    by_cases z : d = utD w
    · subst z; rw [if_pos rfl]; omega
    · rw [if_neg (by omega), if_neg (by omega)]; exact Int.le_refl _
end FUL
end
/-! 32.lc.chg -/
section
section CHG
variable {σ0 σ σ' σ1 σ2 σ3 : SG} {W W' : List (Nat × Nat)} {a p : Nat} {w w' : Int → Int}
theorem lc_ts : ∀ m : Fin 60, lcO (166 + (m.val : Int)) = 9 ∧ lcB (166 + (m.val : Int)) = (m.val : Int) := by decide +kernel
theorem lc_t {m : Int} (m0 : 0 ≤ m) (m1 : m < 60) : lcO (166 + m) = 9 ∧ lcB (166 + m) = m := by
  have k := lc_ts ⟨m.toNat, by omega⟩
  simp only at k
  rw [show ((m.toNat : Nat) : Int) = m by omega] at k; exact k
theorem act_lk {d m : Int} (d0 : 0 ≤ d) (d4 : d < 4) (dn : d < w 2) (m0 : 0 ≤ m) (m1 : m < 12) (h : m < w (12 + 4 * d)) : act w (26 + 24 * d + 2 * m) := by
  refine Or.inr (Or.inr (Or.inl ⟨by omega, by omega, by omega, ?_⟩))
  rw [show (26 + 24 * d + 2 * m - 26) / 24 = d by omega]
  omega
theorem act_lo {d m : Int} (d0 : 0 ≤ d) (d4 : d < 4) (dn : d < w 2) (m0 : 0 ≤ m) (m1 : m < 12) (h : m < w (12 + 4 * d)) : act w (26 + 24 * d + 2 * m + 1) := by
  refine Or.inr (Or.inr (Or.inl ⟨by omega, by omega, by omega, ?_⟩))
  rw [show (26 + 24 * d + 2 * m + 1 - 26) / 24 = d by omega]
  omega
theorem DRe {q z : Nat} {d : Int} (hX : FXP σ a) (hq : q = a + 1) (hz : (σ q)[d.toNat]? = some (Value.ref z)) (d0 : 0 ≤ d) (d4 : d < 4) : z = a + 10 + 4 * d.toNat := by
  subst hq
  exact ref_uniq hz (hX.2.2.2.2.2.2.2.2.2 d.toNat (by omega)).1
theorem DKk {l k : Nat} {d : Int} (hX : FXP σ a) (hl : l = a + 11 + 4 * d.toNat) (hk : (σ l)[0]? = some (Value.ref k)) (d0 : 0 ≤ d) (d4 : d < 4) : k = a + 12 + 4 * d.toNat := by
  subst hl
  exact ref_uniq hk (hX.2.2.2.2.2.2.2.2.2 d.toNat (by omega)).2.2.1
theorem DKo {l k : Nat} {d : Int} (hX : FXP σ a) (hl : l = a + 11 + 4 * d.toNat) (hk : (σ l)[1]? = some (Value.ref k)) (d0 : 0 ≤ d) (d4 : d < 4) : k = a + 13 + 4 * d.toNat := by
  subst hl
  exact ref_uniq hk (hX.2.2.2.2.2.2.2.2.2 d.toNat (by omega)).2.2.2
theorem EKk {l k : Nat} (hX : FXP σ a) (hl : l = a + 2) (hk : (σ l)[0]? = some (Value.ref k)) : k = a + 3 := by
  subst hl
  exact ref_uniq hk hX.2.2.2.2.2.2.2.1
theorem EKo {l k : Nat} (hX : FXP σ a) (hl : l = a + 2) (hk : (σ l)[1]? = some (Value.ref k)) : k = a + 4 := by
  subst hl
  exact ref_uniq hk hX.2.2.2.2.2.2.2.2.1
/-- a plan's number at its place, kept by what does not write there -/
theorem KN_eqv {A : Int → Prop} (H : KN σ0 p w A) (e : ∀ i : Int, 0 ≤ i → i < 226 → A i → ci σ (p + lcO i) (lcB i) = ci σ0 (p + lcO i) (lcB i)) : KN σ p w A := fun i i0 i1 x => (e i i0 i1 x).trans (H i i0 i1 x)
/-! the latest lesson goes -/
def DRPp (σ0 σ : SG) (s : Nat) (m : Int) : Prop := ci σ s 2 = m - 1 ∧ ∀ b q : Nat, ¬ (b = s ∧ q = 2) → (σ b)[q]? = (σ0 b)[q]?
theorem DRP_mk {s : Nat} {m : Int} {v : Int32} (k : (σ s)[2]? = some (Value.int v)) (n : ∀ b q, (b ≠ s ∨ q ≠ 2) → (σ b)[q]? = (σ0 b)[q]?) (hv : v.toInt = m - 1) : DRPp σ0 σ s m := by
  refine ⟨?_, fun b q h => n b q (by omega)⟩
  unfold ci
  rw [show (2 : Int).toNat = 2 from rfl, k]
  exact hv
theorem OUT_drp {s : Nat} {m : Int} (H : OUT σ0 σ p) (P : DRPp σ σ' s m) (h1 : p ≤ s ∧ s < p + 26) : OUT σ0 σ' p := fun b q b0 b1 b2 => by
  rw [P.2 b q (by omega)]; exact H b q b0 b1 b2
theorem lsz {d : Int} (d0 : 0 ≤ d) (d4 : d < 4) : p + lcO (12 + 4 * d) = p + 11 + 4 * d.toNat ∧ lcB (12 + 4 * d) = 2 := by
  have l := lc_d d0 d4
  exact ⟨by omega, l.2.2.2.2.2.2.1⟩
/-- teach() -/
theorem KN_teach {s kn op td : Nat} {d k o m n x y : Int} {v1 v2 : Int32} (H : KN σ0 p w (act w)) (hp : PLB p) (hm : w (12 + 4 * d) = m) (hn : w 6 = n) (P : ADDp σ0 σ1 s kn op m x y) (hx : x = k) (hy : y = o) (q1 : (σ2 td)[n.toNat]? = some (Value.int v1)) (q2 : ∀ b q, (b ≠ td ∨ q ≠ n.toNat) → (σ2 b)[q]? = (σ1 b)[q]?) (q3 : (σ3 p)[14]? = some (Value.int v2)) (q4 : ∀ b q, (b ≠ p ∨ q ≠ 14) → (σ3 b)[q]? = (σ2 b)[q]?)
    (hs : s = p + 11 + 4 * d.toNat) (hk : kn = p + 12 + 4 * d.toNat) (ho : op = p + 13 + 4 * d.toNat) (ht : td = p + 9) (e1 : v1.toInt = d) (e2 : v2.toInt = n + 1) (d0 : 0 ≤ d) (d4 : d < 4) (m0 : 0 ≤ m) (m1 : m < 12) (n0 : 0 ≤ n) (n1 : n < 60) : KN σ3 p (tcU w d k o) (act (tcU w d k o)) ∧ OUT σ0 σ3 p := by
  have L := lc_l d0 d4 m0 m1
  have S := lsz (p := p) d0 d4
  have T := lc_t n0 n1
  subst hx hy
  have K1 := KN_add (i := 26 + 24 * d + 2 * m) (i' := 26 + 24 * d + 2 * m + 1) (j := 12 + 4 * d) H P (by omega) rfl (by omega) (by omega) (by omega) (by rw [S.1]; exact hs) S.2 (by rw [L.1]; omega) L.2.2.1 (by rw [L.2.1]; omega) L.2.2.2 m0
  have K2 := KN_st (j := 166 + n) (v := d) K1 q1 q2 (by omega) (by omega) (by rw [T.1]; omega) (by rw [T.2]) e1.symm
  have K3 := KN_st (j := 6) (v := n + 1) K2 q3 q4 (by omega) (by omega) (by rw [lcO_lt (by decide) (by decide), Nat.add_zero]) (by decide) e2.symm
  refine ⟨?_, ?_⟩
  · have e : uPd (uPd (uPd (uPd (uPd w (26 + 24 * d + 2 * m) x) (26 + 24 * d + 2 * m + 1) y) (12 + 4 * d) (m + 1)) (166 + n) d) 6 (n + 1) = tcU w d x y := by
      unfold tcU
      rw [hm, hn]
    rw [e] at K3
    refine KN_sub K3 (fun t t0 t1 z => ?_)
    have z := act_tc d0 d4 (by omega) (by omega) (by omega) z
    rw [hm, hn] at z
    rcases z with z | z | z
    · exact Or.inl (Or.inl z)
    · exact Or.inl (Or.inr z)
    · exact Or.inr z
  · unfold PLB at hp
    refine OUT_st (OUT_st (OUT_add OUT_0 P ?_ ?_ ?_) q2 ?_) q4 ?_ <;> omega
/-- unteach() -/
theorem KN_unteach {s : Nat} {d m n : Int} {v : Int32} (H : KN σ0 p w (act w)) (hp : PLB p) (hm : w (12 + 4 * d) = m) (hn : w 6 = n) (hd : utD w = d) (q1 : (σ1 p)[14]? = some (Value.int v)) (q2 : ∀ b q, (b ≠ p ∨ q ≠ 14) → (σ1 b)[q]? = (σ0 b)[q]?) (P : DRPp σ1 σ2 s m) (hs : s = p + 11 + 4 * d.toNat) (e : v.toInt = n - 1) (d0 : 0 ≤ d) (d4 : d < 4) : KN σ2 p (utU w) (act (utU w)) ∧ OUT σ0 σ2 p := by
  have S := lsz (p := p) d0 d4
  have K1 := KN_st (j := 6) (v := n - 1) H q1 q2 (by omega) (by omega) (by rw [lcO_lt (by decide) (by decide), Nat.add_zero]) (by decide) e.symm
  refine ⟨fun i i0 i1 x => ?_, ?_⟩
  · have a1 := act_ut (by omega) (by omega) x
    unfold utU
    rw [hd, hm, hn]
    by_cases z : i = 12 + 4 * d
    · subst z
      have : uPd (uPd w 6 (n - 1)) (12 + 4 * d) (m - 1) (12 + 4 * d) = m - 1 := if_pos rfl
      rw [this, S.1, S.2, ← hs]
      exact P.1
    · have : uPd (uPd w 6 (n - 1)) (12 + 4 * d) (m - 1) i = uPd w 6 (n - 1) i := if_neg z
      rw [this, ← K1 i i0 i1 (Or.inl a1)]
      refine ci_eq (P.2 _ _ ?_)
      intro y
      exact z (lc_uniq i0 i1 (by omega) (by omega) (by omega) (by omega))
  · unfold PLB at hp
    refine OUT_drp (OUT_st OUT_0 q2 ?_) P ?_ <;> omega
theorem lc_ins : ∀ i : Fin 226, ∀ d : Fin 4, (lcO (i.val : Int) = 12 + 4 * d.val ∨ lcO (i.val : Int) = 13 + 4 * d.val) → 26 ≤ i.val ∧ i.val < 122 ∧ (i.val - 26) / 24 = d.val ∧ lcB (i.val : Int) = (((i.val - 26) % 24 / 2 : Nat) : Int) := by decide +kernel
/-- one lesson more, and away again -/
theorem KN_again {s kn op : Nat} {d m x y : Int} (H : KN σ0 p w (act w)) (hp : PLB p) (hm : w (12 + 4 * d) = m) (P : ADDp σ0 σ1 s kn op m x y) (Q : DRPp σ1 σ2 s (m + 1)) (hs : s = p + 11 + 4 * d.toNat) (hk : kn = p + 12 + 4 * d.toNat) (ho : op = p + 13 + 4 * d.toNat) (d0 : 0 ≤ d) (d4 : d < 4) (dn : d < w 2) (m0 : 0 ≤ m) : KN σ2 p w (act w) ∧ OUT σ0 σ2 p := by
  have S := lsz (p := p) d0 d4
  refine ⟨fun i i0 i1 z => ?_, ?_⟩
  · by_cases e : i = 12 + 4 * d
    · subst e
      rw [S.1, S.2, hm, ← hs, Q.1]
      omega
    · rw [← H i i0 i1 z]
      have g : ¬ (p + lcO i = s ∧ (lcB i).toNat = 2) := fun y => e (lc_uniq i0 i1 (by omega) (by omega) (by omega) (by omega))
      have f : ∀ o : Nat, (o = 12 ∨ o = 13) → ¬ (lcO i = o + 4 * d.toNat ∧ (lcB i).toNat = m.toNat) := by
        intro o h y
        have c := lc_ins ⟨i.toNat, by omega⟩ ⟨d.toNat, by omega⟩
        simp only at c
        rw [show ((i.toNat : Nat) : Int) = i by omega] at c
        have c := c (by omega)
        unfold act at z
        rcases z with z | z | z | z | z | z | z
        · omega
        · omega
        · have e2 : (i - 26) / 24 = d := by omega
          rw [e2, hm] at z
          omega
        · omega
        · omega
        · omega
        · omega
      rw [ci_eq (Q.2 _ _ g), ci_eq (P.2.2.2 _ _ ?_ ?_ g)]
      · intro y; exact f 12 (Or.inl rfl) ⟨by omega, y.2⟩
      · intro y; exact f 13 (Or.inr rfl) ⟨by omega, y.2⟩
  · unfold PLB at hp
    refine OUT_drp (OUT_add OUT_0 P ?_ ?_ ?_) Q ?_ <;> omega
/-! one lesson out of the midst, and back -/
def TKO (σ0 σ : SG) (s kn op : Nat) (i m : Int) : Prop := ci σ s 2 = m - 1 ∧ (∀ k : Int, 0 ≤ k → ci σ kn k = if i ≤ k ∧ k < m - 1 then ci σ0 kn (k + 1) else ci σ0 kn k) ∧ (∀ k : Int, 0 ≤ k → ci σ op k = if i ≤ k ∧ k < m - 1 then ci σ0 op (k + 1) else ci σ0 op k) ∧ ∀ b q : Nat, b ≠ kn → b ≠ op → ¬ (b = s ∧ q = 2) → (σ b)[q]? = (σ0 b)[q]?
/-- while it goes: k's below y are moved -/
def TKI (σ0 σ : SG) (kn op : Nat) (i y : Int) : Prop := (∀ k : Int, 0 ≤ k → ci σ kn k = if i ≤ k ∧ k < y then ci σ0 kn (k + 1) else ci σ0 kn k) ∧ (∀ k : Int, 0 ≤ k → ci σ op k = if i ≤ k ∧ k < y then ci σ0 op (k + 1) else ci σ0 op k) ∧ ∀ b q : Nat, b ≠ kn → b ≠ op → (σ b)[q]? = (σ0 b)[q]?
theorem TKI_0 {kn op : Nat} {i y : Int} (h : y = i) : TKI σ σ kn op i y := ⟨fun k k0 => by rw [if_neg (by omega)], fun k k0 => by rw [if_neg (by omega)], fun _ _ _ _ => rfl⟩
theorem TKI_s {kn op : Nat} {i y y' J J' : Int} {u v : Int32} (H : TKI σ0 σ1 kn op i y) (d : kn ≠ op) (r1 : (σ1 kn)[J'.toNat]? = some (Value.int u)) (k1 : (σ2 kn)[J.toNat]? = some (Value.int u)) (n1 : ∀ b q, (b ≠ kn ∨ q ≠ J.toNat) → (σ2 b)[q]? = (σ1 b)[q]?) (r2 : (σ2 op)[J'.toNat]? = some (Value.int v)) (k2 : (σ3 op)[J.toNat]? = some (Value.int v)) (n2 : ∀ b q, (b ≠ op ∨ q ≠ J.toNat) → (σ3 b)[q]? = (σ2 b)[q]?) (hJ : J = y) (hJ' : J' = y + 1) (i0 : 0 ≤ i) (iy : i ≤ y) (e : y' = y + 1) : TKI σ0 σ3 kn op i y' := by
  obtain ⟨a, b, c⟩ := H
  subst hJ hJ' e
  refine ⟨fun k k0 => ?_, fun k k0 => ?_, fun b' q h1 h2 => ?_⟩
  · rw [ci_ne n2 d k, ci_st k1 n1 (by omega) k k0]
    by_cases z : k = J
    · subst z
      rw [if_pos rfl, if_pos (by omega), ← ci_at r1 rfl, a (k + 1) (by omega), if_neg (by omega)]
    · rw [if_neg z, a k k0]
      by_cases y : i ≤ k ∧ k < J
      · rw [if_pos y, if_pos (by omega)]
      · rw [if_neg y, if_neg (by omega)]
  · rw [ci_st k2 n2 (by omega) k k0]
    by_cases z : k = J
    · subst z
      rw [if_pos rfl, if_pos (by omega), ← ci_at r2 rfl, ci_ne n1 (Ne.symm d) (k + 1), b (k + 1) (by omega), if_neg (by omega)]
    · rw [if_neg z, ci_ne n1 (Ne.symm d) k, b k k0]
      by_cases y : i ≤ k ∧ k < J
      · rw [if_pos y, if_pos (by omega)]
      · rw [if_neg y, if_neg (by omega)]
  · rw [n2 b' q (Or.inl h2), n1 b' q (Or.inl h1)]; exact c b' q h1 h2
theorem TKI_x {s kn op : Nat} {i y m : Int} {v : Int32} (H : TKI σ0 σ1 kn op i y) (hy : y = m - 1) (k : (σ2 s)[2]? = some (Value.int v)) (n : ∀ b q, (b ≠ s ∨ q ≠ 2) → (σ2 b)[q]? = (σ1 b)[q]?) (hv : v.toInt = m - 1) (d1 : kn ≠ s) (d2 : op ≠ s) : TKO σ0 σ2 s kn op i m := by
  obtain ⟨a, b, c⟩ := H
  subst hy
  refine ⟨?_, fun q q0 => ?_, fun q q0 => ?_, fun b' q h1 h2 h3 => ?_⟩
  · unfold ci
    rw [show (2 : Int).toNat = 2 from rfl, k]
    exact hv
  · rw [ci_ne n d1 q]; exact a q q0
  · rw [ci_ne n d2 q]; exact b q q0
  · rw [n b' q (by omega)]; exact c b' q h1 h2
def PTI (σ0 σ : SG) (kn op : Nat) (m y : Int) : Prop := (∀ k : Int, 0 ≤ k → ci σ kn k = if y < k ∧ k ≤ m then ci σ0 kn (k - 1) else ci σ0 kn k) ∧ (∀ k : Int, 0 ≤ k → ci σ op k = if y < k ∧ k ≤ m then ci σ0 op (k - 1) else ci σ0 op k) ∧ ∀ b q : Nat, b ≠ kn → b ≠ op → (σ b)[q]? = (σ0 b)[q]?
def PTp (σ0 σ : SG) (s kn op : Nat) (i m x y : Int) : Prop := ci σ s 2 = m + 1 ∧ (∀ k : Int, 0 ≤ k → ci σ kn k = if k = i then x else if i < k ∧ k ≤ m then ci σ0 kn (k - 1) else ci σ0 kn k) ∧ (∀ k : Int, 0 ≤ k → ci σ op k = if k = i then y else if i < k ∧ k ≤ m then ci σ0 op (k - 1) else ci σ0 op k) ∧ ∀ b q : Nat, b ≠ kn → b ≠ op → ¬ (b = s ∧ q = 2) → (σ b)[q]? = (σ0 b)[q]?
theorem PTI_0 {kn op : Nat} {m y : Int} (h : y = m) : PTI σ σ kn op m y := ⟨fun k k0 => by rw [if_neg (by omega)], fun k k0 => by rw [if_neg (by omega)], fun _ _ _ _ => rfl⟩
theorem PTI_s {kn op : Nat} {m y y' J J' : Int} {u v : Int32} (H : PTI σ0 σ1 kn op m y) (d : kn ≠ op) (r1 : (σ1 kn)[J'.toNat]? = some (Value.int u)) (k1 : (σ2 kn)[J.toNat]? = some (Value.int u)) (n1 : ∀ b q, (b ≠ kn ∨ q ≠ J.toNat) → (σ2 b)[q]? = (σ1 b)[q]?) (r2 : (σ2 op)[J'.toNat]? = some (Value.int v)) (k2 : (σ3 op)[J.toNat]? = some (Value.int v)) (n2 : ∀ b q, (b ≠ op ∨ q ≠ J.toNat) → (σ3 b)[q]? = (σ2 b)[q]?) (hJ : J = y) (hJ' : J' = y - 1) (y1 : 1 ≤ y) (ym : y ≤ m) (e : y' = y - 1) : PTI σ0 σ3 kn op m y' := by
  obtain ⟨a, b, c⟩ := H
  subst hJ hJ' e
  refine ⟨fun k k0 => ?_, fun k k0 => ?_, fun b' q h1 h2 => ?_⟩
  · rw [ci_ne n2 d k, ci_st k1 n1 (by omega) k k0]
    by_cases z : k = J
    · subst z
      rw [if_pos rfl, if_pos (by omega), ← ci_at r1 rfl, a (k - 1) (by omega), if_neg (by omega)]
    · rw [if_neg z, a k k0]
      by_cases y : J < k ∧ k ≤ m
      · rw [if_pos y, if_pos (by omega)]
      · rw [if_neg y, if_neg (by omega)]
  · rw [ci_st k2 n2 (by omega) k k0]
    by_cases z : k = J
    · subst z
      rw [if_pos rfl, if_pos (by omega), ← ci_at r2 rfl, ci_ne n1 (Ne.symm d) (k - 1), b (k - 1) (by omega), if_neg (by omega)]
    · rw [if_neg z, ci_ne n1 (Ne.symm d) k, b k k0]
      by_cases y : J < k ∧ k ≤ m
      · rw [if_pos y, if_pos (by omega)]
      · rw [if_neg y, if_neg (by omega)]
  · rw [n2 b' q (Or.inl h2), n1 b' q (Or.inl h1)]; exact c b' q h1 h2
theorem PTI_x {s kn op : Nat} {m i y J : Int} {u v w : Int32} (H : PTI σ0 σ kn op m y) (hy : y = i) (k1 : (σ1 kn)[J.toNat]? = some (Value.int u)) (n1 : ∀ b q, (b ≠ kn ∨ q ≠ J.toNat) → (σ1 b)[q]? = (σ b)[q]?) (k2 : (σ2 op)[J.toNat]? = some (Value.int v)) (n2 : ∀ b q, (b ≠ op ∨ q ≠ J.toNat) → (σ2 b)[q]? = (σ1 b)[q]?) (k3 : (σ3 s)[2]? = some (Value.int w)) (n3 : ∀ b q, (b ≠ s ∨ q ≠ 2) → (σ3 b)[q]? = (σ2 b)[q]?) (hJ : J = i) (i0 : 0 ≤ i) (d : kn ≠ op) (d1 : kn ≠ s) (d2 : op ≠ s) (hw : w.toInt = m + 1) : PTp σ0 σ3 s kn op i m u.toInt v.toInt := by
  obtain ⟨a, b, c⟩ := H
  subst hy hJ
  refine ⟨?_, fun q q0 => ?_, fun q q0 => ?_, fun b' q h1 h2 h3 => ?_⟩
  · unfold ci
    rw [show (2 : Int).toNat = 2 from rfl, k3]
    exact hw
  · rw [ci_ne n3 d1 q, ci_ne n2 d q, ci_st k1 n1 i0 q q0, a q q0]
  · rw [ci_ne n3 d2 q, ci_st k2 n2 i0 q q0, ci_ne n1 (Ne.symm d) q, b q q0]
  · rw [n3 b' q (by omega), n2 b' q (Or.inl h2), n1 b' q (Or.inl h1)]; exact c b' q h1 h2
/-- out and in again: all is as before -/
theorem TP_id {s kn op : Nat} {i m m' x y : Int} (P : TKO σ0 σ1 s kn op i m) (Q : PTp σ1 σ2 s kn op i m' x y) (hm : m' = m - 1) (hs : ci σ0 s 2 = m) (hx : x = ci σ0 kn i) (hy : y = ci σ0 op i) (i0 : 0 ≤ i) (im : i < m) : ci σ2 s 2 = ci σ0 s 2 ∧ (∀ k : Int, 0 ≤ k → ci σ2 kn k = ci σ0 kn k) ∧ (∀ k : Int, 0 ≤ k → ci σ2 op k = ci σ0 op k) ∧ ∀ b q : Nat, b ≠ kn → b ≠ op → ¬ (b = s ∧ q = 2) → (σ2 b)[q]? = (σ0 b)[q]? := by
  obtain ⟨p1, p2, p3, p4⟩ := P
  obtain ⟨q1, q2, q3, q4⟩ := Q
  subst hm hx hy
  refine ⟨by omega, fun k k0 => ?_, fun k k0 => ?_, fun b q h1 h2 h3 => (q4 b q h1 h2 h3).trans (p4 b q h1 h2 h3)⟩
  · rw [q2 k k0]
    by_cases z : k = i
    · rw [if_pos z, z]
    · rw [if_neg z]
      by_cases e : i < k ∧ k ≤ m - 1
      · rw [if_pos e, p2 (k - 1) (by omega), if_pos (by omega), show k - 1 + 1 = k by omega]
      · rw [if_neg e, p2 k k0, if_neg (by omega)]
  · rw [q3 k k0]
    by_cases z : k = i
    · rw [if_pos z, z]
    · rw [if_neg z]
      by_cases e : i < k ∧ k ≤ m - 1
      · rw [if_pos e, p3 (k - 1) (by omega), if_pos (by omega), show k - 1 + 1 = k by omega]
      · rw [if_neg e, p3 k k0, if_neg (by omega)]
theorem KN_tp {s kn op : Nat} {i m m' x y : Int} {A : Int → Prop} (H : KN σ0 p w A) (P : TKO σ0 σ1 s kn op i m) (Q : PTp σ1 σ2 s kn op i m' x y) (hm : m' = m - 1) (hs : ci σ0 s 2 = m) (hx : x = ci σ0 kn i) (hy : y = ci σ0 op i) (i0 : 0 ≤ i) (im : i < m) (b1 : p ≤ s ∧ s < p + 26) (b2 : p ≤ kn ∧ kn < p + 26) (b3 : p ≤ op ∧ op < p + 26) : KN σ2 p w A ∧ OUT σ0 σ2 p := by
  obtain ⟨e1, e2, e3, e4⟩ := TP_id P Q hm hs hx hy i0 im
  refine ⟨KN_eqv H (fun j j0 j1 _ => ?_), fun b q _ _ h => e4 b q (by omega) (by omega) (by omega)⟩
  have l := lc_0 j0 j1
  by_cases z1 : p + lcO j = kn
  · rw [z1]; exact e2 _ l.2
  · by_cases z2 : p + lcO j = op
    · rw [z2]; exact e3 _ l.2
    · by_cases z3 : p + lcO j = s ∧ (lcB j).toNat = 2
      · have e : lcB j = 2 := by omega
        rw [z3.1, e]; exact e1
      · exact ci_eq (e4 _ _ z1 z2 z3)
end CHG
end
