section PUE
/-! the same line as the model reads it, and that it comes to the same -/
def eqv (S T : PS) : Prop := S.1 = T.1 ∧ S.2.1 = T.2.1 ∧ (S.1 = 0 → S.2.2.1 = T.2.2.1 ∧ ∀ i, S.2.2.2 i = T.2.2.2 i)
theorem eqv_rfl {S : PS} : eqv S S := ⟨rfl, rfl, fun _ => ⟨rfl, fun _ => rfl⟩⟩
theorem eqv_bad {S T : PS} (h : S.1 ≠ 0) (h1 : S.1 = T.1) (h2 : S.2.1 = T.2.1) : eqv S T := ⟨h1, h2, fun z => absurd z h⟩
def gDeed (B : Int → Int) (n : Int) (S : PS) : PS := if iW B n 8 S = 1 then adv B n S else pss B n (iW B n 12 S) S
def gWay (B : Int → Int) (n : Int) (S : PS) : PS := if iW B n 4 S = 1 then wst (adv B n S) (10 + 4 * S.2.2.2 2) 0 else if iW B n 11 S = 1 then wst (adv B n S) (10 + 4 * S.2.2.2 2) 1 else wst (pss B n (iW B n 7 S) S) (10 + 4 * S.2.2.2 2) 2
def gDoor (B : Int → Int) (n : Int) (S : PS) : PS :=
  let k := 10 + 4 * S.2.2.2 2
  let S1 := gWay B n S
  let S2 := pss B n (iW B n 14 S1) S1
  let S3 := wst (tN B n 0 50 S2) (k + 1) (tV B n S2.2.2.1)
  wst (wst (wst S3 (k + 2) 0) (k + 3) (-1)) 2 (S.2.2.2 2 + 1)
def gLs1 (B : Int → Int) (n : Int) (S : PS) : PS := if S.1 = 0 ∧ tK B n S.2.2.1 = 2 ∧ tV B n S.2.2.1 < S.2.2.2 2 ∧ S.2.2.2 (12 + 4 * tV B n S.2.2.1) = 12 then err B n 3 S else S
def gLesson (B : Int → Int) (n : Int) (S : PS) : PS :=
  let S0 := gLs1 B n S
  let S1 := tN B n 0 (S.2.2.2 2 - 1) S0
  let d := tV B n S0.2.2.1
  let S2 := tN B n 0 (pI (S.2.2.2 0) - 1) S1
  let S3 := gDeed B n S2
  if S3.1 = 0 then wst (wst (wst S3 (26 + 24 * d + 2 * S.2.2.2 (12 + 4 * d)) (tV B n S1.2.2.1)) (26 + 24 * d + 2 * S.2.2.2 (12 + 4 * d) + 1) (iW B n 8 S2)) (12 + 4 * d) (S.2.2.2 (12 + 4 * d) + 1) else S3
def gTw1 (B : Int → Int) (n : Int) (S : PS) : PS := if S.1 = 0 ∧ tK B n S.2.2.1 = 2 ∧ tV B n S.2.2.1 < S.2.2.2 2 ∧ (S.2.2.2 (13 + 4 * tV B n S.2.2.1) ≠ -1 ∨ cpI S.2.2.2 (tV B n S.2.2.1) = 1) then err B n 2 S else S
def gTw2 (B : Int → Int) (n a : Int) (S : PS) : PS := if S.1 = 0 ∧ tK B n S.2.2.1 = 2 ∧ tV B n S.2.2.1 < S.2.2.2 2 ∧ (tV B n S.2.2.1 = a ∨ S.2.2.2 (13 + 4 * tV B n S.2.2.1) ≠ -1) then err B n 2 S else S
def gTwin (B : Int → Int) (n : Int) (S : PS) : PS :=
  let S0 := gTw1 B n S
  let S1 := tN B n 0 (S.2.2.2 2 - 1) S0
  let a := tV B n S0.2.2.1
  let S2 := gTw2 B n a S1
  let S3 := tN B n 0 (S.2.2.2 2 - 1) S2
  if S3.1 = 0 then wst S3 (13 + 4 * a) (tV B n S2.2.2.1) else S3
def gRl1 (B : Int → Int) (n m : Int) (S : PS) : PS := if S.1 = 0 ∧ tK B n S.2.2.1 = 2 ∧ sbI (min 99999 (tV B n S.2.2.1)) m ≠ 1 then err B n 2 S else S
def gRule (B : Int → Int) (n i : Int) (S : PS) : PS :=
  let S1 := tN B n 0 (pI (S.2.2.2 0) - 1) S
  let m := tV B n S.2.2.1
  let S2 := gRl1 B n m S1
  let S3 := tN B n 0 (pI (S.2.2.2 0) - 1) S2
  if S3.1 = 0 then wst (wst S3 i m) (i + 1) (tV B n S2.2.2.1) else S3
def gExam (B : Int → Int) (n : Int) (S : PS) : PS :=
  let k := 122 + 2 * S.2.2.2 3
  let S4 := wst (tN B n 0 (pI (S.2.2.2 0) - 1) S) k (tV B n S.2.2.1)
  let S5 := wst (gDeed B n S4) (k + 1) (iW B n 8 S4)
  wst S5 3 (S.2.2.2 3 + 1)
def gHouse (B : Int → Int) (n : Int) (S : PS) : PS := wst (gRule B n (146 + 2 * S.2.2.2 4) S) 4 (S.2.2.2 4 + 1)
def gCourse (B : Int → Int) (n : Int) (S : PS) : PS :=
  let S3 := pss B n (iW B n 15 S) S
  wst (wst (tN B n 1 9 S3) (154 + 2 * S.2.2.2 5) (tV B n S3.2.2.1)) 5 (S.2.2.2 5 + 1)
def gAhead (B : Int → Int) (n : Int) (S : PS) : PS :=
  let S4 := tN B n 0 (S.2.2.2 5 - 1) S
  let a := tV B n S.2.2.1
  let S5 := tN B n (a + 1) (S.2.2.2 5 - 1) S4
  let b := tV B n S4.2.2.1
  if S5.1 = 0 then wst S5 (155 + 2 * b) (orP (S.2.2.2 (155 + 2 * b)) a) else S5
def gKn (B : Int → Int) (n : Int) (S : PS) : Int := orI (iW B n 2 S) (orI (iW B n 6 S) (orI (iW B n 3 S) (orI (iW B n 17 S) (orI (iW B n 9 S) (orI (iW B n 5 S) (orI (iW B n 1 S) (iW B n 0 S)))))))
def gN1 (B : Int → Int) (n : Int) (S : PS) : PS := if gKn B n S = 1 then S else err B n 1 S
def gN2 (B : Int → Int) (n : Int) (S : PS) : PS := if (iW B n 2 S = 1 ∧ S.2.2.2 2 = 4) ∨ (iW B n 3 S = 1 ∧ S.2.2.2 3 = 12) ∨ (iW B n 5 S = 1 ∧ S.2.2.2 4 = 4) ∨ (iW B n 1 S = 1 ∧ S.2.2.2 5 = 6) then err B n 3 S else S
def gNext (B : Int → Int) (n : Int) (S : PS) : PS :=
  let S2 := gN2 B n (gN1 B n S)
  if S2.1 ≠ 0 then S2 else
  if iW B n 2 S2 = 1 then gDoor B n (adv B n S2) else
  if iW B n 6 S2 = 1 then gLesson B n (adv B n S2) else
  if iW B n 3 S2 = 1 then gExam B n (adv B n S2) else
  if iW B n 17 S2 = 1 then gTwin B n (adv B n S2) else
  if iW B n 9 S2 = 1 then gRule B n 8 (adv B n S2) else
  if iW B n 5 S2 = 1 then gHouse B n (adv B n S2) else
  if iW B n 1 S2 = 1 then gCourse B n (adv B n S2) else gAhead B n (adv B n S2)
def gL1 (B : Int → Int) (n : Int) (S : PS) : PS := if S.1 = 0 ∧ tK B n S.2.2.1 ≠ 3 then err B n 1 S else S
def gLine (B : Int → Int) (n : Int) (S : PS) : PS :=
  let S1 := if S.2.2.2 7 = 0 then fFirst B n S else gNext B n S
  wst (adv B n (gL1 B n S1)) 7 (S.2.2.2 7 + 1)
/-! small things -/
section SML
variable {B : Int → Int} {n : Int} {S : PS}
theorem err_bad {k : Int} (h : S.1 ≠ 0) : err B n k S = S := by unfold err; rw [if_neg h]
theorem adv_bad (h : S.1 ≠ 0) : adv B n S = S := by unfold adv; rw [if_neg h]
theorem err_1 {k : Int} (h : S.1 = 0) : (err B n k S).1 = k := by unfold err; rw [if_pos h]
theorem err_ne {k : Int} (hk : k ≠ 0) : (err B n k S).1 ≠ 0 := by unfold err; split <;> omega
theorem adv_1 : (adv B n S).1 = S.1 := by unfold adv; split <;> rfl
theorem adv_w : (adv B n S).2.2.2 = S.2.2.2 := by unfold adv; split <;> rfl
theorem err_w {k : Int} : (err B n k S).2.2.2 = S.2.2.2 := by unfold err; split <;> rfl
theorem pss_w {c : Int} : (pss B n c S).2.2.2 = S.2.2.2 := by unfold pss; split; exact adv_w; exact err_w
theorem pss_bad {c : Int} (h : S.1 ≠ 0) : pss B n c S = S := by unfold pss; rw [adv_bad h, err_bad h]; exact ite_self _
theorem nH_bad {lo hi : Int} (h : S.1 ≠ 0) : nH B n lo hi S = S := by unfold nH; rw [err_bad h, err_bad h]; (repeat' split) <;> rfl
theorem nH_w {lo hi : Int} : (nH B n lo hi S).2.2.2 = S.2.2.2 := by unfold nH; (repeat' split) <;> first | exact err_w | rfl
theorem nH_ok {lo hi : Int} (h : S.1 = 0) : (nH B n lo hi S).1 = 0 ↔ tK B n S.2.2.1 = 2 ∧ lo ≤ tV B n S.2.2.1 ∧ tV B n S.2.2.1 ≤ hi := by
  unfold nH
  by_cases h2 : tK B n S.2.2.1 = 2
  · rw [if_neg (by omega)]
    by_cases h3 : tV B n S.2.2.1 < lo ∨ hi < tV B n S.2.2.1
    · rw [if_pos h3, err_1 h]; omega
    · rw [if_neg h3]; omega
  · rw [if_pos h2, err_1 h]; omega
theorem nH_id {lo hi : Int} (h : (nH B n lo hi S).1 = 0) : nH B n lo hi S = S := by
  by_cases z : S.1 = 0
  · have := (nH_ok z).mp h; unfold nH; rw [if_neg (by omega), if_neg (by omega)]
  · rw [nH_bad z]
theorem tN_w {lo hi : Int} : (tN B n lo hi S).2.2.2 = S.2.2.2 := by unfold tN; rw [adv_w, nH_w]
theorem tN_bad {lo hi : Int} (h : S.1 ≠ 0) : tN B n lo hi S = S := by unfold tN; rw [nH_bad h, adv_bad h]
theorem tN_1 {lo hi : Int} : (tN B n lo hi S).1 = (nH B n lo hi S).1 := by unfold tN; exact adv_1
theorem tN_k {lo hi : Int} (h : S.1 = 0) (h2 : tK B n S.2.2.1 ≠ 2) : tN B n lo hi S = err B n 1 S := by
  unfold tN nH; rw [if_pos h2, adv_bad (err_ne (by omega))]
theorem tN_v {lo hi : Int} (h : S.1 = 0) (h2 : tK B n S.2.2.1 = 2) (h3 : tV B n S.2.2.1 < lo ∨ hi < tV B n S.2.2.1) : tN B n lo hi S = err B n 2 S := by
  unfold tN nH; rw [if_neg (by omega), if_pos h3, adv_bad (err_ne (by omega))]
theorem tN_ok {lo hi : Int} (h2 : tK B n S.2.2.1 = 2) (h3 : lo ≤ tV B n S.2.2.1) (h4 : tV B n S.2.2.1 ≤ hi) : tN B n lo hi S = adv B n S := by
  unfold tN nH; rw [if_neg (by omega), if_neg (by omega)]
theorem tN_g {lo hi : Int} (h : (tN B n lo hi S).1 = 0) : S.1 = 0 ∧ tK B n S.2.2.1 = 2 ∧ lo ≤ tV B n S.2.2.1 ∧ tV B n S.2.2.1 ≤ hi ∧ tN B n lo hi S = adv B n S := by
  by_cases z : S.1 = 0
  · rw [tN_1] at h
    have := (nH_ok z).mp h
    exact ⟨z, this.1, this.2.1, this.2.2, tN_ok this.1 this.2.1 this.2.2⟩
  · rw [tN_bad z] at h; exact absurd h z
theorem pss_g {c : Int} (h : (pss B n c S).1 = 0) : S.1 = 0 ∧ c = 1 ∧ pss B n c S = adv B n S := by
  by_cases z : S.1 = 0
  · unfold pss at h ⊢
    by_cases y : c = 1
    · rw [if_pos y]; exact ⟨z, y, rfl⟩
    · rw [if_neg y, err_1 z] at h; omega
  · rw [pss_bad z] at h; exact absurd h z
theorem iW_01 {i : Nat} : iW B n i S = 0 ∨ iW B n i S = 1 := by unfold iW; split <;> omega
theorem iW_bad {i : Nat} (h : S.1 ≠ 0) : iW B n i S = 0 := by unfold iW; rw [if_neg (fun q => h q.1)]
theorem iW_wst {i : Nat} {j v : Int} : iW B n i (wst S j v) = iW B n i S := rfl
theorem adv_wst {j v : Int} : adv B n (wst S j v) = wst (adv B n S) j v := by
  unfold adv
  by_cases h : S.1 = 0
  · rw [if_pos h, if_pos (show (wst S j v).1 = 0 from h)]; rfl
  · rw [if_neg h, if_neg (show ¬ (wst S j v).1 = 0 from h)]
theorem err_wst {k j v : Int} : err B n k (wst S j v) = wst (err B n k S) j v := by
  unfold err
  by_cases h : S.1 = 0
  · rw [if_pos h, if_pos (show (wst S j v).1 = 0 from h)]; rfl
  · rw [if_neg h, if_neg (show ¬ (wst S j v).1 = 0 from h)]
theorem pss_wst {c j v : Int} : pss B n c (wst S j v) = wst (pss B n c S) j v := by
  unfold pss; split; exact adv_wst; exact err_wst
theorem nH_wst {lo hi j v : Int} : nH B n lo hi (wst S j v) = wst (nH B n lo hi S) j v := by
  unfold nH
  show (if tK B n S.2.2.1 ≠ 2 then err B n 1 (wst S j v) else if tV B n S.2.2.1 < lo ∨ hi < tV B n S.2.2.1 then err B n 2 (wst S j v) else wst S j v) = _
  rw [err_wst, err_wst]; (repeat' split) <;> rfl
theorem tN_wst {lo hi j v : Int} : tN B n lo hi (wst S j v) = wst (tN B n lo hi S) j v := by unfold tN; rw [nH_wst, adv_wst]
theorem gDeed_wst {j v : Int} : gDeed B n (wst S j v) = wst (gDeed B n S) j v := by
  unfold gDeed; rw [iW_wst, iW_wst, adv_wst, pss_wst]; split <;> rfl
theorem gDeed_d : gDeed B n S = dD B n S := by
  unfold gDeed dD orI
  rcases iW_01 (B := B) (n := n) (i := 8) (S := S) with h | h
  · rw [if_neg (by omega)]
    rcases iW_01 (B := B) (n := n) (i := 12) (S := S) with h2 | h2
    · rw [if_neg (by omega), h2]
    · rw [if_pos (by omega), h2]
  · rw [if_pos h, if_pos (by omega)]; unfold pss; rw [if_pos rfl]
theorem dD_bad (h : S.1 ≠ 0) : dD B n S = S := pss_bad h
theorem sbI_le {x m : Int} (x0 : 0 ≤ x) (m0 : 0 ≤ m) (h : sbI x m = 1) : x ≤ m := by
  unfold sbI at h
  by_cases z : sbN x.toNat m.toNat = true
  · unfold sbN at z
    have := eq_of_beq z
    have h2 := Nat.and_le_right (n := x.toNat) (m := m.toNat)
    omega
  · rw [if_neg z] at h; omega
/-! line for line -/
theorem gWay_f : gWay B n S = wst (tW B n S) (10 + 4 * S.2.2.2 2) (wyV B n S) := by
  rcases iW_01 (B := B) (n := n) (i := 4) (S := S) with h | h <;> rcases iW_01 (B := B) (n := n) (i := 11) (S := S) with h2 | h2 <;> rcases iW_01 (B := B) (n := n) (i := 7) (S := S) with h3 | h3 <;> simp [gWay, tW, wyV, orI, pss, h, h2, h3]
theorem eq_door (h2 : S.2.2.2 2 < 4) : eqv (gDoor B n (adv B n S)) (fDoor B n S) := by
  unfold gDoor fDoor
  rw [if_neg (by omega)]
  dsimp only
  rw [gWay_f, iW_wst, pss_wst, tN_wst, adv_w]
  by_cases z : (tN B n 0 50 (pss B n (iW B n 14 (tW B n (adv B n S))) (tW B n (adv B n S)))).1 = 0
  · rw [if_pos z]; exact eqv_rfl
  · rw [if_neg z]; exact eqv_bad z rfl rfl
theorem dD_g (h : (dD B n S).1 = 0) : S.1 = 0 := (pss_g h).1
theorem eq_lesson (h : S.1 = 0) (h2 : S.2.2.2 2 ≤ 4) (hm : ∀ d : Int, 0 ≤ d → d < 4 → S.2.2.2 (12 + 4 * d) ≤ 12) : eqv (gLesson B n (adv B n S)) (fLesson B n S) := by
  unfold gLesson fLesson
  dsimp only
  have hA : (adv B n S).1 = 0 := by rw [adv_1]; exact h
  have wA : (adv B n S).2.2.2 = S.2.2.2 := adv_w
  generalize hX : adv B n S = X at hA wA ⊢
  rw [wA]
  by_cases z : (nH B n 0 (S.2.2.2 2 - 1) X).1 = 0
  · have q := (nH_ok hA).mp z
    have zz : ¬ (nH B n 0 (S.2.2.2 2 - 1) X).1 ≠ 0 := by omega
    rw [if_neg zz]
    have m := hm (tV B n X.2.2.1) (by omega) (by omega)
    by_cases y : S.2.2.2 (12 + 4 * tV B n X.2.2.1) = 12
    · have e : gLs1 B n X = err B n 3 X := by unfold gLs1; rw [if_pos ⟨hA, q.1, by rw [wA]; omega, by rw [wA]; exact y⟩]
      have b : (err B n 3 X).1 ≠ 0 := err_ne (by omega)
      rw [if_pos (c := 12 ≤ S.2.2.2 (12 + 4 * tV B n X.2.2.1)) (by omega), e, tN_bad b, tN_bad b, gDeed_d, dD_bad b, if_neg b, nH_id z]
      exact eqv_rfl
    · have e : gLs1 B n X = X := by unfold gLs1; rw [if_neg (fun p => y (by have := p.2.2.2; rw [wA] at this; exact this))]
      rw [if_neg (c := 12 ≤ S.2.2.2 (12 + 4 * tV B n X.2.2.1)) (by omega), e, nH_id z, tN_ok q.1 q.2.1 q.2.2, gDeed_d]
      unfold fSaid
      dsimp only
      rw [adv_w, wA]
      by_cases g : (dD B n (tN B n 0 (pI (S.2.2.2 0) - 1) (adv B n X))).1 = 0
      · rw [if_pos g, if_pos g]
        have e2 : (dD B n (tN B n 0 (pI (S.2.2.2 0) - 1) (adv B n X))).2.2.2 = S.2.2.2 := by unfold dD; rw [pss_w, tN_w, adv_w, wA]
        rw [e2]; exact eqv_rfl
      · rw [if_neg g, if_neg g]; exact eqv_rfl
  · rw [if_pos z]
    have nq := fun q => z ((nH_ok (B := B) (n := n) (lo := 0) (hi := S.2.2.2 2 - 1) hA).mpr q)
    have e : gLs1 B n X = X := by
      unfold gLs1
      rw [if_neg (fun p => nq ⟨p.2.1, (tV_rng p.2.1).1, by have := p.2.2.1; rw [wA] at this; omega⟩)]
    have b : (tN B n 0 (S.2.2.2 2 - 1) X).1 ≠ 0 := by rw [tN_1]; exact z
    rw [e, tN_bad b, gDeed_d, dD_bad b, if_neg b]
    unfold tN at b ⊢
    rw [adv_1] at b
    rw [adv_bad b]; exact eqv_rfl
theorem eq_exam (h : S.1 = 0) (h2 : S.2.2.2 3 < 12) : eqv (gExam B n (adv B n S)) (fExam B n S) := by
  unfold gExam fExam
  rw [if_neg (by omega)]
  unfold fSaid
  dsimp only
  rw [gDeed_wst, iW_wst, gDeed_d, adv_w]
  have e2 : (dD B n (tN B n 0 (pI (S.2.2.2 0) - 1) (adv B n S))).2.2.2 = S.2.2.2 := by unfold dD; rw [pss_w, tN_w, adv_w]
  by_cases z : (dD B n (tN B n 0 (pI (S.2.2.2 0) - 1) (adv B n S))).1 = 0
  · rw [if_pos z, e2]; exact eqv_rfl
  · rw [if_neg z]; exact eqv_bad z rfl rfl
theorem eq_twin (h : S.1 = 0) (h2 : S.2.2.2 2 ≤ 4) : eqv (gTwin B n (adv B n S)) (fTwin B n S) := by
  unfold gTwin fTwin
  dsimp only
  have hA : (adv B n S).1 = 0 := by rw [adv_1]; exact h
  have wA : (adv B n S).2.2.2 = S.2.2.2 := adv_w
  generalize hX : adv B n S = X at hA wA ⊢
  rw [wA]
  by_cases z : (nH B n 0 (S.2.2.2 2 - 1) X).1 = 0
  · have q := (nH_ok hA).mp z
    by_cases y : S.2.2.2 (13 + 4 * tV B n X.2.2.1) ≠ -1 ∨ cpI S.2.2.2 (tV B n X.2.2.1) = 1
    · have e : gTw1 B n X = err B n 2 X := by unfold gTw1; rw [if_pos ⟨hA, q.1, by rw [wA]; omega, by rw [wA]; exact y⟩]
      have e' : tw1 B n X = err B n 2 X := by unfold tw1; rw [wA, if_pos ⟨z, y⟩]
      have b : (err B n 2 X).1 ≠ 0 := err_ne (by omega)
      have e3 : ∀ a, gTw2 B n a (err B n 2 X) = err B n 2 X := fun a => by unfold gTw2; rw [if_neg (fun p => b p.1)]
      rw [e, e', if_pos b, tN_bad b, e3, tN_bad b, if_neg b]
      exact eqv_rfl
    · have e : gTw1 B n X = X := by unfold gTw1; rw [if_neg (fun p => y (by have := p.2.2.2; rw [wA] at this; exact this))]
      have e' : tw1 B n X = X := by unfold tw1; rw [wA, if_neg (fun p => y p.2), nH_id z]
      rw [e, e', if_neg (c := X.1 ≠ 0) (by omega), tN_ok q.1 q.2.1 q.2.2]
      have hB : (adv B n X).1 = 0 := by rw [adv_1]; exact hA
      have wB : (adv B n X).2.2.2 = S.2.2.2 := by rw [adv_w]; exact wA
      generalize hY : adv B n X = Y at hB wB ⊢
      by_cases z2 : (nH B n 0 (S.2.2.2 2 - 1) Y).1 = 0
      · have q2 := (nH_ok hB).mp z2
        by_cases y2 : tV B n Y.2.2.1 = tV B n X.2.2.1 ∨ S.2.2.2 (13 + 4 * tV B n Y.2.2.1) ≠ -1
        · have e3 : gTw2 B n (tV B n X.2.2.1) Y = err B n 2 Y := by unfold gTw2; rw [if_pos ⟨hB, q2.1, by rw [wB]; omega, by rw [wB]; exact y2⟩]
          have e4 : tw2 B n (tV B n X.2.2.1) Y = err B n 2 Y := by unfold tw2; rw [wB, if_pos ⟨z2, y2⟩]
          have b : (err B n 2 Y).1 ≠ 0 := err_ne (by omega)
          rw [e3, e4, tN_bad b, if_neg b, if_pos b]; exact eqv_rfl
        · have e3 : gTw2 B n (tV B n X.2.2.1) Y = Y := by unfold gTw2; rw [if_neg (fun p => y2 (by have := p.2.2.2; rw [wB] at this; exact this))]
          have e4 : tw2 B n (tV B n X.2.2.1) Y = Y := by unfold tw2; rw [wB, if_neg (fun p => y2 p.2), nH_id z2]
          rw [e3, e4, tN_ok q2.1 q2.2.1 q2.2.2, if_pos (c := (adv B n Y).1 = 0) (by rw [adv_1]; exact hB), if_neg (c := Y.1 ≠ 0) (by omega), adv_wst]
          exact eqv_rfl
      · have nq := fun q => z2 ((nH_ok (B := B) (n := n) (lo := 0) (hi := S.2.2.2 2 - 1) hB).mpr q)
        have e3 : gTw2 B n (tV B n X.2.2.1) Y = Y := by
          unfold gTw2
          rw [if_neg (fun p => nq ⟨p.2.1, (tV_rng p.2.1).1, by have := p.2.2.1; rw [wB] at this; omega⟩)]
        have e4 : tw2 B n (tV B n X.2.2.1) Y = nH B n 0 (S.2.2.2 2 - 1) Y := by unfold tw2; rw [wB, if_neg (fun p => z2 p.1)]
        have b : (tN B n 0 (S.2.2.2 2 - 1) Y).1 ≠ 0 := by rw [tN_1]; exact z2
        rw [e3, e4, if_neg b, if_pos z2]
        unfold tN at b ⊢
        rw [adv_1] at b
        rw [adv_bad b]; exact eqv_rfl
  · have nq := fun q => z ((nH_ok (B := B) (n := n) (lo := 0) (hi := S.2.2.2 2 - 1) hA).mpr q)
    have e : gTw1 B n X = X := by
      unfold gTw1
      rw [if_neg (fun p => nq ⟨p.2.1, (tV_rng p.2.1).1, by have := p.2.2.1; rw [wA] at this; omega⟩)]
    have e' : tw1 B n X = nH B n 0 (S.2.2.2 2 - 1) X := by unfold tw1; rw [wA, if_neg (fun p => z p.1)]
    have b : (tN B n 0 (S.2.2.2 2 - 1) X).1 ≠ 0 := by rw [tN_1]; exact z
    have e3 : ∀ a, gTw2 B n a (tN B n 0 (S.2.2.2 2 - 1) X) = tN B n 0 (S.2.2.2 2 - 1) X := fun a => by unfold gTw2; rw [if_neg (fun p => b p.1)]
    rw [e, e', if_pos z, e3, tN_bad b, if_neg b]
    unfold tN at b ⊢
    rw [adv_1] at b
    rw [adv_bad b]; exact eqv_rfl
theorem pI_rg {s : Int} (h0 : 0 ≤ s) (h1 : s ≤ 4) : 1 ≤ pI s ∧ pI s ≤ 16 := by
  rcases (show s = 0 ∨ s = 1 ∨ s = 2 ∨ s = 3 ∨ s = 4 by omega) with h | h | h | h | h <;> subst h <;> decide
theorem eq_part {T : PS} {m k : Int} (m0 : 0 ≤ m) (mk : m ≤ k - 1) (k16 : k ≤ 16) : tN B n 0 (k - 1) (gRl1 B n m T) = tP B n m T := by
  by_cases z : T.1 = 0
  · unfold tP
    by_cases q : tK B n T.2.2.1 = 2
    · have r := tV_rng q
      by_cases y : sbI (min 99999 (tV B n T.2.2.1)) m = 1
      · have e : gRl1 B n m T = T := by unfold gRl1; rw [if_neg (fun p => p.2.2 y)]
        have l := sbI_le (by omega) m0 y
        have e2 : min 99999 (tV B n T.2.2.1) = tV B n T.2.2.1 := by omega
        rw [e2] at y
        rw [e, if_neg (fun p => p.2 y), tN_ok q (by omega) (by omega), tN_ok q (by omega) (by omega)]
      · have e : gRl1 B n m T = err B n 2 T := by unfold gRl1; rw [if_pos ⟨z, q, y⟩]
        rw [e, tN_bad (err_ne (by omega))]
        by_cases u : tV B n T.2.2.1 ≤ 15
        · have e2 : min 99999 (tV B n T.2.2.1) = tV B n T.2.2.1 := by omega
          rw [e2] at y
          rw [if_pos ⟨(nH_ok z).mpr ⟨q, by omega, u⟩, y⟩]
        · rw [if_neg (fun p => by have := (nH_ok z).mp p.1; omega), tN_v z q (by omega)]
    · have e : gRl1 B n m T = T := by unfold gRl1; rw [if_neg (fun p => q p.2.1)]
      rw [e, if_neg (fun p => q ((nH_ok z).mp p.1).1), tN_k z q, tN_k z q]
  · have e : gRl1 B n m T = T := by unfold gRl1; rw [if_neg (fun p => z p.1)]
    unfold tP
    rw [e, nH_bad z, if_neg (fun p => z p.1), tN_bad z, tN_bad z]
theorem tP_bad {m : Int} (z : S.1 ≠ 0) : tP B n m S = S := by
  unfold tP; rw [nH_bad z, if_neg (fun p => z p.1), tN_bad z]
theorem gRl1_bad {m : Int} (z : S.1 ≠ 0) : gRl1 B n m S = S := by unfold gRl1; rw [if_neg (fun p => z p.1)]
theorem gRl1_P {m : Int} : (gRl1 B n m S).2.2.1 = S.2.2.1 := by unfold gRl1 err; (repeat' split) <;> rfl
theorem eq_rule {i : Int} (h0 : 0 ≤ S.2.2.2 0) (h4 : S.2.2.2 0 ≤ 4) : gRule B n i S = fRule B n i S := by
  have p := pI_rg h0 h4
  unfold gRule fRule
  dsimp only
  rw [gRl1_P]
  by_cases z : (tN B n 0 (pI (S.2.2.2 0) - 1) S).1 = 0
  · have g := tN_g z
    rw [eq_part (by omega) (by omega) (by omega)]
  · rw [gRl1_bad z, tN_bad z, tP_bad z]
theorem eq_house (h0 : 0 ≤ S.2.2.2 0) (h4 : S.2.2.2 0 ≤ 4) (h2 : S.2.2.2 4 < 4) : eqv (gHouse B n (adv B n S)) (fHouse B n S) := by
  unfold gHouse fHouse
  rw [if_neg (by omega)]
  dsimp only
  rw [adv_w, eq_rule (by rw [adv_w]; exact h0) (by rw [adv_w]; exact h4)]
  by_cases z : (fRule B n (146 + 2 * S.2.2.2 4) (adv B n S)).1 = 0
  · rw [if_pos z]; exact eqv_rfl
  · rw [if_neg z]; exact eqv_bad z rfl rfl
theorem eq_course (h2 : S.2.2.2 5 < 6) : eqv (gCourse B n (adv B n S)) (fCourse B n S) := by
  unfold gCourse fCourse
  rw [if_neg (by omega)]
  dsimp only
  rw [adv_w]
  by_cases z : (tN B n 1 9 (pss B n (iW B n 15 (adv B n S)) (adv B n S))).1 = 0
  · rw [if_pos z]; exact eqv_rfl
  · rw [if_neg z]; exact eqv_bad z rfl rfl
theorem eq_ahead : gAhead B n (adv B n S) = fAhead B n S := by
  unfold gAhead fAhead
  dsimp only
  rw [adv_w]
theorem eqW_uniq : ∀ (w w' : List Int) (s : Int), w.length = w'.length → eqW B s w = true → eqW B s w' = true → w = w' := by
  intro w
  induction w with
  | nil => intro w' s h _ _; cases w' with
    | nil => rfl
    | cons c cs => simp at h
  | cons c cs ih =>
    intro w' s h h1 h2
    cases w' with
    | nil => simp at h
    | cons d ds =>
      simp only [eqW, Bool.and_eq_true, decide_eq_true_eq] at h1 h2
      rw [← h1.1, ← h2.1, ih ds (s + 1) (by simpa using h) h1.2 h2.2]
theorem iW_uniq {i j : Nat} (h : iW B n i S = 1) (h2 : iW B n j S = 1) : LW i = LW j := by
  unfold iW at h h2
  have a : S.1 = 0 ∧ wd B n i S.2.2.1 = true := by
    by_cases z : S.1 = 0 ∧ wd B n i S.2.2.1 = true
    · exact z
    · rw [if_neg z] at h; omega
  have b : S.1 = 0 ∧ wd B n j S.2.2.1 = true := by
    by_cases z : S.1 = 0 ∧ wd B n j S.2.2.1 = true
    · exact z
    · rw [if_neg z] at h2; omega
  have a2 := a.2
  have b2 := b.2
  unfold wd at a2 b2
  simp only [Bool.and_eq_true, decide_eq_true_eq] at a2 b2
  exact eqW_uniq _ _ _ (by omega) a2.2 b2.2
theorem iW_x (i j : Nat) (h : iW B n i S = 1) (hn : LW i ≠ LW j) : iW B n j S = 0 := by
  rcases iW_01 (B := B) (n := n) (i := j) (S := S) with q | q
  · exact q
  · exact absurd (iW_uniq h q) hn
/-- what holds of the numbers of a school that is being read -/
def WFw (w : Int → Int) : Prop := 0 ≤ w 0 ∧ w 0 ≤ 4 ∧ w 2 ≤ 4 ∧ w 3 ≤ 12 ∧ w 4 ≤ 4 ∧ w 5 ≤ 6 ∧ ∀ d : Int, 0 ≤ d → d < 4 → w (12 + 4 * d) ≤ 12
theorem eq_next (h : S.1 = 0) (hw : WFw S.2.2.2) : eqv (gNext B n S) (fNext B n S) := by
  obtain ⟨w0, w04, w2, w3, w4, w5, wd⟩ := hw
  unfold gNext fNext
  dsimp only
  by_cases hk : gKn B n S = 1
  · have e1 : gN1 B n S = S := by unfold gN1; rw [if_pos hk]
    rw [e1]
    have lim : ∀ {Q : Prop}, (((iW B n 2 S = 1 ∧ S.2.2.2 2 = 4) ∨ (iW B n 3 S = 1 ∧ S.2.2.2 3 = 12) ∨ (iW B n 5 S = 1 ∧ S.2.2.2 4 = 4) ∨ (iW B n 1 S = 1 ∧ S.2.2.2 5 = 6)) ∨ ¬ ((iW B n 2 S = 1 ∧ S.2.2.2 2 = 4) ∨ (iW B n 3 S = 1 ∧ S.2.2.2 3 = 12) ∨ (iW B n 5 S = 1 ∧ S.2.2.2 4 = 4) ∨ (iW B n 1 S = 1 ∧ S.2.2.2 5 = 6)) → Q) → Q := fun k => k (Classical.em _)
    have b : (err B n 3 S).1 ≠ 0 := err_ne (by omega)
    have nz : ¬ S.1 ≠ 0 := by omega
    by_cases i2 : iW B n 2 S = 1
    · have j3 := iW_x 2 3 i2 (by decide); have j5 := iW_x 2 5 i2 (by decide); have j1 := iW_x 2 1 i2 (by decide)
      rw [if_pos (c := iW B n 2 S = 1) i2]
      by_cases f : S.2.2.2 2 = 4
      · have e2 : gN2 B n S = err B n 3 S := by unfold gN2; rw [if_pos (Or.inl ⟨i2, f⟩)]
        rw [e2, if_pos b]; unfold fDoor; rw [if_pos (by omega)]; exact eqv_rfl
      · have e2 : gN2 B n S = S := by unfold gN2; rw [if_neg (by omega)]
        rw [e2, if_neg nz, if_pos i2]; exact eq_door (by omega)
    · rw [if_neg (c := iW B n 2 S = 1) i2]
      by_cases i6 : iW B n 6 S = 1
      · have j3 := iW_x 6 3 i6 (by decide); have j5 := iW_x 6 5 i6 (by decide); have j1 := iW_x 6 1 i6 (by decide)
        have e2 : gN2 B n S = S := by unfold gN2; rw [if_neg (by omega)]
        rw [if_pos (c := iW B n 6 S = 1) i6, e2, if_neg nz, if_neg i2, if_pos i6]; exact eq_lesson h w2 wd
      · rw [if_neg (c := iW B n 6 S = 1) i6]
        by_cases i3 : iW B n 3 S = 1
        · have j5 := iW_x 3 5 i3 (by decide); have j1 := iW_x 3 1 i3 (by decide)
          rw [if_pos (c := iW B n 3 S = 1) i3]
          by_cases f : S.2.2.2 3 = 12
          · have e2 : gN2 B n S = err B n 3 S := by unfold gN2; rw [if_pos (Or.inr (Or.inl ⟨i3, f⟩))]
            rw [e2, if_pos b]; unfold fExam; rw [if_pos (by omega)]; exact eqv_rfl
          · have e2 : gN2 B n S = S := by unfold gN2; rw [if_neg (by omega)]
            rw [e2, if_neg nz, if_neg i2, if_neg i6, if_pos i3]; exact eq_exam h (by omega)
        · rw [if_neg (c := iW B n 3 S = 1) i3]
          by_cases i17 : iW B n 17 S = 1
          · have j5 := iW_x 17 5 i17 (by decide); have j1 := iW_x 17 1 i17 (by decide)
            have e2 : gN2 B n S = S := by unfold gN2; rw [if_neg (by omega)]
            rw [if_pos (c := iW B n 17 S = 1) i17, e2, if_neg nz, if_neg i2, if_neg i6, if_neg i3, if_pos i17]; exact eq_twin h w2
          · rw [if_neg (c := iW B n 17 S = 1) i17]
            by_cases i9 : iW B n 9 S = 1
            · have j5 := iW_x 9 5 i9 (by decide); have j1 := iW_x 9 1 i9 (by decide)
              have e2 : gN2 B n S = S := by unfold gN2; rw [if_neg (by omega)]
              rw [if_pos (c := iW B n 9 S = 1) i9, e2, if_neg nz, if_neg i2, if_neg i6, if_neg i3, if_neg i17, if_pos i9]
              unfold fOwner; rw [eq_rule (by rw [adv_w]; exact w0) (by rw [adv_w]; exact w04)]; exact eqv_rfl
            · rw [if_neg (c := iW B n 9 S = 1) i9]
              by_cases i5 : iW B n 5 S = 1
              · have j1 := iW_x 5 1 i5 (by decide)
                rw [if_pos (c := iW B n 5 S = 1) i5]
                by_cases f : S.2.2.2 4 = 4
                · have e2 : gN2 B n S = err B n 3 S := by unfold gN2; rw [if_pos (by omega)]
                  rw [e2, if_pos b]; unfold fHouse; rw [if_pos (by omega)]; exact eqv_rfl
                · have e2 : gN2 B n S = S := by unfold gN2; rw [if_neg (by omega)]
                  rw [e2, if_neg nz, if_neg i2, if_neg i6, if_neg i3, if_neg i17, if_neg i9, if_pos i5]; exact eq_house w0 w04 (by omega)
              · rw [if_neg (c := iW B n 5 S = 1) i5]
                by_cases i1 : iW B n 1 S = 1
                · rw [if_pos (c := iW B n 1 S = 1) i1]
                  by_cases f : S.2.2.2 5 = 6
                  · have e2 : gN2 B n S = err B n 3 S := by unfold gN2; rw [if_pos (by omega)]
                    rw [e2, if_pos b]; unfold fCourse; rw [if_pos (by omega)]; exact eqv_rfl
                  · have e2 : gN2 B n S = S := by unfold gN2; rw [if_neg (by omega)]
                    rw [e2, if_neg nz, if_neg i2, if_neg i6, if_neg i3, if_neg i17, if_neg i9, if_neg i5, if_pos i1]; exact eq_course (by omega)
                · have e2 : gN2 B n S = S := by unfold gN2; rw [if_neg (by omega)]
                  have i0 : iW B n 0 S = 1 := by
                    unfold gKn orI at hk
                    rcases iW_01 (B := B) (n := n) (i := 0) (S := S) with q | q
                    · exfalso; simp [i2, i6, i3, i17, i9, i5, i1, q] at hk
                    · exact q
                  rw [if_neg (c := iW B n 1 S = 1) i1, if_pos (c := iW B n 0 S = 1) i0, e2, if_neg nz, if_neg i2, if_neg i6, if_neg i3, if_neg i17, if_neg i9, if_neg i5, if_neg i1, eq_ahead]
                  exact eqv_rfl
  · have b : (err B n 1 S).1 ≠ 0 := err_ne (by omega)
    have e1 : gN1 B n S = err B n 1 S := by unfold gN1; rw [if_neg hk]
    have e2 : gN2 B n (err B n 1 S) = err B n 1 S := by
      unfold gN2
      rw [iW_bad b, iW_bad b, iW_bad b, iW_bad b, if_neg (by omega)]
    have no : ∀ i, (i = 2 ∨ i = 6 ∨ i = 3 ∨ i = 17 ∨ i = 9 ∨ i = 5 ∨ i = 1 ∨ i = 0) → ¬ iW B n i S = 1 := by
      intro i hi q
      apply hk
      unfold gKn orI
      rcases hi with e | e | e | e | e | e | e | e <;> subst e <;> simp [q]
    rw [e1, e2, if_pos b, if_neg (no 2 (by omega)), if_neg (no 6 (by omega)), if_neg (no 3 (by omega)), if_neg (no 17 (by omega)), if_neg (no 9 (by omega)), if_neg (no 5 (by omega)), if_neg (no 1 (by omega)), if_neg (no 0 (by omega))]
    exact eqv_rfl
theorem eq_pss {T : PS} (e : eqv S T) : eqv (adv B n (gL1 B n S)) (pss B n (if tK B n T.2.2.1 = 3 then 1 else 0) T) := by
  obtain ⟨e1, e2, e3⟩ := e
  by_cases z : S.1 = 0
  · obtain ⟨e4, e5⟩ := e3 z
    have zT : T.1 = 0 := by omega
    unfold gL1
    rw [e4]
    by_cases q : tK B n T.2.2.1 = 3
    · rw [if_neg (fun p => p.2 q), if_pos q]
      unfold pss adv
      rw [if_pos rfl, if_pos z, if_pos zT]
      exact ⟨e1, e2, fun _ => ⟨by rw [e4], e5⟩⟩
    · rw [if_pos ⟨z, q⟩, if_neg q, adv_bad (err_ne (by omega))]
      unfold pss err
      rw [if_pos z, if_neg (by omega), if_pos zT]
      exact eqv_bad (by show (1 : Int) ≠ 0; omega) rfl (by show tS B n _ = tS B n _; rw [e4])
  · have zT : T.1 ≠ 0 := by omega
    have e6 : gL1 B n S = S := by unfold gL1; rw [if_neg (fun p => z p.1)]
    rw [e6, adv_bad z, pss_bad zT]
    exact eqv_bad z e1 e2
theorem eqv_wst {T : PS} {i v : Int} (e : eqv S T) : eqv (wst S i v) (wst T i v) := by
  obtain ⟨e1, e2, e3⟩ := e
  refine ⟨e1, e2, fun z => ⟨(e3 z).1, fun j => ?_⟩⟩
  show uPd S.2.2.2 i v j = uPd T.2.2.2 i v j
  unfold uPd
  rw [(e3 z).2 j]
theorem eq_line (h : S.1 = 0) (hw : WFw S.2.2.2) : eqv (gLine B n S) (fLine B n S) := by
  unfold gLine fLine
  dsimp only
  by_cases z : S.2.2.2 7 = 0
  · rw [if_pos z, if_pos z]; exact eqv_wst (eq_pss eqv_rfl)
  · rw [if_neg z, if_neg z]; exact eqv_wst (eq_pss (eq_next h hw))
end SML
end PUE
