/-! THE MACHINE -/
def callKd (i : Instr) (kd : Nat) : Bool := match i with
  | .invokevirtual _ => kd == 0 || kd == 1 || kd == 6
  | .invokestatic _ => kd == 2 || kd == 3 || kd == 8
  | .invokespecial _ => kd == 4 || kd == 5 || kd == 9
  | _ => false
def callIx (i : Instr) : Nat := match i with
  | .invokevirtual k => k
  | .invokestatic k => k
  | .invokespecial k => k
  | _ => 0
def cpyl (l0 l1 : List Value) (sp dp n : Nat) : List Value := (List.range l1.length).map (fun k => if dp ≤ k ∧ k < dp + n then l0.getD (sp + (k - dp)) .null else l1.getD k .null)
def acopy (st : List Value) (h : AH) : Option (List Value × AH) := match st with
  | .int n :: .int dp :: .ref a1 :: .int sp :: .ref a0 :: r => oB h[a0]? (fun c0 => oB h[a1]? (fun c1 => oC (decide (¬ sp < 0) && decide (¬ dp < 0) && decide (¬ n < 0) && c0.1 == c1.1 && c0.2.1 == c1.2.1 && (c0.1 == 1 && c0.2.1 == 0 || c0.1 == 2 && c0.2.1 == 1) && decide (sp.toNatClampNeg + n.toNatClampNeg ≤ c0.2.2.length) && decide (dp.toNatClampNeg + n.toNatClampNeg ≤ c1.2.2.length)) (some (r, h.set a1 (c1.1, c1.2.1, cpyl c0.2.2 c1.2.2 sp.toNatClampNeg dp.toNatClampNeg n.toNatClampNeg)))))
  | _ => none
def doRet (F : MR) (i : Instr) (st : List Value) (h : AH) : Option (Option Value × AH) := match i with
  | .ireturn => match mret F, st with
    | some .int, [.int x] => some (some (.int x), h)
    | some .boolean, [.int x] => oC (x &&& 1 == x) (some (some (.int x), h))
    | some .byte, [.int x] => oC (x.toInt8.toInt32 == x) (some (some (.int x), h))
    | some .char, [.int x] => oC ((x.toUInt32 % 65536).toInt32 == x) (some (some (.int x), h))
    | _, _ => none
  | .lreturn => match mret F, st with
    | some .long, [.long x] => some (some (.long x), h)
    | _, _ => none
  | .areturn => match mret F, st with
    | some (.object _), [.ref a] => some (some (.ref a), h)
    | _, _ => none
  | .return_ => match mret F, st with
    | none, [] => some (none, h)
    | _, _ => none
  | _ => none
/-- the receiver of a call is of the callee's class (virtual), or any object (init), or there is none (static) -/
def rcv (kd ci : Nat) (vs : List Value) (h : AH) : Bool := match kd with
  | 2 => true
  | 3 => true
  | 4 => match vs with
    | .ref _ :: _ => true
    | _ => false
  | 5 => match vs with
    | .ref _ :: _ => true
    | _ => false
  | 6 => match vs with
    | .retAddr a :: _ => a % 2 == 1 && decide (a / 2 < NSTR)
    | _ => false
  | _ => match vs with
    | .ref a :: _ => match h[a]? with
      | some c => c.1 == 0 && c.2.1 == ci
      | none => false
    | _ => false
abbrev AM : Type := Nat → Nat → AS → MR → Nat → ALv → List Value → AH → Option (Option Value × AH)
def nArg (kd : Nat) (G : MR) : Nat := if kd = 2 ∨ kd = 3 then mnp G else mnp G + 1
def amC (MT : Nat → Option MR) (rec : AM) (fr lo : Nat) (scr : AS) (F : MR) (i : Instr) (pc : Nat) (lv : ALv) (st : List Value) (h : AH) (kd id : Nat) : Option (Option Value × AH) := match kd with
  | 8 => oB (acopy st h) (fun q => oC (decide (1 ≤ fr) && decide (cats q.1 + 40 ≤ lo)) (rec fr lo scr F (pc + 3) lv q.1 q.2))
  | 9 => sR st (fun _ r => oC (decide (1 ≤ fr) && decide (cats r + 12 ≤ lo)) (rec fr lo scr F (pc + 3) lv r h))
  | kd => oB (MT id) (fun G => oC (decide (nArg kd G ≤ st.length) && decide (1 ≤ fr) && decide (mml G + 19 ≤ lo) && decide (cats (st.drop (nArg kd G)) ≤ 8) && decide (cats (st.take (nArg kd G)) ≤ mml G) && rcv kd (mci G) (st.take (nArg kd G)).reverse h)
      (oB (rec (fr - 1) (lo - (mml G + 19)) none G 0 (lv_args 0 (st.take (nArg kd G)).reverse) [] h) (fun q => rec fr lo scr F (pc + 3) lv (q.1.toList ++ st.drop (nArg kd G)) q.2)))
def amB (MT : Nat → Option MR) (rec : AM) : AM := fun fr lo scr F pc lv st h =>
  oB (fc F pc) (fun q => match ikind q.1 with
    | 0 => oB (stpA F scr q.1 q.2.2 pc lv st h) (fun x => rec fr lo scr F x.1 x.2.1 x.2.2 h)
    | 1 => oB (stpW F q.1 pc st h) (fun x => rec fr lo scr F x.1 lv x.2.1 x.2.2)
    | 2 => oB (stpN F q.1 pc st h) (fun x => rec fr lo scr F x.1 lv x.2.1 x.2.2)
    | 3 => oB (fnd (mcl F) (callIx q.1)) (fun e => oC (callKd q.1 e.1) (amC MT rec fr lo scr F q.1 pc lv st h e.1 e.2.1))
    | _ => doRet F q.1 st h)
noncomputable def am (MT : Nat → Option MR) (n : Nat) : AM := Nat.rec (motive := fun _ => AM) (fun _ _ _ _ _ _ _ _ => none) (fun _ ih => amB MT ih) n
theorem am_s (MT : Nat → Option MR) (n : Nat) : am MT (n + 1) = amB MT (am MT n) := rfl
/-! cells only come -/
theorem slo_set {h : AH} {a : Nat} {c d : AC} (hc : h[a]? = some c) (hd : d.2.2.length = c.2.2.length) : slo (h.set a d) = slo h := by
  unfold slo
  congr 1
  apply List.ext_getElem?
  intro i
  simp only [List.getElem?_map, List.getElem?_set]
  by_cases hi : a = i
  · subst hi
    obtain ⟨hlt, he⟩ := List.getElem?_eq_some_iff.mp hc
    simp [hlt, hd, he]
  · simp [hi]
theorem stpW_len {F : MR} {i : Instr} {pc pc' : Nat} {st st' : List Value} {h h' : AH} (hst : stpW F i pc st h = some (pc', st', h')) : h'.length = h.length ∧ slo h' = slo h := by
  cases i with
  | putfield z =>
    change sVR _ _ = some _ at hst
    obtain ⟨v, a, r, rfl, h1⟩ := sVR_inv hst
    obtain ⟨e0, he0, h4⟩ := oB_inv h1
    obtain ⟨cc, hc, h5⟩ := oB_inv h4
    obtain ⟨h3, h2⟩ := oC_inv h5
    simp only [Option.some.injEq, Prod.mk.injEq] at h2
    obtain ⟨rfl, rfl, rfl⟩ := h2
    exact ⟨List.length_set, slo_set hc (by simp)⟩
  | iastore =>
    change sVIR _ _ = some _ at hst
    obtain ⟨v, j, a, r, rfl, h1⟩ := sVIR_inv hst
    obtain ⟨cc, hc, h4⟩ := oB_inv h1
    obtain ⟨h3, h2⟩ := oC_inv h4
    simp only [Option.some.injEq, Prod.mk.injEq] at h2
    obtain ⟨rfl, rfl, rfl⟩ := h2
    exact ⟨List.length_set, slo_set hc (by simp)⟩
  | bastore =>
    change sVIR _ _ = some _ at hst
    obtain ⟨v, j, a, r, rfl, h1⟩ := sVIR_inv hst
    obtain ⟨cc, hc, h4⟩ := oB_inv h1
    obtain ⟨h3, h2⟩ := oC_inv h4
    simp only [Option.some.injEq, Prod.mk.injEq] at h2
    obtain ⟨rfl, rfl, rfl⟩ := h2
    exact ⟨List.length_set, slo_set hc (by simp)⟩
  | lastore =>
    change sVIR _ _ = some _ at hst
    obtain ⟨v, j, a, r, rfl, h1⟩ := sVIR_inv hst
    obtain ⟨cc, hc, h4⟩ := oB_inv h1
    obtain ⟨h3, h2⟩ := oC_inv h4
    simp only [Option.some.injEq, Prod.mk.injEq] at h2
    obtain ⟨rfl, rfl, rfl⟩ := h2
    exact ⟨List.length_set, slo_set hc (by simp)⟩
  | aastore =>
    change sVIR _ _ = some _ at hst
    obtain ⟨v, j, a, r, rfl, h1⟩ := sVIR_inv hst
    split at h1
    · obtain ⟨dd, hdd, h1⟩ := oB_inv h1
      obtain ⟨cc, hc, h4⟩ := oB_inv h1
      obtain ⟨h3, h2⟩ := oC_inv h4
      simp only [Option.some.injEq, Prod.mk.injEq] at h2
      obtain ⟨rfl, rfl, rfl⟩ := h2
      exact ⟨List.length_set, slo_set hc (by simp)⟩
    · cases h1
  | _ => exact absurd hst (by intro z; cases z)
theorem stpN_len {F : MR} {i : Instr} {pc pc' : Nat} {st st' : List Value} {h h' : AH} (hst : stpN F i pc st h = some (pc', st', h')) : h.length ≤ h'.length ∧ slo h ≤ slo h' := by
  cases i with
  | new z =>
    change oB _ _ = some _ at hst
    obtain ⟨e0, he0, h2⟩ := oB_inv hst
    simp only [Option.some.injEq, Prod.mk.injEq] at h2
    obtain ⟨rfl, rfl, rfl⟩ := h2
    exact ⟨by simp, by rw [slo_push]; omega⟩
  | newarray t =>
    change oB _ _ = some _ at hst
    obtain ⟨q0, hq0, h1⟩ := oB_inv hst
    obtain ⟨n, r, rfl, h4⟩ := sI_inv h1
    obtain ⟨h3, h2⟩ := oC_inv h4
    simp only [Option.some.injEq, Prod.mk.injEq] at h2
    obtain ⟨rfl, rfl, rfl⟩ := h2
    exact ⟨by simp, by rw [slo_push]; omega⟩
  | anewarray z =>
    change oB _ _ = some _ at hst
    obtain ⟨e0, he0, h1⟩ := oB_inv hst
    obtain ⟨n, r, rfl, h4⟩ := sI_inv h1
    obtain ⟨h3, h2⟩ := oC_inv h4
    simp only [Option.some.injEq, Prod.mk.injEq] at h2
    obtain ⟨rfl, rfl, rfl⟩ := h2
    exact ⟨by simp, by rw [slo_push]; omega⟩
  | _ => exact absurd hst (by intro z; cases z)
theorem acopy_inv {st r : List Value} {h h' : AH} (hst : acopy st h = some (r, h')) : ∃ (n dp sp : Int32) (a0 a1 : Nat) (c0 c1 : AC), st = .int n :: .int dp :: .ref a1 :: .int sp :: .ref a0 :: r ∧ h[a0]? = some c0 ∧ h[a1]? = some c1 ∧ ¬ sp < 0 ∧ ¬ dp < 0 ∧ ¬ n < 0 ∧ c0.1 = c1.1 ∧ c0.2.1 = c1.2.1 ∧ (c0.1 = 1 ∧ c0.2.1 = 0 ∨ c0.1 = 2 ∧ c0.2.1 = 1) ∧ sp.toNatClampNeg + n.toNatClampNeg ≤ c0.2.2.length ∧ dp.toNatClampNeg + n.toNatClampNeg ≤ c1.2.2.length ∧ h' = h.set a1 (c1.1, c1.2.1, cpyl c0.2.2 c1.2.2 sp.toNatClampNeg dp.toNatClampNeg n.toNatClampNeg) := by
  unfold acopy at hst
  split at hst
  · rename_i n dp a1 sp a0 r
    obtain ⟨c0, hc0, h1⟩ := oB_inv hst
    obtain ⟨c1, hc1, h2⟩ := oB_inv h1
    obtain ⟨h3, h4⟩ := oC_inv h2
    simp only [Option.some.injEq, Prod.mk.injEq] at h4
    obtain ⟨rfl, rfl⟩ := h4
    simp only [Bool.and_eq_true, Bool.or_eq_true, beq_iff_eq, decide_eq_true_eq] at h3
    obtain ⟨⟨⟨⟨⟨⟨⟨g1, g2⟩, g3⟩, g4⟩, g5⟩, g6⟩, g7⟩, g8⟩ := h3
    exact ⟨n, dp, sp, a0, a1, c0, c1, rfl, hc0, hc1, g1, g2, g3, g4, g5, g6, g7, g8, rfl⟩
  · cases hst
theorem cpyl_len (l0 l1 : List Value) (sp dp n : Nat) : (cpyl l0 l1 sp dp n).length = l1.length := by unfold cpyl; simp
theorem doRet_h {F : MR} {i : Instr} {st : List Value} {h h' : AH} {v : Option Value} (hst : doRet F i st h = some (v, h')) : h' = h := by
  unfold doRet at hst
  split at hst
  · split at hst
    · cases hst; rfl
    · obtain ⟨-, h2⟩ := oC_inv hst; cases h2; rfl
    · obtain ⟨-, h2⟩ := oC_inv hst; cases h2; rfl
    · obtain ⟨-, h2⟩ := oC_inv hst; cases h2; rfl
    · cases hst
  · split at hst
    · cases hst; rfl
    · cases hst
  · split at hst
    · cases hst; rfl
    · cases hst
  · split at hst
    · cases hst; rfl
    · cases hst
  · cases hst
theorem am_len (MT : Nat → Option MR) : ∀ (n fr lo : Nat) (scr : AS) (F : MR) (pc : Nat) (lv : ALv) (st : List Value) (h h' : AH) (v : Option Value), am MT n fr lo scr F pc lv st h = some (v, h') → h.length ≤ h'.length ∧ slo h ≤ slo h' := by
  intro n
  induction n with
  | zero => intro fr lo scr F pc lv st h h' v hh; cases hh
  | succ n ih =>
    intro fr lo scr F pc lv st h h' v hh
    rw [am_s] at hh
    unfold amB at hh
    obtain ⟨q, hq, h1⟩ := oB_inv hh
    split at h1
    · obtain ⟨x, hx, h2⟩ := oB_inv h1
      exact ih _ _ _ _ _ _ _ _ _ _ h2
    · obtain ⟨x, hx, h2⟩ := oB_inv h1
      have z := ih _ _ _ _ _ _ _ _ _ _ h2
      have y := stpW_len (pc' := x.1) (st' := x.2.1) (h' := x.2.2) hx
      omega
    · obtain ⟨x, hx, h2⟩ := oB_inv h1
      have z := ih _ _ _ _ _ _ _ _ _ _ h2
      have y := stpN_len (pc' := x.1) (st' := x.2.1) (h' := x.2.2) hx
      omega
    · obtain ⟨e, he, h2⟩ := oB_inv h1
      obtain ⟨hk, h3⟩ := oC_inv h2
      unfold amC at h3
      split at h3
      · obtain ⟨x, hx, h4⟩ := oB_inv h3
        obtain ⟨-, h5⟩ := oC_inv h4
        obtain ⟨n0, dp, sp, a0, a1, c0, c1, -, -, hc1, -, -, -, -, -, -, -, -, e9⟩ := acopy_inv (r := x.1) (h' := x.2) hx
        have z := ih _ _ _ _ _ _ _ _ _ _ h5
        have y := slo_set hc1 (d := (c1.1, c1.2.1, cpyl c0.2.2 c1.2.2 sp.toNatClampNeg dp.toNatClampNeg n0.toNatClampNeg)) (cpyl_len _ _ _ _ _)
        rw [e9, y, List.length_set] at z
        exact z
      · obtain ⟨a, r, rfl, h4⟩ := sR_inv h3
        obtain ⟨-, h5⟩ := oC_inv h4
        exact ih _ _ _ _ _ _ _ _ _ _ h5
      · obtain ⟨G, hG, h4⟩ := oB_inv h3
        obtain ⟨-, h5⟩ := oC_inv h4
        obtain ⟨x, hx, h6⟩ := oB_inv h5
        have z := ih _ _ _ _ _ _ _ _ _ _ h6
        have y := ih _ _ _ _ _ _ _ _ x.2 x.1 hx
        omega
    · rw [doRet_h h1]
      exact ⟨Nat.le_refl _, Nat.le_refl _⟩

