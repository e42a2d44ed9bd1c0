/-! THE LOCALS BY THEIR NUMBERS: a run doesn't care for their order, nor for more of them -/
def Has (l1 l2 : ALv) : Prop := ∀ q ∈ l2, fnd l1 q.1 = some q.2
theorem Has_fnd {l1 l2 : ALv} {k : Nat} {v : Value} (h : Has l1 l2) (hf : fnd l2 k = some v) : fnd l1 k = some v := h _ (fnd_mem hf)
theorem ldI_sub {l1 l2 : ALv} {k : Nat} {v : Value} (h : Has l1 l2) (hf : ldI l2 k = some v) : ldI l1 k = some v := by
  obtain ⟨x, rfl, h2⟩ := ldI_inv hf
  unfold ldI; rw [Has_fnd h h2]
theorem ldL_sub {l1 l2 : ALv} {k : Nat} {v : Value} (h : Has l1 l2) (hf : ldL l2 k = some v) : ldL l1 k = some v := by
  obtain ⟨x, rfl, h2⟩ := ldL_inv hf
  unfold ldL; rw [Has_fnd h h2]
theorem ldA_sub {l1 l2 : ALv} {k : Nat} {v : Value} (h : Has l1 l2) (hf : ldA l2 k = some v) : ldA l1 k = some v := by
  obtain ⟨h1, h2⟩ := ldA_inv hf
  unfold ldA; rw [Has_fnd h h2]
  rcases h1 with rfl | ⟨x, rfl⟩ | ⟨x, rfl⟩ <;> rfl
theorem fnd_flt {p : Nat × Value → Bool} {l : ALv} {k : Nat} {v : Value} (hf : fnd l k = some v) (hp : p (k, v) = true) : fnd (l.filter p) k = some v := by
  induction l with
  | nil => cases hf
  | cons q t ih =>
    unfold fnd at hf
    split at hf
    · rename_i hq
      cases hf
      have e : q.1 = k := by simpa using hq
      have hp2 : p q = true := by rw [← hp, ← e]
      rw [List.filter_cons_of_pos hp2]
      unfold fnd
      rw [if_pos hq]
    · rename_i hq
      by_cases hp2 : p q = true
      · rw [List.filter_cons_of_pos hp2]
        unfold fnd
        rw [if_neg hq]
        exact ih hf
      · rw [List.filter_cons_of_neg hp2]
        exact ih hf
theorem Has_set1 {l1 l2 : ALv} {i : Nat} {v : Value} (h : Has l1 l2) : Has (lvset1 l1 i v) (lvset1 l2 i v) := by
  intro q hq
  unfold lvset1 at hq ⊢
  rcases List.mem_cons.mp hq with rfl | hq
  · unfold fnd; simp
  · obtain ⟨h1, h2⟩ := List.mem_filter.mp hq
    have h3 : ¬ ((i, v) : Nat × Value).1 == q.1 := by
      simp only [Bool.and_eq_true, Bool.not_eq_true', beq_eq_false_iff_ne] at h2
      simp only [beq_iff_eq]
      exact fun z => h2.1 z.symm
    unfold fnd
    rw [if_neg h3]
    exact fnd_flt (h q h1) h2
theorem Has_set2 {l1 l2 : ALv} {i : Nat} {v : Value} (h : Has l1 l2) : Has (lvset2 l1 i v) (lvset2 l2 i v) := by
  intro q hq
  unfold lvset2 at hq ⊢
  rcases List.mem_cons.mp hq with rfl | hq
  · unfold fnd; simp
  · obtain ⟨h1, h2⟩ := List.mem_filter.mp hq
    have h3 : ¬ ((i, v) : Nat × Value).1 == q.1 := by
      simp only [Bool.and_eq_true, Bool.not_eq_true', beq_eq_false_iff_ne] at h2
      simp only [beq_iff_eq]
      exact fun z => h2.1 z.symm
    unfold fnd
    rw [if_neg h3]
    exact fnd_flt (h q h1) h2
set_option maxHeartbeats 4000000 in
set_option maxRecDepth 100000 in
theorem stpP_sub {F : MR} {scr : AS} {i : Instr} {tgt pc pc' : Nat} {lv lw lv' : ALv} {st st' : List Value} {hh0 : AH} (hh : Has lw lv) (h : stpP F scr i tgt pc lv st hh0 = some (pc', lv', st')) : ∃ l, stpP F scr i tgt pc lw st hh0 = some (pc', l, st') ∧ Has l lv' := by
  cases i with
  | iconst n =>
    change (some (pc + 1, lv, .int (Int32.ofInt n) :: st)) = _ at h
    change ∃ l, (some (pc + 1, lw, .int (Int32.ofInt n) :: st)) = _ ∧ _
    simp only [Option.some.injEq, Prod.mk.injEq] at h
    obtain ⟨rfl, rfl, rfl⟩ := h
    exact ⟨_, rfl, hh⟩
  | bipush n =>
    change (some (pc + 2, lv, .int (Int8.ofInt n).toInt32 :: st)) = _ at h
    change ∃ l, (some (pc + 2, lw, .int (Int8.ofInt n).toInt32 :: st)) = _ ∧ _
    simp only [Option.some.injEq, Prod.mk.injEq] at h
    obtain ⟨rfl, rfl, rfl⟩ := h
    exact ⟨_, rfl, hh⟩
  | sipush n =>
    change (some (pc + 3, lv, .int (Int16.ofInt n).toInt32 :: st)) = _ at h
    change ∃ l, (some (pc + 3, lw, .int (Int16.ofInt n).toInt32 :: st)) = _ ∧ _
    simp only [Option.some.injEq, Prod.mk.injEq] at h
    obtain ⟨rfl, rfl, rfl⟩ := h
    exact ⟨_, rfl, hh⟩
  | lconst n =>
    change (some (pc + 1, lv, .long (Int64.ofNat (n : Nat)) :: st)) = _ at h
    change ∃ l, (some (pc + 1, lw, .long (Int64.ofNat (n : Nat)) :: st)) = _ ∧ _
    simp only [Option.some.injEq, Prod.mk.injEq] at h
    obtain ⟨rfl, rfl, rfl⟩ := h
    exact ⟨_, rfl, hh⟩
  | iload_n k =>
    change (oB (ldI lv (k : Nat)) (fun v => some (pc + 1, lv, v :: st))) = _ at h
    change ∃ l, (oB (ldI lw (k : Nat)) (fun v => some (pc + 1, lw, v :: st))) = _ ∧ _
    obtain ⟨v, hv, hA1⟩ := oB_inv h
    simp only [Option.some.injEq, Prod.mk.injEq] at hA1
    obtain ⟨rfl, rfl, rfl⟩ := hA1
    exact ⟨_, (oB_mk (ldI_sub hh hv) rfl), hh⟩
  | iload k =>
    change (oB (ldI lv k) (fun v => some (pc + 2, lv, v :: st))) = _ at h
    change ∃ l, (oB (ldI lw k) (fun v => some (pc + 2, lw, v :: st))) = _ ∧ _
    obtain ⟨v, hv, hA1⟩ := oB_inv h
    simp only [Option.some.injEq, Prod.mk.injEq] at hA1
    obtain ⟨rfl, rfl, rfl⟩ := hA1
    exact ⟨_, (oB_mk (ldI_sub hh hv) rfl), hh⟩
  | lload_n k =>
    change (oB (ldL lv (k : Nat)) (fun v => some (pc + 1, lv, v :: st))) = _ at h
    change ∃ l, (oB (ldL lw (k : Nat)) (fun v => some (pc + 1, lw, v :: st))) = _ ∧ _
    obtain ⟨v, hv, hA1⟩ := oB_inv h
    simp only [Option.some.injEq, Prod.mk.injEq] at hA1
    obtain ⟨rfl, rfl, rfl⟩ := hA1
    exact ⟨_, (oB_mk (ldL_sub hh hv) rfl), hh⟩
  | lload k =>
    change (oB (ldL lv k) (fun v => some (pc + 2, lv, v :: st))) = _ at h
    change ∃ l, (oB (ldL lw k) (fun v => some (pc + 2, lw, v :: st))) = _ ∧ _
    obtain ⟨v, hv, hA1⟩ := oB_inv h
    simp only [Option.some.injEq, Prod.mk.injEq] at hA1
    obtain ⟨rfl, rfl, rfl⟩ := hA1
    exact ⟨_, (oB_mk (ldL_sub hh hv) rfl), hh⟩
  | aload_n k =>
    change (oB (ldA lv (k : Nat)) (fun v => some (pc + 1, lv, v :: st))) = _ at h
    change ∃ l, (oB (ldA lw (k : Nat)) (fun v => some (pc + 1, lw, v :: st))) = _ ∧ _
    obtain ⟨v, hv, hA1⟩ := oB_inv h
    simp only [Option.some.injEq, Prod.mk.injEq] at hA1
    obtain ⟨rfl, rfl, rfl⟩ := hA1
    exact ⟨_, (oB_mk (ldA_sub hh hv) rfl), hh⟩
  | aload k =>
    change (oB (ldA lv k) (fun v => some (pc + 2, lv, v :: st))) = _ at h
    change ∃ l, (oB (ldA lw k) (fun v => some (pc + 2, lw, v :: st))) = _ ∧ _
    obtain ⟨v, hv, hA1⟩ := oB_inv h
    simp only [Option.some.injEq, Prod.mk.injEq] at hA1
    obtain ⟨rfl, rfl, rfl⟩ := hA1
    exact ⟨_, (oB_mk (ldA_sub hh hv) rfl), hh⟩
  | istore_n k =>
    change (sI st (fun x r => oC (decide ((k : Nat) < mml F)) (some (pc + 1, lvset1 lv (k : Nat) (.int x), r)))) = _ at h
    change ∃ l, (sI st (fun x r => oC (decide ((k : Nat) < mml F)) (some (pc + 1, lvset1 lw (k : Nat) (.int x), r)))) = _ ∧ _
    obtain ⟨x, r, rfl, hA1⟩ := sI_inv h
    obtain ⟨hc0, hA2⟩ := oC_inv hA1
    simp only [Option.some.injEq, Prod.mk.injEq] at hA2
    obtain ⟨rfl, rfl, rfl⟩ := hA2
    exact ⟨_, (oC_mk hc0 rfl), Has_set1 hh⟩
  | istore k =>
    change (sI st (fun x r => oC (decide (k < mml F)) (some (pc + 2, lvset1 lv k (.int x), r)))) = _ at h
    change ∃ l, (sI st (fun x r => oC (decide (k < mml F)) (some (pc + 2, lvset1 lw k (.int x), r)))) = _ ∧ _
    obtain ⟨x, r, rfl, hA1⟩ := sI_inv h
    obtain ⟨hc0, hA2⟩ := oC_inv hA1
    simp only [Option.some.injEq, Prod.mk.injEq] at hA2
    obtain ⟨rfl, rfl, rfl⟩ := hA2
    exact ⟨_, (oC_mk hc0 rfl), Has_set1 hh⟩
  | lstore_n k =>
    change (sL st (fun x r => oC (decide ((k : Nat) + 1 < mml F)) (some (pc + 1, lvset2 lv (k : Nat) (.long x), r)))) = _ at h
    change ∃ l, (sL st (fun x r => oC (decide ((k : Nat) + 1 < mml F)) (some (pc + 1, lvset2 lw (k : Nat) (.long x), r)))) = _ ∧ _
    obtain ⟨x, r, rfl, hA1⟩ := sL_inv h
    obtain ⟨hc0, hA2⟩ := oC_inv hA1
    simp only [Option.some.injEq, Prod.mk.injEq] at hA2
    obtain ⟨rfl, rfl, rfl⟩ := hA2
    exact ⟨_, (oC_mk hc0 rfl), Has_set2 hh⟩
  | lstore k =>
    change (sL st (fun x r => oC (decide (k + 1 < mml F)) (some (pc + 2, lvset2 lv k (.long x), r)))) = _ at h
    change ∃ l, (sL st (fun x r => oC (decide (k + 1 < mml F)) (some (pc + 2, lvset2 lw k (.long x), r)))) = _ ∧ _
    obtain ⟨x, r, rfl, hA1⟩ := sL_inv h
    obtain ⟨hc0, hA2⟩ := oC_inv hA1
    simp only [Option.some.injEq, Prod.mk.injEq] at hA2
    obtain ⟨rfl, rfl, rfl⟩ := hA2
    exact ⟨_, (oC_mk hc0 rfl), Has_set2 hh⟩
  | astore_n k =>
    change (sR st (fun x r => oC (decide ((k : Nat) < mml F)) (some (pc + 1, lvset1 lv (k : Nat) (.ref x), r)))) = _ at h
    change ∃ l, (sR st (fun x r => oC (decide ((k : Nat) < mml F)) (some (pc + 1, lvset1 lw (k : Nat) (.ref x), r)))) = _ ∧ _
    obtain ⟨x, r, rfl, hA1⟩ := sR_inv h
    obtain ⟨hc0, hA2⟩ := oC_inv hA1
    simp only [Option.some.injEq, Prod.mk.injEq] at hA2
    obtain ⟨rfl, rfl, rfl⟩ := hA2
    exact ⟨_, (oC_mk hc0 rfl), Has_set1 hh⟩
  | astore k =>
    change (sR st (fun x r => oC (decide (k < mml F)) (some (pc + 2, lvset1 lv k (.ref x), r)))) = _ at h
    change ∃ l, (sR st (fun x r => oC (decide (k < mml F)) (some (pc + 2, lvset1 lw k (.ref x), r)))) = _ ∧ _
    obtain ⟨x, r, rfl, hA1⟩ := sR_inv h
    obtain ⟨hc0, hA2⟩ := oC_inv hA1
    simp only [Option.some.injEq, Prod.mk.injEq] at hA2
    obtain ⟨rfl, rfl, rfl⟩ := hA2
    exact ⟨_, (oC_mk hc0 rfl), Has_set1 hh⟩
  | iinc k n =>
    change (oB (ldI lv k) (fun v => oC (decide (k < mml F)) (some (pc + 3, lvset1 lv k (.int (asI v + Int32.ofInt n)), st)))) = _ at h
    change ∃ l, (oB (ldI lw k) (fun v => oC (decide (k < mml F)) (some (pc + 3, lvset1 lw k (.int (asI v + Int32.ofInt n)), st)))) = _ ∧ _
    obtain ⟨v, hv, hA1⟩ := oB_inv h
    obtain ⟨hc0, hA2⟩ := oC_inv hA1
    simp only [Option.some.injEq, Prod.mk.injEq] at hA2
    obtain ⟨rfl, rfl, rfl⟩ := hA2
    exact ⟨_, (oB_mk (ldI_sub hh hv) (oC_mk hc0 rfl)), Has_set1 hh⟩
  | iadd =>
    change (sII st (fun x y r => some (pc + 1, lv, .int (x + y) :: r))) = _ at h
    change ∃ l, (sII st (fun x y r => some (pc + 1, lw, .int (x + y) :: r))) = _ ∧ _
    obtain ⟨x, y, r, rfl, hA1⟩ := sII_inv h
    simp only [Option.some.injEq, Prod.mk.injEq] at hA1
    obtain ⟨rfl, rfl, rfl⟩ := hA1
    exact ⟨_, rfl, hh⟩
  | isub =>
    change (sII st (fun x y r => some (pc + 1, lv, .int (x - y) :: r))) = _ at h
    change ∃ l, (sII st (fun x y r => some (pc + 1, lw, .int (x - y) :: r))) = _ ∧ _
    obtain ⟨x, y, r, rfl, hA1⟩ := sII_inv h
    simp only [Option.some.injEq, Prod.mk.injEq] at hA1
    obtain ⟨rfl, rfl, rfl⟩ := hA1
    exact ⟨_, rfl, hh⟩
  | imul =>
    change (sII st (fun x y r => some (pc + 1, lv, .int (x * y) :: r))) = _ at h
    change ∃ l, (sII st (fun x y r => some (pc + 1, lw, .int (x * y) :: r))) = _ ∧ _
    obtain ⟨x, y, r, rfl, hA1⟩ := sII_inv h
    simp only [Option.some.injEq, Prod.mk.injEq] at hA1
    obtain ⟨rfl, rfl, rfl⟩ := hA1
    exact ⟨_, rfl, hh⟩
  | iand =>
    change (sII st (fun x y r => some (pc + 1, lv, .int (x &&& y) :: r))) = _ at h
    change ∃ l, (sII st (fun x y r => some (pc + 1, lw, .int (x &&& y) :: r))) = _ ∧ _
    obtain ⟨x, y, r, rfl, hA1⟩ := sII_inv h
    simp only [Option.some.injEq, Prod.mk.injEq] at hA1
    obtain ⟨rfl, rfl, rfl⟩ := hA1
    exact ⟨_, rfl, hh⟩
  | ior =>
    change (sII st (fun x y r => some (pc + 1, lv, .int (x ||| y) :: r))) = _ at h
    change ∃ l, (sII st (fun x y r => some (pc + 1, lw, .int (x ||| y) :: r))) = _ ∧ _
    obtain ⟨x, y, r, rfl, hA1⟩ := sII_inv h
    simp only [Option.some.injEq, Prod.mk.injEq] at hA1
    obtain ⟨rfl, rfl, rfl⟩ := hA1
    exact ⟨_, rfl, hh⟩
  | ixor =>
    change (sII st (fun x y r => some (pc + 1, lv, .int (x ^^^ y) :: r))) = _ at h
    change ∃ l, (sII st (fun x y r => some (pc + 1, lw, .int (x ^^^ y) :: r))) = _ ∧ _
    obtain ⟨x, y, r, rfl, hA1⟩ := sII_inv h
    simp only [Option.some.injEq, Prod.mk.injEq] at hA1
    obtain ⟨rfl, rfl, rfl⟩ := hA1
    exact ⟨_, rfl, hh⟩
  | ishl =>
    change (sII st (fun x y r => some (pc + 1, lv, .int (x <<< (y &&& 31)) :: r))) = _ at h
    change ∃ l, (sII st (fun x y r => some (pc + 1, lw, .int (x <<< (y &&& 31)) :: r))) = _ ∧ _
    obtain ⟨x, y, r, rfl, hA1⟩ := sII_inv h
    simp only [Option.some.injEq, Prod.mk.injEq] at hA1
    obtain ⟨rfl, rfl, rfl⟩ := hA1
    exact ⟨_, rfl, hh⟩
  | ishr =>
    change (sII st (fun x y r => some (pc + 1, lv, .int (x >>> (y &&& 31)) :: r))) = _ at h
    change ∃ l, (sII st (fun x y r => some (pc + 1, lw, .int (x >>> (y &&& 31)) :: r))) = _ ∧ _
    obtain ⟨x, y, r, rfl, hA1⟩ := sII_inv h
    simp only [Option.some.injEq, Prod.mk.injEq] at hA1
    obtain ⟨rfl, rfl, rfl⟩ := hA1
    exact ⟨_, rfl, hh⟩
  | iushr =>
    change (sII st (fun x y r => some (pc + 1, lv, .int ((x.toUInt32 >>> (y.toUInt32 &&& Int32.toUInt32 31)).toInt32) :: r))) = _ at h
    change ∃ l, (sII st (fun x y r => some (pc + 1, lw, .int ((x.toUInt32 >>> (y.toUInt32 &&& Int32.toUInt32 31)).toInt32) :: r))) = _ ∧ _
    obtain ⟨x, y, r, rfl, hA1⟩ := sII_inv h
    simp only [Option.some.injEq, Prod.mk.injEq] at hA1
    obtain ⟨rfl, rfl, rfl⟩ := hA1
    exact ⟨_, rfl, hh⟩
  | idiv =>
    change (sII st (fun x y r => oC (decide (¬ y = 0)) (some (pc + 1, lv, .int (x / y) :: r)))) = _ at h
    change ∃ l, (sII st (fun x y r => oC (decide (¬ y = 0)) (some (pc + 1, lw, .int (x / y) :: r)))) = _ ∧ _
    obtain ⟨x, y, r, rfl, hA1⟩ := sII_inv h
    obtain ⟨hc0, hA2⟩ := oC_inv hA1
    simp only [Option.some.injEq, Prod.mk.injEq] at hA2
    obtain ⟨rfl, rfl, rfl⟩ := hA2
    exact ⟨_, (oC_mk hc0 rfl), hh⟩
  | irem =>
    change (sII st (fun x y r => oC (decide (¬ y = 0)) (some (pc + 1, lv, .int (x - x / y * y) :: r)))) = _ at h
    change ∃ l, (sII st (fun x y r => oC (decide (¬ y = 0)) (some (pc + 1, lw, .int (x - x / y * y) :: r)))) = _ ∧ _
    obtain ⟨x, y, r, rfl, hA1⟩ := sII_inv h
    obtain ⟨hc0, hA2⟩ := oC_inv hA1
    simp only [Option.some.injEq, Prod.mk.injEq] at hA2
    obtain ⟨rfl, rfl, rfl⟩ := hA2
    exact ⟨_, (oC_mk hc0 rfl), hh⟩
  | ladd =>
    change (sLL st (fun x y r => some (pc + 1, lv, .long (x + y) :: r))) = _ at h
    change ∃ l, (sLL st (fun x y r => some (pc + 1, lw, .long (x + y) :: r))) = _ ∧ _
    obtain ⟨x, y, r, rfl, hA1⟩ := sLL_inv h
    simp only [Option.some.injEq, Prod.mk.injEq] at hA1
    obtain ⟨rfl, rfl, rfl⟩ := hA1
    exact ⟨_, rfl, hh⟩
  | lsub =>
    change (sLL st (fun x y r => some (pc + 1, lv, .long (x - y) :: r))) = _ at h
    change ∃ l, (sLL st (fun x y r => some (pc + 1, lw, .long (x - y) :: r))) = _ ∧ _
    obtain ⟨x, y, r, rfl, hA1⟩ := sLL_inv h
    simp only [Option.some.injEq, Prod.mk.injEq] at hA1
    obtain ⟨rfl, rfl, rfl⟩ := hA1
    exact ⟨_, rfl, hh⟩
  | lmul =>
    change (sLL st (fun x y r => some (pc + 1, lv, .long (x * y) :: r))) = _ at h
    change ∃ l, (sLL st (fun x y r => some (pc + 1, lw, .long (x * y) :: r))) = _ ∧ _
    obtain ⟨x, y, r, rfl, hA1⟩ := sLL_inv h
    simp only [Option.some.injEq, Prod.mk.injEq] at hA1
    obtain ⟨rfl, rfl, rfl⟩ := hA1
    exact ⟨_, rfl, hh⟩
  | land =>
    change (sLL st (fun x y r => some (pc + 1, lv, .long (x &&& y) :: r))) = _ at h
    change ∃ l, (sLL st (fun x y r => some (pc + 1, lw, .long (x &&& y) :: r))) = _ ∧ _
    obtain ⟨x, y, r, rfl, hA1⟩ := sLL_inv h
    simp only [Option.some.injEq, Prod.mk.injEq] at hA1
    obtain ⟨rfl, rfl, rfl⟩ := hA1
    exact ⟨_, rfl, hh⟩
  | lor =>
    change (sLL st (fun x y r => some (pc + 1, lv, .long (x ||| y) :: r))) = _ at h
    change ∃ l, (sLL st (fun x y r => some (pc + 1, lw, .long (x ||| y) :: r))) = _ ∧ _
    obtain ⟨x, y, r, rfl, hA1⟩ := sLL_inv h
    simp only [Option.some.injEq, Prod.mk.injEq] at hA1
    obtain ⟨rfl, rfl, rfl⟩ := hA1
    exact ⟨_, rfl, hh⟩
  | lxor =>
    change (sLL st (fun x y r => some (pc + 1, lv, .long (x ^^^ y) :: r))) = _ at h
    change ∃ l, (sLL st (fun x y r => some (pc + 1, lw, .long (x ^^^ y) :: r))) = _ ∧ _
    obtain ⟨x, y, r, rfl, hA1⟩ := sLL_inv h
    simp only [Option.some.injEq, Prod.mk.injEq] at hA1
    obtain ⟨rfl, rfl, rfl⟩ := hA1
    exact ⟨_, rfl, hh⟩
  | ldiv =>
    change (sLL st (fun x y r => oC (decide (¬ y = 0)) (some (pc + 1, lv, .long (x / y) :: r)))) = _ at h
    change ∃ l, (sLL st (fun x y r => oC (decide (¬ y = 0)) (some (pc + 1, lw, .long (x / y) :: r)))) = _ ∧ _
    obtain ⟨x, y, r, rfl, hA1⟩ := sLL_inv h
    obtain ⟨hc0, hA2⟩ := oC_inv hA1
    simp only [Option.some.injEq, Prod.mk.injEq] at hA2
    obtain ⟨rfl, rfl, rfl⟩ := hA2
    exact ⟨_, (oC_mk hc0 rfl), hh⟩
  | lrem =>
    change (sLL st (fun x y r => oC (decide (¬ y = 0)) (some (pc + 1, lv, .long (x - x / y * y) :: r)))) = _ at h
    change ∃ l, (sLL st (fun x y r => oC (decide (¬ y = 0)) (some (pc + 1, lw, .long (x - x / y * y) :: r)))) = _ ∧ _
    obtain ⟨x, y, r, rfl, hA1⟩ := sLL_inv h
    obtain ⟨hc0, hA2⟩ := oC_inv hA1
    simp only [Option.some.injEq, Prod.mk.injEq] at hA2
    obtain ⟨rfl, rfl, rfl⟩ := hA2
    exact ⟨_, (oC_mk hc0 rfl), hh⟩
  | lshl =>
    change (sLI st (fun x y r => some (pc + 1, lv, .long (x <<< (y.toInt64 &&& 63)) :: r))) = _ at h
    change ∃ l, (sLI st (fun x y r => some (pc + 1, lw, .long (x <<< (y.toInt64 &&& 63)) :: r))) = _ ∧ _
    obtain ⟨x, y, r, rfl, hA1⟩ := sLI_inv h
    simp only [Option.some.injEq, Prod.mk.injEq] at hA1
    obtain ⟨rfl, rfl, rfl⟩ := hA1
    exact ⟨_, rfl, hh⟩
  | lshr =>
    change (sLI st (fun x y r => some (pc + 1, lv, .long (x >>> (y.toInt64 &&& 63)) :: r))) = _ at h
    change ∃ l, (sLI st (fun x y r => some (pc + 1, lw, .long (x >>> (y.toInt64 &&& 63)) :: r))) = _ ∧ _
    obtain ⟨x, y, r, rfl, hA1⟩ := sLI_inv h
    simp only [Option.some.injEq, Prod.mk.injEq] at hA1
    obtain ⟨rfl, rfl, rfl⟩ := hA1
    exact ⟨_, rfl, hh⟩
  | ineg =>
    change (sI st (fun x r => some (pc + 1, lv, .int (-x) :: r))) = _ at h
    change ∃ l, (sI st (fun x r => some (pc + 1, lw, .int (-x) :: r))) = _ ∧ _
    obtain ⟨x, r, rfl, hA1⟩ := sI_inv h
    simp only [Option.some.injEq, Prod.mk.injEq] at hA1
    obtain ⟨rfl, rfl, rfl⟩ := hA1
    exact ⟨_, rfl, hh⟩
  | i2l =>
    change (sI st (fun x r => some (pc + 1, lv, .long x.toInt64 :: r))) = _ at h
    change ∃ l, (sI st (fun x r => some (pc + 1, lw, .long x.toInt64 :: r))) = _ ∧ _
    obtain ⟨x, r, rfl, hA1⟩ := sI_inv h
    simp only [Option.some.injEq, Prod.mk.injEq] at hA1
    obtain ⟨rfl, rfl, rfl⟩ := hA1
    exact ⟨_, rfl, hh⟩
  | l2i =>
    change (sL st (fun x r => some (pc + 1, lv, .int x.toInt32 :: r))) = _ at h
    change ∃ l, (sL st (fun x r => some (pc + 1, lw, .int x.toInt32 :: r))) = _ ∧ _
    obtain ⟨x, r, rfl, hA1⟩ := sL_inv h
    simp only [Option.some.injEq, Prod.mk.injEq] at hA1
    obtain ⟨rfl, rfl, rfl⟩ := hA1
    exact ⟨_, rfl, hh⟩
  | i2b =>
    change (sI st (fun x r => some (pc + 1, lv, .int x.toInt8.toInt32 :: r))) = _ at h
    change ∃ l, (sI st (fun x r => some (pc + 1, lw, .int x.toInt8.toInt32 :: r))) = _ ∧ _
    obtain ⟨x, r, rfl, hA1⟩ := sI_inv h
    simp only [Option.some.injEq, Prod.mk.injEq] at hA1
    obtain ⟨rfl, rfl, rfl⟩ := hA1
    exact ⟨_, rfl, hh⟩
  | lcmp =>
    change (sLL st (fun x y r => some (pc + 1, lv, .int (lg_cmp x y) :: r))) = _ at h
    change ∃ l, (sLL st (fun x y r => some (pc + 1, lw, .int (lg_cmp x y) :: r))) = _ ∧ _
    obtain ⟨x, y, r, rfl, hA1⟩ := sLL_inv h
    simp only [Option.some.injEq, Prod.mk.injEq] at hA1
    obtain ⟨rfl, rfl, rfl⟩ := hA1
    exact ⟨_, rfl, hh⟩
  | dup =>
    change (sV st (fun v r => oC (v.category == 1) (some (pc + 1, lv, v :: v :: r)))) = _ at h
    change ∃ l, (sV st (fun v r => oC (v.category == 1) (some (pc + 1, lw, v :: v :: r)))) = _ ∧ _
    obtain ⟨v, r, rfl, hA1⟩ := sV_inv h
    obtain ⟨hc0, hA2⟩ := oC_inv hA1
    simp only [Option.some.injEq, Prod.mk.injEq] at hA2
    obtain ⟨rfl, rfl, rfl⟩ := hA2
    exact ⟨_, (oC_mk hc0 rfl), hh⟩
  | dup2 =>
    change (sVV st (fun v u r => oC (v.category == 1 && u.category == 1) (some (pc + 1, lv, v :: u :: v :: u :: r)))) = _ at h
    change ∃ l, (sVV st (fun v u r => oC (v.category == 1 && u.category == 1) (some (pc + 1, lw, v :: u :: v :: u :: r)))) = _ ∧ _
    obtain ⟨v, u, r, rfl, hA1⟩ := sVV_inv h
    obtain ⟨hc0, hA2⟩ := oC_inv hA1
    simp only [Option.some.injEq, Prod.mk.injEq] at hA2
    obtain ⟨rfl, rfl, rfl⟩ := hA2
    exact ⟨_, (oC_mk hc0 rfl), hh⟩
  | pop =>
    change (sV st (fun v r => oC (v.category == 1) (some (pc + 1, lv, r)))) = _ at h
    change ∃ l, (sV st (fun v r => oC (v.category == 1) (some (pc + 1, lw, r)))) = _ ∧ _
    obtain ⟨v, r, rfl, hA1⟩ := sV_inv h
    obtain ⟨hc0, hA2⟩ := oC_inv hA1
    simp only [Option.some.injEq, Prod.mk.injEq] at hA2
    obtain ⟨rfl, rfl, rfl⟩ := hA2
    exact ⟨_, (oC_mk hc0 rfl), hh⟩
  | goto _ =>
    change (some (tgt, lv, st)) = _ at h
    change ∃ l, (some (tgt, lw, st)) = _ ∧ _
    simp only [Option.some.injEq, Prod.mk.injEq] at h
    obtain ⟨rfl, rfl, rfl⟩ := h
    exact ⟨_, rfl, hh⟩
  | if_icmp cnd off =>
    cases cnd with
    | eq =>
      change (sII st (fun x y r => jmp (decide (x = y)) tgt (pc + 3) lv r)) = _ at h
      change ∃ l, (sII st (fun x y r => jmp (decide (x = y)) tgt (pc + 3) lw r)) = _ ∧ _
      obtain ⟨x, y, r, rfl, hA1⟩ := sII_inv h
      rcases jmp_inv hA1 with ⟨ht, hx⟩ | ⟨ht, hx⟩
      · simp only [Prod.mk.injEq] at hx
        obtain ⟨rfl, rfl, rfl⟩ := hx
        exact ⟨_, (by show jmp _ _ _ _ _ = _; rw [ht]; rfl), hh⟩
      · simp only [Prod.mk.injEq] at hx
        obtain ⟨rfl, rfl, rfl⟩ := hx
        exact ⟨_, (by show jmp _ _ _ _ _ = _; rw [ht]; rfl), hh⟩
    | ne =>
      change (sII st (fun x y r => jmp (decide (¬ x = y)) tgt (pc + 3) lv r)) = _ at h
      change ∃ l, (sII st (fun x y r => jmp (decide (¬ x = y)) tgt (pc + 3) lw r)) = _ ∧ _
      obtain ⟨x, y, r, rfl, hA1⟩ := sII_inv h
      rcases jmp_inv hA1 with ⟨ht, hx⟩ | ⟨ht, hx⟩
      · simp only [Prod.mk.injEq] at hx
        obtain ⟨rfl, rfl, rfl⟩ := hx
        exact ⟨_, (by show jmp _ _ _ _ _ = _; rw [ht]; rfl), hh⟩
      · simp only [Prod.mk.injEq] at hx
        obtain ⟨rfl, rfl, rfl⟩ := hx
        exact ⟨_, (by show jmp _ _ _ _ _ = _; rw [ht]; rfl), hh⟩
    | lt =>
      change (sII st (fun x y r => jmp (decide (x < y)) tgt (pc + 3) lv r)) = _ at h
      change ∃ l, (sII st (fun x y r => jmp (decide (x < y)) tgt (pc + 3) lw r)) = _ ∧ _
      obtain ⟨x, y, r, rfl, hA1⟩ := sII_inv h
      rcases jmp_inv hA1 with ⟨ht, hx⟩ | ⟨ht, hx⟩
      · simp only [Prod.mk.injEq] at hx
        obtain ⟨rfl, rfl, rfl⟩ := hx
        exact ⟨_, (by show jmp _ _ _ _ _ = _; rw [ht]; rfl), hh⟩
      · simp only [Prod.mk.injEq] at hx
        obtain ⟨rfl, rfl, rfl⟩ := hx
        exact ⟨_, (by show jmp _ _ _ _ _ = _; rw [ht]; rfl), hh⟩
    | ge =>
      change (sII st (fun x y r => jmp (decide (y ≤ x)) tgt (pc + 3) lv r)) = _ at h
      change ∃ l, (sII st (fun x y r => jmp (decide (y ≤ x)) tgt (pc + 3) lw r)) = _ ∧ _
      obtain ⟨x, y, r, rfl, hA1⟩ := sII_inv h
      rcases jmp_inv hA1 with ⟨ht, hx⟩ | ⟨ht, hx⟩
      · simp only [Prod.mk.injEq] at hx
        obtain ⟨rfl, rfl, rfl⟩ := hx
        exact ⟨_, (by show jmp _ _ _ _ _ = _; rw [ht]; rfl), hh⟩
      · simp only [Prod.mk.injEq] at hx
        obtain ⟨rfl, rfl, rfl⟩ := hx
        exact ⟨_, (by show jmp _ _ _ _ _ = _; rw [ht]; rfl), hh⟩
    | gt =>
      change (sII st (fun x y r => jmp (decide (y < x)) tgt (pc + 3) lv r)) = _ at h
      change ∃ l, (sII st (fun x y r => jmp (decide (y < x)) tgt (pc + 3) lw r)) = _ ∧ _
      obtain ⟨x, y, r, rfl, hA1⟩ := sII_inv h
      rcases jmp_inv hA1 with ⟨ht, hx⟩ | ⟨ht, hx⟩
      · simp only [Prod.mk.injEq] at hx
        obtain ⟨rfl, rfl, rfl⟩ := hx
        exact ⟨_, (by show jmp _ _ _ _ _ = _; rw [ht]; rfl), hh⟩
      · simp only [Prod.mk.injEq] at hx
        obtain ⟨rfl, rfl, rfl⟩ := hx
        exact ⟨_, (by show jmp _ _ _ _ _ = _; rw [ht]; rfl), hh⟩
    | le =>
      change (sII st (fun x y r => jmp (decide (x ≤ y)) tgt (pc + 3) lv r)) = _ at h
      change ∃ l, (sII st (fun x y r => jmp (decide (x ≤ y)) tgt (pc + 3) lw r)) = _ ∧ _
      obtain ⟨x, y, r, rfl, hA1⟩ := sII_inv h
      rcases jmp_inv hA1 with ⟨ht, hx⟩ | ⟨ht, hx⟩
      · simp only [Prod.mk.injEq] at hx
        obtain ⟨rfl, rfl, rfl⟩ := hx
        exact ⟨_, (by show jmp _ _ _ _ _ = _; rw [ht]; rfl), hh⟩
      · simp only [Prod.mk.injEq] at hx
        obtain ⟨rfl, rfl, rfl⟩ := hx
        exact ⟨_, (by show jmp _ _ _ _ _ = _; rw [ht]; rfl), hh⟩
  | ifCond cnd off =>
    cases cnd with
    | eq =>
      change (sI st (fun x r => jmp (decide (x = 0)) tgt (pc + 3) lv r)) = _ at h
      change ∃ l, (sI st (fun x r => jmp (decide (x = 0)) tgt (pc + 3) lw r)) = _ ∧ _
      obtain ⟨x, r, rfl, hA1⟩ := sI_inv h
      rcases jmp_inv hA1 with ⟨ht, hx⟩ | ⟨ht, hx⟩
      · simp only [Prod.mk.injEq] at hx
        obtain ⟨rfl, rfl, rfl⟩ := hx
        exact ⟨_, (by show jmp _ _ _ _ _ = _; rw [ht]; rfl), hh⟩
      · simp only [Prod.mk.injEq] at hx
        obtain ⟨rfl, rfl, rfl⟩ := hx
        exact ⟨_, (by show jmp _ _ _ _ _ = _; rw [ht]; rfl), hh⟩
    | ne =>
      change (sI st (fun x r => jmp (decide (¬ x = 0)) tgt (pc + 3) lv r)) = _ at h
      change ∃ l, (sI st (fun x r => jmp (decide (¬ x = 0)) tgt (pc + 3) lw r)) = _ ∧ _
      obtain ⟨x, r, rfl, hA1⟩ := sI_inv h
      rcases jmp_inv hA1 with ⟨ht, hx⟩ | ⟨ht, hx⟩
      · simp only [Prod.mk.injEq] at hx
        obtain ⟨rfl, rfl, rfl⟩ := hx
        exact ⟨_, (by show jmp _ _ _ _ _ = _; rw [ht]; rfl), hh⟩
      · simp only [Prod.mk.injEq] at hx
        obtain ⟨rfl, rfl, rfl⟩ := hx
        exact ⟨_, (by show jmp _ _ _ _ _ = _; rw [ht]; rfl), hh⟩
    | lt =>
      change (sI st (fun x r => jmp (decide (x < 0)) tgt (pc + 3) lv r)) = _ at h
      change ∃ l, (sI st (fun x r => jmp (decide (x < 0)) tgt (pc + 3) lw r)) = _ ∧ _
      obtain ⟨x, r, rfl, hA1⟩ := sI_inv h
      rcases jmp_inv hA1 with ⟨ht, hx⟩ | ⟨ht, hx⟩
      · simp only [Prod.mk.injEq] at hx
        obtain ⟨rfl, rfl, rfl⟩ := hx
        exact ⟨_, (by show jmp _ _ _ _ _ = _; rw [ht]; rfl), hh⟩
      · simp only [Prod.mk.injEq] at hx
        obtain ⟨rfl, rfl, rfl⟩ := hx
        exact ⟨_, (by show jmp _ _ _ _ _ = _; rw [ht]; rfl), hh⟩
    | ge =>
      change (sI st (fun x r => jmp (decide (0 ≤ x)) tgt (pc + 3) lv r)) = _ at h
      change ∃ l, (sI st (fun x r => jmp (decide (0 ≤ x)) tgt (pc + 3) lw r)) = _ ∧ _
      obtain ⟨x, r, rfl, hA1⟩ := sI_inv h
      rcases jmp_inv hA1 with ⟨ht, hx⟩ | ⟨ht, hx⟩
      · simp only [Prod.mk.injEq] at hx
        obtain ⟨rfl, rfl, rfl⟩ := hx
        exact ⟨_, (by show jmp _ _ _ _ _ = _; rw [ht]; rfl), hh⟩
      · simp only [Prod.mk.injEq] at hx
        obtain ⟨rfl, rfl, rfl⟩ := hx
        exact ⟨_, (by show jmp _ _ _ _ _ = _; rw [ht]; rfl), hh⟩
    | gt =>
      change (sI st (fun x r => jmp (decide (0 < x)) tgt (pc + 3) lv r)) = _ at h
      change ∃ l, (sI st (fun x r => jmp (decide (0 < x)) tgt (pc + 3) lw r)) = _ ∧ _
      obtain ⟨x, r, rfl, hA1⟩ := sI_inv h
      rcases jmp_inv hA1 with ⟨ht, hx⟩ | ⟨ht, hx⟩
      · simp only [Prod.mk.injEq] at hx
        obtain ⟨rfl, rfl, rfl⟩ := hx
        exact ⟨_, (by show jmp _ _ _ _ _ = _; rw [ht]; rfl), hh⟩
      · simp only [Prod.mk.injEq] at hx
        obtain ⟨rfl, rfl, rfl⟩ := hx
        exact ⟨_, (by show jmp _ _ _ _ _ = _; rw [ht]; rfl), hh⟩
    | le =>
      change (sI st (fun x r => jmp (decide (x ≤ 0)) tgt (pc + 3) lv r)) = _ at h
      change ∃ l, (sI st (fun x r => jmp (decide (x ≤ 0)) tgt (pc + 3) lw r)) = _ ∧ _
      obtain ⟨x, r, rfl, hA1⟩ := sI_inv h
      rcases jmp_inv hA1 with ⟨ht, hx⟩ | ⟨ht, hx⟩
      · simp only [Prod.mk.injEq] at hx
        obtain ⟨rfl, rfl, rfl⟩ := hx
        exact ⟨_, (by show jmp _ _ _ _ _ = _; rw [ht]; rfl), hh⟩
      · simp only [Prod.mk.injEq] at hx
        obtain ⟨rfl, rfl, rfl⟩ := hx
        exact ⟨_, (by show jmp _ _ _ _ _ = _; rw [ht]; rfl), hh⟩
  | tableswitch dflt lo hi offs =>
    change (sI st (fun x r => oB (tsw pc dflt lo hi offs x) (fun t => some (t, lv, r)))) = _ at h
    change ∃ l, (sI st (fun x r => oB (tsw pc dflt lo hi offs x) (fun t => some (t, lw, r)))) = _ ∧ _
    obtain ⟨x, r, rfl, hA1⟩ := sI_inv h
    obtain ⟨t, ht, hA2⟩ := oB_inv hA1
    simp only [Option.some.injEq, Prod.mk.injEq] at hA2
    obtain ⟨rfl, rfl, rfl⟩ := hA2
    exact ⟨_, (oB_mk ht rfl), hh⟩
  | lookupswitch dflt ps =>
    change (sI st (fun x r => oC ((ps.toList.zip (ps.toList.drop 1)).all (fun (a, next) => a.1 < next.1) && decide (0 ≤ (pc : Int) + Op.lookupswitch.offset ps.toList dflt x.toInt)) (some (((pc : Int) + Op.lookupswitch.offset ps.toList dflt x.toInt).toNat, lv, r)))) = _ at h
    change ∃ l, (sI st (fun x r => oC ((ps.toList.zip (ps.toList.drop 1)).all (fun (a, next) => a.1 < next.1) && decide (0 ≤ (pc : Int) + Op.lookupswitch.offset ps.toList dflt x.toInt)) (some (((pc : Int) + Op.lookupswitch.offset ps.toList dflt x.toInt).toNat, lw, r)))) = _ ∧ _
    obtain ⟨x, r, rfl, hA1⟩ := sI_inv h
    obtain ⟨hc0, hA2⟩ := oC_inv hA1
    simp only [Option.some.injEq, Prod.mk.injEq] at hA2
    obtain ⟨rfl, rfl, rfl⟩ := hA2
    exact ⟨_, (oC_mk hc0 rfl), hh⟩
  | ldc k =>
    change (oB (fnd (mki F) k) (fun q => some (pc + 2, lv, .int q.1 :: st))) = _ at h
    change ∃ l, (oB (fnd (mki F) k) (fun q => some (pc + 2, lw, .int q.1 :: st))) = _ ∧ _
    obtain ⟨q, hq, hA1⟩ := oB_inv h
    simp only [Option.some.injEq, Prod.mk.injEq] at hA1
    obtain ⟨rfl, rfl, rfl⟩ := hA1
    exact ⟨_, (oB_mk hq rfl), hh⟩
  | ldc_w k =>
    change (oB (fnd (mki F) k) (fun q => some (pc + 3, lv, .int q.1 :: st))) = _ at h
    change ∃ l, (oB (fnd (mki F) k) (fun q => some (pc + 3, lw, .int q.1 :: st))) = _ ∧ _
    obtain ⟨q, hq, hA1⟩ := oB_inv h
    simp only [Option.some.injEq, Prod.mk.injEq] at hA1
    obtain ⟨rfl, rfl, rfl⟩ := hA1
    exact ⟨_, (oB_mk hq rfl), hh⟩
  | ldc2_w k =>
    change (oB (fnd (mkl F) k) (fun q => some (pc + 3, lv, .long q.1 :: st))) = _ at h
    change ∃ l, (oB (fnd (mkl F) k) (fun q => some (pc + 3, lw, .long q.1 :: st))) = _ ∧ _
    obtain ⟨q, hq, hA1⟩ := oB_inv h
    simp only [Option.some.injEq, Prod.mk.injEq] at hA1
    obtain ⟨rfl, rfl, rfl⟩ := hA1
    exact ⟨_, (oB_mk hq rfl), hh⟩
  | getfield k =>
    change (sR st (fun a r => oB (fnd (mfl F) k) (fun e => oB hh0[a]? (fun c => oC (c.1 == 0 && c.2.1 == e.1) (oB c.2.2[e.2.1]? (fun v => some (pc + 3, lv, v :: r))))))) = _ at h
    change ∃ l, (sR st (fun a r => oB (fnd (mfl F) k) (fun e => oB hh0[a]? (fun c => oC (c.1 == 0 && c.2.1 == e.1) (oB c.2.2[e.2.1]? (fun v => some (pc + 3, lw, v :: r))))))) = _ ∧ _
    obtain ⟨a, r, rfl, hA1⟩ := sR_inv h
    obtain ⟨e, he, hA2⟩ := oB_inv hA1
    obtain ⟨c, hc, hA3⟩ := oB_inv hA2
    obtain ⟨hc1, hA4⟩ := oC_inv hA3
    obtain ⟨v, hv, hA5⟩ := oB_inv hA4
    simp only [Option.some.injEq, Prod.mk.injEq] at hA5
    obtain ⟨rfl, rfl, rfl⟩ := hA5
    exact ⟨_, (oB_mk he (oB_mk hc (oC_mk hc1 (oB_mk hv rfl)))), hh⟩
  | iaload =>
    change (oB (ldR scr 1 0 0 st hh0) (fun q => oC (isI q.1) (some (pc + 1, lv, q.1 :: q.2)))) = _ at h
    change ∃ l, (oB (ldR scr 1 0 0 st hh0) (fun q => oC (isI q.1) (some (pc + 1, lw, q.1 :: q.2)))) = _ ∧ _
    obtain ⟨q, hq, hA1⟩ := oB_inv h
    obtain ⟨hc0, hA2⟩ := oC_inv hA1
    simp only [Option.some.injEq, Prod.mk.injEq] at hA2
    obtain ⟨rfl, rfl, rfl⟩ := hA2
    exact ⟨_, (oB_mk hq (oC_mk hc0 rfl)), hh⟩
  | baload =>
    change (oB (ldR none 1 2 3 st hh0) (fun q => oC (isI q.1) (some (pc + 1, lv, q.1 :: q.2)))) = _ at h
    change ∃ l, (oB (ldR none 1 2 3 st hh0) (fun q => oC (isI q.1) (some (pc + 1, lw, q.1 :: q.2)))) = _ ∧ _
    obtain ⟨q, hq, hA1⟩ := oB_inv h
    obtain ⟨hc0, hA2⟩ := oC_inv hA1
    simp only [Option.some.injEq, Prod.mk.injEq] at hA2
    obtain ⟨rfl, rfl, rfl⟩ := hA2
    exact ⟨_, (oB_mk hq (oC_mk hc0 rfl)), hh⟩
  | laload =>
    change (oB (ldR none 2 1 1 st hh0) (fun q => oC (isL q.1) (some (pc + 1, lv, q.1 :: q.2)))) = _ at h
    change ∃ l, (oB (ldR none 2 1 1 st hh0) (fun q => oC (isL q.1) (some (pc + 1, lw, q.1 :: q.2)))) = _ ∧ _
    obtain ⟨q, hq, hA1⟩ := oB_inv h
    obtain ⟨hc0, hA2⟩ := oC_inv hA1
    simp only [Option.some.injEq, Prod.mk.injEq] at hA2
    obtain ⟨rfl, rfl, rfl⟩ := hA2
    exact ⟨_, (oB_mk hq (oC_mk hc0 rfl)), hh⟩
  | aaload =>
    change (sRI st (fun a j r => oB hh0[a]? (fun c => oC (c.1 == 3 && (c.2.1 == 4 || c.2.1 == 5 || c.2.1 == 6) && decide (¬ j < 0)) (oB c.2.2[j.toNatClampNeg]? (fun v => oC (isR v) (some (pc + 1, lv, v :: r))))))) = _ at h
    change ∃ l, (sRI st (fun a j r => oB hh0[a]? (fun c => oC (c.1 == 3 && (c.2.1 == 4 || c.2.1 == 5 || c.2.1 == 6) && decide (¬ j < 0)) (oB c.2.2[j.toNatClampNeg]? (fun v => oC (isR v) (some (pc + 1, lw, v :: r))))))) = _ ∧ _
    obtain ⟨a, j, r, rfl, hA1⟩ := sRI_inv h
    obtain ⟨c, hc, hA2⟩ := oB_inv hA1
    obtain ⟨hc1, hA3⟩ := oC_inv hA2
    obtain ⟨v, hv, hA4⟩ := oB_inv hA3
    obtain ⟨hc2, hA5⟩ := oC_inv hA4
    simp only [Option.some.injEq, Prod.mk.injEq] at hA5
    obtain ⟨rfl, rfl, rfl⟩ := hA5
    exact ⟨_, (oB_mk hc (oC_mk hc1 (oB_mk hv (oC_mk hc2 rfl)))), hh⟩
  | arraylength =>
    change (sV st (fun v r => oB (alen scr hh0 v) (fun x => some (pc + 1, lv, .int x :: r)))) = _ at h
    change ∃ l, (sV st (fun v r => oB (alen scr hh0 v) (fun x => some (pc + 1, lw, .int x :: r)))) = _ ∧ _
    obtain ⟨v, r, rfl, hA1⟩ := sV_inv h
    obtain ⟨x, hx, hA2⟩ := oB_inv hA1
    simp only [Option.some.injEq, Prod.mk.injEq] at hA2
    obtain ⟨rfl, rfl, rfl⟩ := hA2
    exact ⟨_, (oB_mk hx rfl), hh⟩
  | _ => exact absurd h (by intro z; cases z)
set_option maxHeartbeats 4000000 in
theorem stpX_sub {F : MR} {i : Instr} {pc pc' : Nat} {lv lw lv' : ALv} {st st' : List Value} (hh : Has lw lv) (h : stpX F i pc lv st = some (pc', lv', st')) : ∃ l, stpX F i pc lw st = some (pc', l, st') ∧ Has l lv' := by
  cases i with
  | ldc k =>
    change (oB (fnd (mks F) k) (fun q => oC (q.1 == 0) (some (pc + 2, lv, .retAddr (2 * q.2.1 + 1) :: st)))) = _ at h
    change ∃ l, (oB (fnd (mks F) k) (fun q => oC (q.1 == 0) (some (pc + 2, lw, .retAddr (2 * q.2.1 + 1) :: st)))) = _ ∧ _
    obtain ⟨q, hq, hA1⟩ := oB_inv h
    obtain ⟨hc0, hA2⟩ := oC_inv hA1
    simp only [Option.some.injEq, Prod.mk.injEq] at hA2
    obtain ⟨rfl, rfl, rfl⟩ := hA2
    exact ⟨_, (oB_mk hq (oC_mk hc0 rfl)), hh⟩
  | getfield k =>
    change (sX st (fun a r => oB (fnd (mks F) k) (fun q => oC (a % 2 == 1 && decide (a / 2 < NSTR)) (oC (q.1 == 1 || q.1 == 2) (some (pc + 3, lv, (if q.1 = 1 then .retAddr (2 * (a / 2) + 2) else .int 0) :: r)))))) = _ at h
    change ∃ l, (sX st (fun a r => oB (fnd (mks F) k) (fun q => oC (a % 2 == 1 && decide (a / 2 < NSTR)) (oC (q.1 == 1 || q.1 == 2) (some (pc + 3, lw, (if q.1 = 1 then .retAddr (2 * (a / 2) + 2) else .int 0) :: r)))))) = _ ∧ _
    obtain ⟨a, r, rfl, hA1⟩ := sX_inv h
    obtain ⟨q, hq, hA2⟩ := oB_inv hA1
    obtain ⟨hc0, hA3⟩ := oC_inv hA2
    obtain ⟨hc1, hA4⟩ := oC_inv hA3
    simp only [Option.some.injEq, Prod.mk.injEq] at hA4
    obtain ⟨rfl, rfl, rfl⟩ := hA4
    exact ⟨_, (oB_mk hq (oC_mk hc0 (oC_mk hc1 rfl))), hh⟩
  | getstatic k =>
    change (oB (fnd (mks F) k) (fun q => oC (q.1 == 3 || q.1 == 4) (some (pc + 3, lv, (if q.1 = 3 then .int 1 else .float 0) :: st)))) = _ at h
    change ∃ l, (oB (fnd (mks F) k) (fun q => oC (q.1 == 3 || q.1 == 4) (some (pc + 3, lw, (if q.1 = 3 then .int 1 else .float 0) :: st)))) = _ ∧ _
    obtain ⟨q, hq, hA1⟩ := oB_inv h
    obtain ⟨hc0, hA2⟩ := oC_inv hA1
    simp only [Option.some.injEq, Prod.mk.injEq] at hA2
    obtain ⟨rfl, rfl, rfl⟩ := hA2
    exact ⟨_, (oB_mk hq (oC_mk hc0 rfl)), hh⟩
  | arraylength =>
    change (sX st (fun a r => oC (a % 2 == 0 && decide (2 ≤ a) && decide (a / 2 - 1 < NSTR)) (some (pc + 1, lv, .int (Int32.ofNat (LENS.getD (a / 2 - 1) 0)) :: r)))) = _ at h
    change ∃ l, (sX st (fun a r => oC (a % 2 == 0 && decide (2 ≤ a) && decide (a / 2 - 1 < NSTR)) (some (pc + 1, lw, .int (Int32.ofNat (LENS.getD (a / 2 - 1) 0)) :: r)))) = _ ∧ _
    obtain ⟨a, r, rfl, hA1⟩ := sX_inv h
    obtain ⟨hc0, hA2⟩ := oC_inv hA1
    simp only [Option.some.injEq, Prod.mk.injEq] at hA2
    obtain ⟨rfl, rfl, rfl⟩ := hA2
    exact ⟨_, (oC_mk hc0 rfl), hh⟩
  | baload =>
    change (sIX st (fun a j r => oC (a % 2 == 0 && decide (2 ≤ a) && decide (a / 2 - 1 < NSTR) && decide (¬ j < 0) && decide (j.toNatClampNeg < LENS.getD (a / 2 - 1) 0)) (some (pc + 1, lv, .int ((BYT.getD (a / 2 - 1) []).getD j.toNatClampNeg 0) :: r)))) = _ at h
    change ∃ l, (sIX st (fun a j r => oC (a % 2 == 0 && decide (2 ≤ a) && decide (a / 2 - 1 < NSTR) && decide (¬ j < 0) && decide (j.toNatClampNeg < LENS.getD (a / 2 - 1) 0)) (some (pc + 1, lw, .int ((BYT.getD (a / 2 - 1) []).getD j.toNatClampNeg 0) :: r)))) = _ ∧ _
    obtain ⟨a, j, r, rfl, hA1⟩ := sIX_inv h
    obtain ⟨hc0, hA2⟩ := oC_inv hA1
    simp only [Option.some.injEq, Prod.mk.injEq] at hA2
    obtain ⟨rfl, rfl, rfl⟩ := hA2
    exact ⟨_, (oC_mk hc0 rfl), hh⟩
  | i2c =>
    change (sI st (fun x r => some (pc + 1, lv, .int (x.toUInt32 % 65536).toInt32 :: r))) = _ at h
    change ∃ l, (sI st (fun x r => some (pc + 1, lw, .int (x.toUInt32 % 65536).toInt32 :: r))) = _ ∧ _
    obtain ⟨x, r, rfl, hA1⟩ := sI_inv h
    simp only [Option.some.injEq, Prod.mk.injEq] at hA1
    obtain ⟨rfl, rfl, rfl⟩ := hA1
    exact ⟨_, rfl, hh⟩
  | _ => exact absurd h (by intro z; cases z)
set_option maxHeartbeats 4000000 in
theorem stpP_none {F : MR} {scr : AS} {i : Instr} {tgt pc pc' : Nat} {lv lw lv' : ALv} {st st' : List Value} {hh0 : AH} (hX : stpX F i pc lv st = some (pc', lv', st')) (hn : stpP F scr i tgt pc lv st hh0 = none) : stpP F scr i tgt pc lw st hh0 = none := by
  cases hp : stpP F scr i tgt pc lw st hh0 with
  | none => rfl
  | some z =>
    exfalso
    cases i with
    | ldc k =>
      change (oB (fnd (mki F) k) (fun q => some (pc + 2, lw, .int q.1 :: st))) = _ at hp
      change (oB (fnd (mki F) k) (fun q => some (pc + 2, lv, .int q.1 :: st))) = _ at hn
      obtain ⟨q, hq, hB1⟩ := oB_inv hp
      exact absurd (hn.symm.trans (oB_mk hq rfl)) (by intro q; cases q)
    | getfield k =>
      change (sR st (fun a r => oB (fnd (mfl F) k) (fun e => oB hh0[a]? (fun c => oC (c.1 == 0 && c.2.1 == e.1) (oB c.2.2[e.2.1]? (fun v => some (pc + 3, lw, v :: r))))))) = _ at hp
      change (sR st (fun a r => oB (fnd (mfl F) k) (fun e => oB hh0[a]? (fun c => oC (c.1 == 0 && c.2.1 == e.1) (oB c.2.2[e.2.1]? (fun v => some (pc + 3, lv, v :: r))))))) = _ at hn
      obtain ⟨a, r, rfl, hB1⟩ := sR_inv hp
      obtain ⟨e, he, hB2⟩ := oB_inv hB1
      obtain ⟨c, hc, hB3⟩ := oB_inv hB2
      obtain ⟨hc1, hB4⟩ := oC_inv hB3
      obtain ⟨v, hv, hB5⟩ := oB_inv hB4
      exact absurd (hn.symm.trans (oB_mk he (oB_mk hc (oC_mk hc1 (oB_mk hv rfl))))) (by intro q; cases q)
    | getstatic k => exact absurd hp (by intro q; cases q)
    | arraylength =>
      change (sV st (fun v r => oB (alen scr hh0 v) (fun x => some (pc + 1, lw, .int x :: r)))) = _ at hp
      change (sV st (fun v r => oB (alen scr hh0 v) (fun x => some (pc + 1, lv, .int x :: r)))) = _ at hn
      obtain ⟨v, r, rfl, hB1⟩ := sV_inv hp
      obtain ⟨x, hx, hB2⟩ := oB_inv hB1
      exact absurd (hn.symm.trans (oB_mk hx rfl)) (by intro q; cases q)
    | baload =>
      change (oB (ldR none 1 2 3 st hh0) (fun q => oC (isI q.1) (some (pc + 1, lw, q.1 :: q.2)))) = _ at hp
      change (oB (ldR none 1 2 3 st hh0) (fun q => oC (isI q.1) (some (pc + 1, lv, q.1 :: q.2)))) = _ at hn
      obtain ⟨q, hq, hB1⟩ := oB_inv hp
      obtain ⟨hc0, hB2⟩ := oC_inv hB1
      exact absurd (hn.symm.trans (oB_mk hq (oC_mk hc0 rfl))) (by intro q; cases q)
    | i2c => exact absurd hp (by intro q; cases q)
    | _ => exact absurd hX (by intro q; cases q)
theorem am_sub {MT : Nat → Option MR} : ∀ (n fr lo : Nat) (scr : AS) (F : MR) (pc : Nat) (lv lw : ALv) (st : List Value) (h : AH) (x : Option Value × AH), Has lw lv → am MT n fr lo scr F pc lv st h = some x → am MT n fr lo scr F pc lw st h = some x := by
  intro n
  induction n with
  | zero => intro fr lo scr F pc lv lw st h x _ hx; cases hx
  | succ n ih =>
    intro fr lo scr F pc lv lw st h x hh hx
    rw [am_s] at hx ⊢
    unfold amB at hx ⊢
    obtain ⟨q, hq, h1⟩ := oB_inv hx
    refine oB_mk hq ?_
    split at h1
    · obtain ⟨y, hy, h2⟩ := oB_inv h1
      rcases stpA_inv hy with hy | ⟨hn, hy⟩
      · obtain ⟨l, hl, hs⟩ := stpP_sub hh hy
        exact oB_mk (stpA_P hl) (ih _ _ _ _ _ _ _ _ _ _ hs h2)
      · obtain ⟨l, hl, hs⟩ := stpX_sub hh hy
        exact oB_mk (a := (y.1, l, y.2.2)) (by unfold stpA; rw [stpP_none hy hn]; exact hl) (ih _ _ _ _ _ _ _ _ _ _ hs h2)
    · obtain ⟨y, hy, h2⟩ := oB_inv h1
      exact oB_mk hy (ih _ _ _ _ _ _ _ _ _ _ hh h2)
    · obtain ⟨y, hy, h2⟩ := oB_inv h1
      exact oB_mk hy (ih _ _ _ _ _ _ _ _ _ _ hh h2)
    · obtain ⟨y, hy, h2⟩ := oB_inv h1
      obtain ⟨h3, h4⟩ := oC_inv h2
      refine oB_mk hy (oC_mk h3 ?_)
      unfold amC at h4 ⊢
      split at h4
      · obtain ⟨z, hz, h5⟩ := oB_inv h4
        obtain ⟨h6, h7⟩ := oC_inv h5
        exact oB_mk hz (oC_mk h6 (ih _ _ _ _ _ _ _ _ _ _ hh h7))
      · unfold sR at h4 ⊢
        split at h4
        · obtain ⟨h6, h7⟩ := oC_inv h4
          exact oC_mk h6 (ih _ _ _ _ _ _ _ _ _ _ hh h7)
        · cases h4
      · obtain ⟨G, hG, h5⟩ := oB_inv h4
        obtain ⟨h6, h7⟩ := oC_inv h5
        obtain ⟨z, hz, h8⟩ := oB_inv h7
        exact oB_mk hG (oC_mk h6 (oB_mk hz (ih _ _ _ _ _ _ _ _ _ _ hh h8)))
    · exact h1
def HasL (l1 : ALv) : ALv → Prop
  | [] => True
  | q :: t => fnd l1 q.1 = some q.2 ∧ HasL l1 t
theorem HasL_ok {l1 l2 : ALv} (h : HasL l1 l2) : Has l1 l2 := by
  induction l2 with
  | nil => intro q hq; cases hq
  | cons q t ih =>
    intro p hp
    rcases List.mem_cons.mp hp with rfl | hp
    · exact h.1
    · exact ih h.2 p hp
theorem En_lv {fr lo : Nat} {scr : AS} {F : MR} {P : PO} {pc : Nat} {lv lw : ALv} {st : List Value} {σ : SG} (hs : HasL lw lv) (k : En fr lo scr F P pc lv st σ) : En fr lo scr F P pc lw st σ := by
  obtain ⟨v, σ', ⟨n, hn⟩, hp⟩ := k
  exact ⟨v, σ', ⟨n, am_sub n _ _ _ _ _ _ _ _ _ _ (HasL_ok hs) hn⟩, hp⟩

