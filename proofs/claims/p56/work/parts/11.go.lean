/-! RUNS: some fuel is enough -/
theorem oB_mk {α β : Type} {o : Option α} {f : α → Option β} {a : α} {b : β} (h : o = some a) (h2 : f a = some b) : oB o f = some b := by subst h; exact h2
theorem oC_mk {α : Type} {b : Bool} {o : Option α} {a : α} (h : b = true) (h2 : o = some a) : oC b o = some a := by subst h; exact h2
theorem amC_mono {MT : Nat → Option MR} {r1 r2 : AM} (hr : ∀ fr lo scr F pc lv st h x, r1 fr lo scr F pc lv st h = some x → r2 fr lo scr F pc lv st h = some x) {fr lo : Nat} {scr : AS} {F : MR} {i : Instr} {pc : Nat} {lv : ALv} {st : List Value} {h : AH} {kd id : Nat} {x : Option Value × AH} (hx : amC MT r1 fr lo scr F i pc lv st h kd id = some x) : amC MT r2 fr lo scr F i pc lv st h kd id = some x := by
  unfold amC at hx ⊢
  split at hx
  · obtain ⟨q, hpQ, h2⟩ := oB_inv hx
    obtain ⟨h3, h4⟩ := oC_inv h2
    exact oB_mk hpQ (oC_mk h3 (hr _ _ _ _ _ _ _ _ _ h4))
  · unfold sR at hx ⊢
    split at hx
    · obtain ⟨h3, h4⟩ := oC_inv hx
      exact oC_mk h3 (hr _ _ _ _ _ _ _ _ _ h4)
    · cases hx
  · obtain ⟨G, hG, h2⟩ := oB_inv hx
    obtain ⟨h3, h4⟩ := oC_inv h2
    obtain ⟨q, hpQ, h5⟩ := oB_inv h4
    exact oB_mk hG (oC_mk h3 (oB_mk (hr _ _ _ _ _ _ _ _ _ hpQ) (hr _ _ _ _ _ _ _ _ _ h5)))
theorem amB_mono {MT : Nat → Option MR} {r1 r2 : AM} (hr : ∀ fr lo scr F pc lv st h x, r1 fr lo scr F pc lv st h = some x → r2 fr lo scr F pc lv st h = some x) {fr lo : Nat} {scr : AS} {F : MR} {pc : Nat} {lv : ALv} {st : List Value} {h : AH} {x : Option Value × AH} (hx : amB MT r1 fr lo scr F pc lv st h = some x) : amB MT r2 fr lo scr F pc lv st h = some x := by
  unfold amB at hx ⊢
  obtain ⟨q, hpQ, h1⟩ := oB_inv hx
  refine oB_mk hpQ ?_
  split at h1
  · obtain ⟨y, hy, h2⟩ := oB_inv h1
    exact oB_mk hy (hr _ _ _ _ _ _ _ _ _ h2)
  · obtain ⟨y, hy, h2⟩ := oB_inv h1
    exact oB_mk hy (hr _ _ _ _ _ _ _ _ _ h2)
  · obtain ⟨y, hy, h2⟩ := oB_inv h1
    exact oB_mk hy (hr _ _ _ _ _ _ _ _ _ h2)
  · obtain ⟨y, hy, h2⟩ := oB_inv h1
    obtain ⟨h3, h4⟩ := oC_inv h2
    exact oB_mk hy (oC_mk h3 (amC_mono hr h4))
  · exact h1
theorem am_mono (MT : Nat → Option MR) : ∀ (n k fr lo : Nat) (scr : AS) (F : MR) (pc : Nat) (lv : ALv) (st : List Value) (h : AH) (x : Option Value × AH), am MT n fr lo scr F pc lv st h = some x → am MT (n + k) fr lo scr F pc lv st h = some x := by
  intro n
  induction n with
  | zero => intro k fr lo scr F pc lv st h x hx; cases hx
  | succ n ih =>
    intro k fr lo scr F pc lv st h x hx
    rw [show n + 1 + k = (n + k) + 1 by omega, am_s]
    rw [am_s] at hx
    exact amB_mono (fun fr lo scr F pc lv st h x z => ih k fr lo scr F pc lv st h x z) hx
def Go (MT : Nat → Option MR) (fr lo : Nat) (scr : AS) (F : MR) (pc : Nat) (lv : ALv) (st : List Value) (h : AH) (x : Option Value × AH) : Prop := ∃ n, am MT n fr lo scr F pc lv st h = some x
/-- some reading steps -/
def pst (F : MR) (scr : AS) (h : AH) : Nat → Nat → ALv → List Value → Option (Nat × ALv × List Value)
  | 0, pc, lv, st => some (pc, lv, st)
  | n + 1, pc, lv, st => oB (fc F pc) (fun q => oC (ikind q.1 == 0) (oB (stpP F scr q.1 q.2.2 pc lv st h) (fun x => pst F scr h n x.1 x.2.1 x.2.2)))
section GO
variable {MT : Nat → Option MR} {fr lo : Nat} {scr : AS} {F : MR} {pc pc' len tgt : Nat} {i : Instr} {lv lv' : ALv} {st st' : List Value} {h h' : AH} {x : Option Value × AH}
theorem Go_Ps (n : Nat) (hs : pst F scr h n pc lv st = some (pc', lv', st')) (g : Go MT fr lo scr F pc' lv' st' h x) : Go MT fr lo scr F pc lv st h x := by
  induction n generalizing pc lv st with
  | zero => cases hs; exact g
  | succ n ih =>
    unfold pst at hs
    obtain ⟨q, hpQ, h1⟩ := oB_inv hs
    obtain ⟨h2, h3⟩ := oC_inv h1
    obtain ⟨y, hy, h4⟩ := oB_inv h3
    obtain ⟨k, hk⟩ := ih h4
    refine ⟨k + 1, ?_⟩
    rw [am_s]
    unfold amB
    refine oB_mk hpQ ?_
    rw [eq_of_beq h2]
    exact oB_mk (stpA_P hy) hk
/-- one step on a cell outside -/
theorem Go_X (hf : fc F pc = some (i, len, tgt)) (hk : ikind i = 0) (hp : stpP F scr i tgt pc lv st h = none) (hs : stpX F i pc lv st = some (pc', lv', st')) (g : Go MT fr lo scr F pc' lv' st' h x) : Go MT fr lo scr F pc lv st h x := by
  obtain ⟨k, hk2⟩ := g
  refine ⟨k + 1, ?_⟩
  rw [am_s]
  unfold amB
  refine oB_mk hf ?_
  dsimp only
  rw [hk]
  exact oB_mk (a := (pc', lv', st')) (by unfold stpA; rw [hp]; exact hs) hk2
theorem Go_W (hf : fc F pc = some (i, len, tgt)) (hk : ikind i = 1) (hs : stpW F i pc st h = some (pc', st', h')) (g : Go MT fr lo scr F pc' lv st' h' x) : Go MT fr lo scr F pc lv st h x := by
  obtain ⟨k, hk2⟩ := g
  refine ⟨k + 1, ?_⟩
  rw [am_s]
  unfold amB
  refine oB_mk hf ?_
  dsimp only
  rw [hk]
  exact oB_mk hs hk2
theorem Go_N (hf : fc F pc = some (i, len, tgt)) (hk : ikind i = 2) (hs : stpN F i pc st h = some (pc', st', h')) (g : Go MT fr lo scr F pc' lv st' h' x) : Go MT fr lo scr F pc lv st h x := by
  obtain ⟨k, hk2⟩ := g
  refine ⟨k + 1, ?_⟩
  rw [am_s]
  unfold amB
  refine oB_mk hf ?_
  dsimp only
  rw [hk]
  exact oB_mk hs hk2
theorem Go_ret (hf : fc F pc = some (i, len, tgt)) (hk : ikind i = 4) (hs : doRet F i st h = some x) : Go MT fr lo scr F pc lv st h x := by
  refine ⟨1, ?_⟩
  rw [am_s]
  unfold amB
  refine oB_mk hf ?_
  dsimp only
  rw [hk]
  exact hs
theorem Go_copy {idx pos : Nat × Nat} {st2 : List Value} {e : Nat × Nat × Nat × Nat} (hf : fc F pc = some (i, len, tgt)) (hk : ikind i = 3) (he : fnd (mcl F) (callIx i) = some e) (hkd : callKd i e.1 = true) (h8 : e.1 = 8) (hc : acopy st h = some (st2, h')) (hb : (decide (1 ≤ fr) && decide (cats st2 + 40 ≤ lo)) = true) (g : Go MT fr lo scr F (pc + 3) lv st2 h' x) : Go MT fr lo scr F pc lv st h x := by
  obtain ⟨k, hk2⟩ := g
  refine ⟨k + 1, ?_⟩
  rw [am_s]
  unfold amB
  refine oB_mk hf ?_
  dsimp only
  rw [hk]
  refine oB_mk he (oC_mk hkd ?_)
  rw [h8]
  exact oB_mk hc (oC_mk hb hk2)
/-- a call: the callee's run, then the rest -/
theorem Go_call {kd id : Nat} {pos : Nat × Nat} {G : MR} {v1 : Option Value} {h1 : AH} {vs r : List Value} (hf : fc F pc = some (i, len, tgt)) (hk : ikind i = 3) (he : fnd (mcl F) (callIx i) = some (kd, id, pos)) (hkd : callKd i kd = true) (hlt : kd < 8) (hG : MT id = some G)
    (hvs : (st.take (nArg kd G)).reverse = vs) (hr : st.drop (nArg kd G) = r)
    (hb : (decide (nArg kd G ≤ st.length) && decide (1 ≤ fr) && decide (mml G + 19 ≤ lo) && decide (cats r ≤ 8) && decide (cats (st.take (nArg kd G)) ≤ mml G) && rcv kd (mci G) vs h) = true)
    (gc : Go MT (fr - 1) (lo - (mml G + 19)) none G 0 (lv_args 0 vs) [] h (v1, h1)) (g : Go MT fr lo scr F (pc + 3) lv (v1.toList ++ r) h1 x) : Go MT fr lo scr F pc lv st h x := by
  obtain ⟨k, hk2⟩ := g
  obtain ⟨n, hn⟩ := gc
  refine ⟨(n + k) + 1, ?_⟩
  rw [am_s]
  unfold amB
  refine oB_mk hf ?_
  dsimp only
  rw [hk]
  refine oB_mk he (oC_mk hkd ?_)
  dsimp only
  unfold amC
  split
  · omega
  · omega
  · subst hvs
    subst hr
    refine oB_mk hG (oC_mk hb (oB_mk (am_mono MT n k _ _ _ _ _ _ _ _ _ hn) ?_))
    dsimp only
    rw [Nat.add_comm n k]
    exact am_mono MT k n _ _ _ _ _ _ _ _ _ hk2
end GO
/-- a closed run -/
theorem Go_of {MT : Nat → Option MR} {fr lo : Nat} {scr : AS} {F : MR} {pc : Nat} {lv : ALv} {st : List Value} {h : AH} {x : Option Value × AH} (n : Nat) (hx : am MT n fr lo scr F pc lv st h = some x) : Go MT fr lo scr F pc lv st h x := ⟨n, hx⟩
/-- one step of a frame, a call in one -/
def stp1 (MT : Nat → Option MR) (rec : AM) (fr lo : Nat) (scr : AS) (F : MR) (s : Nat × ALv × List Value × AH) : Option (Nat × ALv × List Value × AH) :=
  oB (fc F s.1) (fun q => match ikind q.1 with
    | 0 => oB (stpP F scr q.1 q.2.2 s.1 s.2.1 s.2.2.1 s.2.2.2) (fun x => some (x.1, x.2.1, x.2.2, s.2.2.2))
    | 1 => oB (stpW F q.1 s.1 s.2.2.1 s.2.2.2) (fun x => some (x.1, s.2.1, x.2.1, x.2.2))
    | 2 => oB (stpN F q.1 s.1 s.2.2.1 s.2.2.2) (fun x => some (x.1, s.2.1, x.2.1, x.2.2))
    | 3 => oB (fnd (mcl F) (callIx q.1)) (fun e => oC (callKd q.1 e.1) (match e.1 with
      | 8 => oB (acopy s.2.2.1 s.2.2.2) (fun q => oC (decide (1 ≤ fr) && decide (cats q.1 + 40 ≤ lo)) (some (s.1 + 3, s.2.1, q.1, q.2)))
      | 9 => sR s.2.2.1 (fun _ r => oC (decide (1 ≤ fr) && decide (cats r + 12 ≤ lo)) (some (s.1 + 3, s.2.1, r, s.2.2.2)))
      | kd => oB (MT e.2.1) (fun G => oC (decide (nArg kd G ≤ s.2.2.1.length) && decide (1 ≤ fr) && decide (mml G + 19 ≤ lo) && decide (cats (s.2.2.1.drop (nArg kd G)) ≤ 8) && decide (cats (s.2.2.1.take (nArg kd G)) ≤ mml G) && rcv kd (mci G) (s.2.2.1.take (nArg kd G)).reverse s.2.2.2)
        (oB (rec (fr - 1) (lo - (mml G + 19)) none G 0 (lv_args 0 (s.2.2.1.take (nArg kd G)).reverse) [] s.2.2.2) (fun q => some (s.1 + 3, s.2.1, q.1.toList ++ s.2.2.1.drop (nArg kd G), q.2))))))
    | _ => none)
noncomputable def seg (MT : Nat → Option MR) (fuel fr lo : Nat) (scr : AS) (F : MR) (n : Nat) : (Nat × ALv × List Value × AH) → Option (Nat × ALv × List Value × AH) := Nat.rec (motive := fun _ => (Nat × ALv × List Value × AH) → Option (Nat × ALv × List Value × AH)) (fun s => some s) (fun _ ih s => oB (stp1 MT (am MT fuel) fr lo scr F s) ih) n
theorem Go_1 {MT : Nat → Option MR} {fuel fr lo : Nat} {scr : AS} {F : MR} {s s' : Nat × ALv × List Value × AH} {x : Option Value × AH} (h1 : stp1 MT (am MT fuel) fr lo scr F s = some s') (g : Go MT fr lo scr F s'.1 s'.2.1 s'.2.2.1 s'.2.2.2 x) : Go MT fr lo scr F s.1 s.2.1 s.2.2.1 s.2.2.2 x := by
  obtain ⟨k, hk⟩ := g
  refine ⟨(fuel + k) + 1, ?_⟩
  rw [am_s]
  unfold amB
  unfold stp1 at h1
  obtain ⟨q, hpQ, h2⟩ := oB_inv h1
  refine oB_mk hpQ ?_
  have hk2 : am MT (fuel + k) fr lo scr F s'.1 s'.2.1 s'.2.2.1 s'.2.2.2 = some x := by
    rw [Nat.add_comm]
    exact am_mono MT k fuel _ _ _ _ _ _ _ _ _ hk
  split at h2
  · obtain ⟨y, hy, h3⟩ := oB_inv h2
    cases h3
    rw [show ikind q.1 = 0 by assumption]
    refine oB_mk (stpA_P hy) ?_
    exact hk2
  · obtain ⟨y, hy, h3⟩ := oB_inv h2
    cases h3
    rw [show ikind q.1 = 1 by assumption]
    refine oB_mk hy ?_
    exact hk2
  · obtain ⟨y, hy, h3⟩ := oB_inv h2
    cases h3
    rw [show ikind q.1 = 2 by assumption]
    refine oB_mk hy ?_
    exact hk2
  · obtain ⟨y, hy, h3⟩ := oB_inv h2
    obtain ⟨h4, h5⟩ := oC_inv h3
    rw [show ikind q.1 = 3 by assumption]
    refine oB_mk hy ?_
    refine oC_mk h4 ?_
    unfold amC
    split at h5
    · rename_i e8
      obtain ⟨z, hz, h6⟩ := oB_inv h5
      obtain ⟨h7, h8⟩ := oC_inv h6
      cases h8
      rw [e8]
      refine oB_mk hz ?_
      exact oC_mk h7 hk2
    · rename_i e9
      obtain ⟨a, r, hz, h6⟩ := sR_inv h5
      obtain ⟨h7, h8⟩ := oC_inv h6
      cases h8
      rw [e9, hz]
      exact oC_mk h7 hk2
    · rename_i n8 n9
      obtain ⟨G, hG, h6⟩ := oB_inv h5
      obtain ⟨h7, h8⟩ := oC_inv h6
      obtain ⟨z, hz, h9⟩ := oB_inv h8
      cases h9
      split
      · exact absurd (by assumption) n8
      · exact absurd (by assumption) n9
      · refine oB_mk hG ?_
        refine oC_mk h7 ?_
        refine oB_mk (am_mono MT fuel k _ _ _ _ _ _ _ _ _ hz) ?_
        exact hk2
  · cases h2
theorem Go_seg {MT : Nat → Option MR} {fuel fr lo : Nat} {scr : AS} {F : MR} (n : Nat) {pc pc' : Nat} {lv lv' : ALv} {st st' : List Value} {h h' : AH} {x : Option Value × AH} (hs : seg MT fuel fr lo scr F n (pc, lv, st, h) = some (pc', lv', st', h')) (g : Go MT fr lo scr F pc' lv' st' h' x) : Go MT fr lo scr F pc lv st h x := by
  have key : ∀ (n : Nat) (s s' : Nat × ALv × List Value × AH), seg MT fuel fr lo scr F n s = some s' → Go MT fr lo scr F s'.1 s'.2.1 s'.2.2.1 s'.2.2.2 x → Go MT fr lo scr F s.1 s.2.1 s.2.2.1 s.2.2.2 x := by
    intro n
    induction n with
    | zero => intro s s' h1 g1; cases h1; exact g1
    | succ n ih =>
      intro s s' h1 g1
      have h2 : oB (stp1 MT (am MT fuel) fr lo scr F s) (seg MT fuel fr lo scr F n) = some s' := h1
      obtain ⟨y, hy, h3⟩ := oB_inv h2
      exact Go_1 hy (ih y s' h3 g1)
  exact key n (pc, lv, st, h) (pc', lv', st', h') hs g
/-- heaps compared number by number (the derived decision takes a millisecond a value) -/
theorem i32q {x y : Int32} (h : Nat.beq x.toUInt32.toNat y.toUInt32.toNat = true) : x = y := by
  have h1 := UInt32.toNat.inj (Nat.eq_of_beq_eq_true h)
  cases x; cases y
  exact congrArg Int32.ofUInt32 h1
def vlQ (a b : Value) : Bool := match a, b with
  | .int x, .int y => Nat.beq x.toUInt32.toNat y.toUInt32.toNat
  | .ref x, .ref y => Nat.beq x y
  | a, b => decide (a = b)
theorem vlQ_ok {a b : Value} (h : vlQ a b = true) : a = b := by
  unfold vlQ at h; split at h
  · exact congrArg Value.int (i32q h)
  · exact congrArg Value.ref (Nat.eq_of_beq_eq_true h)
  · exact of_decide_eq_true h
def lsQ : List Value → List Value → Bool
  | [], [] => true
  | a :: s, b :: t => vlQ a b && lsQ s t
  | _, _ => false
theorem lsQ_ok : ∀ {s t : List Value}, lsQ s t = true → s = t
  | [], [], _ => rfl
  | a :: s, b :: t, h => by
    unfold lsQ at h
    rw [Bool.and_eq_true] at h
    rw [vlQ_ok h.1, lsQ_ok h.2]
  | [], b :: t, h => absurd h (by unfold lsQ; exact Bool.false_ne_true)
  | a :: s, [], h => absurd h (by unfold lsQ; exact Bool.false_ne_true)
def hpQ : AH → AH → Bool
  | [], [] => true
  | a :: s, b :: t => (Nat.beq a.1 b.1 && Nat.beq a.2.1 b.2.1 && lsQ a.2.2 b.2.2) && hpQ s t
  | _, _ => false
theorem hpQ_ok : ∀ {s t : AH}, hpQ s t = true → s = t
  | [], [], _ => rfl
  | (k, c, l) :: s, (k', c', l') :: t, h => by
    unfold hpQ at h
    rw [Bool.and_eq_true, Bool.and_eq_true, Bool.and_eq_true] at h
    obtain ⟨⟨⟨h1, h2⟩, h3⟩, h4⟩ := h
    have e1 : k = k' := Nat.eq_of_beq_eq_true h1
    have e2 : c = c' := Nat.eq_of_beq_eq_true h2
    have e3 : l = l' := lsQ_ok h3
    rw [e1, e2, e3, hpQ_ok h4]
  | [], b :: t, h => absurd h (by unfold hpQ; exact Bool.false_ne_true)
  | a :: s, [], h => absurd h (by unfold hpQ; exact Bool.false_ne_true)
def eqS (a : Option (Nat × ALv × List Value × AH)) (b : Nat × ALv × List Value × AH) : Bool := match a with
  | some a => decide (a.1 = b.1) && decide (a.2.1 = b.2.1) && decide (a.2.2.1 = b.2.2.1) && hpQ a.2.2.2 b.2.2.2
  | none => false
theorem eqS_ok {a : Option (Nat × ALv × List Value × AH)} {b : Nat × ALv × List Value × AH} (h : eqS a b = true) : a = some b := by
  unfold eqS at h
  split at h
  · rename_i a
    simp only [Bool.and_eq_true, decide_eq_true_eq] at h
    obtain ⟨⟨⟨h1, h2⟩, h3⟩, h4⟩ := h
    have h5 := hpQ_ok h4
    clear h4
    obtain ⟨a1, a2, a3, a4⟩ := a
    obtain ⟨b1, b2, b3, b4⟩ := b
    dsimp only at h1 h2 h3 h5
    subst h1; subst h2; subst h3; subst h5
    rfl
  · cases h

