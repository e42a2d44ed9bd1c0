/-! the steps that read alone -/
abbrev AS : Type := Option (Nat × (Nat → Int32))
def jmp (t : Bool) (a b : Nat) (lv : ALv) (r : List Value) : Option (Nat × ALv × List Value) := match t with
  | true => some (a, lv, r)
  | false => some (b, lv, r)
theorem jmp_inv {t : Bool} {a b : Nat} {lv : ALv} {r : List Value} {x : Nat × ALv × List Value} (h : jmp t a b lv r = some x) : (t = true ∧ x = (a, lv, r)) ∨ (t = false ∧ x = (b, lv, r)) := by
  unfold jmp at h; split at h
  · cases h; exact Or.inl ⟨rfl, rfl⟩
  · cases h; exact Or.inr ⟨rfl, rfl⟩
def sV {α : Type} (st : List Value) (f : Value → List Value → Option α) : Option α := match st with
  | v :: r => f v r
  | _ => none
def sVV {α : Type} (st : List Value) (f : Value → Value → List Value → Option α) : Option α := match st with
  | v :: u :: r => f v u r
  | _ => none
theorem sV_inv {α : Type} {st : List Value} {f : Value → List Value → Option α} {a : α} (h : sV st f = some a) : ∃ v r, st = v :: r ∧ f v r = some a := by
  unfold sV at h; split at h
  · exact ⟨_, _, rfl, h⟩
  · cases h
theorem sVV_inv {α : Type} {st : List Value} {f : Value → Value → List Value → Option α} {a : α} (h : sVV st f = some a) : ∃ v u r, st = v :: u :: r ∧ f v u r = some a := by
  unfold sVV at h; split at h
  · exact ⟨_, _, _, rfl, h⟩
  · cases h
/-- a load out of a row -/
def ldR (scr : AS) (k ty1 ty2 : Nat) (st : List Value) (h : AH) : Option (Value × List Value) := match st with
  | .int j :: .ref a :: r => oB h[a]? (fun c => oC (c.1 == k && (c.2.1 == ty1 || c.2.1 == ty2) && decide (¬ j < 0)) (oB c.2.2[j.toNatClampNeg]? (fun v => some (v, r))))
  | .int j :: .retAddr 0 :: r => oB scr (fun q => oC (decide (¬ (j < 0 ∨ q.1 ≤ j.toNatClampNeg))) (some (.int (q.2 j.toNatClampNeg), r)))
  | _ => none
theorem ldR_inv {scr : AS} {k t1 t2 : Nat} {st : List Value} {h : AH} {x : Value × List Value} (hh : ldR scr k t1 t2 st h = some x) :
    (∃ a j c, st = .int j :: .ref a :: x.2 ∧ h[a]? = some c ∧ c.1 = k ∧ (c.2.1 = t1 ∨ c.2.1 = t2) ∧ ¬ j < 0 ∧ c.2.2[j.toNatClampNeg]? = some x.1) ∨ (∃ (_ : Nat) (j : Int32) (q : Nat × (Nat → Int32)), st = .int j :: .retAddr 0 :: x.2 ∧ scr = some q ∧ ¬ (j < 0 ∨ q.1 ≤ j.toNatClampNeg) ∧ x.1 = .int (q.2 j.toNatClampNeg)) := by
  unfold ldR at hh; split at hh
  · rename_i j a r
    obtain ⟨c, hc, h2⟩ := oB_inv hh
    obtain ⟨h3, h4⟩ := oC_inv h2
    obtain ⟨v, hv, h5⟩ := oB_inv h4
    cases h5
    simp only [Bool.and_eq_true, Bool.or_eq_true, beq_iff_eq, decide_eq_true_eq] at h3
    exact Or.inl ⟨a, j, c, rfl, hc, h3.1.1, h3.1.2, h3.2, hv⟩
  · rename_i j r
    obtain ⟨q, hq, h2⟩ := oB_inv hh
    obtain ⟨h3, h4⟩ := oC_inv h2
    cases h4
    exact Or.inr ⟨0, j, q, rfl, hq, of_decide_eq_true h3, rfl⟩
  · cases hh
def isI : Value → Bool
  | .int _ => true
  | _ => false
def isL : Value → Bool
  | .long _ => true
  | _ => false
def isR : Value → Bool
  | .ref _ => true
  | .null => true
  | _ => false
theorem isI_inv {v : Value} (h : isI v = true) : ∃ x, v = .int x := by cases v <;> first | exact ⟨_, rfl⟩ | cases h
theorem isL_inv {v : Value} (h : isL v = true) : ∃ x, v = .long x := by cases v <;> first | exact ⟨_, rfl⟩ | cases h
theorem isR_inv {v : Value} (h : isR v = true) : v = .null ∨ ∃ x, v = .ref x := by cases v <;> first | exact Or.inr ⟨_, rfl⟩ | exact Or.inl rfl | cases h
def alen (scr : AS) (h : AH) (v : Value) : Option Int32 := match v with
  | .ref a => oB h[a]? (fun c => oC ((c.1 == 1 || c.1 == 2 || c.1 == 3) && decide (c.2.1 < 7)) (some (Int32.ofNat c.2.2.length)))
  | .retAddr 0 => oB scr (fun q => some (Int32.ofNat q.1))
  | _ => none
def tsw (pc : Nat) (dflt lo hi : Int) (offs : Array Int) (x : Int32) : Option Nat :=
  if x.toInt < lo ∨ hi < x.toInt then oC (decide (0 ≤ (pc : Int) + dflt)) (some ((pc : Int) + dflt).toNat) else oB offs[(x.toInt - lo).toNat]? (fun o => oC (decide (0 ≤ (pc : Int) + o)) (some ((pc : Int) + o).toNat))

def stpP (F : MR) (scr : AS) (i : Instr) (tgt pc : Nat) (lv : ALv) (st : List Value) (h : AH) : Option (Nat × ALv × List Value) :=
  match i with
  | .iconst n => some (pc + 1, lv, .int (Int32.ofInt n) :: st)
  | .bipush n => some (pc + 2, lv, .int (Int8.ofInt n).toInt32 :: st)
  | .sipush n => some (pc + 3, lv, .int (Int16.ofInt n).toInt32 :: st)
  | .lconst n => some (pc + 1, lv, .long (Int64.ofNat (n : Nat)) :: st)
  | .iload_n k => oB (ldI lv (k : Nat)) (fun v => some (pc + 1, lv, v :: st))
  | .iload k => oB (ldI lv k) (fun v => some (pc + 2, lv, v :: st))
  | .lload_n k => oB (ldL lv (k : Nat)) (fun v => some (pc + 1, lv, v :: st))
  | .lload k => oB (ldL lv k) (fun v => some (pc + 2, lv, v :: st))
  | .aload_n k => oB (ldA lv (k : Nat)) (fun v => some (pc + 1, lv, v :: st))
  | .aload k => oB (ldA lv k) (fun v => some (pc + 2, lv, v :: st))
  | .istore_n k => sI st (fun x r => oC (decide ((k : Nat) < mml F)) (some (pc + 1, lvset1 lv (k : Nat) (.int x), r)))
  | .istore k => sI st (fun x r => oC (decide (k < mml F)) (some (pc + 2, lvset1 lv k (.int x), r)))
  | .lstore_n k => sL st (fun x r => oC (decide ((k : Nat) + 1 < mml F)) (some (pc + 1, lvset2 lv (k : Nat) (.long x), r)))
  | .lstore k => sL st (fun x r => oC (decide (k + 1 < mml F)) (some (pc + 2, lvset2 lv k (.long x), r)))
  | .astore_n k => sR st (fun x r => oC (decide ((k : Nat) < mml F)) (some (pc + 1, lvset1 lv (k : Nat) (.ref x), r)))
  | .astore k => sR st (fun x r => oC (decide (k < mml F)) (some (pc + 2, lvset1 lv k (.ref x), r)))
  | .iinc k n => oB (ldI lv k) (fun v => oC (decide (k < mml F)) (some (pc + 3, lvset1 lv k (.int (asI v + Int32.ofInt n)), st)))
  | .iadd => sII st (fun x y r => some (pc + 1, lv, .int (x + y) :: r))
  | .isub => sII st (fun x y r => some (pc + 1, lv, .int (x - y) :: r))
  | .imul => sII st (fun x y r => some (pc + 1, lv, .int (x * y) :: r))
  | .iand => sII st (fun x y r => some (pc + 1, lv, .int (x &&& y) :: r))
  | .ior => sII st (fun x y r => some (pc + 1, lv, .int (x ||| y) :: r))
  | .ixor => sII st (fun x y r => some (pc + 1, lv, .int (x ^^^ y) :: r))
  | .ishl => sII st (fun x y r => some (pc + 1, lv, .int (x <<< (y &&& 31)) :: r))
  | .ishr => sII st (fun x y r => some (pc + 1, lv, .int (x >>> (y &&& 31)) :: r))
  | .iushr => sII st (fun x y r => some (pc + 1, lv, .int ((x.toUInt32 >>> (y.toUInt32 &&& Int32.toUInt32 31)).toInt32) :: r))
  | .idiv => sII st (fun x y r => oC (decide (¬ y = 0)) (some (pc + 1, lv, .int (x / y) :: r)))
  | .irem => sII st (fun x y r => oC (decide (¬ y = 0)) (some (pc + 1, lv, .int (x - x / y * y) :: r)))
  | .ladd => sLL st (fun x y r => some (pc + 1, lv, .long (x + y) :: r))
  | .lsub => sLL st (fun x y r => some (pc + 1, lv, .long (x - y) :: r))
  | .lmul => sLL st (fun x y r => some (pc + 1, lv, .long (x * y) :: r))
  | .land => sLL st (fun x y r => some (pc + 1, lv, .long (x &&& y) :: r))
  | .lor => sLL st (fun x y r => some (pc + 1, lv, .long (x ||| y) :: r))
  | .lxor => sLL st (fun x y r => some (pc + 1, lv, .long (x ^^^ y) :: r))
  | .ldiv => sLL st (fun x y r => oC (decide (¬ y = 0)) (some (pc + 1, lv, .long (x / y) :: r)))
  | .lrem => sLL st (fun x y r => oC (decide (¬ y = 0)) (some (pc + 1, lv, .long (x - x / y * y) :: r)))
  | .lshl => sLI st (fun x y r => some (pc + 1, lv, .long (x <<< (y.toInt64 &&& 63)) :: r))
  | .lshr => sLI st (fun x y r => some (pc + 1, lv, .long (x >>> (y.toInt64 &&& 63)) :: r))
  | .ineg => sI st (fun x r => some (pc + 1, lv, .int (-x) :: r))
  | .i2l => sI st (fun x r => some (pc + 1, lv, .long x.toInt64 :: r))
  | .l2i => sL st (fun x r => some (pc + 1, lv, .int x.toInt32 :: r))
  | .i2b => sI st (fun x r => some (pc + 1, lv, .int x.toInt8.toInt32 :: r))
  | .lcmp => sLL st (fun x y r => some (pc + 1, lv, .int (lg_cmp x y) :: r))
  | .dup => sV st (fun v r => oC (v.category == 1) (some (pc + 1, lv, v :: v :: r)))
  | .dup2 => sVV st (fun v u r => oC (v.category == 1 && u.category == 1) (some (pc + 1, lv, v :: u :: v :: u :: r)))
  | .pop => sV st (fun v r => oC (v.category == 1) (some (pc + 1, lv, r)))
  | .goto _ => some (tgt, lv, st)
  | .if_icmp .eq _ => sII st (fun x y r => jmp (decide (x = y)) tgt (pc + 3) lv r)
  | .ifCond .eq _ => sI st (fun x r => jmp (decide (x = 0)) tgt (pc + 3) lv r)
  | .if_icmp .ne _ => sII st (fun x y r => jmp (decide (¬ x = y)) tgt (pc + 3) lv r)
  | .ifCond .ne _ => sI st (fun x r => jmp (decide (¬ x = 0)) tgt (pc + 3) lv r)
  | .if_icmp .lt _ => sII st (fun x y r => jmp (decide (x < y)) tgt (pc + 3) lv r)
  | .ifCond .lt _ => sI st (fun x r => jmp (decide (x < 0)) tgt (pc + 3) lv r)
  | .if_icmp .ge _ => sII st (fun x y r => jmp (decide (y ≤ x)) tgt (pc + 3) lv r)
  | .ifCond .ge _ => sI st (fun x r => jmp (decide (0 ≤ x)) tgt (pc + 3) lv r)
  | .if_icmp .gt _ => sII st (fun x y r => jmp (decide (y < x)) tgt (pc + 3) lv r)
  | .ifCond .gt _ => sI st (fun x r => jmp (decide (0 < x)) tgt (pc + 3) lv r)
  | .if_icmp .le _ => sII st (fun x y r => jmp (decide (x ≤ y)) tgt (pc + 3) lv r)
  | .ifCond .le _ => sI st (fun x r => jmp (decide (x ≤ 0)) tgt (pc + 3) lv r)
  | .tableswitch dflt lo hi offs => sI st (fun x r => oB (tsw pc dflt lo hi offs x) (fun t => some (t, lv, r)))
  | .lookupswitch dflt ps => sI st (fun x r => oC ((ps.toList.zip (ps.toList.drop 1)).all (fun (a, next) => a.1 < next.1) && decide (0 ≤ (pc : Int) + Op.lookupswitch.offset ps.toList dflt x.toInt)) (some (((pc : Int) + Op.lookupswitch.offset ps.toList dflt x.toInt).toNat, lv, r)))
  | .ldc k => oB (fnd (mki F) k) (fun q => some (pc + 2, lv, .int q.1 :: st))
  | .ldc_w k => oB (fnd (mki F) k) (fun q => some (pc + 3, lv, .int q.1 :: st))
  | .ldc2_w k => oB (fnd (mkl F) k) (fun q => some (pc + 3, lv, .long q.1 :: st))
  | .getfield k => sR st (fun a r => oB (fnd (mfl F) k) (fun e => oB h[a]? (fun c => oC (c.1 == 0 && c.2.1 == e.1) (oB c.2.2[e.2.1]? (fun v => some (pc + 3, lv, v :: r))))))
  | .iaload => oB (ldR scr 1 0 0 st h) (fun q => oC (isI q.1) (some (pc + 1, lv, q.1 :: q.2)))
  | .baload => oB (ldR none 1 2 3 st h) (fun q => oC (isI q.1) (some (pc + 1, lv, q.1 :: q.2)))
  | .laload => oB (ldR none 2 1 1 st h) (fun q => oC (isL q.1) (some (pc + 1, lv, q.1 :: q.2)))
  | .aaload => sRI st (fun a j r => oB h[a]? (fun c => oC (c.1 == 3 && (c.2.1 == 4 || c.2.1 == 5 || c.2.1 == 6) && decide (¬ j < 0)) (oB c.2.2[j.toNatClampNeg]? (fun v => oC (isR v) (some (pc + 1, lv, v :: r))))))
  | .arraylength => sV st (fun v r => oB (alen scr h v) (fun x => some (pc + 1, lv, .int x :: r)))
  | _ => none
/-- the cells outside: the literals, and two statics of the library -/
def KS (b : Nat → Nat) (base : Nat) (s : State) : Prop := vk_S NSTR LENS BYT (fun i => b (2 * i + 1)) (fun i => b (2 * i + 2)) (fun q => base ≤ q) s s.heap ∧ (∀ t ∈ STRTAB, vk_R t.1 t.2.1 (TXT.getD t.2.2 "") (b (2 * t.2.2 + 1)) s) ∧ va_Z "java/lang/String" "COMPACT_STRINGS" "Z" (.int 1) (fun q => base ≤ q) s s.heap ∧ va_Z "jdk/internal/util/Preconditions" "SIOOBE_FORMATTER" "Ljava/util/function/BiFunction;" (fV b) (fun q => base ≤ q) s s.heap
theorem KS_to {b : Nat → Nat} {base : Nat} {s U : State} {locs : List Loc} (h : KS b base s) (hW : s.WarmedH U.vm) (hS : va_S (fun q => base ≤ q) s.heap U.heap locs) : KS b base U :=
  ⟨(vk_S.moved hW.alike h.1).kept hS.2.1, fun t ht => vk_R.warm hW (h.2.1 t ht), (va_Z.moved hW.alike h.2.2.1).kept hS.2.1, (va_Z.moved hW.alike h.2.2.2).kept hS.2.1⟩
theorem KS_call {b : Nat → Nat} {base : Nat} {U : State} {g : JFrame} {mk : MethodId} {a : Array Value} (h : KS b base U) : KS b base (U.calling g mk a) :=
  ⟨vk_S.moved (u := U) (U := U.calling g mk a) (Vm.Alike.refl U.vm) h.1, fun t ht => vk_R.same (u := U) (U := U.calling g mk a) rfl (h.2.1 t ht), va_Z.moved (u := U) (U := U.calling g mk a) (Vm.Alike.refl U.vm) h.2.2.1, va_Z.moved (u := U) (U := U.calling g mk a) (Vm.Alike.refl U.vm) h.2.2.2⟩
def SC (scr : AS) (b : Nat → Nat) (base : Nat) (s : State) : Prop := (∀ q, scr = some q → va_X (b 0) q.1 q.2 s s.heap ∧ b 0 < s.heap.size ∧ b 0 < base) ∧ KS b base s
set_option maxHeartbeats 4000000 in
set_option maxRecDepth 100000 in
theorem stpP_ok {MT : Nat → Option MR} {p : Program} {l : Launch} {e : Env} {R : Room} {s : State} {m : MethodId} {args : Array Value} {below : List Frame} {meth : Method} {c : Code} {H : Heap} {locs : List Loc} {cells slots : Nat} {Q : State → Prop} {F : MR} {scr : AS} {i : Instr} {len tgt pc pc' : Nat} {lv lv' : ALv} {st st' : List Value} {h : AH} {D : va_G} {tyc : Nat → ClassId} {b : Nat → Nat} {base : Nat} {ls : Array Slot}
    (hF : FOK MT F) (C : Ctx p s m args meth c F) (hK : va_K D vwCl (TYS tyc) s) (hW : Wd D tyc b base h H) (hS : va_S (fun q => base ≤ q) s.heap H locs) (hl : lv_has ls (mml F) (gL b base lv)) (hsc : SC scr b base s)
    (hf : fc F pc = some (i, len, tgt)) (hst : stpP F scr i tgt pc lv st h = some (pc', lv', st'))
    (k : ∀ ls', lv_has ls' (mml F) (gL b base lv') → W p l e R s m args below meth c H locs cells slots Q (F0 m pc' ls' (st'.map (gV b base)))) :
    W p l e R s m args below meth c H locs cells slots Q (F0 m pc ls (st.map (gV b base))) := by
  obtain ⟨hx, hb, hr, hml, hown, hlocks, hts, hin0, hal⟩ := C
  obtain ⟨hD, hlen, hoff⟩ := hF.1 _ (fc_mem hf)
  dsimp only at hD hlen hoff
  have hd : ∀ n, ilen i = n → n ≠ 0 → decode (mcc F) pc = .ok (i, n) := by
    intro n h1 h2
    rcases hlen with h3 | h3
    · omega
    · rw [← h1, h3]; exact hD
  cases i with
  | iconst n =>
    change some (_, _, _) = some _ at hst
    have h2 := hst
    simp only [Option.some.injEq, Prod.mk.injEq] at h2
    obtain ⟨rfl, rfl, rfl⟩ := h2
    exact lv_iconst hx hb (hd 1 rfl (by decide)) rfl (k ls hl)
  | bipush n =>
    change some (_, _, _) = some _ at hst
    have h2 := hst
    simp only [Option.some.injEq, Prod.mk.injEq] at h2
    obtain ⟨rfl, rfl, rfl⟩ := h2
    exact lv_bipush hx hb (hd 2 rfl (by decide)) rfl (k ls hl)
  | sipush n =>
    change some (_, _, _) = some _ at hst
    have h2 := hst
    simp only [Option.some.injEq, Prod.mk.injEq] at h2
    obtain ⟨rfl, rfl, rfl⟩ := h2
    exact lv_sipush hx hb (hd 3 rfl (by decide)) rfl (k ls hl)
  | lconst n =>
    change some (_, _, _) = some _ at hst
    have h2 := hst
    simp only [Option.some.injEq, Prod.mk.injEq] at h2
    obtain ⟨rfl, rfl, rfl⟩ := h2
    exact lv_lconst hx hb (hd 1 rfl (by decide)) rfl (k ls hl)
  | iload_n z =>
    change oB _ _ = some _ at hst
    obtain ⟨v, hv, h2⟩ := oB_inv hst
    obtain ⟨x, rfl, hx2⟩ := ldI_inv hv
    simp only [Option.some.injEq, Prod.mk.injEq] at h2
    obtain ⟨rfl, rfl, rfl⟩ := h2
    exact lv_iload_n hx hb (hd 1 rfl (by decide)) rfl (lvA hl hx2) (k ls hl)
  | iload z =>
    change oB _ _ = some _ at hst
    obtain ⟨v, hv, h2⟩ := oB_inv hst
    obtain ⟨x, rfl, hx2⟩ := ldI_inv hv
    simp only [Option.some.injEq, Prod.mk.injEq] at h2
    obtain ⟨rfl, rfl, rfl⟩ := h2
    exact lv_iload hx hb (hd 2 rfl (by decide)) (lvA hl hx2) (k ls hl)
  | lload_n z =>
    change oB _ _ = some _ at hst
    obtain ⟨v, hv, h2⟩ := oB_inv hst
    obtain ⟨x, rfl, hx2⟩ := ldL_inv hv
    simp only [Option.some.injEq, Prod.mk.injEq] at h2
    obtain ⟨rfl, rfl, rfl⟩ := h2
    exact lv_lload_n hx hb (hd 1 rfl (by decide)) rfl (lvA hl hx2) (k ls hl)
  | lload z =>
    change oB _ _ = some _ at hst
    obtain ⟨v, hv, h2⟩ := oB_inv hst
    obtain ⟨x, rfl, hx2⟩ := ldL_inv hv
    simp only [Option.some.injEq, Prod.mk.injEq] at h2
    obtain ⟨rfl, rfl, rfl⟩ := h2
    exact lv_lload hx hb (hd 2 rfl (by decide)) (lvA hl hx2) (k ls hl)
  | aload_n z =>
    change oB _ _ = some _ at hst
    obtain ⟨v, hv, h2⟩ := oB_inv hst
    obtain ⟨hv3, hx2⟩ := ldA_inv hv
    simp only [Option.some.injEq, Prod.mk.injEq] at h2
    obtain ⟨rfl, rfl, rfl⟩ := h2
    rcases hv3 with rfl | ⟨x, rfl⟩ | ⟨x, rfl⟩
    · exact lv_aload_nN hx hb (hd 1 rfl (by decide)) rfl (lvA hl hx2) (k ls hl)
    · exact lv_aload_n hx hb (hd 1 rfl (by decide)) rfl (lvA hl hx2) (k ls hl)
    · exact lv_aload_n hx hb (hd 1 rfl (by decide)) rfl (lvA hl hx2) (k ls hl)
  | aload z =>
    change oB _ _ = some _ at hst
    obtain ⟨v, hv, h2⟩ := oB_inv hst
    obtain ⟨hv3, hx2⟩ := ldA_inv hv
    simp only [Option.some.injEq, Prod.mk.injEq] at h2
    obtain ⟨rfl, rfl, rfl⟩ := h2
    rcases hv3 with rfl | ⟨x, rfl⟩ | ⟨x, rfl⟩
    · exact lv_aloadN hx hb (hd 2 rfl (by decide)) (lvA hl hx2) (k ls hl)
    · exact lv_aload hx hb (hd 2 rfl (by decide)) (lvA hl hx2) (k ls hl)
    · exact lv_aload hx hb (hd 2 rfl (by decide)) (lvA hl hx2) (k ls hl)
  | istore_n z =>
    change sI _ _ = some _ at hst
    obtain ⟨x, r, rfl, h1⟩ := sI_inv hst
    obtain ⟨h3, h2⟩ := oC_inv h1
    simp only [Option.some.injEq, Prod.mk.injEq] at h2
    obtain ⟨rfl, rfl, rfl⟩ := h2
    exact lv_istore_n hx hb (hd 1 rfl (by decide)) rfl hl (of_decide_eq_true h3) (gL_set1 b base lv _ (.int x)) (fun ls2 hl2 => k ls2 hl2)
  | istore z =>
    change sI _ _ = some _ at hst
    obtain ⟨x, r, rfl, h1⟩ := sI_inv hst
    obtain ⟨h3, h2⟩ := oC_inv h1
    simp only [Option.some.injEq, Prod.mk.injEq] at h2
    obtain ⟨rfl, rfl, rfl⟩ := h2
    exact lv_istore hx hb (hd 2 rfl (by decide)) hl (of_decide_eq_true h3) (gL_set1 b base lv _ (.int x)) (fun ls2 hl2 => k ls2 hl2)
  | lstore_n z =>
    change sL _ _ = some _ at hst
    obtain ⟨x, r, rfl, h1⟩ := sL_inv hst
    obtain ⟨h3, h2⟩ := oC_inv h1
    simp only [Option.some.injEq, Prod.mk.injEq] at h2
    obtain ⟨rfl, rfl, rfl⟩ := h2
    exact lv_lstore_n hx hb (hd 1 rfl (by decide)) rfl hl (of_decide_eq_true h3) (gL_set2 b base lv _ (.long x)) (fun ls2 hl2 => k ls2 hl2)
  | lstore z =>
    change sL _ _ = some _ at hst
    obtain ⟨x, r, rfl, h1⟩ := sL_inv hst
    obtain ⟨h3, h2⟩ := oC_inv h1
    simp only [Option.some.injEq, Prod.mk.injEq] at h2
    obtain ⟨rfl, rfl, rfl⟩ := h2
    exact lv_lstore hx hb (hd 2 rfl (by decide)) hl (of_decide_eq_true h3) (gL_set2 b base lv _ (.long x)) (fun ls2 hl2 => k ls2 hl2)
  | astore_n z =>
    change sR _ _ = some _ at hst
    obtain ⟨x, r, rfl, h1⟩ := sR_inv hst
    obtain ⟨h3, h2⟩ := oC_inv h1
    simp only [Option.some.injEq, Prod.mk.injEq] at h2
    obtain ⟨rfl, rfl, rfl⟩ := h2
    exact lv_astore_n hx hb (hd 1 rfl (by decide)) rfl hl (of_decide_eq_true h3) (gL_set1 b base lv _ (.ref x)) (fun ls2 hl2 => k ls2 hl2)
  | astore z =>
    change sR _ _ = some _ at hst
    obtain ⟨x, r, rfl, h1⟩ := sR_inv hst
    obtain ⟨h3, h2⟩ := oC_inv h1
    simp only [Option.some.injEq, Prod.mk.injEq] at h2
    obtain ⟨rfl, rfl, rfl⟩ := h2
    exact lv_astore hx hb (hd 2 rfl (by decide)) hl (of_decide_eq_true h3) (gL_set1 b base lv _ (.ref x)) (fun ls2 hl2 => k ls2 hl2)
  | iinc z n =>
    change oB _ _ = some _ at hst
    obtain ⟨v, hv, h1⟩ := oB_inv hst
    obtain ⟨x, rfl, hx2⟩ := ldI_inv hv
    obtain ⟨h3, h2⟩ := oC_inv h1
    simp only [Option.some.injEq, Prod.mk.injEq] at h2
    obtain ⟨rfl, rfl, rfl⟩ := h2
    obtain ⟨j, hj⟩ := List.getElem?_of_mem (List.mem_map.mpr ⟨(z, .int x), fnd_mem hx2, rfl⟩ : (z, gV b base (.int x)) ∈ gL b base lv)
    exact lv_iinc hx hb (hd 3 rfl (by decide)) hl hj rfl (of_decide_eq_true h3) (gL_set1 b base lv _ (.int (x + Int32.ofInt n))) (fun ls2 hl2 => k ls2 hl2)
  | iadd =>
    change sII _ _ = some _ at hst
    obtain ⟨x, y, r, rfl, h1⟩ := sII_inv hst
    have h2 := h1
    simp only [Option.some.injEq, Prod.mk.injEq] at h2
    obtain ⟨rfl, rfl, rfl⟩ := h2
    exact lv_iadd hx hb (hd 1 rfl (by decide)) (k ls hl)
  | isub =>
    change sII _ _ = some _ at hst
    obtain ⟨x, y, r, rfl, h1⟩ := sII_inv hst
    have h2 := h1
    simp only [Option.some.injEq, Prod.mk.injEq] at h2
    obtain ⟨rfl, rfl, rfl⟩ := h2
    exact lv_isub hx hb (hd 1 rfl (by decide)) (k ls hl)
  | imul =>
    change sII _ _ = some _ at hst
    obtain ⟨x, y, r, rfl, h1⟩ := sII_inv hst
    have h2 := h1
    simp only [Option.some.injEq, Prod.mk.injEq] at h2
    obtain ⟨rfl, rfl, rfl⟩ := h2
    exact lv_imul hx hb (hd 1 rfl (by decide)) (k ls hl)
  | iand =>
    change sII _ _ = some _ at hst
    obtain ⟨x, y, r, rfl, h1⟩ := sII_inv hst
    have h2 := h1
    simp only [Option.some.injEq, Prod.mk.injEq] at h2
    obtain ⟨rfl, rfl, rfl⟩ := h2
    exact lv_iand hx hb (hd 1 rfl (by decide)) (k ls hl)
  | ior =>
    change sII _ _ = some _ at hst
    obtain ⟨x, y, r, rfl, h1⟩ := sII_inv hst
    have h2 := h1
    simp only [Option.some.injEq, Prod.mk.injEq] at h2
    obtain ⟨rfl, rfl, rfl⟩ := h2
    exact lv_ior hx hb (hd 1 rfl (by decide)) (k ls hl)
  | ixor =>
    change sII _ _ = some _ at hst
    obtain ⟨x, y, r, rfl, h1⟩ := sII_inv hst
    have h2 := h1
    simp only [Option.some.injEq, Prod.mk.injEq] at h2
    obtain ⟨rfl, rfl, rfl⟩ := h2
    exact lv_ixor hx hb (hd 1 rfl (by decide)) (k ls hl)
  | ishl =>
    change sII _ _ = some _ at hst
    obtain ⟨x, y, r, rfl, h1⟩ := sII_inv hst
    have h2 := h1
    simp only [Option.some.injEq, Prod.mk.injEq] at h2
    obtain ⟨rfl, rfl, rfl⟩ := h2
    exact lv_ishl hx hb (hd 1 rfl (by decide)) (k ls hl)
  | ishr =>
    change sII _ _ = some _ at hst
    obtain ⟨x, y, r, rfl, h1⟩ := sII_inv hst
    have h2 := h1
    simp only [Option.some.injEq, Prod.mk.injEq] at h2
    obtain ⟨rfl, rfl, rfl⟩ := h2
    exact lv_ishr hx hb (hd 1 rfl (by decide)) (k ls hl)
  | iushr =>
    change sII _ _ = some _ at hst
    obtain ⟨x, y, r, rfl, h1⟩ := sII_inv hst
    have h2 := h1
    simp only [Option.some.injEq, Prod.mk.injEq] at h2
    obtain ⟨rfl, rfl, rfl⟩ := h2
    exact lv_iushr hx hb (hd 1 rfl (by decide)) rfl (k ls hl)
  | idiv =>
    change sII _ _ = some _ at hst
    obtain ⟨x, y, r, rfl, h1⟩ := sII_inv hst
    obtain ⟨h3, h2⟩ := oC_inv h1
    simp only [Option.some.injEq, Prod.mk.injEq] at h2
    obtain ⟨rfl, rfl, rfl⟩ := h2
    exact lv_idiv hx hb (hd 1 rfl (by decide)) (of_decide_eq_true h3) (k ls hl)
  | irem =>
    change sII _ _ = some _ at hst
    obtain ⟨x, y, r, rfl, h1⟩ := sII_inv hst
    obtain ⟨h3, h2⟩ := oC_inv h1
    simp only [Option.some.injEq, Prod.mk.injEq] at h2
    obtain ⟨rfl, rfl, rfl⟩ := h2
    exact lv_irem hx hb (hd 1 rfl (by decide)) (of_decide_eq_true h3) (k ls hl)
  | ladd =>
    change sLL _ _ = some _ at hst
    obtain ⟨x, y, r, rfl, h1⟩ := sLL_inv hst
    have h2 := h1
    simp only [Option.some.injEq, Prod.mk.injEq] at h2
    obtain ⟨rfl, rfl, rfl⟩ := h2
    exact lv_ladd hx hb (hd 1 rfl (by decide)) (k ls hl)
  | lsub =>
    change sLL _ _ = some _ at hst
    obtain ⟨x, y, r, rfl, h1⟩ := sLL_inv hst
    have h2 := h1
    simp only [Option.some.injEq, Prod.mk.injEq] at h2
    obtain ⟨rfl, rfl, rfl⟩ := h2
    exact lv_lsub hx hb (hd 1 rfl (by decide)) (k ls hl)
  | lmul =>
    change sLL _ _ = some _ at hst
    obtain ⟨x, y, r, rfl, h1⟩ := sLL_inv hst
    have h2 := h1
    simp only [Option.some.injEq, Prod.mk.injEq] at h2
    obtain ⟨rfl, rfl, rfl⟩ := h2
    exact lv_lmul hx hb (hd 1 rfl (by decide)) (k ls hl)
  | land =>
    change sLL _ _ = some _ at hst
    obtain ⟨x, y, r, rfl, h1⟩ := sLL_inv hst
    have h2 := h1
    simp only [Option.some.injEq, Prod.mk.injEq] at h2
    obtain ⟨rfl, rfl, rfl⟩ := h2
    exact lv_land hx hb (hd 1 rfl (by decide)) (k ls hl)
  | lor =>
    change sLL _ _ = some _ at hst
    obtain ⟨x, y, r, rfl, h1⟩ := sLL_inv hst
    have h2 := h1
    simp only [Option.some.injEq, Prod.mk.injEq] at h2
    obtain ⟨rfl, rfl, rfl⟩ := h2
    exact lv_lor hx hb (hd 1 rfl (by decide)) (k ls hl)
  | lxor =>
    change sLL _ _ = some _ at hst
    obtain ⟨x, y, r, rfl, h1⟩ := sLL_inv hst
    have h2 := h1
    simp only [Option.some.injEq, Prod.mk.injEq] at h2
    obtain ⟨rfl, rfl, rfl⟩ := h2
    exact lv_lxor hx hb (hd 1 rfl (by decide)) (k ls hl)
  | ldiv =>
    change sLL _ _ = some _ at hst
    obtain ⟨x, y, r, rfl, h1⟩ := sLL_inv hst
    obtain ⟨h3, h2⟩ := oC_inv h1
    simp only [Option.some.injEq, Prod.mk.injEq] at h2
    obtain ⟨rfl, rfl, rfl⟩ := h2
    exact lv_ldiv hx hb (hd 1 rfl (by decide)) (of_decide_eq_true h3) (k ls hl)
  | lrem =>
    change sLL _ _ = some _ at hst
    obtain ⟨x, y, r, rfl, h1⟩ := sLL_inv hst
    obtain ⟨h3, h2⟩ := oC_inv h1
    simp only [Option.some.injEq, Prod.mk.injEq] at h2
    obtain ⟨rfl, rfl, rfl⟩ := h2
    exact lv_lrem hx hb (hd 1 rfl (by decide)) (of_decide_eq_true h3) (k ls hl)
  | lshl =>
    change sLI _ _ = some _ at hst
    obtain ⟨x, y, r, rfl, h1⟩ := sLI_inv hst
    have h2 := h1
    simp only [Option.some.injEq, Prod.mk.injEq] at h2
    obtain ⟨rfl, rfl, rfl⟩ := h2
    exact lv_lshl hx hb (hd 1 rfl (by decide)) rfl (k ls hl)
  | lshr =>
    change sLI _ _ = some _ at hst
    obtain ⟨x, y, r, rfl, h1⟩ := sLI_inv hst
    have h2 := h1
    simp only [Option.some.injEq, Prod.mk.injEq] at h2
    obtain ⟨rfl, rfl, rfl⟩ := h2
    exact lv_lshr hx hb (hd 1 rfl (by decide)) rfl (k ls hl)
  | ineg =>
    change sI _ _ = some _ at hst
    obtain ⟨x, r, rfl, h2⟩ := sI_inv hst
    simp only [Option.some.injEq, Prod.mk.injEq] at h2
    obtain ⟨rfl, rfl, rfl⟩ := h2
    exact lv_ineg hx hb (hd 1 rfl (by decide)) (k ls hl)
  | i2l =>
    change sI _ _ = some _ at hst
    obtain ⟨x, r, rfl, h2⟩ := sI_inv hst
    simp only [Option.some.injEq, Prod.mk.injEq] at h2
    obtain ⟨rfl, rfl, rfl⟩ := h2
    exact lv_i2l hx hb (hd 1 rfl (by decide)) rfl (k ls hl)
  | l2i =>
    change sL _ _ = some _ at hst
    obtain ⟨x, r, rfl, h2⟩ := sL_inv hst
    simp only [Option.some.injEq, Prod.mk.injEq] at h2
    obtain ⟨rfl, rfl, rfl⟩ := h2
    exact lv_l2i hx hb (hd 1 rfl (by decide)) rfl (k ls hl)
  | i2b =>
    change sI _ _ = some _ at hst
    obtain ⟨x, r, rfl, h2⟩ := sI_inv hst
    simp only [Option.some.injEq, Prod.mk.injEq] at h2
    obtain ⟨rfl, rfl, rfl⟩ := h2
    exact lv_i2b hx hb (hd 1 rfl (by decide)) rfl (k ls hl)
  | lcmp =>
    change sLL _ _ = some _ at hst
    obtain ⟨x, y, r, rfl, h2⟩ := sLL_inv hst
    simp only [Option.some.injEq, Prod.mk.injEq] at h2
    obtain ⟨rfl, rfl, rfl⟩ := h2
    exact W.lcmp hx hb (hd 1 rfl (by decide)) (k ls hl)
  | dup =>
    change sV _ _ = some _ at hst
    obtain ⟨v, r, rfl, h1⟩ := sV_inv hst
    obtain ⟨h3, h2⟩ := oC_inv h1
    simp only [Option.some.injEq, Prod.mk.injEq] at h2
    obtain ⟨rfl, rfl, rfl⟩ := h2
    exact lv_dup hx hb (hd 1 rfl (by decide)) ((gV_cat b base v).trans (eq_of_beq h3)) (k ls hl)
  | dup2 =>
    change sVV _ _ = some _ at hst
    obtain ⟨v, u, r, rfl, h1⟩ := sVV_inv hst
    obtain ⟨h3, h2⟩ := oC_inv h1
    simp only [Option.some.injEq, Prod.mk.injEq] at h2
    obtain ⟨rfl, rfl, rfl⟩ := h2
    rw [Bool.and_eq_true] at h3
    exact lv_dup2_11 hx hb (hd 1 rfl (by decide)) ((gV_cat b base v).trans (eq_of_beq h3.1)) ((gV_cat b base u).trans (eq_of_beq h3.2)) (k ls hl)
  | pop =>
    change sV _ _ = some _ at hst
    obtain ⟨v, r, rfl, h1⟩ := sV_inv hst
    obtain ⟨h3, h2⟩ := oC_inv h1
    simp only [Option.some.injEq, Prod.mk.injEq] at h2
    obtain ⟨rfl, rfl, rfl⟩ := h2
    exact lv_pop hx hb (hd 1 rfl (by decide)) ((gV_cat b base v).trans (eq_of_beq h3)) (k ls hl)
  | goto off =>
    change some (_, _, _) = some _ at hst
    have h2 := hst
    simp only [Option.some.injEq, Prod.mk.injEq] at h2
    obtain ⟨rfl, rfl, rfl⟩ := h2
    exact lv_goto hx hb (hd 3 rfl (by decide)) (hoff _ rfl) (k ls hl)
  | if_icmp cd off =>
    cases cd with
    | eq =>
      change sII _ _ = some _ at hst
      obtain ⟨x, y, r, rfl, h2⟩ := sII_inv hst
      rcases jmp_inv h2 with ⟨ht, hz⟩ | ⟨ht, hz⟩
      · cases hz; exact lv_icmp_eq hx hb (hd 3 rfl (by decide)) (hoff _ rfl) (fun _ => k ls hl) (fun z => absurd (of_decide_eq_true ht) z)
      · cases hz; exact lv_icmp_eq hx hb (hd 3 rfl (by decide)) (hoff _ rfl) (fun z => absurd z (of_decide_eq_false ht)) (fun _ => k ls hl)
    | ne =>
      change sII _ _ = some _ at hst
      obtain ⟨x, y, r, rfl, h2⟩ := sII_inv hst
      rcases jmp_inv h2 with ⟨ht, hz⟩ | ⟨ht, hz⟩
      · cases hz; exact lv_icmp_ne hx hb (hd 3 rfl (by decide)) (hoff _ rfl) (fun _ => k ls hl) (fun z => absurd z (of_decide_eq_true ht))
      · cases hz; exact lv_icmp_ne hx hb (hd 3 rfl (by decide)) (hoff _ rfl) (fun z => absurd z (of_decide_eq_false ht)) (fun _ => k ls hl)
    | lt =>
      change sII _ _ = some _ at hst
      obtain ⟨x, y, r, rfl, h2⟩ := sII_inv hst
      rcases jmp_inv h2 with ⟨ht, hz⟩ | ⟨ht, hz⟩
      · cases hz; exact lv_icmp_lt hx hb (hd 3 rfl (by decide)) (hoff _ rfl) (fun _ => k ls hl) (fun z => absurd (of_decide_eq_true ht) z)
      · cases hz; exact lv_icmp_lt hx hb (hd 3 rfl (by decide)) (hoff _ rfl) (fun z => absurd z (of_decide_eq_false ht)) (fun _ => k ls hl)
    | ge =>
      change sII _ _ = some _ at hst
      obtain ⟨x, y, r, rfl, h2⟩ := sII_inv hst
      rcases jmp_inv h2 with ⟨ht, hz⟩ | ⟨ht, hz⟩
      · cases hz; exact lv_icmp_ge hx hb (hd 3 rfl (by decide)) (hoff _ rfl) (fun _ => k ls hl) (fun z => absurd (of_decide_eq_true ht) z)
      · cases hz; exact lv_icmp_ge hx hb (hd 3 rfl (by decide)) (hoff _ rfl) (fun z => absurd z (of_decide_eq_false ht)) (fun _ => k ls hl)
    | gt =>
      change sII _ _ = some _ at hst
      obtain ⟨x, y, r, rfl, h2⟩ := sII_inv hst
      rcases jmp_inv h2 with ⟨ht, hz⟩ | ⟨ht, hz⟩
      · cases hz; exact lv_icmp_gt hx hb (hd 3 rfl (by decide)) (hoff _ rfl) (fun _ => k ls hl) (fun z => absurd (of_decide_eq_true ht) z)
      · cases hz; exact lv_icmp_gt hx hb (hd 3 rfl (by decide)) (hoff _ rfl) (fun z => absurd z (of_decide_eq_false ht)) (fun _ => k ls hl)
    | le =>
      change sII _ _ = some _ at hst
      obtain ⟨x, y, r, rfl, h2⟩ := sII_inv hst
      rcases jmp_inv h2 with ⟨ht, hz⟩ | ⟨ht, hz⟩
      · cases hz; exact lv_icmp_le hx hb (hd 3 rfl (by decide)) (hoff _ rfl) (fun _ => k ls hl) (fun z => absurd (of_decide_eq_true ht) z)
      · cases hz; exact lv_icmp_le hx hb (hd 3 rfl (by decide)) (hoff _ rfl) (fun z => absurd z (of_decide_eq_false ht)) (fun _ => k ls hl)
  | ifCond cd off =>
    cases cd with
    | eq =>
      change sI _ _ = some _ at hst
      obtain ⟨x, r, rfl, h2⟩ := sI_inv hst
      rcases jmp_inv h2 with ⟨ht, hz⟩ | ⟨ht, hz⟩
      · cases hz; exact lv_if_eq hx hb (hd 3 rfl (by decide)) (hoff _ rfl) (fun _ => k ls hl) (fun z => absurd (of_decide_eq_true ht) z)
      · cases hz; exact lv_if_eq hx hb (hd 3 rfl (by decide)) (hoff _ rfl) (fun z => absurd z (of_decide_eq_false ht)) (fun _ => k ls hl)
    | ne =>
      change sI _ _ = some _ at hst
      obtain ⟨x, r, rfl, h2⟩ := sI_inv hst
      rcases jmp_inv h2 with ⟨ht, hz⟩ | ⟨ht, hz⟩
      · cases hz; exact lv_if_ne hx hb (hd 3 rfl (by decide)) (hoff _ rfl) (fun _ => k ls hl) (fun z => absurd z (of_decide_eq_true ht))
      · cases hz; exact lv_if_ne hx hb (hd 3 rfl (by decide)) (hoff _ rfl) (fun z => absurd z (of_decide_eq_false ht)) (fun _ => k ls hl)
    | lt =>
      change sI _ _ = some _ at hst
      obtain ⟨x, r, rfl, h2⟩ := sI_inv hst
      rcases jmp_inv h2 with ⟨ht, hz⟩ | ⟨ht, hz⟩
      · cases hz; exact lv_if_lt hx hb (hd 3 rfl (by decide)) (hoff _ rfl) (fun _ => k ls hl) (fun z => absurd (of_decide_eq_true ht) z)
      · cases hz; exact lv_if_lt hx hb (hd 3 rfl (by decide)) (hoff _ rfl) (fun z => absurd z (of_decide_eq_false ht)) (fun _ => k ls hl)
    | ge =>
      change sI _ _ = some _ at hst
      obtain ⟨x, r, rfl, h2⟩ := sI_inv hst
      rcases jmp_inv h2 with ⟨ht, hz⟩ | ⟨ht, hz⟩
      · cases hz; exact lv_if_ge hx hb (hd 3 rfl (by decide)) (hoff _ rfl) (fun _ => k ls hl) (fun z => absurd (of_decide_eq_true ht) z)
      · cases hz; exact lv_if_ge hx hb (hd 3 rfl (by decide)) (hoff _ rfl) (fun z => absurd z (of_decide_eq_false ht)) (fun _ => k ls hl)
    | gt =>
      change sI _ _ = some _ at hst
      obtain ⟨x, r, rfl, h2⟩ := sI_inv hst
      rcases jmp_inv h2 with ⟨ht, hz⟩ | ⟨ht, hz⟩
      · cases hz; exact lv_if_gt hx hb (hd 3 rfl (by decide)) (hoff _ rfl) (fun _ => k ls hl) (fun z => absurd (of_decide_eq_true ht) z)
      · cases hz; exact lv_if_gt hx hb (hd 3 rfl (by decide)) (hoff _ rfl) (fun z => absurd z (of_decide_eq_false ht)) (fun _ => k ls hl)
    | le =>
      change sI _ _ = some _ at hst
      obtain ⟨x, r, rfl, h2⟩ := sI_inv hst
      rcases jmp_inv h2 with ⟨ht, hz⟩ | ⟨ht, hz⟩
      · cases hz; exact lv_if_le hx hb (hd 3 rfl (by decide)) (hoff _ rfl) (fun _ => k ls hl) (fun z => absurd (of_decide_eq_true ht) z)
      · cases hz; exact lv_if_le hx hb (hd 3 rfl (by decide)) (hoff _ rfl) (fun z => absurd z (of_decide_eq_false ht)) (fun _ => k ls hl)
  | tableswitch dflt lo hi offs =>
    change sI _ _ = some _ at hst
    obtain ⟨x, r, rfl, h1⟩ := sI_inv hst
    obtain ⟨t, ht, h2⟩ := oB_inv h1
    simp only [Option.some.injEq, Prod.mk.injEq] at h2
    obtain ⟨rfl, rfl, rfl⟩ := h2
    unfold tsw at ht
    split at ht
    · rename_i hz
      obtain ⟨h3, h4⟩ := oC_inv ht
      cases h4
      exact lv_tableOut hx hb hD hz (Int.toNat_of_nonneg (of_decide_eq_true h3)).symm (k ls hl)
    · rename_i hz
      obtain ⟨o, ho, h5⟩ := oB_inv ht
      obtain ⟨h3, h4⟩ := oC_inv h5
      cases h4
      exact lv_tableIn hx hb hD (fun z => hz (Or.inl z)) (fun z => hz (Or.inr z)) ho (Int.toNat_of_nonneg (of_decide_eq_true h3)).symm (k ls hl)
  | lookupswitch dflt ps =>
    change sI _ _ = some _ at hst
    obtain ⟨x, r, rfl, h1⟩ := sI_inv hst
    obtain ⟨h3, h2⟩ := oC_inv h1
    simp only [Option.some.injEq, Prod.mk.injEq] at h2
    obtain ⟨rfl, rfl, rfl⟩ := h2
    rw [Bool.and_eq_true] at h3
    exact lv_lookup hx hb hD h3.1 rfl (Int.toNat_of_nonneg (of_decide_eq_true h3.2)).symm (k ls hl)
  | ldc z =>
    change oB _ _ = some _ at hst
    obtain ⟨q, hq, h2⟩ := oB_inv hst
    simp only [Option.some.injEq, Prod.mk.injEq] at h2
    obtain ⟨rfl, rfl, rfl⟩ := h2
    exact lv_ldc hx hb hown (hts _ (hF.2.2.2.1 _ (fnd_mem hq))) (hd 2 rfl (by decide)) (k ls hl)
  | ldc_w z =>
    change oB _ _ = some _ at hst
    obtain ⟨q, hq, h2⟩ := oB_inv hst
    simp only [Option.some.injEq, Prod.mk.injEq] at h2
    obtain ⟨rfl, rfl, rfl⟩ := h2
    exact lv_ldcw hx hb hown (hts _ (hF.2.2.2.1 _ (fnd_mem hq))) (hd 3 rfl (by decide)) (k ls hl)
  | ldc2_w z =>
    change oB _ _ = some _ at hst
    obtain ⟨q, hq, h2⟩ := oB_inv hst
    simp only [Option.some.injEq, Prod.mk.injEq] at h2
    obtain ⟨rfl, rfl, rfl⟩ := h2
    exact lv_ldc2 hx hb hown (hts _ (hF.2.2.2.2.1 _ (fnd_mem hq))) (hd 3 rfl (by decide)) (k ls hl)
  | getfield z =>
    change sR _ _ = some _ at hst
    obtain ⟨a, r, rfl, h1⟩ := sR_inv hst
    obtain ⟨e0, he0, h4⟩ := oB_inv h1
    obtain ⟨cc, hc, h5⟩ := oB_inv h4
    obtain ⟨h3, h6⟩ := oC_inv h5
    obtain ⟨v, hv, h2⟩ := oB_inv h6
    simp only [Option.some.injEq, Prod.mk.injEq] at h2
    obtain ⟨rfl, rfl, rfl⟩ := h2
    simp only [Bool.and_eq_true, beq_iff_eq] at h3
    obtain ⟨⟨C0, T0, N0⟩, hr0, hk0, hw0, -, -⟩ := hF.2.1 _ (fnd_mem he0)
    dsimp only at hr0 hk0 hw0
    have he := gW_at (b := b) (base := base) (tyc := tyc) hc
    rw [gE_o h3.1, h3.2] at he
    have hv2 : (cc.2.2.map (gV b base))[e0.2.1]? = some (gV b base v) := by rw [List.getElem?_map, hv]; rfl
    unfold fldW at hw0
    split at hw0
    · exact va_getN hx hb hts (CLS_in hr0) hown hK hW.2 a he hr0 e0.2.1 hk0 (hal _ hw0) (fun _ h9 => h9) hv2 (hd 3 rfl (by decide)) (k ls hl)
    · exact va_get hx hb hts (CLS_in hr0) hown hK hW.2 a he hr0 e0.2.1 hk0 (hal _ hw0) (fun _ h9 => h9) hv2 (hd 3 rfl (by decide)) (k ls hl)
  | iaload =>
    change oB _ _ = some _ at hst
    obtain ⟨⟨v, r⟩, hq, h1⟩ := oB_inv hst
    obtain ⟨h3, h2⟩ := oC_inv h1
    simp only [Option.some.injEq, Prod.mk.injEq] at h2
    obtain ⟨rfl, rfl, rfl⟩ := h2
    obtain ⟨x, hxv⟩ := isI_inv h3
    dsimp only at hxv
    subst hxv
    rcases ldR_inv hq with ⟨a, j, cc, hs, hc, hk1, hk2, hj, hv⟩ | ⟨a, j, q, hs, hsq, hj, hv⟩
    · dsimp only at hs hv
      subst hs
      have he := gW_at (b := b) (base := base) (tyc := tyc) hc
      rw [gE_i hk1] at he
      have e9 : asI (cc.2.2.getD j.toNatClampNeg .null) = x := by rw [List.getD_eq_getElem?_getD, hv]; rfl
      have hin : vp_in j cc.2.2.length := by
        have h8 := (List.getElem?_eq_some_iff.mp hv).1
        exact fun z => z.elim hj (fun z => by omega)
      have hk3 : cc.2.1 = 0 := by rcases hk2 with z | z <;> exact z
      rw [hk3] at he
      exact va_iald hx hb hK hW.2 a 0 he rfl hin (hd 1 rfl (by decide)) (W.eq (by show F0 m (pc + 1) ls (.int (asI (cc.2.2.getD j.toNatClampNeg .null)) :: _) = _; rw [e9]; rfl) (k ls hl))
    · dsimp only at hs hv
      subst hs
      cases hv
      obtain ⟨hX, hbl, hbb⟩ := hsc.1 q hsq
      exact va_sld hx hb hX hbl (Nat.not_le.mpr hbb) hS hj (hd 1 rfl (by decide)) (k ls hl)
  | baload =>
    change oB _ _ = some _ at hst
    obtain ⟨⟨v, r⟩, hq, h1⟩ := oB_inv hst
    obtain ⟨h3, h2⟩ := oC_inv h1
    simp only [Option.some.injEq, Prod.mk.injEq] at h2
    obtain ⟨rfl, rfl, rfl⟩ := h2
    obtain ⟨x, hxv⟩ := isI_inv h3
    dsimp only at hxv
    subst hxv
    rcases ldR_inv hq with ⟨a, j, cc, hs, hc, hk1, hk2, hj, hv⟩ | ⟨a, j, q, hs, hsq, hj, hv⟩
    · dsimp only at hs hv
      subst hs
      have he := gW_at (b := b) (base := base) (tyc := tyc) hc
      rw [gE_i hk1] at he
      have e9 : asI (cc.2.2.getD j.toNatClampNeg .null) = x := by rw [List.getD_eq_getElem?_getD, hv]; rfl
      have hin : vp_in j cc.2.2.length := by
        have h8 := (List.getElem?_eq_some_iff.mp hv).1
        exact fun z => z.elim hj (fun z => by omega)
      rcases hk2 with hk3 | hk3
      · rw [hk3] at he
        exact va_bald hx hb hK hW.2 a 2 he rfl hin (hd 1 rfl (by decide)) (W.eq (by show F0 m (pc + 1) ls (.int (asI (cc.2.2.getD j.toNatClampNeg .null)) :: _) = _; rw [e9]; rfl) (k ls hl))
      · rw [hk3] at he
        exact va_zald hx hb hK hW.2 a 3 he rfl hin (hd 1 rfl (by decide)) (W.eq (by show F0 m (pc + 1) ls (.int (asI (cc.2.2.getD j.toNatClampNeg .null)) :: _) = _; rw [e9]; rfl) (k ls hl))
    · cases hsq
  | laload =>
    change oB _ _ = some _ at hst
    obtain ⟨⟨v, r⟩, hq, h1⟩ := oB_inv hst
    obtain ⟨h3, h2⟩ := oC_inv h1
    simp only [Option.some.injEq, Prod.mk.injEq] at h2
    obtain ⟨rfl, rfl, rfl⟩ := h2
    obtain ⟨x, hxv⟩ := isL_inv h3
    dsimp only at hxv
    subst hxv
    rcases ldR_inv hq with ⟨a, j, cc, hs, hc, hk1, hk2, hj, hv⟩ | ⟨a, j, q, hs, hsq, hj, hv⟩
    · dsimp only at hs hv
      subst hs
      have he := gW_at (b := b) (base := base) (tyc := tyc) hc
      rw [gE_l hk1] at he
      have e9 : asL (cc.2.2.getD j.toNatClampNeg .null) = x := by rw [List.getD_eq_getElem?_getD, hv]; rfl
      have hin : vp_in j cc.2.2.length := by
        have h8 := (List.getElem?_eq_some_iff.mp hv).1
        exact fun z => z.elim hj (fun z => by omega)
      have hk3 : cc.2.1 = 1 := by rcases hk2 with z | z <;> exact z
      rw [hk3] at he
      exact va_lald hx hb hK hW.2 a 1 he rfl hin (hd 1 rfl (by decide)) (W.eq (by show F0 m (pc + 1) ls (.long (asL (cc.2.2.getD j.toNatClampNeg .null)) :: _) = _; rw [e9]; rfl) (k ls hl))
    · cases hsq
  | aaload =>
    change sRI _ _ = some _ at hst
    obtain ⟨a, j, r, rfl, h1⟩ := sRI_inv hst
    obtain ⟨cc, hc, h4⟩ := oB_inv h1
    obtain ⟨h3, h5⟩ := oC_inv h4
    obtain ⟨v, hv, h6⟩ := oB_inv h5
    obtain ⟨h7, h2⟩ := oC_inv h6
    simp only [Option.some.injEq, Prod.mk.injEq] at h2
    obtain ⟨rfl, rfl, rfl⟩ := h2
    simp only [Bool.and_eq_true, Bool.or_eq_true, beq_iff_eq, decide_eq_true_eq] at h3
    obtain ⟨⟨hk1, hk2⟩, hj⟩ := h3
    have he := gW_at (b := b) (base := base) (tyc := tyc) hc
    rw [gE_r hk1] at he
    have e9 : va_rf (asR base (cc.2.2.getD j.toNatClampNeg .null)) = gV b base v := by
      rw [List.getD_eq_getElem?_getD, hv]
      rcases isR_inv h7 with rfl | ⟨x, rfl⟩ <;> rfl
    have hin : vp_in j cc.2.2.length := by
      have h8 := (List.getElem?_eq_some_iff.mp hv).1
      exact fun z => z.elim hj (fun z => by omega)
    rcases hk2 with (hk3 | hk3) | hk3
    · rw [hk3] at he
      exact va_aldq hx hb hK hW.2 a 4 he rfl hin (hd 1 rfl (by decide)) (W.eq (by show F0 m (pc + 1) ls (va_rf (asR base (cc.2.2.getD j.toNatClampNeg .null)) :: _) = _; rw [e9]; rfl) (k ls hl))
    · rw [hk3] at he
      exact va_aldq hx hb hK hW.2 a 5 he rfl hin (hd 1 rfl (by decide)) (W.eq (by show F0 m (pc + 1) ls (va_rf (asR base (cc.2.2.getD j.toNatClampNeg .null)) :: _) = _; rw [e9]; rfl) (k ls hl))
    · rw [hk3] at he
      exact va_aldq hx hb hK hW.2 a 6 he rfl hin (hd 1 rfl (by decide)) (W.eq (by show F0 m (pc + 1) ls (va_rf (asR base (cc.2.2.getD j.toNatClampNeg .null)) :: _) = _; rw [e9]; rfl) (k ls hl))
  | arraylength =>
    change sV _ _ = some _ at hst
    obtain ⟨v, r, rfl, h1⟩ := sV_inv hst
    obtain ⟨x, hx1, h2⟩ := oB_inv h1
    simp only [Option.some.injEq, Prod.mk.injEq] at h2
    obtain ⟨rfl, rfl, rfl⟩ := h2
    unfold alen at hx1
    split at hx1
    · rename_i a
      obtain ⟨cc, hc, h4⟩ := oB_inv hx1
      obtain ⟨h3, h5⟩ := oC_inv h4
      cases h5
      simp only [Bool.and_eq_true, Bool.or_eq_true, beq_iff_eq, decide_eq_true_eq] at h3
      obtain ⟨hk1, hk2⟩ := h3
      obtain ⟨ty, hty⟩ := TYS_get tyc hk2
      have he := gW_at (b := b) (base := base) (tyc := tyc) hc
      rcases hk1 with (hk1 | hk1) | hk1
      · rw [gE_i hk1] at he; exact va_alen hx hb hK hW.2 a _ he hty rfl (hd 1 rfl (by decide)) (k ls hl)
      · rw [gE_l hk1] at he; exact va_alen hx hb hK hW.2 a _ he hty rfl (hd 1 rfl (by decide)) (k ls hl)
      · rw [gE_r hk1] at he; exact va_alen hx hb hK hW.2 a _ he hty rfl (hd 1 rfl (by decide)) (k ls hl)
    · obtain ⟨q, hq, h4⟩ := oB_inv hx1
      cases h4
      obtain ⟨hX, hbl, hbb⟩ := hsc.1 q hq
      exact va_slen hx hb hX hbl (Nat.not_le.mpr hbb) hS (hd 1 rfl (by decide)) (k ls hl)
    · cases hx1
  | _ => exact absurd hst (by intro z; cases z)
/-! steps on the cells outside -/
def sX {α : Type} (st : List Value) (f : Nat → List Value → Option α) : Option α := match st with
  | .retAddr a :: r => f a r
  | _ => none
def sIX {α : Type} (st : List Value) (f : Nat → Int32 → List Value → Option α) : Option α := match st with
  | .int j :: .retAddr a :: r => f a j r
  | _ => none
theorem sX_inv {α : Type} {st : List Value} {f : Nat → List Value → Option α} {a : α} (h : sX st f = some a) : ∃ x r, st = .retAddr x :: r ∧ f x r = some a := by
  unfold sX at h; split at h
  · exact ⟨_, _, rfl, h⟩
  · cases h
theorem sIX_inv {α : Type} {st : List Value} {f : Nat → Int32 → List Value → Option α} {a : α} (h : sIX st f = some a) : ∃ x j r, st = .int j :: .retAddr x :: r ∧ f x j r = some a := by
  unfold sIX at h; split at h
  · exact ⟨_, _, _, rfl, h⟩
  · cases h
def stpX (F : MR) (i : Instr) (pc : Nat) (lv : ALv) (st : List Value) : Option (Nat × ALv × List Value) := match i with
  | .ldc k => oB (fnd (mks F) k) (fun q => oC (q.1 == 0) (some (pc + 2, lv, .retAddr (2 * q.2.1 + 1) :: st)))
  | .getfield k => sX st (fun a r => oB (fnd (mks F) k) (fun q => oC (a % 2 == 1 && decide (a / 2 < NSTR)) (oC (q.1 == 1 || q.1 == 2) (some (pc + 3, lv, (if q.1 = 1 then .retAddr (2 * (a / 2) + 2) else .int 0) :: r)))))
  | .getstatic k => oB (fnd (mks F) k) (fun q => oC (q.1 == 3 || q.1 == 4) (some (pc + 3, lv, (if q.1 = 3 then .int 1 else .float 0) :: st)))
  | .arraylength => sX st (fun a r => oC (a % 2 == 0 && decide (2 ≤ a) && decide (a / 2 - 1 < NSTR)) (some (pc + 1, lv, .int (Int32.ofNat (LENS.getD (a / 2 - 1) 0)) :: r)))
  | .baload => sIX st (fun a j r => oC (a % 2 == 0 && decide (2 ≤ a) && decide (a / 2 - 1 < NSTR) && decide (¬ j < 0) && decide (j.toNatClampNeg < LENS.getD (a / 2 - 1) 0)) (some (pc + 1, lv, .int ((BYT.getD (a / 2 - 1) []).getD j.toNatClampNeg 0) :: r)))
  | .i2c => sI st (fun x r => some (pc + 1, lv, .int (x.toUInt32 % 65536).toInt32 :: r))
  | _ => none
set_option maxHeartbeats 4000000 in
theorem stpX_ok {MT : Nat → Option MR} {p : Program} {l : Launch} {e : Env} {R : Room} {s : State} {m : MethodId} {args : Array Value} {below : List Frame} {meth : Method} {c : Code} {H : Heap} {locs : List Loc} {cells slots : Nat} {Q : State → Prop} {F : MR} {i : Instr} {len tgt pc pc' : Nat} {lv lv' : ALv} {st st' : List Value} {b : Nat → Nat} {base : Nat} {ls : Array Slot}
    (hF : FOK MT F) (C : Ctx p s m args meth c F) (hS : va_S (fun q => base ≤ q) s.heap H locs) (hl : lv_has ls (mml F) (gL b base lv)) (hks : KS b base s)
    (hf : fc F pc = some (i, len, tgt)) (hst : stpX F i pc lv st = some (pc', lv', st'))
    (k : ∀ ls', lv_has ls' (mml F) (gL b base lv') → W p l e R s m args below meth c H locs cells slots Q (F0 m pc' ls' (st'.map (gV b base)))) :
    W p l e R s m args below meth c H locs cells slots Q (F0 m pc ls (st.map (gV b base))) := by
  obtain ⟨hx, hb, hr, hml, hown, hlocks, hts, hin0, hal⟩ := C
  obtain ⟨hD, hlen, hoff⟩ := hF.1 _ (fc_mem hf)
  dsimp only at hD hlen hoff
  have hd : ∀ n, ilen i = n → n ≠ 0 → decode (mcc F) pc = .ok (i, n) := by
    intro n h1 h2
    rcases hlen with h3 | h3
    · omega
    · rw [← h1, h3]; exact hD
  obtain ⟨kS, kR, kC, kF⟩ := hks
  cases i with
  | ldc z =>
    change oB _ _ = some _ at hst
    obtain ⟨q, hq, h1⟩ := oB_inv hst
    obtain ⟨h3, h2⟩ := oC_inv h1
    simp only [Option.some.injEq, Prod.mk.injEq] at h2
    obtain ⟨rfl, rfl, rfl⟩ := h2
    have hX := hF.2.2.2.2.2.2 _ (fnd_mem hq)
    exact va_ldcS hx hb hown (kR _ (hX.1 (eq_of_beq h3))) (hd 2 rfl (by decide)) (k ls hl)
  | getfield z =>
    change sX _ _ = some _ at hst
    obtain ⟨a, r, rfl, h0⟩ := sX_inv hst
    obtain ⟨q, hq, h1⟩ := oB_inv h0
    obtain ⟨h3, h5⟩ := oC_inv h1
    obtain ⟨h4, h2⟩ := oC_inv h5
    simp only [Option.some.injEq, Prod.mk.injEq] at h2
    obtain ⟨rfl, rfl, rfl⟩ := h2
    simp only [Bool.and_eq_true, beq_iff_eq, decide_eq_true_eq] at h3
    have hX := hF.2.2.2.2.2.2 _ (fnd_mem hq)
    have ea : b a = b (2 * (a / 2) + 1) := by rw [show 2 * (a / 2) + 1 = a by omega]
    have hk := kS.1 (a / 2) h3.2
    show W p l e R s m args below meth c H locs cells slots Q (F0 m pc ls (.ref (b a) :: r.map (gV b base)))
    rw [ea]
    by_cases h1 : q.1 = 1
    · rw [if_pos h1] at k
      exact vk_getf hx hb hk.2.2.1 hS hown (hts _ (hX.2.1 h1)) (fun _ h9 => h9) (hd 3 rfl (by decide)) (k ls hl)
    · rw [if_neg h1] at k
      have h2 : q.1 = 2 := by simp only [Bool.or_eq_true, beq_iff_eq] at h4; omega
      exact vk_getf hx hb hk.2.1 hS hown (hts _ (hX.2.2.1 h2)) (fun _ h9 => h9) (hd 3 rfl (by decide)) (k ls hl)
  | getstatic z =>
    change oB _ _ = some _ at hst
    obtain ⟨q, hq, h1⟩ := oB_inv hst
    obtain ⟨h4, h2⟩ := oC_inv h1
    simp only [Option.some.injEq, Prod.mk.injEq] at h2
    obtain ⟨rfl, rfl, rfl⟩ := h2
    have hX := hF.2.2.2.2.2.2 _ (fnd_mem hq)
    by_cases h1 : q.1 = 3
    · rw [if_pos h1] at k
      exact va_gets hx hb kC hS hown (hts _ (hX.2.2.2.1 h1)) (fun _ h9 => h9) (hd 3 rfl (by decide)) (k ls hl)
    · rw [if_neg h1] at k
      have h2 : q.1 = 4 := by simp only [Bool.or_eq_true, beq_iff_eq] at h4; omega
      exact va_gets hx hb kF hS hown (hts _ (hX.2.2.2.2 h2)) (fun _ h9 => h9) (hd 3 rfl (by decide)) (k ls hl)
  | arraylength =>
    change sX _ _ = some _ at hst
    obtain ⟨a, r, rfl, h0⟩ := sX_inv hst
    obtain ⟨h3, h2⟩ := oC_inv h0
    simp only [Option.some.injEq, Prod.mk.injEq] at h2
    obtain ⟨rfl, rfl, rfl⟩ := h2
    simp only [Bool.and_eq_true, beq_iff_eq, decide_eq_true_eq] at h3
    have ea : b a = b (2 * (a / 2 - 1) + 2) := by rw [show 2 * (a / 2 - 1) + 2 = a by omega]
    have hk := kS.1 (a / 2 - 1) h3.2
    show W p l e R s m args below meth c H locs cells slots Q (F0 m pc ls (.ref (b a) :: r.map (gV b base)))
    rw [ea]
    exact va_tlen hx hb hk.2.2.2 hS rfl (hd 1 rfl (by decide)) (k ls hl)
  | baload =>
    change sIX _ _ = some _ at hst
    obtain ⟨a, j, r, rfl, h0⟩ := sIX_inv hst
    obtain ⟨h3, h2⟩ := oC_inv h0
    simp only [Option.some.injEq, Prod.mk.injEq] at h2
    obtain ⟨rfl, rfl, rfl⟩ := h2
    simp only [Bool.and_eq_true, beq_iff_eq, decide_eq_true_eq] at h3
    obtain ⟨⟨⟨⟨g1, g2⟩, g3⟩, g4⟩, g5⟩ := h3
    have ea : b a = b (2 * (a / 2 - 1) + 2) := by rw [show 2 * (a / 2 - 1) + 2 = a by omega]
    have hk := kS.1 (a / 2 - 1) g3
    show W p l e R s m args below meth c H locs cells slots Q (F0 m pc ls (.int j :: .ref (b a) :: r.map (gV b base)))
    rw [ea]
    exact va_tb hx hb hk.2.2.2 hS (fun z => z.elim g4 (fun z => by omega)) rfl (hd 1 rfl (by decide)) (k ls hl)
  | i2c =>
    change sI _ _ = some _ at hst
    obtain ⟨x, r, rfl, h1⟩ := sI_inv hst
    simp only [Option.some.injEq, Prod.mk.injEq] at h1
    obtain ⟨rfl, rfl, rfl⟩ := h1
    exact lv_i2c hx hb (hd 1 rfl (by decide)) rfl (k ls hl)
  | _ => exact absurd hst (by intro z; cases z)
/-- a reading step, of either kind -/
def stpA (F : MR) (scr : AS) (i : Instr) (tgt pc : Nat) (lv : ALv) (st : List Value) (h : AH) : Option (Nat × ALv × List Value) := match stpP F scr i tgt pc lv st h with
  | some x => some x
  | none => stpX F i pc lv st
theorem stpA_P {F : MR} {scr : AS} {i : Instr} {tgt pc : Nat} {lv : ALv} {st : List Value} {h : AH} {x : Nat × ALv × List Value} (hx : stpP F scr i tgt pc lv st h = some x) : stpA F scr i tgt pc lv st h = some x := by unfold stpA; rw [hx]
theorem stpA_inv {F : MR} {scr : AS} {i : Instr} {tgt pc : Nat} {lv : ALv} {st : List Value} {h : AH} {x : Nat × ALv × List Value} (hx : stpA F scr i tgt pc lv st h = some x) : stpP F scr i tgt pc lv st h = some x ∨ stpP F scr i tgt pc lv st h = none ∧ stpX F i pc lv st = some x := by
  unfold stpA at hx
  split at hx
  · rename_i y hy; cases hx; exact Or.inl hy
  · rename_i hy; exact Or.inr ⟨hy, hx⟩

