/-! THE ABSTRACT MACHINE: cells by numbers in the order in which they are made; the true address is base + number. A cell: kind (0 object, 1 ints, 2 longs, 3 references), class or type, contents. Cells outside are the values retAddr: 0 the script's row, 2i+1 the literal i, 2i+2 its row of bytes, 1000 the formatter. -/
abbrev AC : Type := Nat × Nat × List Value
abbrev AH : Type := List AC
abbrev ALv : Type := List (Nat × Value)
/-- place, then instruction, length, target of its jump -/
abbrev AI : Type := Nat × Instr × Nat × Nat
/-- the code in groups: each with the place behind its end -/
abbrev CTREE : Type := List (Nat × List (Nat × List AI))
/-- pool entry, then class, slot, code (0 own, 1 nest mate, 2 own final in init, 3 own final, 4 nest mate's final), place of its word -/
abbrev AF : Type := Nat × Nat × Nat × Nat × Nat × Nat
/-- pool entry, then kind (0 virtual, 1 virtual of a nest mate, 2 static, 3 static of a nest mate, 4 init, 5 init of a nest mate, 8 arraycopy, 9 Object's init), callee, place of its word -/
abbrev AK : Type := Nat × Nat × Nat × Nat × Nat
abbrev AKi : Type := Nat × Int32 × Nat × Nat
abbrev AKl : Type := Nat × Int64 × Nat × Nat
/-- pool entry, then class, place of its word -/
abbrev AKc : Type := Nat × Nat × Nat × Nat
/-- pool entry, then what it is (0 a literal, 1 String.value, 2 String.coder, 3 COMPACT_STRINGS, 4 SIOOBE_FORMATTER), the literal, place of its word -/
abbrev AKs : Type := Nat × Nat × Nat × Nat × Nat
abbrev MR : Type := (MethodName × ByteArray × Nat × Nat × Option FieldType) × CTREE × (List AF × List AK × List AKi × List AKl × List AKc × List AKs) × (Nat × (Nat × Nat) × (Nat × Nat) × (Nat × Nat) × (Nat × Nat))
def my (F : MR) : MethodName := F.1.1
def mcc (F : MR) : ByteArray := F.1.2.1
def mml (F : MR) : Nat := F.1.2.2.1
def mnp (F : MR) : Nat := F.1.2.2.2.1
def mret (F : MR) : Option FieldType := F.1.2.2.2.2
def flt2 : List (Nat × List AI) → List AI
  | [] => []
  | q :: r => q.2 ++ flt2 r
def flt3 : CTREE → List AI
  | [] => []
  | q :: r => flt2 q.2 ++ flt3 r
def mtr (F : MR) : CTREE := F.2.1
def mcode (F : MR) : List AI := flt3 (mtr F)
def mfl (F : MR) : List AF := F.2.2.1.1
def mcl (F : MR) : List AK := F.2.2.1.2.1
def mki (F : MR) : List AKi := F.2.2.1.2.2.1
def mkl (F : MR) : List AKl := F.2.2.1.2.2.2.1
def mkc (F : MR) : List AKc := F.2.2.1.2.2.2.2.1
def mks (F : MR) : List AKs := F.2.2.1.2.2.2.2.2
def mci (F : MR) : Nat := F.2.2.2.1
def fnd {α : Type} (l : List (Nat × α)) (k : Nat) : Option α := match l with
  | [] => none
  | q :: t => if q.1 == k then some q.2 else fnd t k
theorem fnd_mem {α : Type} {l : List (Nat × α)} {k : Nat} {a : α} (h : fnd l k = some a) : (k, a) ∈ l := by
  induction l with
  | nil => cases h
  | cons q t ih =>
    unfold fnd at h
    split at h
    · rename_i hq
      cases h
      have e : q.1 = k := by simpa using hq
      subst e
      exact List.mem_cons_self
    · exact List.mem_cons_of_mem _ (ih h)
def fbr {α : Type} (l : List (Nat × α)) (k : Nat) : Option α := match l with
  | [] => none
  | q :: t => match Nat.ble q.1 k with
    | true => fbr t k
    | false => some q.2
def fnl {α : Type} (l : List (Nat × α)) (k : Nat) : Option α := match l with
  | [] => none
  | q :: t => match Nat.beq q.1 k with
    | true => some q.2
    | false => fnl t k
def fc (F : MR) (pc : Nat) : Option (Instr × Nat × Nat) := match fbr (mtr F) pc with
  | none => none
  | some t => match fbr t pc with
    | none => none
    | some l => fnl l pc
theorem fbr_mem {α : Type} {l : List (Nat × α)} {k : Nat} {a : α} (h : fbr l k = some a) : ∃ n, (n, a) ∈ l := by
  induction l with
  | nil => cases h
  | cons q t ih =>
    have h : (match Nat.ble q.1 k with
      | true => fbr t k
      | false => some q.2) = some a := h
    cases e : Nat.ble q.1 k with
    | true =>
      rw [e] at h
      obtain ⟨n, hn⟩ := ih h
      exact ⟨n, List.mem_cons_of_mem _ hn⟩
    | false =>
      rw [e] at h
      have h : some q.2 = some a := h
      injection h with h
      subst h
      exact ⟨q.1, List.mem_cons_self⟩
theorem fnl_mem {α : Type} {l : List (Nat × α)} {k : Nat} {a : α} (h : fnl l k = some a) : (k, a) ∈ l := by
  induction l with
  | nil => cases h
  | cons q t ih =>
    have h : (match Nat.beq q.1 k with
      | true => some q.2
      | false => fnl t k) = some a := h
    cases e : Nat.beq q.1 k with
    | true =>
      rw [e] at h
      have h : some q.2 = some a := h
      injection h with h
      have e : q.1 = k := Nat.eq_of_beq_eq_true e
      subst h e
      exact List.mem_cons_self
    | false =>
      rw [e] at h
      exact List.mem_cons_of_mem _ (ih h)
theorem flt2_mem {t : List (Nat × List AI)} {l : List AI} {n : Nat} {q : AI} (h : (n, l) ∈ t) (hq : q ∈ l) : q ∈ flt2 t := by
  induction t with
  | nil => cases h
  | cons a r ih =>
    show q ∈ a.2 ++ flt2 r
    rcases List.mem_cons.mp h with e | e
    · subst e
      exact List.mem_append.mpr (Or.inl hq)
    · exact List.mem_append.mpr (Or.inr (ih e))
theorem flt3_mem {t : CTREE} {l : List (Nat × List AI)} {n : Nat} {q : AI} (h : (n, l) ∈ t) (hq : q ∈ flt2 l) : q ∈ flt3 t := by
  induction t with
  | nil => cases h
  | cons a r ih =>
    show q ∈ flt2 a.2 ++ flt3 r
    rcases List.mem_cons.mp h with e | e
    · subst e
      exact List.mem_append.mpr (Or.inl hq)
    · exact List.mem_append.mpr (Or.inr (ih e))
theorem fc_mem {F : MR} {pc : Nat} {a : Instr × Nat × Nat} (h : fc F pc = some a) : (pc, a) ∈ mcode F := by
  have h : (match fbr (mtr F) pc with
    | none => none
    | some t => match fbr t pc with
      | none => none
      | some l => fnl l pc) = some a := h
  cases e1 : fbr (mtr F) pc with
  | none => rw [e1] at h; cases h
  | some t =>
    rw [e1] at h
    have h : (match fbr t pc with
      | none => none
      | some l => fnl l pc) = some a := h
    cases e2 : fbr t pc with
    | none => rw [e2] at h; cases h
    | some l =>
      rw [e2] at h
      have h : fnl l pc = some a := h
      obtain ⟨n1, m1⟩ := fbr_mem e1
      obtain ⟨n2, m2⟩ := fbr_mem e2
      exact flt3_mem m1 (flt2_mem m2 (fnl_mem h))
theorem all_flt2 {P : AI → Prop} {t : List (Nat × List AI)} (h : ∀ r ∈ t, ∀ q ∈ r.2, P q) : ∀ q ∈ flt2 t, P q := by
  induction t with
  | nil => intro q hq; cases hq
  | cons a r ih =>
    intro q hq
    have hq : q ∈ a.2 ++ flt2 r := hq
    rcases List.mem_append.mp hq with e | e
    · exact h a List.mem_cons_self q e
    · exact ih (fun s hs => h s (List.mem_cons_of_mem _ hs)) q e
theorem all_flt3 {P : AI → Prop} {t : CTREE} (h : ∀ s ∈ t, ∀ r ∈ s.2, ∀ q ∈ r.2, P q) : ∀ q ∈ flt3 t, P q := by
  induction t with
  | nil => intro q hq; cases hq
  | cons a r ih =>
    intro q hq
    have hq : q ∈ flt2 a.2 ++ flt3 r := hq
    rcases List.mem_append.mp hq with e | e
    · exact all_flt2 (h a List.mem_cons_self) q e
    · exact ih (fun s hs => h s (List.mem_cons_of_mem _ hs)) q e
def ilen : Instr → Nat
  | .bipush _ | .ldc _ | .iload _ | .lload _ | .aload _ | .istore _ | .lstore _ | .astore _ | .newarray _ => 2
  | .sipush _ | .getfield _ | .putfield _ | .goto _ | .ifCond _ _ | .if_icmp _ _ | .iinc _ _ | .invokevirtual _ | .invokestatic _ | .invokespecial _ | .new _ | .anewarray _ | .ldc_w _ | .ldc2_w _ | .getstatic _ => 3
  | .tableswitch _ _ _ _ | .lookupswitch _ _ => 0
  | _ => 1
def ioff : Instr → Option Int
  | .goto o | .ifCond _ o | .if_icmp _ o => some o
  | _ => none
/-- 0 reads alone, 1 writes, 2 makes, 3 calls, 4 returns -/
def ikind : Instr → Nat
  | .putfield _ | .iastore | .bastore | .lastore | .aastore => 1
  | .new _ | .newarray _ | .anewarray _ => 2
  | .invokevirtual _ | .invokestatic _ | .invokespecial _ => 3
  | .ireturn | .lreturn | .areturn | .return_ => 4
  | _ => 0
/-! values, cells and worlds as the machine has them -/
/-- a static that is a reference or null -/
def fV (b : Nat → Nat) : Value := if b 1001 = 0 then .ref (b 1000) else .null
def gV (b : Nat → Nat) (base : Nat) : Value → Value
  | .ref i => .ref (base + i)
  | .retAddr k => .ref (b k)
  | .float _ => fV b
  | v => v
def asI : Value → Int32
  | .int x => x
  | _ => 0
def asL : Value → Int64
  | .long x => x
  | _ => 0
def asR (base : Nat) : Value → Option Nat
  | .ref i => some (base + i)
  | _ => none
def gE (b : Nat → Nat) (base : Nat) (tyc : Nat → ClassId) (c : AC) : va_E :=
  if c.1 = 0 then .inr (c.2.1, c.2.2.map (gV b base))
  else if c.1 = 1 then .inl (tyc c.2.1, c.2.2.length, .inl (fun j => asI (c.2.2.getD j .null)))
  else if c.1 = 2 then .inl (tyc c.2.1, c.2.2.length, .inr (.inl (fun j => asL (c.2.2.getD j .null))))
  else .inl (tyc c.2.1, c.2.2.length, .inr (.inr (.inr (.inr (fun j => asR base (c.2.2.getD j .null))))))
def gW (b : Nat → Nat) (base : Nat) (tyc : Nat → ClassId) (h : AH) : va_W := h.mapIdx (fun i c => (base + i, gE b base tyc c))
def gL (b : Nat → Nat) (base : Nat) (lv : ALv) : List (Nat × Value) := lv.map (fun q => (q.1, gV b base q.2))
theorem gV_cat (b : Nat → Nat) (base : Nat) (v : Value) : (gV b base v).category = v.category := by
  cases v with
  | float x => show (fV b).category = 1; unfold fV; split <;> rfl
  | _ => rfl
theorem gW_get (b : Nat → Nat) (base : Nat) (tyc : Nat → ClassId) (h : AH) (i : Nat) : (gW b base tyc h)[i]? = (h[i]?).map (fun c => (base + i, gE b base tyc c)) := by
  unfold gW; rw [List.getElem?_mapIdx]
theorem gW_at {b : Nat → Nat} {base : Nat} {tyc : Nat → ClassId} {h : AH} {i : Nat} {c : AC} (hc : h[i]? = some c) : (gW b base tyc h)[i]? = some (base + i, gE b base tyc c) := by
  rw [gW_get, hc]; rfl
theorem gW_len (b : Nat → Nat) (base : Nat) (tyc : Nat → ClassId) (h : AH) : (gW b base tyc h).length = h.length := by
  unfold gW; simp
theorem gW_set {b : Nat → Nat} {base : Nat} {tyc : Nat → ClassId} {h : AH} {i : Nat} {c : AC} : (gW b base tyc h).set i (base + i, gE b base tyc c) = gW b base tyc (h.set i c) := by
  apply List.ext_getElem?
  intro j
  rw [gW_get, List.getElem?_set, List.getElem?_set, gW_get, gW_len]
  by_cases hij : i = j
  · subst hij
    by_cases hi : i < h.length <;> simp [hi]
  · simp [hij]
theorem gW_push (b : Nat → Nat) (base : Nat) (tyc : Nat → ClassId) (h : AH) (c : AC) : gW b base tyc (h ++ [c]) = gW b base tyc h ++ [(base + h.length, gE b base tyc c)] := by
  unfold gW; simp [List.mapIdx_append]
theorem gW_D (b : Nat → Nat) (base : Nat) (tyc : Nat → ClassId) (h : AH) : va_D (fun q => base ≤ q) (gW b base tyc h) := by
  refine ⟨fun i j p q hi hj hpq => ?_, fun k q hk => ?_⟩
  · rw [gW_get] at hi hj
    obtain ⟨c, -, rfl⟩ := Option.map_eq_some_iff.mp hi
    obtain ⟨d, -, rfl⟩ := Option.map_eq_some_iff.mp hj
    dsimp only at hpq
    omega
  · rw [gW_get] at hk
    obtain ⟨c, -, rfl⟩ := Option.map_eq_some_iff.mp hk
    exact Nat.le_add_right _ _
theorem gE_o {b : Nat → Nat} {base : Nat} {tyc : Nat → ClassId} {c : AC} (h : c.1 = 0) : gE b base tyc c = .inr (c.2.1, c.2.2.map (gV b base)) := by simp [gE, h]
theorem gE_i {b : Nat → Nat} {base : Nat} {tyc : Nat → ClassId} {c : AC} (h : c.1 = 1) : gE b base tyc c = .inl (tyc c.2.1, c.2.2.length, .inl (fun j => asI (c.2.2.getD j .null))) := by simp [gE, h]
theorem gE_l {b : Nat → Nat} {base : Nat} {tyc : Nat → ClassId} {c : AC} (h : c.1 = 2) : gE b base tyc c = .inl (tyc c.2.1, c.2.2.length, .inr (.inl (fun j => asL (c.2.2.getD j .null)))) := by simp [gE, h]
theorem gE_r {b : Nat → Nat} {base : Nat} {tyc : Nat → ClassId} {c : AC} (h : c.1 = 3) : gE b base tyc c = .inl (tyc c.2.1, c.2.2.length, .inr (.inr (.inr (.inr (fun j => asR base (c.2.2.getD j .null)))))) := by simp [gE, h]
/-- the world: the cells from base on -/
def Wd (D : va_G) (tyc : Nat → ClassId) (b : Nat → Nat) (base : Nat) (h : AH) (H : Heap) : Prop := H.size = base + h.length ∧ va_P D vwCl (gW b base tyc h) H
def slo (h : AH) : Nat := (h.map (fun c => c.2.2.length)).sum
theorem lvA {ls : Array Slot} {nL : Nat} {b : Nat → Nat} {base : Nat} {lv : ALv} {i : Nat} {v : Value} (h : lv_has ls nL (gL b base lv)) (hf : fnd lv i = some v) : ls[i]? = some (.val (gV b base v)) :=
  h.2.2 (i, gV b base v) (List.mem_map.mpr ⟨(i, v), fnd_mem hf, rfl⟩)
def lvset1 (lv : ALv) (i : Nat) (v : Value) : ALv := (i, v) :: lv.filter (fun q => !(q.1 == i) && !(q.1 + 1 == i && q.2.category == 2))
def lvset2 (lv : ALv) (i : Nat) (v : Value) : ALv := (i, v) :: lv.filter (fun q => !(q.1 == i) && (!(q.1 == i + 1) && !(q.1 + 1 == i && q.2.category == 2)))
theorem gL_set1 (b : Nat → Nat) (base : Nat) (lv : ALv) (i : Nat) (v : Value) : (i, gV b base v) :: (gL b base lv).filter (fun q => !(q.1 == i) && !(q.1 + 1 == i && q.2.category == 2)) = gL b base (lvset1 lv i v) := by
  simp [gL, lvset1, List.filter_map, Function.comp_def, gV_cat]
theorem gL_set2 (b : Nat → Nat) (base : Nat) (lv : ALv) (i : Nat) (v : Value) : (i, gV b base v) :: (gL b base lv).filter (fun q => !(q.1 == i) && (!(q.1 == i + 1) && !(q.1 + 1 == i && q.2.category == 2))) = gL b base (lvset2 lv i v) := by
  simp [gL, lvset2, List.filter_map, Function.comp_def, gV_cat]
/-! the stack's shapes -/
def sI {α : Type} (st : List Value) (f : Int32 → List Value → Option α) : Option α := match st with
  | .int x :: r => f x r
  | _ => none
def sII {α : Type} (st : List Value) (f : Int32 → Int32 → List Value → Option α) : Option α := match st with
  | .int y :: .int x :: r => f x y r
  | _ => none
def sL {α : Type} (st : List Value) (f : Int64 → List Value → Option α) : Option α := match st with
  | .long x :: r => f x r
  | _ => none
def sLL {α : Type} (st : List Value) (f : Int64 → Int64 → List Value → Option α) : Option α := match st with
  | .long y :: .long x :: r => f x y r
  | _ => none
def sLI {α : Type} (st : List Value) (f : Int64 → Int32 → List Value → Option α) : Option α := match st with
  | .int y :: .long x :: r => f x y r
  | _ => none
def sR {α : Type} (st : List Value) (f : Nat → List Value → Option α) : Option α := match st with
  | .ref a :: r => f a r
  | _ => none
def sRI {α : Type} (st : List Value) (f : Nat → Int32 → List Value → Option α) : Option α := match st with
  | .int j :: .ref a :: r => f a j r
  | _ => none
theorem sI_inv {α : Type} {st : List Value} {f : Int32 → List Value → Option α} {a : α} (h : sI st f = some a) : ∃ x r, st = .int x :: r ∧ f x r = some a := by
  unfold sI at h; split at h
  · exact ⟨_, _, rfl, h⟩
  · cases h
theorem sII_inv {α : Type} {st : List Value} {f : Int32 → Int32 → List Value → Option α} {a : α} (h : sII st f = some a) : ∃ x y r, st = .int y :: .int x :: r ∧ f x y r = some a := by
  unfold sII at h; split at h
  · exact ⟨_, _, _, rfl, h⟩
  · cases h
theorem sL_inv {α : Type} {st : List Value} {f : Int64 → List Value → Option α} {a : α} (h : sL st f = some a) : ∃ x r, st = .long x :: r ∧ f x r = some a := by
  unfold sL at h; split at h
  · exact ⟨_, _, rfl, h⟩
  · cases h
theorem sLL_inv {α : Type} {st : List Value} {f : Int64 → Int64 → List Value → Option α} {a : α} (h : sLL st f = some a) : ∃ x y r, st = .long y :: .long x :: r ∧ f x y r = some a := by
  unfold sLL at h; split at h
  · exact ⟨_, _, _, rfl, h⟩
  · cases h
theorem sLI_inv {α : Type} {st : List Value} {f : Int64 → Int32 → List Value → Option α} {a : α} (h : sLI st f = some a) : ∃ x y r, st = .int y :: .long x :: r ∧ f x y r = some a := by
  unfold sLI at h; split at h
  · exact ⟨_, _, _, rfl, h⟩
  · cases h
theorem sR_inv {α : Type} {st : List Value} {f : Nat → List Value → Option α} {a : α} (h : sR st f = some a) : ∃ x r, st = .ref x :: r ∧ f x r = some a := by
  unfold sR at h; split at h
  · exact ⟨_, _, rfl, h⟩
  · cases h
theorem sRI_inv {α : Type} {st : List Value} {f : Nat → Int32 → List Value → Option α} {a : α} (h : sRI st f = some a) : ∃ x j r, st = .int j :: .ref x :: r ∧ f x j r = some a := by
  unfold sRI at h; split at h
  · exact ⟨_, _, _, rfl, h⟩
  · cases h
def oB {α β : Type} (o : Option α) (f : α → Option β) : Option β := match o with
  | some a => f a
  | none => none
theorem oB_inv {α β : Type} {o : Option α} {f : α → Option β} {b : β} (h : oB o f = some b) : ∃ a, o = some a ∧ f a = some b := by
  unfold oB at h; split at h
  · exact ⟨_, rfl, h⟩
  · cases h
def oC {α : Type} (b : Bool) (o : Option α) : Option α := match b with
  | true => o
  | false => none
theorem oC_inv {α : Type} {b : Bool} {o : Option α} {a : α} (h : oC b o = some a) : b = true ∧ o = some a := by
  unfold oC at h; split at h
  · exact ⟨rfl, h⟩
  · cases h
def ldI (lv : ALv) (k : Nat) : Option Value := match fnd lv k with
  | some (.int x) => some (.int x)
  | _ => none
def ldL (lv : ALv) (k : Nat) : Option Value := match fnd lv k with
  | some (.long x) => some (.long x)
  | _ => none
def ldA (lv : ALv) (k : Nat) : Option Value := match fnd lv k with
  | some (.ref x) => some (.ref x)
  | some (.retAddr x) => some (.retAddr x)
  | some .null => some .null
  | _ => none
theorem ldI_inv {lv : ALv} {k : Nat} {v : Value} (h : ldI lv k = some v) : ∃ x, v = .int x ∧ fnd lv k = some (.int x) := by
  unfold ldI at h; split at h
  · rename_i e; cases h; exact ⟨_, rfl, e⟩
  · cases h
theorem ldL_inv {lv : ALv} {k : Nat} {v : Value} (h : ldL lv k = some v) : ∃ x, v = .long x ∧ fnd lv k = some (.long x) := by
  unfold ldL at h; split at h
  · rename_i e; cases h; exact ⟨_, rfl, e⟩
  · cases h
theorem ldA_inv {lv : ALv} {k : Nat} {v : Value} (h : ldA lv k = some v) : (v = .null ∨ (∃ x, v = .ref x) ∨ ∃ x, v = .retAddr x) ∧ fnd lv k = some v := by
  unfold ldA at h; split at h
  · rename_i e; cases h; exact ⟨Or.inr (Or.inl ⟨_, rfl⟩), e⟩
  · rename_i e; cases h; exact ⟨Or.inr (Or.inr ⟨_, rfl⟩), e⟩
  · rename_i e; cases h; exact ⟨Or.inl rfl, e⟩
  · cases h
/-- what a field of a type may hold -/
def okFit (ty : FieldType) (v : Value) : Bool := match ty, v with
  | .int, .int _ => true
  | .boolean, .int x => x == 0 || x == 1
  | .object _, .ref _ => true
  | .object _, .null => true
  | .array _, .ref _ => true
  | .array _, .null => true
  | _, _ => false
theorem okFit_spec {ty : FieldType} {v : Value} (b : Nat → Nat) (base : Nat) (h : okFit ty v = true) : narrow ty (gV b base v) = gV b base v ∧ fits ty (gV b base v) = true := by
  unfold okFit at h
  split at h
  · exact ⟨rfl, rfl⟩
  · rename_i x
    simp only [Bool.or_eq_true, beq_iff_eq] at h
    rcases h with rfl | rfl
    · exact ⟨(by decide : narrow .boolean (.int 0) = .int 0), (by decide : fits .boolean (.int 0) = true)⟩
    · exact ⟨(by decide : narrow .boolean (.int 1) = .int 1), (by decide : fits .boolean (.int 1) = true)⟩
  · exact ⟨rfl, rfl⟩
  · exact ⟨rfl, rfl⟩
  · exact ⟨rfl, rfl⟩
  · exact ⟨rfl, rfl⟩
  · cases h
def cats (r : List Value) : Nat := (r.map fun v => v.category).sum
theorem cats_g (b : Nat → Nat) (base : Nat) (r : List Value) : ((r.map (gV b base)).map fun v => v.category).sum = cats r := by
  unfold cats
  rw [List.map_map]
  congr 1
  exact List.map_congr_left fun v _ => gV_cat b base v

