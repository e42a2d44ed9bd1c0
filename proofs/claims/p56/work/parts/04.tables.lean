/-! what the tables' entries say -/
def chunk (i : Nat) : List Cond := match i with
  | 0 => k2_sels lw_privs
  | 1 => tables_1_1
  | 2 => tables_1_2
  | 3 => tables_1_3
  | 4 => tables_1_4
  | 5 => tables_1_5
  | 6 => tables_1_6
  | 7 => tables_1_7
  | 8 => tables_1_8
  | _ => []
theorem chunk_in {i : Nat} {w : Cond} (h : w ∈ chunk i) : w ∈ lw_tbl := by
  have key : ∀ j, w ∈ chunk j → w ∈ lw_tbl := fun j => match j with
    | 0 => fun h => List.mem_append_left _ h
    | 1 => fun h => List.mem_append_right _ (List.mem_append_left _ h)
    | 2 => fun h => List.mem_append_right _ (List.mem_append_right _ (List.mem_append_left _ h))
    | 3 => fun h => List.mem_append_right _ (List.mem_append_right _ (List.mem_append_right _ (List.mem_append_left _ h)))
    | 4 => fun h => List.mem_append_right _ (List.mem_append_right _ (List.mem_append_right _ (List.mem_append_right _ (List.mem_append_left _ h))))
    | 5 => fun h => List.mem_append_right _ (List.mem_append_right _ (List.mem_append_right _ (List.mem_append_right _ (List.mem_append_right _ (List.mem_append_left _ h)))))
    | 6 => fun h => List.mem_append_right _ (List.mem_append_right _ (List.mem_append_right _ (List.mem_append_right _ (List.mem_append_right _ (List.mem_append_right _ (List.mem_append_left _ h))))))
    | 7 => fun h => List.mem_append_right _ (List.mem_append_right _ (List.mem_append_right _ (List.mem_append_right _ (List.mem_append_right _ (List.mem_append_right _ (List.mem_append_right _ (List.mem_append_left _ h)))))))
    | 8 => fun h => List.mem_append_right _ (List.mem_append_right _ (List.mem_append_right _ (List.mem_append_right _ (List.mem_append_right _ (List.mem_append_right _ (List.mem_append_right _ (List.mem_append_right _ h)))))))
    | _ + 9 => fun h => absurd h List.not_mem_nil
  exact key i h
def TBL : List Cond := lw_tbl.filter goodWord
theorem TBL_lw {w : Cond} (h : w ∈ TBL) : w ∈ lw_tbl := (List.mem_filter.mp h).1
theorem TBL_good {w : Cond} (h : w ∈ TBL) : (w.onTables && w.keeps) = true ∨ ∃ ty, w = .arrayClass ty := good_of_word (List.mem_filter.mp h).2
/-- a word, by its place -/
def isW (q : Nat × Nat) (w : Cond) : Bool := decide ((chunk q.1)[q.2]? = some w) && goodWord w
theorem isW_in {q : Nat × Nat} {w : Cond} (h : isW q w = true) : w ∈ TBL := by
  unfold isW at h
  rw [Bool.and_eq_true] at h
  exact List.mem_filter.mpr ⟨chunk_in (List.mem_of_getElem? (of_decide_eq_true h.1)), h.2⟩
/-- links to nest mates' members: they ride beside the words that every call keeps -/
def isNest (w : Cond) : Bool := match w with
  | .fieldLinkNest _ _ _ _ _ _ => true
  | .methodLinkNest _ _ _ _ => true
  | _ => false
def NST : List Cond := lw_tbl.filter isNest
theorem NST_on {w : Cond} (h : w ∈ NST) : w.onTables = true := by
  have h2 := (List.mem_filter.mp h).2
  unfold isNest at h2
  split at h2
  · rfl
  · rfl
  · cases h2
theorem NST_warm {w : Cond} {s U : State} (h : w ∈ NST) (hW : s.WarmedH U.vm) (hZ : va_Nw w s) : va_Nw w U := by
  have h2 := (List.mem_filter.mp h).2
  unfold isNest at h2
  split at h2
  · exact va_Nw.warmF hW hZ
  · exact va_Nw.warmM hW hZ
  · cases h2
def InW (w : Cond) : Prop := w ∈ TBL ∨ w ∈ NST
def chkI (F : MR) (q : AI) : Bool := decide (decode (mcc F) q.1 = .ok (q.2.1, q.2.2.1)) && (ilen q.2.1 == 0 || ilen q.2.1 == q.2.2.1) && (match ioff q.2.1 with
  | some o => decide ((q.1 : Int) + o = (q.2.2.2 : Int))
  | none => true)
def IOK (F : MR) (q : AI) : Prop := decode (mcc F) q.1 = .ok (q.2.1, q.2.2.1) ∧ (ilen q.2.1 = 0 ∨ ilen q.2.1 = q.2.2.1) ∧ ∀ o, ioff q.2.1 = some o → (q.1 : Int) + o = (q.2.2.2 : Int)
theorem IOK_of {F : MR} {q : AI} (h : chkI F q = true) : IOK F q := by
  unfold chkI at h
  simp only [Bool.and_eq_true, decide_eq_true_eq, Bool.or_eq_true, beq_iff_eq] at h
  refine ⟨h.1.1, h.1.2, fun o ho => ?_⟩
  have h2 := h.2
  rw [ho] at h2
  exact of_decide_eq_true h2
def fldW (own : String) (idx k cd : Nat) (r : vw_C) : Cond := if cd = 1 ∨ cd = 4 then .fieldLinkNest own idx (r.2.1 k).1 (r.2.1 k).2.1 (r.2.1 k).2.2.1 HOST else .fieldLink own idx (r.2.1 k).1 (r.2.1 k).2.1 (r.2.1 k).2.2.1
def FLok (F : MR) (q : AF) : Prop := ∃ r : vw_C, vwCl[q.2.1]? = some r ∧ q.2.2.1 < r.2.2 ∧ InW (fldW (my F).cls q.1 q.2.2.1 q.2.2.2.1 r) ∧ (q.2.2.2.1 = 0 ∨ q.2.2.2.1 = 1 → (r.2.1 q.2.2.1).2.2.2 = false) ∧ (q.2.2.2.1 = 2 → (r.2.1 q.2.2.1).2.2.2 = true ∧ (r.2.1 q.2.2.1).1 = (my F).cls ∧ (my F).name = "<init>")
def GOK (G : MR) : Prop := .code (my G) (mcc G) (mml G) (mret G) ∈ TBL ∧ .initialized (my G).cls ∈ TBL ∧ plainFor (my G) = true ∧ (my G).cls ≠ "java/lang/invoke/MethodHandle" ∧ (my G).cls ≠ "java/lang/invoke/VarHandle" ∧ (parseMethodDescriptor (my G).desc).map (fun d => d.parameters.length) = some (mnp G)
def CKok (MT : Nat → Option MR) (F : MR) (q : AK) : Prop :=
  (q.2.1 = 8 → .methodLink (my F).cls q.1 arraycopyName ∈ TBL) ∧ (q.2.1 = 9 → .methodLink (my F).cls q.1 objectInit ∈ TBL) ∧
  (q.2.1 < 8 → ∀ G, MT q.2.2.1 = some G → InW (if q.2.1 = 1 ∨ q.2.1 = 3 ∨ q.2.1 = 5 then Cond.methodLinkNest (my F).cls q.1 (my G) HOST else .methodLink (my F).cls q.1 (my G)) ∧ (q.2.1 = 0 ∨ q.2.1 = 1 → .instanceMethod (my G) ∈ TBL ∧ .selects (my G).cls (my G) (my G) ∈ TBL ∧ vwCl[mci G]?.map (fun r => r.1) = some (my G).cls) ∧ (q.2.1 = 2 ∨ q.2.1 = 3 → .static (my G) ∈ TBL) ∧ (q.2.1 = 4 ∨ q.2.1 = 5 → .instanceMethod (my G) ∈ TBL ∧ (my G).name = "<init>" ∧ mret G = none) ∧ (q.2.1 = 6 → .instanceMethod (my G) ∈ TBL ∧ .selects (my G).cls (my G) (my G) ∈ TBL ∧ (my G).cls = "java/lang/String"))
def KCok (F : MR) (q : AKc) : Prop := ∃ r : vw_C, vwCl[q.2.1]? = some r ∧ .classLink (my F).cls q.1 r.1 ∈ TBL
def XOK (F : MR) (q : AKs) : Prop := (q.2.1 = 0 → ((my F).cls, q.1, q.2.2.1) ∈ STRTAB) ∧ (q.2.1 = 1 → .fieldLink (my F).cls q.1 "java/lang/String" "value" "[B" ∈ TBL) ∧ (q.2.1 = 2 → .fieldLink (my F).cls q.1 "java/lang/String" "coder" "B" ∈ TBL) ∧ (q.2.1 = 3 → .fieldLink (my F).cls q.1 "java/lang/String" "COMPACT_STRINGS" "Z" ∈ TBL) ∧ (q.2.1 = 4 → .fieldLink (my F).cls q.1 "jdk/internal/util/Preconditions" "SIOOBE_FORMATTER" "Ljava/util/function/BiFunction;" ∈ TBL)
/-- a method's tables are right -/
def FOK (MT : Nat → Option MR) (F : MR) : Prop := (∀ q ∈ mcode F, IOK F q) ∧ (∀ q ∈ mfl F, FLok F q) ∧ (∀ q ∈ mcl F, CKok MT F q) ∧ (∀ q ∈ mki F, .constant (my F).cls q.1 q.2.1 ∈ TBL) ∧ (∀ q ∈ mkl F, .constantLong (my F).cls q.1 q.2.1 ∈ TBL) ∧ (∀ q ∈ mkc F, KCok F q) ∧ (∀ q ∈ mks F, XOK F q)
/-- what a frame of a method knows -/
def Ctx (p : Program) (s : State) (m : MethodId) (args : Array Value) (meth : Method) (c : Code) (F : MR) : Prop :=
  p.tables.exec = Jvm.exec ∧ c.code = mcc F ∧ meth.sig.returnType = mret F ∧ c.maxLocals = mml F ∧ s.vm.findClass (my F).cls = some m.cls ∧ meth.locks = false ∧ (∀ w ∈ TBL, w.before args s = true) ∧ ((my F).name = "<init>" → meth.name = "<init>") ∧ ∀ w, InW w → w.before args s = true


