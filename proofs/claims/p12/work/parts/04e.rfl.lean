/-! 04e.rfl -/
section
/-! the tables' entries by reduction -/
section RFW
variable {F G : MR} {MT : Nat → Option MR} {i j sl ci v : Nat} {C : String} {T : u_T} {N : Nat}
theorem AL_n {α : Type} {P : α → Prop} : ∀ q ∈ ([] : List α), P q := fun _ h => absurd h List.not_mem_nil
theorem AL_c {α : Type} {P : α → Prop} {a : α} {l : List α} (h : P a) (t : ∀ q ∈ l, P q) : ∀ q ∈ a :: l, P q := List.forall_mem_cons.mpr ⟨h, t⟩
theorem mI {l : List Cond} (i : Nat) {w : Cond} (h : l[i]? = some w) : w ∈ l := List.mem_of_getElem? h
theorem W_r {e : Nat} {w : Cond} (h : w ∈ chunk e) (g : goodWord w = true) : w ∈ TBL := List.mem_filter.mpr ⟨chunk_in h, g⟩
theorem N_r {e : Nat} {w : Cond} (h : w ∈ chunk e) (g : isNest w = true) : InW w := Or.inr (List.mem_filter.mpr ⟨chunk_in h, g⟩)
theorem FL_0 {a b e : Nat} (h1 : vwCl[ci]? = some (C, T, N)) (h2 : Nat.blt sl N = true) (h3 : (Cond.fieldLink (my F).cls i (T sl).1 (T sl).2.1 (T sl).2.2.1 : Cond) ∈ chunk e) (h4 : (T sl).2.2.2 = false) : FLok F (i, ci, sl, 0, a, b) :=
  ⟨(C, T, N), h1, Nat.blt_eq.mp h2, Or.inl (W_r h3 rfl), fun _ => h4, fun z => absurd (show 0 = 2 from z) (by decide)⟩
theorem FL_1 {a b e : Nat} (h1 : vwCl[ci]? = some (C, T, N)) (h2 : Nat.blt sl N = true) (h3 : (Cond.fieldLinkNest (my F).cls i (T sl).1 (T sl).2.1 (T sl).2.2.1 HOST : Cond) ∈ chunk e) (h4 : (T sl).2.2.2 = false) : FLok F (i, ci, sl, 1, a, b) :=
  ⟨(C, T, N), h1, Nat.blt_eq.mp h2, N_r h3 rfl, fun _ => h4, fun z => absurd (show 1 = 2 from z) (by decide)⟩
theorem FL_2 {a b e : Nat} (h1 : vwCl[ci]? = some (C, T, N)) (h2 : Nat.blt sl N = true) (h3 : (Cond.fieldLink (my F).cls i (T sl).1 (T sl).2.1 (T sl).2.2.1 : Cond) ∈ chunk e) (h4 : (T sl).2.2.2 = true) (h5 : (T sl).1 = (my F).cls) (h6 : (my F).name = "<init>") : FLok F (i, ci, sl, 2, a, b) :=
  ⟨(C, T, N), h1, Nat.blt_eq.mp h2, Or.inl (W_r h3 rfl), fun z => absurd (show 2 = 0 ∨ 2 = 1 from z) (by decide), fun _ => ⟨h4, h5, h6⟩⟩
theorem FL_3 {a b e : Nat} (h1 : vwCl[ci]? = some (C, T, N)) (h2 : Nat.blt sl N = true) (h3 : (Cond.fieldLink (my F).cls i (T sl).1 (T sl).2.1 (T sl).2.2.1 : Cond) ∈ chunk e) : FLok F (i, ci, sl, 3, a, b) :=
  ⟨(C, T, N), h1, Nat.blt_eq.mp h2, Or.inl (W_r h3 rfl), fun z => absurd (show 3 = 0 ∨ 3 = 1 from z) (by decide), fun z => absurd (show 3 = 2 from z) (by decide)⟩
theorem FL_4 {a b e : Nat} (h1 : vwCl[ci]? = some (C, T, N)) (h2 : Nat.blt sl N = true) (h3 : (Cond.fieldLinkNest (my F).cls i (T sl).1 (T sl).2.1 (T sl).2.2.1 HOST : Cond) ∈ chunk e) : FLok F (i, ci, sl, 4, a, b) :=
  ⟨(C, T, N), h1, Nat.blt_eq.mp h2, N_r h3 rfl, fun z => absurd (show 4 = 0 ∨ 4 = 1 from z) (by decide), fun z => absurd (show 4 = 2 from z) (by decide)⟩
def MFv (G : MR) : Prop := .instanceMethod (my G) ∈ TBL ∧ .selects (my G).cls (my G) (my G) ∈ TBL ∧ vwCl[mci G]?.map (fun r => r.1) = some (my G).cls
def MFj (G : MR) : Prop := .instanceMethod (my G) ∈ TBL ∧ .selects (my G).cls (my G) (my G) ∈ TBL ∧ (my G).cls = "java/lang/String"
def MFi (G : MR) : Prop := .instanceMethod (my G) ∈ TBL ∧ (my G).name = "<init>" ∧ mret G = none
theorem MFv_r (h1 : .instanceMethod (my G) ∈ TBL) (h2 : .selects (my G).cls (my G) (my G) ∈ TBL) (h3 : vwCl[mci G]?.map (fun r => r.1) = some (my G).cls) : MFv G := ⟨h1, h2, h3⟩
theorem MFj_r (h1 : .instanceMethod (my G) ∈ TBL) (h2 : .selects (my G).cls (my G) (my G) ∈ TBL) (h3 : (my G).cls = "java/lang/String") : MFj G := ⟨h1, h2, h3⟩
theorem MFi_r (h1 : .instanceMethod (my G) ∈ TBL) (h2 : (my G).name = "<init>") (h3 : mret G = none) : MFi G := ⟨h1, h2, h3⟩
theorem CK_8 {a b e : Nat} (h : (Cond.methodLink (my F).cls i arraycopyName : Cond) ∈ chunk e) : CKok MT F (i, 8, j, a, b) := ⟨fun _ => W_r h rfl, fun z => absurd (show 8 = 9 from z) (by decide), fun z => absurd (show 8 < 8 from z) (by decide)⟩
theorem CK_9 {a b e : Nat} (h : (Cond.methodLink (my F).cls i objectInit : Cond) ∈ chunk e) : CKok MT F (i, 9, j, a, b) := ⟨fun z => absurd (show 9 = 8 from z) (by decide), fun _ => W_r h rfl, fun z => absurd (show 9 < 8 from z) (by decide)⟩

theorem CK_0 {a b e : Nat} (hM : MT j = some G) (h : (Cond.methodLink (my F).cls i (my G) : Cond) ∈ chunk e) (m : MFv G) : CKok MT F (i, 0, j, a, b) := by
  refine ⟨fun z => absurd (show 0 = 8 from z) (by decide), fun z => absurd (show 0 = 9 from z) (by decide), fun _ G' hG => ?_⟩
  have e : some G = some G' := hM.symm.trans hG
  cases e
  have l : InW (Cond.methodLink (my F).cls i (my G)) := Or.inl (W_r h rfl)
  refine ⟨?_, fun _ => m, fun z => absurd (show 0 = 2 ∨ 0 = 3 from z) (by decide), fun z => absurd (show 0 = 4 ∨ 0 = 5 from z) (by decide), fun z => absurd (show 0 = 6 from z) (by decide)⟩
  rw [if_neg (by decide : ¬ ((0 : Nat) = 1 ∨ (0 : Nat) = 3 ∨ (0 : Nat) = 5))]
  exact l

theorem CK_1 {a b e : Nat} (hM : MT j = some G) (h : (Cond.methodLinkNest (my F).cls i (my G) HOST : Cond) ∈ chunk e) (m : MFv G) : CKok MT F (i, 1, j, a, b) := by
  refine ⟨fun z => absurd (show 1 = 8 from z) (by decide), fun z => absurd (show 1 = 9 from z) (by decide), fun _ G' hG => ?_⟩
  have e : some G = some G' := hM.symm.trans hG
  cases e
  have l : InW (Cond.methodLinkNest (my F).cls i (my G) HOST) := N_r h rfl
  refine ⟨?_, fun _ => m, fun z => absurd (show 1 = 2 ∨ 1 = 3 from z) (by decide), fun z => absurd (show 1 = 4 ∨ 1 = 5 from z) (by decide), fun z => absurd (show 1 = 6 from z) (by decide)⟩
  rw [if_pos (by decide : ((1 : Nat) = 1 ∨ (1 : Nat) = 3 ∨ (1 : Nat) = 5))]
  exact l

theorem CK_2 {a b e : Nat} (hM : MT j = some G) (h : (Cond.methodLink (my F).cls i (my G) : Cond) ∈ chunk e) (m : Cond.static (my G) ∈ TBL) : CKok MT F (i, 2, j, a, b) := by
  refine ⟨fun z => absurd (show 2 = 8 from z) (by decide), fun z => absurd (show 2 = 9 from z) (by decide), fun _ G' hG => ?_⟩
  have e : some G = some G' := hM.symm.trans hG
  cases e
  have l : InW (Cond.methodLink (my F).cls i (my G)) := Or.inl (W_r h rfl)
  refine ⟨?_, fun z => absurd (show 2 = 0 ∨ 2 = 1 from z) (by decide), fun _ => m, fun z => absurd (show 2 = 4 ∨ 2 = 5 from z) (by decide), fun z => absurd (show 2 = 6 from z) (by decide)⟩
  rw [if_neg (by decide : ¬ ((2 : Nat) = 1 ∨ (2 : Nat) = 3 ∨ (2 : Nat) = 5))]
  exact l

theorem CK_3 {a b e : Nat} (hM : MT j = some G) (h : (Cond.methodLinkNest (my F).cls i (my G) HOST : Cond) ∈ chunk e) (m : Cond.static (my G) ∈ TBL) : CKok MT F (i, 3, j, a, b) := by
  refine ⟨fun z => absurd (show 3 = 8 from z) (by decide), fun z => absurd (show 3 = 9 from z) (by decide), fun _ G' hG => ?_⟩
  have e : some G = some G' := hM.symm.trans hG
  cases e
  have l : InW (Cond.methodLinkNest (my F).cls i (my G) HOST) := N_r h rfl
  refine ⟨?_, fun z => absurd (show 3 = 0 ∨ 3 = 1 from z) (by decide), fun _ => m, fun z => absurd (show 3 = 4 ∨ 3 = 5 from z) (by decide), fun z => absurd (show 3 = 6 from z) (by decide)⟩
  rw [if_pos (by decide : ((3 : Nat) = 1 ∨ (3 : Nat) = 3 ∨ (3 : Nat) = 5))]
  exact l

theorem CK_4 {a b e : Nat} (hM : MT j = some G) (h : (Cond.methodLink (my F).cls i (my G) : Cond) ∈ chunk e) (m : MFi G) : CKok MT F (i, 4, j, a, b) := by
  refine ⟨fun z => absurd (show 4 = 8 from z) (by decide), fun z => absurd (show 4 = 9 from z) (by decide), fun _ G' hG => ?_⟩
  have e : some G = some G' := hM.symm.trans hG
  cases e
  have l : InW (Cond.methodLink (my F).cls i (my G)) := Or.inl (W_r h rfl)
  refine ⟨?_, fun z => absurd (show 4 = 0 ∨ 4 = 1 from z) (by decide), fun z => absurd (show 4 = 2 ∨ 4 = 3 from z) (by decide), fun _ => m, fun z => absurd (show 4 = 6 from z) (by decide)⟩
  rw [if_neg (by decide : ¬ ((4 : Nat) = 1 ∨ (4 : Nat) = 3 ∨ (4 : Nat) = 5))]
  exact l

theorem CK_5 {a b e : Nat} (hM : MT j = some G) (h : (Cond.methodLinkNest (my F).cls i (my G) HOST : Cond) ∈ chunk e) (m : MFi G) : CKok MT F (i, 5, j, a, b) := by
  refine ⟨fun z => absurd (show 5 = 8 from z) (by decide), fun z => absurd (show 5 = 9 from z) (by decide), fun _ G' hG => ?_⟩
  have e : some G = some G' := hM.symm.trans hG
  cases e
  have l : InW (Cond.methodLinkNest (my F).cls i (my G) HOST) := N_r h rfl
  refine ⟨?_, fun z => absurd (show 5 = 0 ∨ 5 = 1 from z) (by decide), fun z => absurd (show 5 = 2 ∨ 5 = 3 from z) (by decide), fun _ => m, fun z => absurd (show 5 = 6 from z) (by decide)⟩
  rw [if_pos (by decide : ((5 : Nat) = 1 ∨ (5 : Nat) = 3 ∨ (5 : Nat) = 5))]
  exact l

theorem CK_6 {a b e : Nat} (hM : MT j = some G) (h : (Cond.methodLink (my F).cls i (my G) : Cond) ∈ chunk e) (m : MFj G) : CKok MT F (i, 6, j, a, b) := by
  refine ⟨fun z => absurd (show 6 = 8 from z) (by decide), fun z => absurd (show 6 = 9 from z) (by decide), fun _ G' hG => ?_⟩
  have e : some G = some G' := hM.symm.trans hG
  cases e
  have l : InW (Cond.methodLink (my F).cls i (my G)) := Or.inl (W_r h rfl)
  refine ⟨?_, fun z => absurd (show 6 = 0 ∨ 6 = 1 from z) (by decide), fun z => absurd (show 6 = 2 ∨ 6 = 3 from z) (by decide), fun z => absurd (show 6 = 4 ∨ 6 = 5 from z) (by decide), fun _ => m⟩
  rw [if_neg (by decide : ¬ ((6 : Nat) = 1 ∨ (6 : Nat) = 3 ∨ (6 : Nat) = 5))]
  exact l

theorem KC_r {a b e : Nat} (h1 : vwCl[ci]? = some (C, T, N)) (h : (Cond.classLink (my F).cls i C : Cond) ∈ chunk e) : KCok F (i, ci, a, b) := ⟨(C, T, N), h1, W_r h rfl⟩
theorem XS_0 (n : Nat) {a b : Nat} (h : STRTAB[n]? = some ((my F).cls, i, v)) : XOK F (i, 0, v, a, b) := ⟨fun _ => List.mem_of_getElem? h, fun z => absurd (show 0 = 1 from z) (by decide), fun z => absurd (show 0 = 2 from z) (by decide), fun z => absurd (show 0 = 3 from z) (by decide), fun z => absurd (show 0 = 4 from z) (by decide)⟩
theorem XS_1 {a b e : Nat} (h : (Cond.fieldLink (my F).cls i "java/lang/String" "value" "[B" : Cond) ∈ chunk e) : XOK F (i, 1, v, a, b) := ⟨fun z => absurd (show 1 = 0 from z) (by decide), fun _ => W_r h rfl, fun z => absurd (show 1 = 2 from z) (by decide), fun z => absurd (show 1 = 3 from z) (by decide), fun z => absurd (show 1 = 4 from z) (by decide)⟩
theorem XS_2 {a b e : Nat} (h : (Cond.fieldLink (my F).cls i "java/lang/String" "coder" "B" : Cond) ∈ chunk e) : XOK F (i, 2, v, a, b) := ⟨fun z => absurd (show 2 = 0 from z) (by decide), fun z => absurd (show 2 = 1 from z) (by decide), fun _ => W_r h rfl, fun z => absurd (show 2 = 3 from z) (by decide), fun z => absurd (show 2 = 4 from z) (by decide)⟩
theorem XS_3 {a b e : Nat} (h : (Cond.fieldLink (my F).cls i "java/lang/String" "COMPACT_STRINGS" "Z" : Cond) ∈ chunk e) : XOK F (i, 3, v, a, b) := ⟨fun z => absurd (show 3 = 0 from z) (by decide), fun z => absurd (show 3 = 1 from z) (by decide), fun z => absurd (show 3 = 2 from z) (by decide), fun _ => W_r h rfl, fun z => absurd (show 3 = 4 from z) (by decide)⟩
theorem XS_4 {a b e : Nat} (h : (Cond.fieldLink (my F).cls i "jdk/internal/util/Preconditions" "SIOOBE_FORMATTER" "Ljava/util/function/BiFunction;" : Cond) ∈ chunk e) : XOK F (i, 4, v, a, b) := ⟨fun z => absurd (show 4 = 0 from z) (by decide), fun z => absurd (show 4 = 1 from z) (by decide), fun z => absurd (show 4 = 2 from z) (by decide), fun z => absurd (show 4 = 3 from z) (by decide), fun _ => W_r h rfl⟩
theorem GK_r {e : Nat} (h1 : (Cond.code (my G) (mcc G) (mml G) (mret G) : Cond) ∈ chunk e) (h2 : .initialized (my G).cls ∈ TBL) (h3 : plainFor (my G) = true) (h4 : (my G).cls ≠ "java/lang/invoke/MethodHandle" ∧ (my G).cls ≠ "java/lang/invoke/VarHandle") (h6 : (parseMethodDescriptor (my G).desc).map (fun d => d.parameters.length) = some (mnp G)) : GOK G := ⟨W_r h1 rfl, h2, h3, h4.1, h4.2, h6⟩
theorem FK_r (h1 : ∀ q ∈ mcode F, IOK F q) (h2 : ∀ q ∈ mfl F, FLok F q) (h3 : ∀ q ∈ mcl F, CKok MT F q) (h4 : ∀ q ∈ mki F, .constant (my F).cls q.1 q.2.1 ∈ TBL) (h5 : ∀ q ∈ mkl F, .constantLong (my F).cls q.1 q.2.1 ∈ TBL) (h6 : ∀ q ∈ mkc F, KCok F q) (h7 : ∀ q ∈ mks F, XOK F q) : FOK MT F := ⟨h1, h2, h3, h4, h5, h6, h7⟩
theorem FW_r (h1 : walf (mcode F) 0 ((mcc F).data.toList.drop 0) = true) (h2 : (mcode F).all (fun q => !isSw q.2.1 || chkI F q) = true) : ∀ q ∈ mcode F, IOK F q := WLF 0 h1 h2
theorem plain_of {x : MethodName} (h : plainName x.cls = true) : plainFor x = true := by unfold plainFor; rw [h]; rfl
end RFW
end
/-! 04f.blk -/
section
def bk_1_0 : List Cond := [(Jvm.Cond.initialized "DoorSchoolLaw"), (Jvm.Cond.initialized "DoorSchool"), (Jvm.Cond.initialized "DoorSchool$Tape"), (Jvm.Cond.initialized "DoorSchool$Reader"), (Jvm.Cond.initialized "DoorSchool$Rules"), (Jvm.Cond.initialized "DoorSchool$Learner"), (Jvm.Cond.initialized "java/lang/Integer"), (Jvm.Cond.initialized "DoorSchool$Hanging"), (Jvm.Cond.initialized "DoorSchool$Timetable"), (Jvm.Cond.initialized "DoorSchool$Plan"), (Jvm.Cond.initialized "DoorSchool$Lessons"), (Jvm.Cond.initialized "DoorSchool$Door"), (Jvm.Cond.initialized "DoorSchool$Slot"), (Jvm.Cond.initialized "DoorSchoolModel"), (Jvm.Cond.initialized "java/util/Arrays"), (Jvm.Cond.initialized "java/lang/Math")]
def bk_1_1 : List Cond := [(Jvm.Cond.initialized "java/lang/String"), (Jvm.Cond.initialized "java/lang/StringLatin1"), (Jvm.Cond.initialized "jdk/internal/util/Preconditions"), (Jvm.Cond.initialized "java/lang/StringUTF16"), (Jvm.Cond.initialized "java/lang/System"), (Jvm.Cond.classLink "DoorSchoolLaw" (7 : Nat) "DoorSchool"), (Jvm.Cond.instantiable "DoorSchool" (11 : Nat)), (Jvm.Cond.methodLink "DoorSchoolLaw" (9 : Nat) ({ cls := "DoorSchool", name := "<init>", desc := "()V" } : Jvm.MethodName)), (Jvm.Cond.instanceMethod ({ cls := "DoorSchool", name := "<init>", desc := "()V" } : Jvm.MethodName)), (Jvm.Cond.code ({ cls := "DoorSchool", name := "<init>", desc := "()V" } : Jvm.MethodName) prog_1_method_1_code (2 : Nat) (Option.none : Option Jvm.ClassFile.FieldType)), (Jvm.Cond.methodLink "DoorSchool" (1 : Nat) ({ cls := "java/lang/Object", name := "<init>", desc := "()V" } : Jvm.MethodName)), (Jvm.Cond.instanceMethod ({ cls := "java/lang/Object", name := "<init>", desc := "()V" } : Jvm.MethodName)), (Jvm.Cond.code ({ cls := "java/lang/Object", name := "<init>", desc := "()V" } : Jvm.MethodName) object_method_1_code (1 : Nat) (Option.none : Option Jvm.ClassFile.FieldType)), (Jvm.Cond.classLink "DoorSchool" (7 : Nat) "DoorSchool$Tape"), (Jvm.Cond.instantiable "DoorSchool$Tape" (2 : Nat)), (Jvm.Cond.methodLinkNest "DoorSchool" (9 : Nat) ({ cls := "DoorSchool$Tape", name := "<init>", desc := "()V" } : Jvm.MethodName) "DoorSchool")]
def bk_1_2 : List Cond := [(Jvm.Cond.instanceMethod ({ cls := "DoorSchool$Tape", name := "<init>", desc := "()V" } : Jvm.MethodName)), (Jvm.Cond.code ({ cls := "DoorSchool$Tape", name := "<init>", desc := "()V" } : Jvm.MethodName) prog_10_method_1_code (1 : Nat) (Option.none : Option Jvm.ClassFile.FieldType)), (Jvm.Cond.methodLink "DoorSchool$Tape" (3 : Nat) ({ cls := "java/lang/Object", name := "<init>", desc := "()V" } : Jvm.MethodName)), (Jvm.Cond.fieldLink "DoorSchool$Tape" (9 : Nat) "DoorSchool$Tape" "bytes" "[B"), (Jvm.Cond.fieldLinkNest "DoorSchool$Reader" (210 : Nat) "DoorSchool$Tape" "bytes" "[B" "DoorSchool"), (Jvm.Cond.fieldLinkNest "DoorSchool" (80 : Nat) "DoorSchool$Tape" "size" "I" "DoorSchool"), (Jvm.Cond.fieldLink "DoorSchool$Tape" (15 : Nat) "DoorSchool$Tape" "size" "I"), (Jvm.Cond.fieldLinkNest "DoorSchool$Reader" (220 : Nat) "DoorSchool$Tape" "size" "I" "DoorSchool"), (Jvm.Cond.laysFinal "DoorSchool$Tape" "DoorSchool$Tape" "bytes" "[B"), (Jvm.Cond.soleField "DoorSchool$Tape" "bytes"), (Jvm.Cond.lays "DoorSchool$Tape" "DoorSchool$Tape" "size" "I"), (Jvm.Cond.soleField "DoorSchool$Tape" "size"), (Jvm.Cond.superclass "DoorSchool$Tape" "java/lang/Object"), (Jvm.Cond.arrayClass Jvm.ClassFile.FieldType.byte), (Jvm.Cond.classLink "DoorSchool" (16 : Nat) "DoorSchool$Reader"), (Jvm.Cond.instantiable "DoorSchool$Reader" (7 : Nat))]
def bk_1_3 : List Cond := [(Jvm.Cond.methodLinkNest "DoorSchool" (18 : Nat) ({ cls := "DoorSchool$Reader", name := "<init>", desc := "(LDoorSchool$Tape;)V" } : Jvm.MethodName) "DoorSchool"), (Jvm.Cond.instanceMethod ({ cls := "DoorSchool$Reader", name := "<init>", desc := "(LDoorSchool$Tape;)V" } : Jvm.MethodName)), (Jvm.Cond.code ({ cls := "DoorSchool$Reader", name := "<init>", desc := "(LDoorSchool$Tape;)V" } : Jvm.MethodName) prog_7_method_1_code (2 : Nat) (Option.none : Option Jvm.ClassFile.FieldType)), (Jvm.Cond.methodLink "DoorSchool$Reader" (3 : Nat) ({ cls := "java/lang/Object", name := "<init>", desc := "()V" } : Jvm.MethodName)), (Jvm.Cond.fieldLink "DoorSchool$Reader" (15 : Nat) "DoorSchool$Reader" "tape" "LDoorSchool$Tape;"), (Jvm.Cond.fieldLink "DoorSchool$Reader" (33 : Nat) "DoorSchool$Reader" "kind" "I"), (Jvm.Cond.fieldLink "DoorSchool$Reader" (202 : Nat) "DoorSchool$Reader" "start" "I"), (Jvm.Cond.fieldLink "DoorSchool$Reader" (22 : Nat) "DoorSchool$Reader" "stop" "I"), (Jvm.Cond.fieldLink "DoorSchool$Reader" (199 : Nat) "DoorSchool$Reader" "value" "I"), (Jvm.Cond.fieldLink "DoorSchool$Reader" (19 : Nat) "DoorSchool$Reader" "fault" "I"), (Jvm.Cond.fieldLinkNest "DoorSchool" (92 : Nat) "DoorSchool$Reader" "fault" "I" "DoorSchool"), (Jvm.Cond.fieldLink "DoorSchool$Reader" (9 : Nat) "DoorSchool$Reader" "place" "I"), (Jvm.Cond.fieldLinkNest "DoorSchool" (104 : Nat) "DoorSchool$Reader" "place" "I" "DoorSchool"), (Jvm.Cond.laysFinal "DoorSchool$Reader" "DoorSchool$Reader" "tape" "LDoorSchool$Tape;"), (Jvm.Cond.soleField "DoorSchool$Reader" "tape"), (Jvm.Cond.lays "DoorSchool$Reader" "DoorSchool$Reader" "kind" "I")]
def bk_1_4 : List Cond := [(Jvm.Cond.soleField "DoorSchool$Reader" "kind"), (Jvm.Cond.lays "DoorSchool$Reader" "DoorSchool$Reader" "start" "I"), (Jvm.Cond.soleField "DoorSchool$Reader" "start"), (Jvm.Cond.lays "DoorSchool$Reader" "DoorSchool$Reader" "stop" "I"), (Jvm.Cond.soleField "DoorSchool$Reader" "stop"), (Jvm.Cond.lays "DoorSchool$Reader" "DoorSchool$Reader" "value" "I"), (Jvm.Cond.soleField "DoorSchool$Reader" "value"), (Jvm.Cond.lays "DoorSchool$Reader" "DoorSchool$Reader" "fault" "I"), (Jvm.Cond.soleField "DoorSchool$Reader" "fault"), (Jvm.Cond.lays "DoorSchool$Reader" "DoorSchool$Reader" "place" "I"), (Jvm.Cond.soleField "DoorSchool$Reader" "place"), (Jvm.Cond.superclass "DoorSchool$Reader" "java/lang/Object"), (Jvm.Cond.classLink "DoorSchool" (25 : Nat) "DoorSchool$Rules"), (Jvm.Cond.instantiable "DoorSchool$Rules" (5 : Nat)), (Jvm.Cond.methodLinkNest "DoorSchool" (27 : Nat) ({ cls := "DoorSchool$Rules", name := "<init>", desc := "()V" } : Jvm.MethodName) "DoorSchool"), (Jvm.Cond.instanceMethod ({ cls := "DoorSchool$Rules", name := "<init>", desc := "()V" } : Jvm.MethodName))]
def bk_1_5 : List Cond := [(Jvm.Cond.code ({ cls := "DoorSchool$Rules", name := "<init>", desc := "()V" } : Jvm.MethodName) prog_8_method_1_code (1 : Nat) (Option.none : Option Jvm.ClassFile.FieldType)), (Jvm.Cond.methodLink "DoorSchool$Rules" (3 : Nat) ({ cls := "java/lang/Object", name := "<init>", desc := "()V" } : Jvm.MethodName)), (Jvm.Cond.fieldLink "DoorSchool$Rules" (21 : Nat) "DoorSchool$Rules" "knocks" "I"), (Jvm.Cond.fieldLinkNest "DoorSchool$Learner" (39 : Nat) "DoorSchool$Rules" "knocks" "I" "DoorSchool"), (Jvm.Cond.fieldLink "DoorSchool$Rules" (25 : Nat) "DoorSchool$Rules" "size" "I"), (Jvm.Cond.fieldLinkNest "DoorSchool$Learner" (77 : Nat) "DoorSchool$Rules" "size" "I" "DoorSchool"), (Jvm.Cond.fieldLink "DoorSchool$Rules" (9 : Nat) "DoorSchool$Rules" "signs" "[I"), (Jvm.Cond.fieldLinkNest "DoorSchool" (200 : Nat) "DoorSchool$Rules" "signs" "[I" "DoorSchool"), (Jvm.Cond.fieldLink "DoorSchool$Rules" (15 : Nat) "DoorSchool$Rules" "there" "[I"), (Jvm.Cond.fieldLinkNest "DoorSchool" (202 : Nat) "DoorSchool$Rules" "there" "[I" "DoorSchool"), (Jvm.Cond.fieldLink "DoorSchool$Rules" (18 : Nat) "DoorSchool$Rules" "deeds" "[I"), (Jvm.Cond.fieldLinkNest "DoorSchool$Learner" (36 : Nat) "DoorSchool$Rules" "deeds" "[I" "DoorSchool"), (Jvm.Cond.lays "DoorSchool$Rules" "DoorSchool$Rules" "knocks" "I"), (Jvm.Cond.soleField "DoorSchool$Rules" "knocks"), (Jvm.Cond.lays "DoorSchool$Rules" "DoorSchool$Rules" "size" "I"), (Jvm.Cond.soleField "DoorSchool$Rules" "size")]
def bk_1_6 : List Cond := [(Jvm.Cond.laysFinal "DoorSchool$Rules" "DoorSchool$Rules" "signs" "[I"), (Jvm.Cond.soleField "DoorSchool$Rules" "signs"), (Jvm.Cond.laysFinal "DoorSchool$Rules" "DoorSchool$Rules" "there" "[I"), (Jvm.Cond.soleField "DoorSchool$Rules" "there"), (Jvm.Cond.laysFinal "DoorSchool$Rules" "DoorSchool$Rules" "deeds" "[I"), (Jvm.Cond.soleField "DoorSchool$Rules" "deeds"), (Jvm.Cond.superclass "DoorSchool$Rules" "java/lang/Object"), (Jvm.Cond.arrayClass Jvm.ClassFile.FieldType.int), (Jvm.Cond.classLink "DoorSchool" (32 : Nat) "DoorSchool$Learner"), (Jvm.Cond.instantiable "DoorSchool$Learner" (2 : Nat)), (Jvm.Cond.methodLinkNest "DoorSchool" (34 : Nat) ({ cls := "DoorSchool$Learner", name := "<init>", desc := "(LDoorSchool$Rules;)V" } : Jvm.MethodName) "DoorSchool"), (Jvm.Cond.instanceMethod ({ cls := "DoorSchool$Learner", name := "<init>", desc := "(LDoorSchool$Rules;)V" } : Jvm.MethodName)), (Jvm.Cond.code ({ cls := "DoorSchool$Learner", name := "<init>", desc := "(LDoorSchool$Rules;)V" } : Jvm.MethodName) prog_4_method_1_code (4 : Nat) (Option.none : Option Jvm.ClassFile.FieldType)), (Jvm.Cond.methodLink "DoorSchool$Learner" (3 : Nat) ({ cls := "java/lang/Object", name := "<init>", desc := "()V" } : Jvm.MethodName)), (Jvm.Cond.methodLink "DoorSchool$Learner" (19 : Nat) ({ cls := "java/lang/Integer", name := "bitCount", desc := "(I)I" } : Jvm.MethodName)), (Jvm.Cond.static ({ cls := "java/lang/Integer", name := "bitCount", desc := "(I)I" } : Jvm.MethodName))]
def bk_1_7 : List Cond := [(Jvm.Cond.code ({ cls := "java/lang/Integer", name := "bitCount", desc := "(I)I" } : Jvm.MethodName) prog_14_method_49_code (1 : Nat) (Option.some Jvm.ClassFile.FieldType.int)), (Jvm.Cond.constant "java/lang/Integer" (265 : Nat) (1431655765 : Int32)), (Jvm.Cond.constant "java/lang/Integer" (266 : Nat) (858993459 : Int32)), (Jvm.Cond.constant "java/lang/Integer" (267 : Nat) (252645135 : Int32)), (Jvm.Cond.fieldLink "DoorSchool$Learner" (15 : Nat) "DoorSchool$Learner" "rules" "LDoorSchool$Rules;"), (Jvm.Cond.fieldLink "DoorSchool$Learner" (11 : Nat) "DoorSchool$Learner" "apart" "[I"), (Jvm.Cond.laysFinal "DoorSchool$Learner" "DoorSchool$Learner" "rules" "LDoorSchool$Rules;"), (Jvm.Cond.soleField "DoorSchool$Learner" "rules"), (Jvm.Cond.laysFinal "DoorSchool$Learner" "DoorSchool$Learner" "apart" "[I"), (Jvm.Cond.soleField "DoorSchool$Learner" "apart"), (Jvm.Cond.superclass "DoorSchool$Learner" "java/lang/Object"), (Jvm.Cond.classLink "DoorSchool" (41 : Nat) "DoorSchool$Hanging"), (Jvm.Cond.instantiable "DoorSchool$Hanging" (6 : Nat)), (Jvm.Cond.methodLinkNest "DoorSchool" (43 : Nat) ({ cls := "DoorSchool$Hanging", name := "<init>", desc := "()V" } : Jvm.MethodName) "DoorSchool"), (Jvm.Cond.instanceMethod ({ cls := "DoorSchool$Hanging", name := "<init>", desc := "()V" } : Jvm.MethodName)), (Jvm.Cond.code ({ cls := "DoorSchool$Hanging", name := "<init>", desc := "()V" } : Jvm.MethodName) prog_3_method_1_code (1 : Nat) (Option.none : Option Jvm.ClassFile.FieldType))]
def bk_1_8 : List Cond := [(Jvm.Cond.methodLink "DoorSchool$Hanging" (3 : Nat) ({ cls := "java/lang/Object", name := "<init>", desc := "()V" } : Jvm.MethodName)), (Jvm.Cond.fieldLink "DoorSchool$Hanging" (9 : Nat) "DoorSchool$Hanging" "amiss" "[I"), (Jvm.Cond.fieldLinkNest "DoorSchool" (401 : Nat) "DoorSchool$Hanging" "amiss" "[I" "DoorSchool"), (Jvm.Cond.fieldLink "DoorSchool$Hanging" (15 : Nat) "DoorSchool$Hanging" "row" "[I"), (Jvm.Cond.fieldLink "DoorSchool$Hanging" (18 : Nat) "DoorSchool$Hanging" "firstRow" "[I"), (Jvm.Cond.fieldLinkNest "DoorSchool" (316 : Nat) "DoorSchool$Hanging" "firstRow" "[I" "DoorSchool"), (Jvm.Cond.fieldLink "DoorSchool$Hanging" (21 : Nat) "DoorSchool$Hanging" "doorCount" "I"), (Jvm.Cond.fieldLink "DoorSchool$Hanging" (25 : Nat) "DoorSchool$Hanging" "houseCount" "I"), (Jvm.Cond.fieldLink "DoorSchool$Hanging" (28 : Nat) "DoorSchool$Hanging" "fewest" "I"), (Jvm.Cond.fieldLinkNest "DoorSchool" (313 : Nat) "DoorSchool$Hanging" "fewest" "I" "DoorSchool"), (Jvm.Cond.laysFinal "DoorSchool$Hanging" "DoorSchool$Hanging" "amiss" "[I"), (Jvm.Cond.soleField "DoorSchool$Hanging" "amiss"), (Jvm.Cond.laysFinal "DoorSchool$Hanging" "DoorSchool$Hanging" "row" "[I"), (Jvm.Cond.soleField "DoorSchool$Hanging" "row"), (Jvm.Cond.laysFinal "DoorSchool$Hanging" "DoorSchool$Hanging" "firstRow" "[I"), (Jvm.Cond.soleField "DoorSchool$Hanging" "firstRow")]
def bk_1_9 : List Cond := [(Jvm.Cond.lays "DoorSchool$Hanging" "DoorSchool$Hanging" "doorCount" "I"), (Jvm.Cond.soleField "DoorSchool$Hanging" "doorCount"), (Jvm.Cond.lays "DoorSchool$Hanging" "DoorSchool$Hanging" "houseCount" "I"), (Jvm.Cond.soleField "DoorSchool$Hanging" "houseCount"), (Jvm.Cond.lays "DoorSchool$Hanging" "DoorSchool$Hanging" "fewest" "I"), (Jvm.Cond.soleField "DoorSchool$Hanging" "fewest"), (Jvm.Cond.superclass "DoorSchool$Hanging" "java/lang/Object"), (Jvm.Cond.classLink "DoorSchool" (48 : Nat) "DoorSchool$Timetable"), (Jvm.Cond.instantiable "DoorSchool$Timetable" (5 : Nat)), (Jvm.Cond.methodLinkNest "DoorSchool" (50 : Nat) ({ cls := "DoorSchool$Timetable", name := "<init>", desc := "()V" } : Jvm.MethodName) "DoorSchool"), (Jvm.Cond.instanceMethod ({ cls := "DoorSchool$Timetable", name := "<init>", desc := "()V" } : Jvm.MethodName)), (Jvm.Cond.code ({ cls := "DoorSchool$Timetable", name := "<init>", desc := "()V" } : Jvm.MethodName) prog_11_method_1_code (1 : Nat) (Option.none : Option Jvm.ClassFile.FieldType)), (Jvm.Cond.methodLink "DoorSchool$Timetable" (3 : Nat) ({ cls := "java/lang/Object", name := "<init>", desc := "()V" } : Jvm.MethodName)), (Jvm.Cond.fieldLink "DoorSchool$Timetable" (11 : Nat) "DoorSchool$Timetable" "busy" "[I"), (Jvm.Cond.fieldLink "DoorSchool$Timetable" (15 : Nat) "DoorSchool$Timetable" "begins" "[I"), (Jvm.Cond.fieldLink "DoorSchool$Timetable" (18 : Nat) "DoorSchool$Timetable" "firstBegins" "[I")]
def bk_1_10 : List Cond := [(Jvm.Cond.fieldLinkNest "DoorSchool" (347 : Nat) "DoorSchool$Timetable" "firstBegins" "[I" "DoorSchool"), (Jvm.Cond.fieldLink "DoorSchool$Timetable" (21 : Nat) "DoorSchool$Timetable" "teachers" "I"), (Jvm.Cond.fieldLink "DoorSchool$Timetable" (25 : Nat) "DoorSchool$Timetable" "soonest" "I"), (Jvm.Cond.laysFinal "DoorSchool$Timetable" "DoorSchool$Timetable" "busy" "[I"), (Jvm.Cond.soleField "DoorSchool$Timetable" "busy"), (Jvm.Cond.laysFinal "DoorSchool$Timetable" "DoorSchool$Timetable" "begins" "[I"), (Jvm.Cond.soleField "DoorSchool$Timetable" "begins"), (Jvm.Cond.laysFinal "DoorSchool$Timetable" "DoorSchool$Timetable" "firstBegins" "[I"), (Jvm.Cond.soleField "DoorSchool$Timetable" "firstBegins"), (Jvm.Cond.lays "DoorSchool$Timetable" "DoorSchool$Timetable" "teachers" "I"), (Jvm.Cond.soleField "DoorSchool$Timetable" "teachers"), (Jvm.Cond.lays "DoorSchool$Timetable" "DoorSchool$Timetable" "soonest" "I"), (Jvm.Cond.soleField "DoorSchool$Timetable" "soonest"), (Jvm.Cond.superclass "DoorSchool$Timetable" "java/lang/Object"), (Jvm.Cond.classLink "DoorSchool" (55 : Nat) "DoorSchool$Plan"), (Jvm.Cond.instantiable "DoorSchool$Plan" (16 : Nat))]
def bk_1_11 : List Cond := [(Jvm.Cond.methodLinkNest "DoorSchool" (57 : Nat) ({ cls := "DoorSchool$Plan", name := "<init>", desc := "()V" } : Jvm.MethodName) "DoorSchool"), (Jvm.Cond.instanceMethod ({ cls := "DoorSchool$Plan", name := "<init>", desc := "()V" } : Jvm.MethodName)), (Jvm.Cond.code ({ cls := "DoorSchool$Plan", name := "<init>", desc := "()V" } : Jvm.MethodName) prog_6_method_1_code (2 : Nat) (Option.none : Option Jvm.ClassFile.FieldType)), (Jvm.Cond.methodLink "DoorSchool$Plan" (3 : Nat) ({ cls := "java/lang/Object", name := "<init>", desc := "()V" } : Jvm.MethodName)), (Jvm.Cond.classLink "DoorSchool$Plan" (9 : Nat) "DoorSchool$Door"), (Jvm.Cond.arrayOver (Jvm.ClassFile.FieldType.object "DoorSchool$Door")), (Jvm.Cond.classLink "DoorSchool$Plan" (17 : Nat) "DoorSchool$Lessons"), (Jvm.Cond.instantiable "DoorSchool$Lessons" (3 : Nat)), (Jvm.Cond.methodLinkNest "DoorSchool$Plan" (19 : Nat) ({ cls := "DoorSchool$Lessons", name := "<init>", desc := "()V" } : Jvm.MethodName) "DoorSchool"), (Jvm.Cond.instanceMethod ({ cls := "DoorSchool$Lessons", name := "<init>", desc := "()V" } : Jvm.MethodName)), (Jvm.Cond.code ({ cls := "DoorSchool$Lessons", name := "<init>", desc := "()V" } : Jvm.MethodName) prog_5_method_1_code (1 : Nat) (Option.none : Option Jvm.ClassFile.FieldType)), (Jvm.Cond.methodLink "DoorSchool$Lessons" (3 : Nat) ({ cls := "java/lang/Object", name := "<init>", desc := "()V" } : Jvm.MethodName)), (Jvm.Cond.fieldLink "DoorSchool$Lessons" (11 : Nat) "DoorSchool$Lessons" "knocks" "[I"), (Jvm.Cond.fieldLinkNest "DoorSchool" (136 : Nat) "DoorSchool$Lessons" "knocks" "[I" "DoorSchool"), (Jvm.Cond.fieldLink "DoorSchool$Lessons" (15 : Nat) "DoorSchool$Lessons" "opens" "[I"), (Jvm.Cond.fieldLinkNest "DoorSchool$Learner" (49 : Nat) "DoorSchool$Lessons" "opens" "[I" "DoorSchool")]
def bk_1_12 : List Cond := [(Jvm.Cond.fieldLinkNest "DoorSchool" (140 : Nat) "DoorSchool$Lessons" "opens" "[I" "DoorSchool"), (Jvm.Cond.fieldLink "DoorSchool$Lessons" (18 : Nat) "DoorSchool$Lessons" "size" "I"), (Jvm.Cond.fieldLinkNest "DoorSchool$Door" (28 : Nat) "DoorSchool$Lessons" "size" "I" "DoorSchool"), (Jvm.Cond.fieldLinkNest "DoorSchool$Plan" (54 : Nat) "DoorSchool$Lessons" "size" "I" "DoorSchool"), (Jvm.Cond.fieldLinkNest "DoorSchool$Reader" (135 : Nat) "DoorSchool$Lessons" "size" "I" "DoorSchool"), (Jvm.Cond.fieldLinkNest "DoorSchool" (127 : Nat) "DoorSchool$Lessons" "size" "I" "DoorSchool"), (Jvm.Cond.laysFinal "DoorSchool$Lessons" "DoorSchool$Lessons" "knocks" "[I"), (Jvm.Cond.soleField "DoorSchool$Lessons" "knocks"), (Jvm.Cond.laysFinal "DoorSchool$Lessons" "DoorSchool$Lessons" "opens" "[I"), (Jvm.Cond.soleField "DoorSchool$Lessons" "opens"), (Jvm.Cond.lays "DoorSchool$Lessons" "DoorSchool$Lessons" "size" "I"), (Jvm.Cond.soleField "DoorSchool$Lessons" "size"), (Jvm.Cond.superclass "DoorSchool$Lessons" "java/lang/Object"), (Jvm.Cond.instantiable "DoorSchool$Door" (4 : Nat)), (Jvm.Cond.methodLinkNest "DoorSchool$Plan" (40 : Nat) ({ cls := "DoorSchool$Door", name := "<init>", desc := "()V" } : Jvm.MethodName) "DoorSchool"), (Jvm.Cond.instanceMethod ({ cls := "DoorSchool$Door", name := "<init>", desc := "()V" } : Jvm.MethodName))]
def bk_1_13 : List Cond := [(Jvm.Cond.code ({ cls := "DoorSchool$Door", name := "<init>", desc := "()V" } : Jvm.MethodName) prog_2_method_1_code (1 : Nat) (Option.none : Option Jvm.ClassFile.FieldType)), (Jvm.Cond.methodLink "DoorSchool$Door" (3 : Nat) ({ cls := "java/lang/Object", name := "<init>", desc := "()V" } : Jvm.MethodName)), (Jvm.Cond.classLink "DoorSchool$Door" (9 : Nat) "DoorSchool$Lessons"), (Jvm.Cond.methodLinkNest "DoorSchool$Door" (11 : Nat) ({ cls := "DoorSchool$Lessons", name := "<init>", desc := "()V" } : Jvm.MethodName) "DoorSchool"), (Jvm.Cond.fieldLink "DoorSchool$Door" (12 : Nat) "DoorSchool$Door" "lessons" "LDoorSchool$Lessons;"), (Jvm.Cond.fieldLinkNest "DoorSchool$Reader" (131 : Nat) "DoorSchool$Door" "lessons" "LDoorSchool$Lessons;" "DoorSchool"), (Jvm.Cond.fieldLinkNest "DoorSchool" (123 : Nat) "DoorSchool$Door" "lessons" "LDoorSchool$Lessons;" "DoorSchool"), (Jvm.Cond.fieldLink "DoorSchool$Door" (22 : Nat) "DoorSchool$Door" "way" "I"), (Jvm.Cond.fieldLinkNest "DoorSchool" (115 : Nat) "DoorSchool$Door" "way" "I" "DoorSchool"), (Jvm.Cond.fieldLink "DoorSchool$Door" (25 : Nat) "DoorSchool$Door" "slips" "I"), (Jvm.Cond.fieldLinkNest "DoorSchool" (120 : Nat) "DoorSchool$Door" "slips" "I" "DoorSchool"), (Jvm.Cond.fieldLink "DoorSchool$Door" (18 : Nat) "DoorSchool$Door" "copies" "I"), (Jvm.Cond.fieldLinkNest "DoorSchool" (130 : Nat) "DoorSchool$Door" "copies" "I" "DoorSchool"), (Jvm.Cond.fieldLinkNest "DoorSchool$Reader" (157 : Nat) "DoorSchool$Door" "copies" "I" "DoorSchool"), (Jvm.Cond.fieldLinkNest "DoorSchool$Plan" (103 : Nat) "DoorSchool$Door" "copies" "I" "DoorSchool"), (Jvm.Cond.laysFinal "DoorSchool$Door" "DoorSchool$Door" "lessons" "LDoorSchool$Lessons;")]
def bk_1_14 : List Cond := [(Jvm.Cond.soleField "DoorSchool$Door" "lessons"), (Jvm.Cond.lays "DoorSchool$Door" "DoorSchool$Door" "way" "I"), (Jvm.Cond.soleField "DoorSchool$Door" "way"), (Jvm.Cond.lays "DoorSchool$Door" "DoorSchool$Door" "slips" "I"), (Jvm.Cond.soleField "DoorSchool$Door" "slips"), (Jvm.Cond.lays "DoorSchool$Door" "DoorSchool$Door" "copies" "I"), (Jvm.Cond.soleField "DoorSchool$Door" "copies"), (Jvm.Cond.superclass "DoorSchool$Door" "java/lang/Object"), (Jvm.Cond.fieldLink "DoorSchool$Plan" (41 : Nat) "DoorSchool$Plan" "lines" "I"), (Jvm.Cond.fieldLinkNest "DoorSchool$Reader" (92 : Nat) "DoorSchool$Plan" "lines" "I" "DoorSchool"), (Jvm.Cond.fieldLinkNest "DoorSchool" (101 : Nat) "DoorSchool$Plan" "lines" "I" "DoorSchool"), (Jvm.Cond.fieldLink "DoorSchool$Plan" (45 : Nat) "DoorSchool$Plan" "signs" "I"), (Jvm.Cond.fieldLinkNest "DoorSchool$Reader" (103 : Nat) "DoorSchool$Plan" "signs" "I" "DoorSchool"), (Jvm.Cond.fieldLinkNest "DoorSchool" (95 : Nat) "DoorSchool$Plan" "signs" "I" "DoorSchool"), (Jvm.Cond.fieldLink "DoorSchool$Plan" (48 : Nat) "DoorSchool$Plan" "teachers" "I"), (Jvm.Cond.fieldLinkNest "DoorSchool$Reader" (107 : Nat) "DoorSchool$Plan" "teachers" "I" "DoorSchool")]
set_option maxRecDepth 20000 in
theorem ck_1 : chunk 1 = bk_1_0 ++ (bk_1_1 ++ (bk_1_2 ++ (bk_1_3 ++ (bk_1_4 ++ (bk_1_5 ++ (bk_1_6 ++ (bk_1_7 ++ (bk_1_8 ++ (bk_1_9 ++ (bk_1_10 ++ (bk_1_11 ++ (bk_1_12 ++ (bk_1_13 ++ (bk_1_14)))))))))))))) := rfl
theorem bi_1_0 {w : Cond} (h : w ∈ bk_1_0) : w ∈ chunk 1 := by rw [ck_1]; exact List.mem_append_left _ h
theorem bi_1_1 {w : Cond} (h : w ∈ bk_1_1) : w ∈ chunk 1 := by rw [ck_1]; exact List.mem_append_right _ (List.mem_append_left _ h)
theorem bi_1_2 {w : Cond} (h : w ∈ bk_1_2) : w ∈ chunk 1 := by rw [ck_1]; exact List.mem_append_right _ (List.mem_append_right _ (List.mem_append_left _ h))
theorem bi_1_3 {w : Cond} (h : w ∈ bk_1_3) : w ∈ chunk 1 := by rw [ck_1]; exact List.mem_append_right _ (List.mem_append_right _ (List.mem_append_right _ (List.mem_append_left _ h)))
theorem bi_1_4 {w : Cond} (h : w ∈ bk_1_4) : w ∈ chunk 1 := by rw [ck_1]; exact List.mem_append_right _ (List.mem_append_right _ (List.mem_append_right _ (List.mem_append_right _ (List.mem_append_left _ h))))
theorem bi_1_5 {w : Cond} (h : w ∈ bk_1_5) : w ∈ chunk 1 := by rw [ck_1]; exact List.mem_append_right _ (List.mem_append_right _ (List.mem_append_right _ (List.mem_append_right _ (List.mem_append_right _ (List.mem_append_left _ h)))))
theorem bi_1_6 {w : Cond} (h : w ∈ bk_1_6) : w ∈ chunk 1 := by rw [ck_1]; exact List.mem_append_right _ (List.mem_append_right _ (List.mem_append_right _ (List.mem_append_right _ (List.mem_append_right _ (List.mem_append_right _ (List.mem_append_left _ h))))))
theorem bi_1_7 {w : Cond} (h : w ∈ bk_1_7) : w ∈ chunk 1 := by rw [ck_1]; exact List.mem_append_right _ (List.mem_append_right _ (List.mem_append_right _ (List.mem_append_right _ (List.mem_append_right _ (List.mem_append_right _ (List.mem_append_right _ (List.mem_append_left _ h)))))))
theorem bi_1_8 {w : Cond} (h : w ∈ bk_1_8) : w ∈ chunk 1 := by rw [ck_1]; exact List.mem_append_right _ (List.mem_append_right _ (List.mem_append_right _ (List.mem_append_right _ (List.mem_append_right _ (List.mem_append_right _ (List.mem_append_right _ (List.mem_append_right _ (List.mem_append_left _ h))))))))
theorem bi_1_9 {w : Cond} (h : w ∈ bk_1_9) : w ∈ chunk 1 := by rw [ck_1]; exact List.mem_append_right _ (List.mem_append_right _ (List.mem_append_right _ (List.mem_append_right _ (List.mem_append_right _ (List.mem_append_right _ (List.mem_append_right _ (List.mem_append_right _ (List.mem_append_right _ (List.mem_append_left _ h)))))))))
theorem bi_1_10 {w : Cond} (h : w ∈ bk_1_10) : w ∈ chunk 1 := by rw [ck_1]; exact List.mem_append_right _ (List.mem_append_right _ (List.mem_append_right _ (List.mem_append_right _ (List.mem_append_right _ (List.mem_append_right _ (List.mem_append_right _ (List.mem_append_right _ (List.mem_append_right _ (List.mem_append_right _ (List.mem_append_left _ h))))))))))
theorem bi_1_11 {w : Cond} (h : w ∈ bk_1_11) : w ∈ chunk 1 := by rw [ck_1]; exact List.mem_append_right _ (List.mem_append_right _ (List.mem_append_right _ (List.mem_append_right _ (List.mem_append_right _ (List.mem_append_right _ (List.mem_append_right _ (List.mem_append_right _ (List.mem_append_right _ (List.mem_append_right _ (List.mem_append_right _ (List.mem_append_left _ h)))))))))))
theorem bi_1_12 {w : Cond} (h : w ∈ bk_1_12) : w ∈ chunk 1 := by rw [ck_1]; exact List.mem_append_right _ (List.mem_append_right _ (List.mem_append_right _ (List.mem_append_right _ (List.mem_append_right _ (List.mem_append_right _ (List.mem_append_right _ (List.mem_append_right _ (List.mem_append_right _ (List.mem_append_right _ (List.mem_append_right _ (List.mem_append_right _ (List.mem_append_left _ h))))))))))))
theorem bi_1_13 {w : Cond} (h : w ∈ bk_1_13) : w ∈ chunk 1 := by rw [ck_1]; exact List.mem_append_right _ (List.mem_append_right _ (List.mem_append_right _ (List.mem_append_right _ (List.mem_append_right _ (List.mem_append_right _ (List.mem_append_right _ (List.mem_append_right _ (List.mem_append_right _ (List.mem_append_right _ (List.mem_append_right _ (List.mem_append_right _ (List.mem_append_right _ (List.mem_append_left _ h)))))))))))))
theorem bi_1_14 {w : Cond} (h : w ∈ bk_1_14) : w ∈ chunk 1 := by rw [ck_1]; exact List.mem_append_right _ (List.mem_append_right _ (List.mem_append_right _ (List.mem_append_right _ (List.mem_append_right _ (List.mem_append_right _ (List.mem_append_right _ (List.mem_append_right _ (List.mem_append_right _ (List.mem_append_right _ (List.mem_append_right _ (List.mem_append_right _ (List.mem_append_right _ (List.mem_append_right _ (h))))))))))))))
def bk_2_0 : List Cond := [(Jvm.Cond.fieldLinkNest "DoorSchool" (337 : Nat) "DoorSchool$Plan" "teachers" "I" "DoorSchool"), (Jvm.Cond.fieldLink "DoorSchool$Plan" (51 : Nat) "DoorSchool$Plan" "doorCount" "I"), (Jvm.Cond.fieldLinkNest "DoorSchool$Reader" (109 : Nat) "DoorSchool$Plan" "doorCount" "I" "DoorSchool"), (Jvm.Cond.fieldLinkNest "DoorSchool" (224 : Nat) "DoorSchool$Plan" "doorCount" "I" "DoorSchool"), (Jvm.Cond.fieldLink "DoorSchool$Plan" (11 : Nat) "DoorSchool$Plan" "doors" "[LDoorSchool$Door;"), (Jvm.Cond.fieldLinkNest "DoorSchool$Reader" (118 : Nat) "DoorSchool$Plan" "doors" "[LDoorSchool$Door;" "DoorSchool"), (Jvm.Cond.fieldLinkNest "DoorSchool" (111 : Nat) "DoorSchool$Plan" "doors" "[LDoorSchool$Door;" "DoorSchool"), (Jvm.Cond.fieldLink "DoorSchool$Plan" (20 : Nat) "DoorSchool$Plan" "exams" "LDoorSchool$Lessons;"), (Jvm.Cond.fieldLinkNest "DoorSchool$Reader" (144 : Nat) "DoorSchool$Plan" "exams" "LDoorSchool$Lessons;" "DoorSchool"), (Jvm.Cond.fieldLinkNest "DoorSchool" (143 : Nat) "DoorSchool$Plan" "exams" "LDoorSchool$Lessons;" "DoorSchool"), (Jvm.Cond.fieldLink "DoorSchool$Plan" (57 : Nat) "DoorSchool$Plan" "ownerSigns" "I"), (Jvm.Cond.fieldLinkNest "DoorSchool$Reader" (168 : Nat) "DoorSchool$Plan" "ownerSigns" "I" "DoorSchool"), (Jvm.Cond.fieldLinkNest "DoorSchool" (153 : Nat) "DoorSchool$Plan" "ownerSigns" "I" "DoorSchool"), (Jvm.Cond.fieldLink "DoorSchool$Plan" (60 : Nat) "DoorSchool$Plan" "ownerThere" "I"), (Jvm.Cond.fieldLinkNest "DoorSchool$Reader" (171 : Nat) "DoorSchool$Plan" "ownerThere" "I" "DoorSchool"), (Jvm.Cond.fieldLinkNest "DoorSchool" (159 : Nat) "DoorSchool$Plan" "ownerThere" "I" "DoorSchool")]
def bk_2_1 : List Cond := [(Jvm.Cond.fieldLink "DoorSchool$Plan" (63 : Nat) "DoorSchool$Plan" "houseCount" "I"), (Jvm.Cond.fieldLinkNest "DoorSchool$Reader" (174 : Nat) "DoorSchool$Plan" "houseCount" "I" "DoorSchool"), (Jvm.Cond.fieldLinkNest "DoorSchool" (356 : Nat) "DoorSchool$Plan" "houseCount" "I" "DoorSchool"), (Jvm.Cond.fieldLink "DoorSchool$Plan" (24 : Nat) "DoorSchool$Plan" "houseSigns" "[I"), (Jvm.Cond.fieldLinkNest "DoorSchool" (156 : Nat) "DoorSchool$Plan" "houseSigns" "[I" "DoorSchool"), (Jvm.Cond.fieldLinkNest "DoorSchool$Reader" (177 : Nat) "DoorSchool$Plan" "houseSigns" "[I" "DoorSchool"), (Jvm.Cond.fieldLink "DoorSchool$Plan" (28 : Nat) "DoorSchool$Plan" "houseThere" "[I"), (Jvm.Cond.fieldLinkNest "DoorSchool" (162 : Nat) "DoorSchool$Plan" "houseThere" "[I" "DoorSchool"), (Jvm.Cond.fieldLinkNest "DoorSchool$Reader" (181 : Nat) "DoorSchool$Plan" "houseThere" "[I" "DoorSchool"), (Jvm.Cond.fieldLink "DoorSchool$Plan" (66 : Nat) "DoorSchool$Plan" "courseCount" "I"), (Jvm.Cond.fieldLinkNest "DoorSchool$Timetable" (38 : Nat) "DoorSchool$Plan" "courseCount" "I" "DoorSchool"), (Jvm.Cond.fieldLinkNest "DoorSchool$Reader" (184 : Nat) "DoorSchool$Plan" "courseCount" "I" "DoorSchool"), (Jvm.Cond.fieldLinkNest "DoorSchool" (344 : Nat) "DoorSchool$Plan" "courseCount" "I" "DoorSchool"), (Jvm.Cond.fieldLink "DoorSchool$Plan" (31 : Nat) "DoorSchool$Plan" "takes" "[I"), (Jvm.Cond.fieldLinkNest "DoorSchool$Timetable" (58 : Nat) "DoorSchool$Plan" "takes" "[I" "DoorSchool"), (Jvm.Cond.fieldLinkNest "DoorSchool$Reader" (189 : Nat) "DoorSchool$Plan" "takes" "[I" "DoorSchool")]
def bk_2_2 : List Cond := [(Jvm.Cond.fieldLink "DoorSchool$Plan" (34 : Nat) "DoorSchool$Plan" "ahead" "[I"), (Jvm.Cond.fieldLinkNest "DoorSchool$Timetable" (51 : Nat) "DoorSchool$Plan" "ahead" "[I" "DoorSchool"), (Jvm.Cond.fieldLinkNest "DoorSchool$Reader" (191 : Nat) "DoorSchool$Plan" "ahead" "[I" "DoorSchool"), (Jvm.Cond.fieldLink "DoorSchool$Plan" (75 : Nat) "DoorSchool$Plan" "taught" "I"), (Jvm.Cond.fieldLinkNest "DoorSchool" (234 : Nat) "DoorSchool$Plan" "taught" "I" "DoorSchool"), (Jvm.Cond.fieldLink "DoorSchool$Plan" (37 : Nat) "DoorSchool$Plan" "taughtDoors" "[I"), (Jvm.Cond.fieldLinkNest "DoorSchool" (241 : Nat) "DoorSchool$Plan" "taughtDoors" "[I" "DoorSchool"), (Jvm.Cond.lays "DoorSchool$Plan" "DoorSchool$Plan" "lines" "I"), (Jvm.Cond.soleField "DoorSchool$Plan" "lines"), (Jvm.Cond.lays "DoorSchool$Plan" "DoorSchool$Plan" "signs" "I"), (Jvm.Cond.soleField "DoorSchool$Plan" "signs"), (Jvm.Cond.lays "DoorSchool$Plan" "DoorSchool$Plan" "teachers" "I"), (Jvm.Cond.soleField "DoorSchool$Plan" "teachers"), (Jvm.Cond.lays "DoorSchool$Plan" "DoorSchool$Plan" "doorCount" "I"), (Jvm.Cond.soleField "DoorSchool$Plan" "doorCount"), (Jvm.Cond.laysFinal "DoorSchool$Plan" "DoorSchool$Plan" "doors" "[LDoorSchool$Door;")]
def bk_2_3 : List Cond := [(Jvm.Cond.soleField "DoorSchool$Plan" "doors"), (Jvm.Cond.laysFinal "DoorSchool$Plan" "DoorSchool$Plan" "exams" "LDoorSchool$Lessons;"), (Jvm.Cond.soleField "DoorSchool$Plan" "exams"), (Jvm.Cond.lays "DoorSchool$Plan" "DoorSchool$Plan" "ownerSigns" "I"), (Jvm.Cond.soleField "DoorSchool$Plan" "ownerSigns"), (Jvm.Cond.lays "DoorSchool$Plan" "DoorSchool$Plan" "ownerThere" "I"), (Jvm.Cond.soleField "DoorSchool$Plan" "ownerThere"), (Jvm.Cond.lays "DoorSchool$Plan" "DoorSchool$Plan" "houseCount" "I"), (Jvm.Cond.soleField "DoorSchool$Plan" "houseCount"), (Jvm.Cond.laysFinal "DoorSchool$Plan" "DoorSchool$Plan" "houseSigns" "[I"), (Jvm.Cond.soleField "DoorSchool$Plan" "houseSigns"), (Jvm.Cond.laysFinal "DoorSchool$Plan" "DoorSchool$Plan" "houseThere" "[I"), (Jvm.Cond.soleField "DoorSchool$Plan" "houseThere"), (Jvm.Cond.lays "DoorSchool$Plan" "DoorSchool$Plan" "courseCount" "I"), (Jvm.Cond.soleField "DoorSchool$Plan" "courseCount"), (Jvm.Cond.laysFinal "DoorSchool$Plan" "DoorSchool$Plan" "takes" "[I")]
def bk_2_4 : List Cond := [(Jvm.Cond.soleField "DoorSchool$Plan" "takes"), (Jvm.Cond.laysFinal "DoorSchool$Plan" "DoorSchool$Plan" "ahead" "[I"), (Jvm.Cond.soleField "DoorSchool$Plan" "ahead"), (Jvm.Cond.lays "DoorSchool$Plan" "DoorSchool$Plan" "taught" "I"), (Jvm.Cond.soleField "DoorSchool$Plan" "taught"), (Jvm.Cond.laysFinal "DoorSchool$Plan" "DoorSchool$Plan" "taughtDoors" "[I"), (Jvm.Cond.soleField "DoorSchool$Plan" "taughtDoors"), (Jvm.Cond.superclass "DoorSchool$Plan" "java/lang/Object"), (Jvm.Cond.arrayOver (Jvm.ClassFile.FieldType.object "DoorSchool$Plan")), (Jvm.Cond.classLink "DoorSchool" (73 : Nat) "DoorSchool$Slot"), (Jvm.Cond.arrayOver (Jvm.ClassFile.FieldType.object "DoorSchool$Slot")), (Jvm.Cond.instantiable "DoorSchool$Slot" (4 : Nat)), (Jvm.Cond.methodLinkNest "DoorSchool" (79 : Nat) ({ cls := "DoorSchool$Slot", name := "<init>", desc := "()V" } : Jvm.MethodName) "DoorSchool"), (Jvm.Cond.instanceMethod ({ cls := "DoorSchool$Slot", name := "<init>", desc := "()V" } : Jvm.MethodName)), (Jvm.Cond.code ({ cls := "DoorSchool$Slot", name := "<init>", desc := "()V" } : Jvm.MethodName) prog_9_method_1_code (1 : Nat) (Option.none : Option Jvm.ClassFile.FieldType)), (Jvm.Cond.methodLink "DoorSchool$Slot" (3 : Nat) ({ cls := "java/lang/Object", name := "<init>", desc := "()V" } : Jvm.MethodName))]
def bk_2_5 : List Cond := [(Jvm.Cond.fieldLink "DoorSchool$Slot" (9 : Nat) "DoorSchool$Slot" "numbers" "[J"), (Jvm.Cond.fieldLinkNest "DoorSchool" (386 : Nat) "DoorSchool$Slot" "numbers" "[J" "DoorSchool"), (Jvm.Cond.fieldLink "DoorSchool$Slot" (15 : Nat) "DoorSchool$Slot" "full" "Z"), (Jvm.Cond.fieldLinkNest "DoorSchool" (371 : Nat) "DoorSchool$Slot" "full" "Z" "DoorSchool"), (Jvm.Cond.fieldLink "DoorSchool$Slot" (19 : Nat) "DoorSchool$Slot" "width" "I"), (Jvm.Cond.fieldLinkNest "DoorSchool" (380 : Nat) "DoorSchool$Slot" "width" "I" "DoorSchool"), (Jvm.Cond.fieldLink "DoorSchool$Slot" (23 : Nat) "DoorSchool$Slot" "size" "I"), (Jvm.Cond.fieldLinkNest "DoorSchool" (375 : Nat) "DoorSchool$Slot" "size" "I" "DoorSchool"), (Jvm.Cond.laysFinal "DoorSchool$Slot" "DoorSchool$Slot" "numbers" "[J"), (Jvm.Cond.soleField "DoorSchool$Slot" "numbers"), (Jvm.Cond.lays "DoorSchool$Slot" "DoorSchool$Slot" "full" "Z"), (Jvm.Cond.soleField "DoorSchool$Slot" "full"), (Jvm.Cond.lays "DoorSchool$Slot" "DoorSchool$Slot" "width" "I"), (Jvm.Cond.soleField "DoorSchool$Slot" "width"), (Jvm.Cond.lays "DoorSchool$Slot" "DoorSchool$Slot" "size" "I"), (Jvm.Cond.soleField "DoorSchool$Slot" "size")]
def bk_2_6 : List Cond := [(Jvm.Cond.superclass "DoorSchool$Slot" "java/lang/Object"), (Jvm.Cond.arrayClass Jvm.ClassFile.FieldType.boolean), (Jvm.Cond.arrayClass Jvm.ClassFile.FieldType.long), (Jvm.Cond.fieldLink "DoorSchool" (10 : Nat) "DoorSchool" "tape" "LDoorSchool$Tape;"), (Jvm.Cond.fieldLink "DoorSchool" (21 : Nat) "DoorSchool" "reader" "LDoorSchool$Reader;"), (Jvm.Cond.fieldLink "DoorSchool" (28 : Nat) "DoorSchool" "rules" "LDoorSchool$Rules;"), (Jvm.Cond.fieldLink "DoorSchool" (37 : Nat) "DoorSchool" "learner" "LDoorSchool$Learner;"), (Jvm.Cond.fieldLink "DoorSchool" (44 : Nat) "DoorSchool" "hanging" "LDoorSchool$Hanging;"), (Jvm.Cond.fieldLink "DoorSchool" (51 : Nat) "DoorSchool" "timetable" "LDoorSchool$Timetable;"), (Jvm.Cond.fieldLink "DoorSchool" (75 : Nat) "DoorSchool" "slots" "[LDoorSchool$Slot;"), (Jvm.Cond.fieldLink "DoorSchool" (65 : Nat) "DoorSchool" "images" "[LDoorSchool$Plan;"), (Jvm.Cond.fieldLink "DoorSchool" (69 : Nat) "DoorSchool" "imaged" "[Z"), (Jvm.Cond.fieldLink "DoorSchool" (58 : Nat) "DoorSchool" "plan" "LDoorSchool$Plan;"), (Jvm.Cond.fieldLink "DoorSchool" (62 : Nat) "DoorSchool" "spare" "LDoorSchool$Plan;"), (Jvm.Cond.laysFinal "DoorSchool" "DoorSchool" "tape" "LDoorSchool$Tape;"), (Jvm.Cond.soleField "DoorSchool" "tape")]
def bk_2_7 : List Cond := [(Jvm.Cond.laysFinal "DoorSchool" "DoorSchool" "reader" "LDoorSchool$Reader;"), (Jvm.Cond.soleField "DoorSchool" "reader"), (Jvm.Cond.laysFinal "DoorSchool" "DoorSchool" "rules" "LDoorSchool$Rules;"), (Jvm.Cond.soleField "DoorSchool" "rules"), (Jvm.Cond.laysFinal "DoorSchool" "DoorSchool" "learner" "LDoorSchool$Learner;"), (Jvm.Cond.soleField "DoorSchool" "learner"), (Jvm.Cond.laysFinal "DoorSchool" "DoorSchool" "hanging" "LDoorSchool$Hanging;"), (Jvm.Cond.soleField "DoorSchool" "hanging"), (Jvm.Cond.laysFinal "DoorSchool" "DoorSchool" "timetable" "LDoorSchool$Timetable;"), (Jvm.Cond.soleField "DoorSchool" "timetable"), (Jvm.Cond.laysFinal "DoorSchool" "DoorSchool" "slots" "[LDoorSchool$Slot;"), (Jvm.Cond.soleField "DoorSchool" "slots"), (Jvm.Cond.laysFinal "DoorSchool" "DoorSchool" "images" "[LDoorSchool$Plan;"), (Jvm.Cond.soleField "DoorSchool" "images"), (Jvm.Cond.laysFinal "DoorSchool" "DoorSchool" "imaged" "[Z"), (Jvm.Cond.soleField "DoorSchool" "imaged")]
def bk_2_8 : List Cond := [(Jvm.Cond.lays "DoorSchool" "DoorSchool" "plan" "LDoorSchool$Plan;"), (Jvm.Cond.soleField "DoorSchool" "plan"), (Jvm.Cond.lays "DoorSchool" "DoorSchool" "spare" "LDoorSchool$Plan;"), (Jvm.Cond.soleField "DoorSchool" "spare"), (Jvm.Cond.superclass "DoorSchool" "java/lang/Object"), (Jvm.Cond.methodLink "DoorSchoolLaw" (13 : Nat) ({ cls := "DoorSchool", name := "feed", desc := "(IIIII)I" } : Jvm.MethodName)), (Jvm.Cond.instanceMethod ({ cls := "DoorSchool", name := "feed", desc := "(IIIII)I" } : Jvm.MethodName)), (Jvm.Cond.selects "DoorSchool" ({ cls := "DoorSchool", name := "feed", desc := "(IIIII)I" } : Jvm.MethodName) ({ cls := "DoorSchool", name := "feed", desc := "(IIIII)I" } : Jvm.MethodName)), (Jvm.Cond.code ({ cls := "DoorSchool", name := "feed", desc := "(IIIII)I" } : Jvm.MethodName) prog_1_method_2_code (6 : Nat) (Option.some Jvm.ClassFile.FieldType.int)), (Jvm.Cond.methodLinkNest "DoorSchool" (84 : Nat) ({ cls := "DoorSchool$Tape", name := "append", desc := "(I)V" } : Jvm.MethodName) "DoorSchool"), (Jvm.Cond.privateMethod ({ cls := "DoorSchool$Tape", name := "append", desc := "(I)V" } : Jvm.MethodName)), (Jvm.Cond.instanceMethod ({ cls := "DoorSchool$Tape", name := "append", desc := "(I)V" } : Jvm.MethodName)), (Jvm.Cond.code ({ cls := "DoorSchool$Tape", name := "append", desc := "(I)V" } : Jvm.MethodName) prog_10_method_2_code (3 : Nat) (Option.none : Option Jvm.ClassFile.FieldType)), (Jvm.Cond.methodLink "DoorSchoolLaw" (18 : Nat) ({ cls := "DoorSchool", name := "end", desc := "(I)I" } : Jvm.MethodName)), (Jvm.Cond.instanceMethod ({ cls := "DoorSchool", name := "end", desc := "(I)I" } : Jvm.MethodName)), (Jvm.Cond.selects "DoorSchool" ({ cls := "DoorSchool", name := "end", desc := "(I)I" } : Jvm.MethodName) ({ cls := "DoorSchool", name := "end", desc := "(I)I" } : Jvm.MethodName))]
def bk_2_9 : List Cond := [(Jvm.Cond.code ({ cls := "DoorSchool", name := "end", desc := "(I)I" } : Jvm.MethodName) prog_1_method_3_code (2 : Nat) (Option.some Jvm.ClassFile.FieldType.int)), (Jvm.Cond.methodLink "DoorSchoolLaw" (23 : Nat) ({ cls := "DoorSchool", name := "school", desc := "()I" } : Jvm.MethodName)), (Jvm.Cond.instanceMethod ({ cls := "DoorSchool", name := "school", desc := "()I" } : Jvm.MethodName)), (Jvm.Cond.selects "DoorSchool" ({ cls := "DoorSchool", name := "school", desc := "()I" } : Jvm.MethodName) ({ cls := "DoorSchool", name := "school", desc := "()I" } : Jvm.MethodName)), (Jvm.Cond.code ({ cls := "DoorSchool", name := "school", desc := "()I" } : Jvm.MethodName) prog_1_method_4_code (2 : Nat) (Option.some Jvm.ClassFile.FieldType.int)), (Jvm.Cond.methodLinkNest "DoorSchool" (88 : Nat) ({ cls := "DoorSchool$Reader", name := "read", desc := "(LDoorSchool$Plan;)V" } : Jvm.MethodName) "DoorSchool"), (Jvm.Cond.privateMethod ({ cls := "DoorSchool$Reader", name := "read", desc := "(LDoorSchool$Plan;)V" } : Jvm.MethodName)), (Jvm.Cond.instanceMethod ({ cls := "DoorSchool$Reader", name := "read", desc := "(LDoorSchool$Plan;)V" } : Jvm.MethodName)), (Jvm.Cond.code ({ cls := "DoorSchool$Reader", name := "read", desc := "(LDoorSchool$Plan;)V" } : Jvm.MethodName) prog_7_method_2_code (3 : Nat) (Option.none : Option Jvm.ClassFile.FieldType)), (Jvm.Cond.methodLinkNest "DoorSchool$Reader" (25 : Nat) ({ cls := "DoorSchool$Plan", name := "clear", desc := "()V" } : Jvm.MethodName) "DoorSchool"), (Jvm.Cond.privateMethod ({ cls := "DoorSchool$Plan", name := "clear", desc := "()V" } : Jvm.MethodName)), (Jvm.Cond.instanceMethod ({ cls := "DoorSchool$Plan", name := "clear", desc := "()V" } : Jvm.MethodName)), (Jvm.Cond.code ({ cls := "DoorSchool$Plan", name := "clear", desc := "()V" } : Jvm.MethodName) prog_6_method_2_code (1 : Nat) (Option.none : Option Jvm.ClassFile.FieldType)), (Jvm.Cond.methodLink "DoorSchool$Plan" (69 : Nat) ({ cls := "java/util/Arrays", name := "fill", desc := "([II)V" } : Jvm.MethodName)), (Jvm.Cond.static ({ cls := "java/util/Arrays", name := "fill", desc := "([II)V" } : Jvm.MethodName)), (Jvm.Cond.code ({ cls := "java/util/Arrays", name := "fill", desc := "([II)V" } : Jvm.MethodName) prog_20_method_103_code (4 : Nat) (Option.none : Option Jvm.ClassFile.FieldType))]
def bk_2_10 : List Cond := [(Jvm.Cond.methodLink "DoorSchool$Reader" (30 : Nat) ({ cls := "DoorSchool$Reader", name := "step", desc := "()V" } : Jvm.MethodName)), (Jvm.Cond.privateMethod ({ cls := "DoorSchool$Reader", name := "step", desc := "()V" } : Jvm.MethodName)), (Jvm.Cond.instanceMethod ({ cls := "DoorSchool$Reader", name := "step", desc := "()V" } : Jvm.MethodName)), (Jvm.Cond.code ({ cls := "DoorSchool$Reader", name := "step", desc := "()V" } : Jvm.MethodName) prog_7_method_20_code (1 : Nat) (Option.none : Option Jvm.ClassFile.FieldType)), (Jvm.Cond.methodLink "DoorSchool$Reader" (221 : Nat) ({ cls := "DoorSchool$Reader", name := "isBlank", desc := "(B)Z" } : Jvm.MethodName)), (Jvm.Cond.static ({ cls := "DoorSchool$Reader", name := "isBlank", desc := "(B)Z" } : Jvm.MethodName)), (Jvm.Cond.code ({ cls := "DoorSchool$Reader", name := "isBlank", desc := "(B)Z" } : Jvm.MethodName) prog_7_method_22_code (1 : Nat) (Option.some Jvm.ClassFile.FieldType.boolean)), (Jvm.Cond.methodLink "DoorSchool$Reader" (225 : Nat) ({ cls := "DoorSchool$Reader", name := "kindAt", desc := "(I)I" } : Jvm.MethodName)), (Jvm.Cond.privateMethod ({ cls := "DoorSchool$Reader", name := "kindAt", desc := "(I)I" } : Jvm.MethodName)), (Jvm.Cond.instanceMethod ({ cls := "DoorSchool$Reader", name := "kindAt", desc := "(I)I" } : Jvm.MethodName)), (Jvm.Cond.code ({ cls := "DoorSchool$Reader", name := "kindAt", desc := "(I)I" } : Jvm.MethodName) prog_7_method_21_code (3 : Nat) (Option.some Jvm.ClassFile.FieldType.int)), (Jvm.Cond.constant "DoorSchool$Reader" (228 : Nat) (1000000 : Int32)), (Jvm.Cond.methodLink "DoorSchool$Reader" (229 : Nat) ({ cls := "java/lang/Math", name := "min", desc := "(II)I" } : Jvm.MethodName)), (Jvm.Cond.static ({ cls := "java/lang/Math", name := "min", desc := "(II)I" } : Jvm.MethodName)), (Jvm.Cond.code ({ cls := "java/lang/Math", name := "min", desc := "(II)I" } : Jvm.MethodName) prog_15_method_69_code (2 : Nat) (Option.some Jvm.ClassFile.FieldType.int)), (Jvm.Cond.methodLink "DoorSchool$Reader" (36 : Nat) ({ cls := "DoorSchool$Reader", name := "readFirst", desc := "(LDoorSchool$Plan;)V" } : Jvm.MethodName))]
def bk_2_11 : List Cond := [(Jvm.Cond.privateMethod ({ cls := "DoorSchool$Reader", name := "readFirst", desc := "(LDoorSchool$Plan;)V" } : Jvm.MethodName)), (Jvm.Cond.instanceMethod ({ cls := "DoorSchool$Reader", name := "readFirst", desc := "(LDoorSchool$Plan;)V" } : Jvm.MethodName)), (Jvm.Cond.code ({ cls := "DoorSchool$Reader", name := "readFirst", desc := "(LDoorSchool$Plan;)V" } : Jvm.MethodName) prog_7_method_3_code (2 : Nat) (Option.none : Option Jvm.ClassFile.FieldType)), (Jvm.Cond.stringRef "DoorSchool$Reader" (95 : Nat) "school"), (Jvm.Cond.methodLink "DoorSchool$Reader" (42 : Nat) ({ cls := "DoorSchool$Reader", name := "stands", desc := "(Ljava/lang/String;)Z" } : Jvm.MethodName)), (Jvm.Cond.privateMethod ({ cls := "DoorSchool$Reader", name := "stands", desc := "(Ljava/lang/String;)Z" } : Jvm.MethodName)), (Jvm.Cond.instanceMethod ({ cls := "DoorSchool$Reader", name := "stands", desc := "(Ljava/lang/String;)Z" } : Jvm.MethodName)), (Jvm.Cond.code ({ cls := "DoorSchool$Reader", name := "stands", desc := "(Ljava/lang/String;)Z" } : Jvm.MethodName) prog_7_method_19_code (3 : Nat) (Option.some Jvm.ClassFile.FieldType.boolean)), (Jvm.Cond.methodLink "DoorSchool$Reader" (205 : Nat) ({ cls := "java/lang/String", name := "length", desc := "()I" } : Jvm.MethodName)), (Jvm.Cond.instanceMethod ({ cls := "java/lang/String", name := "length", desc := "()I" } : Jvm.MethodName)), (Jvm.Cond.selects "java/lang/String" ({ cls := "java/lang/String", name := "length", desc := "()I" } : Jvm.MethodName) ({ cls := "java/lang/String", name := "length", desc := "()I" } : Jvm.MethodName)), (Jvm.Cond.code ({ cls := "java/lang/String", name := "length", desc := "()I" } : Jvm.MethodName) prog_16_method_54_code (1 : Nat) (Option.some Jvm.ClassFile.FieldType.int)), (Jvm.Cond.methodLink "java/lang/String" (335 : Nat) ({ cls := "java/lang/String", name := "coder", desc := "()B" } : Jvm.MethodName)), (Jvm.Cond.instanceMethod ({ cls := "java/lang/String", name := "coder", desc := "()B" } : Jvm.MethodName)), (Jvm.Cond.selects "java/lang/String" ({ cls := "java/lang/String", name := "coder", desc := "()B" } : Jvm.MethodName) ({ cls := "java/lang/String", name := "coder", desc := "()B" } : Jvm.MethodName)), (Jvm.Cond.code ({ cls := "java/lang/String", name := "coder", desc := "()B" } : Jvm.MethodName) prog_16_method_152_code (1 : Nat) (Option.some Jvm.ClassFile.FieldType.byte))]
def bk_2_12 : List Cond := [(Jvm.Cond.fieldLink "java/lang/String" (38 : Nat) "java/lang/String" "COMPACT_STRINGS" "Z"), (Jvm.Cond.laysStatic "java/lang/String" "COMPACT_STRINGS" "Z"), (Jvm.Cond.methodLink "DoorSchool$Reader" (216 : Nat) ({ cls := "java/lang/String", name := "charAt", desc := "(I)C" } : Jvm.MethodName)), (Jvm.Cond.instanceMethod ({ cls := "java/lang/String", name := "charAt", desc := "(I)C" } : Jvm.MethodName)), (Jvm.Cond.selects "java/lang/String" ({ cls := "java/lang/String", name := "charAt", desc := "(I)C" } : Jvm.MethodName) ({ cls := "java/lang/String", name := "charAt", desc := "(I)C" } : Jvm.MethodName)), (Jvm.Cond.code ({ cls := "java/lang/String", name := "charAt", desc := "(I)C" } : Jvm.MethodName) prog_16_method_56_code (2 : Nat) (Option.some Jvm.ClassFile.FieldType.char)), (Jvm.Cond.methodLink "java/lang/String" (492 : Nat) ({ cls := "java/lang/String", name := "isLatin1", desc := "()Z" } : Jvm.MethodName)), (Jvm.Cond.instanceMethod ({ cls := "java/lang/String", name := "isLatin1", desc := "()Z" } : Jvm.MethodName)), (Jvm.Cond.selects "java/lang/String" ({ cls := "java/lang/String", name := "isLatin1", desc := "()Z" } : Jvm.MethodName) ({ cls := "java/lang/String", name := "isLatin1", desc := "()Z" } : Jvm.MethodName)), (Jvm.Cond.code ({ cls := "java/lang/String", name := "isLatin1", desc := "()Z" } : Jvm.MethodName) prog_16_method_154_code (1 : Nat) (Option.some Jvm.ClassFile.FieldType.boolean)), (Jvm.Cond.methodLink "java/lang/String" (495 : Nat) ({ cls := "java/lang/StringLatin1", name := "charAt", desc := "([BI)C" } : Jvm.MethodName)), (Jvm.Cond.static ({ cls := "java/lang/StringLatin1", name := "charAt", desc := "([BI)C" } : Jvm.MethodName)), (Jvm.Cond.code ({ cls := "java/lang/StringLatin1", name := "charAt", desc := "([BI)C" } : Jvm.MethodName) prog_17_method_2_code (2 : Nat) (Option.some Jvm.ClassFile.FieldType.char)), (Jvm.Cond.methodLink "java/lang/StringLatin1" (9 : Nat) ({ cls := "java/lang/String", name := "checkIndex", desc := "(II)V" } : Jvm.MethodName)), (Jvm.Cond.static ({ cls := "java/lang/String", name := "checkIndex", desc := "(II)V" } : Jvm.MethodName)), (Jvm.Cond.code ({ cls := "java/lang/String", name := "checkIndex", desc := "(II)V" } : Jvm.MethodName) prog_16_method_155_code (2 : Nat) (Option.none : Option Jvm.ClassFile.FieldType))]
def bk_2_13 : List Cond := [(Jvm.Cond.fieldLink "java/lang/String" (1053 : Nat) "jdk/internal/util/Preconditions" "SIOOBE_FORMATTER" "Ljava/util/function/BiFunction;"), (Jvm.Cond.laysStatic "jdk/internal/util/Preconditions" "SIOOBE_FORMATTER" "Ljava/util/function/BiFunction;"), (Jvm.Cond.methodLink "java/lang/String" (1059 : Nat) ({ cls := "jdk/internal/util/Preconditions", name := "checkIndex", desc := "(IILjava/util/function/BiFunction;)I" } : Jvm.MethodName)), (Jvm.Cond.static ({ cls := "jdk/internal/util/Preconditions", name := "checkIndex", desc := "(IILjava/util/function/BiFunction;)I" } : Jvm.MethodName)), (Jvm.Cond.code ({ cls := "jdk/internal/util/Preconditions", name := "checkIndex", desc := "(IILjava/util/function/BiFunction;)I" } : Jvm.MethodName) prog_21_method_11_code (3 : Nat) (Option.some Jvm.ClassFile.FieldType.int)), (Jvm.Cond.methodLink "java/lang/String" (498 : Nat) ({ cls := "java/lang/StringUTF16", name := "charAt", desc := "([BI)C" } : Jvm.MethodName)), (Jvm.Cond.static ({ cls := "java/lang/StringUTF16", name := "charAt", desc := "([BI)C" } : Jvm.MethodName)), (Jvm.Cond.code ({ cls := "java/lang/StringUTF16", name := "charAt", desc := "([BI)C" } : Jvm.MethodName) prog_18_method_83_code (2 : Nat) (Option.some Jvm.ClassFile.FieldType.char)), (Jvm.Cond.methodLink "java/lang/StringUTF16" (67 : Nat) ({ cls := "java/lang/StringUTF16", name := "checkIndex", desc := "(I[B)V" } : Jvm.MethodName)), (Jvm.Cond.static ({ cls := "java/lang/StringUTF16", name := "checkIndex", desc := "(I[B)V" } : Jvm.MethodName)), (Jvm.Cond.code ({ cls := "java/lang/StringUTF16", name := "checkIndex", desc := "(I[B)V" } : Jvm.MethodName) prog_18_method_91_code (2 : Nat) (Option.none : Option Jvm.ClassFile.FieldType)), (Jvm.Cond.methodLink "java/lang/StringUTF16" (48 : Nat) ({ cls := "java/lang/StringUTF16", name := "length", desc := "([B)I" } : Jvm.MethodName)), (Jvm.Cond.static ({ cls := "java/lang/StringUTF16", name := "length", desc := "([B)I" } : Jvm.MethodName)), (Jvm.Cond.code ({ cls := "java/lang/StringUTF16", name := "length", desc := "([B)I" } : Jvm.MethodName) prog_18_method_6_code (1 : Nat) (Option.some Jvm.ClassFile.FieldType.int)), (Jvm.Cond.methodLink "java/lang/StringUTF16" (414 : Nat) ({ cls := "java/lang/String", name := "checkIndex", desc := "(II)V" } : Jvm.MethodName)), (Jvm.Cond.methodLink "java/lang/StringUTF16" (71 : Nat) ({ cls := "java/lang/StringUTF16", name := "getChar", desc := "([BI)C" } : Jvm.MethodName))]
def bk_2_14 : List Cond := [(Jvm.Cond.static ({ cls := "java/lang/StringUTF16", name := "getChar", desc := "([BI)C" } : Jvm.MethodName)), (Jvm.Cond.code ({ cls := "java/lang/StringUTF16", name := "getChar", desc := "([BI)C" } : Jvm.MethodName) prog_18_method_5_code (2 : Nat) (Option.some Jvm.ClassFile.FieldType.char)), (Jvm.Cond.fieldLink "java/lang/StringUTF16" (44 : Nat) "java/lang/StringUTF16" "$assertionsDisabled" "Z"), (Jvm.Cond.laysStatic "java/lang/StringUTF16" "$assertionsDisabled" "Z"), (Jvm.Cond.fieldLink "java/lang/StringUTF16" (59 : Nat) "java/lang/StringUTF16" "HI_BYTE_SHIFT" "I"), (Jvm.Cond.laysStatic "java/lang/StringUTF16" "HI_BYTE_SHIFT" "I"), (Jvm.Cond.fieldLink "java/lang/StringUTF16" (63 : Nat) "java/lang/StringUTF16" "LO_BYTE_SHIFT" "I"), (Jvm.Cond.laysStatic "java/lang/StringUTF16" "LO_BYTE_SHIFT" "I"), (Jvm.Cond.methodLink "DoorSchool$Reader" (88 : Nat) ({ cls := "DoorSchool$Reader", name := "pass", desc := "(Z)V" } : Jvm.MethodName)), (Jvm.Cond.privateMethod ({ cls := "DoorSchool$Reader", name := "pass", desc := "(Z)V" } : Jvm.MethodName)), (Jvm.Cond.instanceMethod ({ cls := "DoorSchool$Reader", name := "pass", desc := "(Z)V" } : Jvm.MethodName)), (Jvm.Cond.code ({ cls := "DoorSchool$Reader", name := "pass", desc := "(Z)V" } : Jvm.MethodName) prog_7_method_17_code (2 : Nat) (Option.none : Option Jvm.ClassFile.FieldType)), (Jvm.Cond.methodLink "DoorSchool$Reader" (84 : Nat) ({ cls := "DoorSchool$Reader", name := "blame", desc := "(I)V" } : Jvm.MethodName)), (Jvm.Cond.privateMethod ({ cls := "DoorSchool$Reader", name := "blame", desc := "(I)V" } : Jvm.MethodName)), (Jvm.Cond.instanceMethod ({ cls := "DoorSchool$Reader", name := "blame", desc := "(I)V" } : Jvm.MethodName)), (Jvm.Cond.code ({ cls := "DoorSchool$Reader", name := "blame", desc := "(I)V" } : Jvm.MethodName) prog_7_method_18_code (2 : Nat) (Option.none : Option Jvm.ClassFile.FieldType))]
set_option maxRecDepth 20000 in
theorem ck_2 : chunk 2 = bk_2_0 ++ (bk_2_1 ++ (bk_2_2 ++ (bk_2_3 ++ (bk_2_4 ++ (bk_2_5 ++ (bk_2_6 ++ (bk_2_7 ++ (bk_2_8 ++ (bk_2_9 ++ (bk_2_10 ++ (bk_2_11 ++ (bk_2_12 ++ (bk_2_13 ++ (bk_2_14)))))))))))))) := rfl
theorem bi_2_0 {w : Cond} (h : w ∈ bk_2_0) : w ∈ chunk 2 := by rw [ck_2]; exact List.mem_append_left _ h
theorem bi_2_1 {w : Cond} (h : w ∈ bk_2_1) : w ∈ chunk 2 := by rw [ck_2]; exact List.mem_append_right _ (List.mem_append_left _ h)
theorem bi_2_2 {w : Cond} (h : w ∈ bk_2_2) : w ∈ chunk 2 := by rw [ck_2]; exact List.mem_append_right _ (List.mem_append_right _ (List.mem_append_left _ h))
theorem bi_2_4 {w : Cond} (h : w ∈ bk_2_4) : w ∈ chunk 2 := by rw [ck_2]; exact List.mem_append_right _ (List.mem_append_right _ (List.mem_append_right _ (List.mem_append_right _ (List.mem_append_left _ h))))
theorem bi_2_5 {w : Cond} (h : w ∈ bk_2_5) : w ∈ chunk 2 := by rw [ck_2]; exact List.mem_append_right _ (List.mem_append_right _ (List.mem_append_right _ (List.mem_append_right _ (List.mem_append_right _ (List.mem_append_left _ h)))))
theorem bi_2_6 {w : Cond} (h : w ∈ bk_2_6) : w ∈ chunk 2 := by rw [ck_2]; exact List.mem_append_right _ (List.mem_append_right _ (List.mem_append_right _ (List.mem_append_right _ (List.mem_append_right _ (List.mem_append_right _ (List.mem_append_left _ h))))))
theorem bi_2_8 {w : Cond} (h : w ∈ bk_2_8) : w ∈ chunk 2 := by rw [ck_2]; exact List.mem_append_right _ (List.mem_append_right _ (List.mem_append_right _ (List.mem_append_right _ (List.mem_append_right _ (List.mem_append_right _ (List.mem_append_right _ (List.mem_append_right _ (List.mem_append_left _ h))))))))
theorem bi_2_9 {w : Cond} (h : w ∈ bk_2_9) : w ∈ chunk 2 := by rw [ck_2]; exact List.mem_append_right _ (List.mem_append_right _ (List.mem_append_right _ (List.mem_append_right _ (List.mem_append_right _ (List.mem_append_right _ (List.mem_append_right _ (List.mem_append_right _ (List.mem_append_right _ (List.mem_append_left _ h)))))))))
theorem bi_2_10 {w : Cond} (h : w ∈ bk_2_10) : w ∈ chunk 2 := by rw [ck_2]; exact List.mem_append_right _ (List.mem_append_right _ (List.mem_append_right _ (List.mem_append_right _ (List.mem_append_right _ (List.mem_append_right _ (List.mem_append_right _ (List.mem_append_right _ (List.mem_append_right _ (List.mem_append_right _ (List.mem_append_left _ h))))))))))
theorem bi_2_11 {w : Cond} (h : w ∈ bk_2_11) : w ∈ chunk 2 := by rw [ck_2]; exact List.mem_append_right _ (List.mem_append_right _ (List.mem_append_right _ (List.mem_append_right _ (List.mem_append_right _ (List.mem_append_right _ (List.mem_append_right _ (List.mem_append_right _ (List.mem_append_right _ (List.mem_append_right _ (List.mem_append_right _ (List.mem_append_left _ h)))))))))))
theorem bi_2_12 {w : Cond} (h : w ∈ bk_2_12) : w ∈ chunk 2 := by rw [ck_2]; exact List.mem_append_right _ (List.mem_append_right _ (List.mem_append_right _ (List.mem_append_right _ (List.mem_append_right _ (List.mem_append_right _ (List.mem_append_right _ (List.mem_append_right _ (List.mem_append_right _ (List.mem_append_right _ (List.mem_append_right _ (List.mem_append_right _ (List.mem_append_left _ h))))))))))))
theorem bi_2_13 {w : Cond} (h : w ∈ bk_2_13) : w ∈ chunk 2 := by rw [ck_2]; exact List.mem_append_right _ (List.mem_append_right _ (List.mem_append_right _ (List.mem_append_right _ (List.mem_append_right _ (List.mem_append_right _ (List.mem_append_right _ (List.mem_append_right _ (List.mem_append_right _ (List.mem_append_right _ (List.mem_append_right _ (List.mem_append_right _ (List.mem_append_right _ (List.mem_append_left _ h)))))))))))))
theorem bi_2_14 {w : Cond} (h : w ∈ bk_2_14) : w ∈ chunk 2 := by rw [ck_2]; exact List.mem_append_right _ (List.mem_append_right _ (List.mem_append_right _ (List.mem_append_right _ (List.mem_append_right _ (List.mem_append_right _ (List.mem_append_right _ (List.mem_append_right _ (List.mem_append_right _ (List.mem_append_right _ (List.mem_append_right _ (List.mem_append_right _ (List.mem_append_right _ (List.mem_append_right _ (h))))))))))))))
def bk_3_0 : List Cond := [(Jvm.Cond.stringRef "DoorSchool$Reader" (97 : Nat) "signs"), (Jvm.Cond.methodLink "DoorSchool$Reader" (99 : Nat) ({ cls := "DoorSchool$Reader", name := "takeNumber", desc := "(II)I" } : Jvm.MethodName)), (Jvm.Cond.privateMethod ({ cls := "DoorSchool$Reader", name := "takeNumber", desc := "(II)I" } : Jvm.MethodName)), (Jvm.Cond.instanceMethod ({ cls := "DoorSchool$Reader", name := "takeNumber", desc := "(II)I" } : Jvm.MethodName)), (Jvm.Cond.code ({ cls := "DoorSchool$Reader", name := "takeNumber", desc := "(II)I" } : Jvm.MethodName) prog_7_method_15_code (4 : Nat) (Option.some Jvm.ClassFile.FieldType.int)), (Jvm.Cond.methodLink "DoorSchool$Reader" (128 : Nat) ({ cls := "DoorSchool$Reader", name := "numberHere", desc := "(II)I" } : Jvm.MethodName)), (Jvm.Cond.privateMethod ({ cls := "DoorSchool$Reader", name := "numberHere", desc := "(II)I" } : Jvm.MethodName)), (Jvm.Cond.instanceMethod ({ cls := "DoorSchool$Reader", name := "numberHere", desc := "(II)I" } : Jvm.MethodName)), (Jvm.Cond.code ({ cls := "DoorSchool$Reader", name := "numberHere", desc := "(II)I" } : Jvm.MethodName) prog_7_method_16_code (3 : Nat) (Option.some Jvm.ClassFile.FieldType.int)), (Jvm.Cond.stringRef "DoorSchool$Reader" (105 : Nat) "teachers"), (Jvm.Cond.stringRef "DoorSchool$Reader" (40 : Nat) "door"), (Jvm.Cond.methodLink "DoorSchool$Reader" (46 : Nat) ({ cls := "DoorSchool$Reader", name := "readDoor", desc := "(LDoorSchool$Plan;)V" } : Jvm.MethodName)), (Jvm.Cond.privateMethod ({ cls := "DoorSchool$Reader", name := "readDoor", desc := "(LDoorSchool$Plan;)V" } : Jvm.MethodName)), (Jvm.Cond.instanceMethod ({ cls := "DoorSchool$Reader", name := "readDoor", desc := "(LDoorSchool$Plan;)V" } : Jvm.MethodName)), (Jvm.Cond.code ({ cls := "DoorSchool$Reader", name := "readDoor", desc := "(LDoorSchool$Plan;)V" } : Jvm.MethodName) prog_7_method_4_code (4 : Nat) (Option.none : Option Jvm.ClassFile.FieldType)), (Jvm.Cond.methodLink "DoorSchool$Reader" (112 : Nat) ({ cls := "DoorSchool$Reader", name := "takeWay", desc := "()I" } : Jvm.MethodName))]
def bk_3_1 : List Cond := [(Jvm.Cond.privateMethod ({ cls := "DoorSchool$Reader", name := "takeWay", desc := "()I" } : Jvm.MethodName)), (Jvm.Cond.instanceMethod ({ cls := "DoorSchool$Reader", name := "takeWay", desc := "()I" } : Jvm.MethodName)), (Jvm.Cond.code ({ cls := "DoorSchool$Reader", name := "takeWay", desc := "()I" } : Jvm.MethodName) prog_7_method_13_code (2 : Nat) (Option.some Jvm.ClassFile.FieldType.int)), (Jvm.Cond.stringRef "DoorSchool$Reader" (193 : Nat) "heart"), (Jvm.Cond.stringRef "DoorSchool$Reader" (195 : Nat) "shortest"), (Jvm.Cond.stringRef "DoorSchool$Reader" (197 : Nat) "nearest"), (Jvm.Cond.stringRef "DoorSchool$Reader" (116 : Nat) "slips"), (Jvm.Cond.methodLinkNest "DoorSchool$Reader" (122 : Nat) ({ cls := "DoorSchool$Door", name := "begin", desc := "(II)V" } : Jvm.MethodName) "DoorSchool"), (Jvm.Cond.privateMethod ({ cls := "DoorSchool$Door", name := "begin", desc := "(II)V" } : Jvm.MethodName)), (Jvm.Cond.instanceMethod ({ cls := "DoorSchool$Door", name := "begin", desc := "(II)V" } : Jvm.MethodName)), (Jvm.Cond.code ({ cls := "DoorSchool$Door", name := "begin", desc := "(II)V" } : Jvm.MethodName) prog_2_method_2_code (3 : Nat) (Option.none : Option Jvm.ClassFile.FieldType)), (Jvm.Cond.stringRef "DoorSchool$Reader" (49 : Nat) "lesson"), (Jvm.Cond.methodLink "DoorSchool$Reader" (51 : Nat) ({ cls := "DoorSchool$Reader", name := "readLesson", desc := "(LDoorSchool$Plan;)V" } : Jvm.MethodName)), (Jvm.Cond.privateMethod ({ cls := "DoorSchool$Reader", name := "readLesson", desc := "(LDoorSchool$Plan;)V" } : Jvm.MethodName)), (Jvm.Cond.instanceMethod ({ cls := "DoorSchool$Reader", name := "readLesson", desc := "(LDoorSchool$Plan;)V" } : Jvm.MethodName)), (Jvm.Cond.code ({ cls := "DoorSchool$Reader", name := "readLesson", desc := "(LDoorSchool$Plan;)V" } : Jvm.MethodName) prog_7_method_5_code (4 : Nat) (Option.none : Option Jvm.ClassFile.FieldType))]
def bk_3_2 : List Cond := [(Jvm.Cond.methodLink "DoorSchool$Reader" (140 : Nat) ({ cls := "DoorSchool$Reader", name := "readSaid", desc := "(LDoorSchool$Plan;LDoorSchool$Lessons;)V" } : Jvm.MethodName)), (Jvm.Cond.privateMethod ({ cls := "DoorSchool$Reader", name := "readSaid", desc := "(LDoorSchool$Plan;LDoorSchool$Lessons;)V" } : Jvm.MethodName)), (Jvm.Cond.instanceMethod ({ cls := "DoorSchool$Reader", name := "readSaid", desc := "(LDoorSchool$Plan;LDoorSchool$Lessons;)V" } : Jvm.MethodName)), (Jvm.Cond.code ({ cls := "DoorSchool$Reader", name := "readSaid", desc := "(LDoorSchool$Plan;LDoorSchool$Lessons;)V" } : Jvm.MethodName) prog_7_method_7_code (5 : Nat) (Option.none : Option Jvm.ClassFile.FieldType)), (Jvm.Cond.methodLinkNest "DoorSchool$Reader" (147 : Nat) ({ cls := "DoorSchool$Plan", name := "knocks", desc := "()I" } : Jvm.MethodName) "DoorSchool"), (Jvm.Cond.privateMethod ({ cls := "DoorSchool$Plan", name := "knocks", desc := "()I" } : Jvm.MethodName)), (Jvm.Cond.instanceMethod ({ cls := "DoorSchool$Plan", name := "knocks", desc := "()I" } : Jvm.MethodName)), (Jvm.Cond.code ({ cls := "DoorSchool$Plan", name := "knocks", desc := "()I" } : Jvm.MethodName) prog_6_method_5_code (1 : Nat) (Option.some Jvm.ClassFile.FieldType.int)), (Jvm.Cond.stringRef "DoorSchool$Reader" (150 : Nat) "open"), (Jvm.Cond.stringRef "DoorSchool$Reader" (152 : Nat) "shut"), (Jvm.Cond.methodLinkNest "DoorSchool$Reader" (154 : Nat) ({ cls := "DoorSchool$Lessons", name := "add", desc := "(II)V" } : Jvm.MethodName) "DoorSchool"), (Jvm.Cond.privateMethod ({ cls := "DoorSchool$Lessons", name := "add", desc := "(II)V" } : Jvm.MethodName)), (Jvm.Cond.instanceMethod ({ cls := "DoorSchool$Lessons", name := "add", desc := "(II)V" } : Jvm.MethodName)), (Jvm.Cond.code ({ cls := "DoorSchool$Lessons", name := "add", desc := "(II)V" } : Jvm.MethodName) prog_5_method_2_code (3 : Nat) (Option.none : Option Jvm.ClassFile.FieldType)), (Jvm.Cond.methodLink "DoorSchool$Lessons" (22 : Nat) ({ cls := "DoorSchool$Lessons", name := "putIn", desc := "(III)V" } : Jvm.MethodName)), (Jvm.Cond.privateMethod ({ cls := "DoorSchool$Lessons", name := "putIn", desc := "(III)V" } : Jvm.MethodName))]
def bk_3_3 : List Cond := [(Jvm.Cond.instanceMethod ({ cls := "DoorSchool$Lessons", name := "putIn", desc := "(III)V" } : Jvm.MethodName)), (Jvm.Cond.code ({ cls := "DoorSchool$Lessons", name := "putIn", desc := "(III)V" } : Jvm.MethodName) prog_5_method_4_code (5 : Nat) (Option.none : Option Jvm.ClassFile.FieldType)), (Jvm.Cond.stringRef "DoorSchool$Reader" (54 : Nat) "exam"), (Jvm.Cond.methodLink "DoorSchool$Reader" (56 : Nat) ({ cls := "DoorSchool$Reader", name := "readExam", desc := "(LDoorSchool$Plan;)V" } : Jvm.MethodName)), (Jvm.Cond.privateMethod ({ cls := "DoorSchool$Reader", name := "readExam", desc := "(LDoorSchool$Plan;)V" } : Jvm.MethodName)), (Jvm.Cond.instanceMethod ({ cls := "DoorSchool$Reader", name := "readExam", desc := "(LDoorSchool$Plan;)V" } : Jvm.MethodName)), (Jvm.Cond.code ({ cls := "DoorSchool$Reader", name := "readExam", desc := "(LDoorSchool$Plan;)V" } : Jvm.MethodName) prog_7_method_6_code (2 : Nat) (Option.none : Option Jvm.ClassFile.FieldType)), (Jvm.Cond.stringRef "DoorSchool$Reader" (59 : Nat) "twin"), (Jvm.Cond.methodLink "DoorSchool$Reader" (61 : Nat) ({ cls := "DoorSchool$Reader", name := "readTwin", desc := "(LDoorSchool$Plan;)V" } : Jvm.MethodName)), (Jvm.Cond.privateMethod ({ cls := "DoorSchool$Reader", name := "readTwin", desc := "(LDoorSchool$Plan;)V" } : Jvm.MethodName)), (Jvm.Cond.instanceMethod ({ cls := "DoorSchool$Reader", name := "readTwin", desc := "(LDoorSchool$Plan;)V" } : Jvm.MethodName)), (Jvm.Cond.code ({ cls := "DoorSchool$Reader", name := "readTwin", desc := "(LDoorSchool$Plan;)V" } : Jvm.MethodName) prog_7_method_8_code (4 : Nat) (Option.none : Option Jvm.ClassFile.FieldType)), (Jvm.Cond.methodLinkNest "DoorSchool$Reader" (160 : Nat) ({ cls := "DoorSchool$Plan", name := "isCopied", desc := "(I)Z" } : Jvm.MethodName) "DoorSchool"), (Jvm.Cond.privateMethod ({ cls := "DoorSchool$Plan", name := "isCopied", desc := "(I)Z" } : Jvm.MethodName)), (Jvm.Cond.instanceMethod ({ cls := "DoorSchool$Plan", name := "isCopied", desc := "(I)Z" } : Jvm.MethodName)), (Jvm.Cond.code ({ cls := "DoorSchool$Plan", name := "isCopied", desc := "(I)Z" } : Jvm.MethodName) prog_6_method_11_code (3 : Nat) (Option.some Jvm.ClassFile.FieldType.boolean))]
def bk_3_4 : List Cond := [(Jvm.Cond.stringRef "DoorSchool$Reader" (64 : Nat) "owner"), (Jvm.Cond.methodLink "DoorSchool$Reader" (66 : Nat) ({ cls := "DoorSchool$Reader", name := "readOwner", desc := "(LDoorSchool$Plan;)V" } : Jvm.MethodName)), (Jvm.Cond.privateMethod ({ cls := "DoorSchool$Reader", name := "readOwner", desc := "(LDoorSchool$Plan;)V" } : Jvm.MethodName)), (Jvm.Cond.instanceMethod ({ cls := "DoorSchool$Reader", name := "readOwner", desc := "(LDoorSchool$Plan;)V" } : Jvm.MethodName)), (Jvm.Cond.code ({ cls := "DoorSchool$Reader", name := "readOwner", desc := "(LDoorSchool$Plan;)V" } : Jvm.MethodName) prog_7_method_9_code (4 : Nat) (Option.none : Option Jvm.ClassFile.FieldType)), (Jvm.Cond.methodLink "DoorSchool$Reader" (164 : Nat) ({ cls := "DoorSchool$Reader", name := "takePart", desc := "(I)I" } : Jvm.MethodName)), (Jvm.Cond.privateMethod ({ cls := "DoorSchool$Reader", name := "takePart", desc := "(I)I" } : Jvm.MethodName)), (Jvm.Cond.instanceMethod ({ cls := "DoorSchool$Reader", name := "takePart", desc := "(I)I" } : Jvm.MethodName)), (Jvm.Cond.code ({ cls := "DoorSchool$Reader", name := "takePart", desc := "(I)I" } : Jvm.MethodName) prog_7_method_14_code (3 : Nat) (Option.some Jvm.ClassFile.FieldType.int)), (Jvm.Cond.stringRef "DoorSchool$Reader" (69 : Nat) "house"), (Jvm.Cond.methodLink "DoorSchool$Reader" (71 : Nat) ({ cls := "DoorSchool$Reader", name := "readHouse", desc := "(LDoorSchool$Plan;)V" } : Jvm.MethodName)), (Jvm.Cond.privateMethod ({ cls := "DoorSchool$Reader", name := "readHouse", desc := "(LDoorSchool$Plan;)V" } : Jvm.MethodName)), (Jvm.Cond.instanceMethod ({ cls := "DoorSchool$Reader", name := "readHouse", desc := "(LDoorSchool$Plan;)V" } : Jvm.MethodName)), (Jvm.Cond.code ({ cls := "DoorSchool$Reader", name := "readHouse", desc := "(LDoorSchool$Plan;)V" } : Jvm.MethodName) prog_7_method_10_code (4 : Nat) (Option.none : Option Jvm.ClassFile.FieldType)), (Jvm.Cond.stringRef "DoorSchool$Reader" (74 : Nat) "course"), (Jvm.Cond.methodLink "DoorSchool$Reader" (76 : Nat) ({ cls := "DoorSchool$Reader", name := "readCourse", desc := "(LDoorSchool$Plan;)V" } : Jvm.MethodName))]
def bk_3_5 : List Cond := [(Jvm.Cond.privateMethod ({ cls := "DoorSchool$Reader", name := "readCourse", desc := "(LDoorSchool$Plan;)V" } : Jvm.MethodName)), (Jvm.Cond.instanceMethod ({ cls := "DoorSchool$Reader", name := "readCourse", desc := "(LDoorSchool$Plan;)V" } : Jvm.MethodName)), (Jvm.Cond.code ({ cls := "DoorSchool$Reader", name := "readCourse", desc := "(LDoorSchool$Plan;)V" } : Jvm.MethodName) prog_7_method_11_code (3 : Nat) (Option.none : Option Jvm.ClassFile.FieldType)), (Jvm.Cond.stringRef "DoorSchool$Reader" (187 : Nat) "takes"), (Jvm.Cond.stringRef "DoorSchool$Reader" (79 : Nat) "ahead"), (Jvm.Cond.methodLink "DoorSchool$Reader" (81 : Nat) ({ cls := "DoorSchool$Reader", name := "readAhead", desc := "(LDoorSchool$Plan;)V" } : Jvm.MethodName)), (Jvm.Cond.privateMethod ({ cls := "DoorSchool$Reader", name := "readAhead", desc := "(LDoorSchool$Plan;)V" } : Jvm.MethodName)), (Jvm.Cond.instanceMethod ({ cls := "DoorSchool$Reader", name := "readAhead", desc := "(LDoorSchool$Plan;)V" } : Jvm.MethodName)), (Jvm.Cond.code ({ cls := "DoorSchool$Reader", name := "readAhead", desc := "(LDoorSchool$Plan;)V" } : Jvm.MethodName) prog_7_method_12_code (4 : Nat) (Option.none : Option Jvm.ClassFile.FieldType)), (Jvm.Cond.methodLinkNest "DoorSchool" (98 : Nat) ({ cls := "DoorSchool$Rules", name := "prepare", desc := "(I)V" } : Jvm.MethodName) "DoorSchool"), (Jvm.Cond.privateMethod ({ cls := "DoorSchool$Rules", name := "prepare", desc := "(I)V" } : Jvm.MethodName)), (Jvm.Cond.instanceMethod ({ cls := "DoorSchool$Rules", name := "prepare", desc := "(I)V" } : Jvm.MethodName)), (Jvm.Cond.code ({ cls := "DoorSchool$Rules", name := "prepare", desc := "(I)V" } : Jvm.MethodName) prog_8_method_2_code (4 : Nat) (Option.none : Option Jvm.ClassFile.FieldType)), (Jvm.Cond.methodLink "DoorSchool$Rules" (28 : Nat) ({ cls := "java/lang/Integer", name := "bitCount", desc := "(I)I" } : Jvm.MethodName)), (Jvm.Cond.methodLink "DoorSchool$Rules" (34 : Nat) ({ cls := "DoorSchool$Rules", name := "addAllOf", desc := "(I)V" } : Jvm.MethodName)), (Jvm.Cond.privateMethod ({ cls := "DoorSchool$Rules", name := "addAllOf", desc := "(I)V" } : Jvm.MethodName))]
def bk_3_6 : List Cond := [(Jvm.Cond.instanceMethod ({ cls := "DoorSchool$Rules", name := "addAllOf", desc := "(I)V" } : Jvm.MethodName)), (Jvm.Cond.code ({ cls := "DoorSchool$Rules", name := "addAllOf", desc := "(I)V" } : Jvm.MethodName) prog_8_method_3_code (3 : Nat) (Option.none : Option Jvm.ClassFile.FieldType)), (Jvm.Cond.methodLink "DoorSchool$Rules" (38 : Nat) ({ cls := "DoorSchool$Rules", name := "deedsOf", desc := "(II)I" } : Jvm.MethodName)), (Jvm.Cond.privateMethod ({ cls := "DoorSchool$Rules", name := "deedsOf", desc := "(II)I" } : Jvm.MethodName)), (Jvm.Cond.instanceMethod ({ cls := "DoorSchool$Rules", name := "deedsOf", desc := "(II)I" } : Jvm.MethodName)), (Jvm.Cond.code ({ cls := "DoorSchool$Rules", name := "deedsOf", desc := "(II)I" } : Jvm.MethodName) prog_8_method_4_code (5 : Nat) (Option.some Jvm.ClassFile.FieldType.int)), (Jvm.Cond.methodLink "DoorSchoolLaw" (28 : Nat) ({ cls := "DoorSchool", name := "fault", desc := "(I)I" } : Jvm.MethodName)), (Jvm.Cond.instanceMethod ({ cls := "DoorSchool", name := "fault", desc := "(I)I" } : Jvm.MethodName)), (Jvm.Cond.selects "DoorSchool" ({ cls := "DoorSchool", name := "fault", desc := "(I)I" } : Jvm.MethodName) ({ cls := "DoorSchool", name := "fault", desc := "(I)I" } : Jvm.MethodName)), (Jvm.Cond.code ({ cls := "DoorSchool", name := "fault", desc := "(I)I" } : Jvm.MethodName) prog_1_method_5_code (2 : Nat) (Option.some Jvm.ClassFile.FieldType.int)), (Jvm.Cond.methodLink "DoorSchoolLaw" (32 : Nat) ({ cls := "DoorSchool", name := "door", desc := "(II)I" } : Jvm.MethodName)), (Jvm.Cond.instanceMethod ({ cls := "DoorSchool", name := "door", desc := "(II)I" } : Jvm.MethodName)), (Jvm.Cond.selects "DoorSchool" ({ cls := "DoorSchool", name := "door", desc := "(II)I" } : Jvm.MethodName) ({ cls := "DoorSchool", name := "door", desc := "(II)I" } : Jvm.MethodName)), (Jvm.Cond.code ({ cls := "DoorSchool", name := "door", desc := "(II)I" } : Jvm.MethodName) prog_1_method_6_code (4 : Nat) (Option.some Jvm.ClassFile.FieldType.int)), (Jvm.Cond.methodLinkNest "DoorSchool" (107 : Nat) ({ cls := "DoorSchool$Plan", name := "isDoor", desc := "(I)Z" } : Jvm.MethodName) "DoorSchool"), (Jvm.Cond.privateMethod ({ cls := "DoorSchool$Plan", name := "isDoor", desc := "(I)Z" } : Jvm.MethodName))]
def bk_3_7 : List Cond := [(Jvm.Cond.instanceMethod ({ cls := "DoorSchool$Plan", name := "isDoor", desc := "(I)Z" } : Jvm.MethodName)), (Jvm.Cond.code ({ cls := "DoorSchool$Plan", name := "isDoor", desc := "(I)Z" } : Jvm.MethodName) prog_6_method_6_code (2 : Nat) (Option.some Jvm.ClassFile.FieldType.boolean)), (Jvm.Cond.methodLink "DoorSchoolLaw" (37 : Nat) ({ cls := "DoorSchool", name := "lesson", desc := "(III)I" } : Jvm.MethodName)), (Jvm.Cond.instanceMethod ({ cls := "DoorSchool", name := "lesson", desc := "(III)I" } : Jvm.MethodName)), (Jvm.Cond.selects "DoorSchool" ({ cls := "DoorSchool", name := "lesson", desc := "(III)I" } : Jvm.MethodName) ({ cls := "DoorSchool", name := "lesson", desc := "(III)I" } : Jvm.MethodName)), (Jvm.Cond.code ({ cls := "DoorSchool", name := "lesson", desc := "(III)I" } : Jvm.MethodName) prog_1_method_7_code (5 : Nat) (Option.some Jvm.ClassFile.FieldType.int)), (Jvm.Cond.methodLink "DoorSchool" (133 : Nat) ({ cls := "DoorSchool", name := "isZeroOrOne", desc := "(I)Z" } : Jvm.MethodName)), (Jvm.Cond.static ({ cls := "DoorSchool", name := "isZeroOrOne", desc := "(I)Z" } : Jvm.MethodName)), (Jvm.Cond.code ({ cls := "DoorSchool", name := "isZeroOrOne", desc := "(I)Z" } : Jvm.MethodName) prog_1_method_66_code (1 : Nat) (Option.some Jvm.ClassFile.FieldType.boolean)), (Jvm.Cond.methodLink "DoorSchoolLaw" (42 : Nat) ({ cls := "DoorSchool", name := "exam", desc := "(II)I" } : Jvm.MethodName)), (Jvm.Cond.instanceMethod ({ cls := "DoorSchool", name := "exam", desc := "(II)I" } : Jvm.MethodName)), (Jvm.Cond.selects "DoorSchool" ({ cls := "DoorSchool", name := "exam", desc := "(II)I" } : Jvm.MethodName) ({ cls := "DoorSchool", name := "exam", desc := "(II)I" } : Jvm.MethodName)), (Jvm.Cond.code ({ cls := "DoorSchool", name := "exam", desc := "(II)I" } : Jvm.MethodName) prog_1_method_8_code (3 : Nat) (Option.some Jvm.ClassFile.FieldType.int)), (Jvm.Cond.methodLink "DoorSchoolLaw" (46 : Nat) ({ cls := "DoorSchool", name := "house", desc := "(II)I" } : Jvm.MethodName)), (Jvm.Cond.instanceMethod ({ cls := "DoorSchool", name := "house", desc := "(II)I" } : Jvm.MethodName)), (Jvm.Cond.selects "DoorSchool" ({ cls := "DoorSchool", name := "house", desc := "(II)I" } : Jvm.MethodName) ({ cls := "DoorSchool", name := "house", desc := "(II)I" } : Jvm.MethodName))]
def bk_3_8 : List Cond := [(Jvm.Cond.code ({ cls := "DoorSchool", name := "house", desc := "(II)I" } : Jvm.MethodName) prog_1_method_9_code (5 : Nat) (Option.some Jvm.ClassFile.FieldType.int)), (Jvm.Cond.methodLinkNest "DoorSchool" (146 : Nat) ({ cls := "DoorSchool$Plan", name := "exists", desc := "()Z" } : Jvm.MethodName) "DoorSchool"), (Jvm.Cond.privateMethod ({ cls := "DoorSchool$Plan", name := "exists", desc := "()Z" } : Jvm.MethodName)), (Jvm.Cond.instanceMethod ({ cls := "DoorSchool$Plan", name := "exists", desc := "()Z" } : Jvm.MethodName)), (Jvm.Cond.code ({ cls := "DoorSchool$Plan", name := "exists", desc := "()Z" } : Jvm.MethodName) prog_6_method_4_code (1 : Nat) (Option.some Jvm.ClassFile.FieldType.boolean)), (Jvm.Cond.methodLinkNest "DoorSchool" (150 : Nat) ({ cls := "DoorSchool$Plan", name := "isHouse", desc := "(I)Z" } : Jvm.MethodName) "DoorSchool"), (Jvm.Cond.privateMethod ({ cls := "DoorSchool$Plan", name := "isHouse", desc := "(I)Z" } : Jvm.MethodName)), (Jvm.Cond.instanceMethod ({ cls := "DoorSchool$Plan", name := "isHouse", desc := "(I)Z" } : Jvm.MethodName)), (Jvm.Cond.code ({ cls := "DoorSchool$Plan", name := "isHouse", desc := "(I)Z" } : Jvm.MethodName) prog_6_method_7_code (2 : Nat) (Option.some Jvm.ClassFile.FieldType.boolean)), (Jvm.Cond.methodLinkNest "DoorSchool" (165 : Nat) ({ cls := "DoorSchool$Rules", name := "deedsOf", desc := "(II)I" } : Jvm.MethodName) "DoorSchool"), (Jvm.Cond.methodLink "DoorSchool" (169 : Nat) ({ cls := "java/lang/Integer", name := "bitCount", desc := "(I)I" } : Jvm.MethodName)), (Jvm.Cond.methodLink "DoorSchoolLaw" (50 : Nat) ({ cls := "DoorSchool", name := "opens", desc := "(II)I" } : Jvm.MethodName)), (Jvm.Cond.instanceMethod ({ cls := "DoorSchool", name := "opens", desc := "(II)I" } : Jvm.MethodName)), (Jvm.Cond.selects "DoorSchool" ({ cls := "DoorSchool", name := "opens", desc := "(II)I" } : Jvm.MethodName) ({ cls := "DoorSchool", name := "opens", desc := "(II)I" } : Jvm.MethodName)), (Jvm.Cond.code ({ cls := "DoorSchool", name := "opens", desc := "(II)I" } : Jvm.MethodName) prog_1_method_10_code (3 : Nat) (Option.some Jvm.ClassFile.FieldType.int)), (Jvm.Cond.methodLinkNest "DoorSchool" (175 : Nat) ({ cls := "DoorSchool$Plan", name := "isKnock", desc := "(I)Z" } : Jvm.MethodName) "DoorSchool")]
def bk_3_9 : List Cond := [(Jvm.Cond.privateMethod ({ cls := "DoorSchool$Plan", name := "isKnock", desc := "(I)Z" } : Jvm.MethodName)), (Jvm.Cond.instanceMethod ({ cls := "DoorSchool$Plan", name := "isKnock", desc := "(I)Z" } : Jvm.MethodName)), (Jvm.Cond.code ({ cls := "DoorSchool$Plan", name := "isKnock", desc := "(I)Z" } : Jvm.MethodName) prog_6_method_8_code (2 : Nat) (Option.some Jvm.ClassFile.FieldType.boolean)), (Jvm.Cond.methodLink "DoorSchool$Plan" (91 : Nat) ({ cls := "DoorSchool$Plan", name := "exists", desc := "()Z" } : Jvm.MethodName)), (Jvm.Cond.methodLink "DoorSchool$Plan" (95 : Nat) ({ cls := "DoorSchool$Plan", name := "knocks", desc := "()I" } : Jvm.MethodName)), (Jvm.Cond.methodLink "DoorSchool" (178 : Nat) ({ cls := "DoorSchool", name := "doneBy", desc := "(I)I" } : Jvm.MethodName)), (Jvm.Cond.privateMethod ({ cls := "DoorSchool", name := "doneBy", desc := "(I)I" } : Jvm.MethodName)), (Jvm.Cond.instanceMethod ({ cls := "DoorSchool", name := "doneBy", desc := "(I)I" } : Jvm.MethodName)), (Jvm.Cond.code ({ cls := "DoorSchool", name := "doneBy", desc := "(I)I" } : Jvm.MethodName) prog_1_method_73_code (3 : Nat) (Option.some Jvm.ClassFile.FieldType.int)), (Jvm.Cond.methodLinkNest "DoorSchool" (184 : Nat) ({ cls := "DoorSchool$Plan", name := "modelOf", desc := "(I)LDoorSchool$Door;" } : Jvm.MethodName) "DoorSchool"), (Jvm.Cond.privateMethod ({ cls := "DoorSchool$Plan", name := "modelOf", desc := "(I)LDoorSchool$Door;" } : Jvm.MethodName)), (Jvm.Cond.instanceMethod ({ cls := "DoorSchool$Plan", name := "modelOf", desc := "(I)LDoorSchool$Door;" } : Jvm.MethodName)), (Jvm.Cond.code ({ cls := "DoorSchool$Plan", name := "modelOf", desc := "(I)LDoorSchool$Door;" } : Jvm.MethodName) prog_6_method_12_code (3 : Nat) (Option.some (Jvm.ClassFile.FieldType.object "DoorSchool$Door"))), (Jvm.Cond.methodLinkNest "DoorSchool" (397 : Nat) ({ cls := "DoorSchool$Learner", name := "learn", desc := "(ILDoorSchool$Lessons;)I" } : Jvm.MethodName) "DoorSchool"), (Jvm.Cond.privateMethod ({ cls := "DoorSchool$Learner", name := "learn", desc := "(ILDoorSchool$Lessons;)I" } : Jvm.MethodName)), (Jvm.Cond.instanceMethod ({ cls := "DoorSchool$Learner", name := "learn", desc := "(ILDoorSchool$Lessons;)I" } : Jvm.MethodName))]
def bk_3_10 : List Cond := [(Jvm.Cond.code ({ cls := "DoorSchool$Learner", name := "learn", desc := "(ILDoorSchool$Lessons;)I" } : Jvm.MethodName) prog_4_method_2_code (6 : Nat) (Option.some Jvm.ClassFile.FieldType.int)), (Jvm.Cond.methodLinkNest "DoorSchool$Learner" (25 : Nat) ({ cls := "DoorSchool$Lessons", name := "said", desc := "(I)I" } : Jvm.MethodName) "DoorSchool"), (Jvm.Cond.privateMethod ({ cls := "DoorSchool$Lessons", name := "said", desc := "(I)I" } : Jvm.MethodName)), (Jvm.Cond.instanceMethod ({ cls := "DoorSchool$Lessons", name := "said", desc := "(I)I" } : Jvm.MethodName)), (Jvm.Cond.code ({ cls := "DoorSchool$Lessons", name := "said", desc := "(I)I" } : Jvm.MethodName) prog_5_method_7_code (4 : Nat) (Option.some Jvm.ClassFile.FieldType.int)), (Jvm.Cond.methodLinkNest "DoorSchool$Learner" (30 : Nat) ({ cls := "DoorSchool$Rules", name := "first", desc := "(II)I" } : Jvm.MethodName) "DoorSchool"), (Jvm.Cond.privateMethod ({ cls := "DoorSchool$Rules", name := "first", desc := "(II)I" } : Jvm.MethodName)), (Jvm.Cond.instanceMethod ({ cls := "DoorSchool$Rules", name := "first", desc := "(II)I" } : Jvm.MethodName)), (Jvm.Cond.code ({ cls := "DoorSchool$Rules", name := "first", desc := "(II)I" } : Jvm.MethodName) prog_8_method_6_code (4 : Nat) (Option.some Jvm.ClassFile.FieldType.int)), (Jvm.Cond.methodLinkNest "DoorSchool$Rules" (42 : Nat) ({ cls := "DoorSchool", name := "agree", desc := "(III)Z" } : Jvm.MethodName) "DoorSchool"), (Jvm.Cond.static ({ cls := "DoorSchool", name := "agree", desc := "(III)Z" } : Jvm.MethodName)), (Jvm.Cond.code ({ cls := "DoorSchool", name := "agree", desc := "(III)Z" } : Jvm.MethodName) prog_1_method_72_code (3 : Nat) (Option.some Jvm.ClassFile.FieldType.boolean)), (Jvm.Cond.methodLinkNest "DoorSchool$Learner" (43 : Nat) ({ cls := "DoorSchool$Lessons", name := "latestOf", desc := "(I)I" } : Jvm.MethodName) "DoorSchool"), (Jvm.Cond.privateMethod ({ cls := "DoorSchool$Lessons", name := "latestOf", desc := "(I)I" } : Jvm.MethodName)), (Jvm.Cond.instanceMethod ({ cls := "DoorSchool$Lessons", name := "latestOf", desc := "(I)I" } : Jvm.MethodName)), (Jvm.Cond.code ({ cls := "DoorSchool$Lessons", name := "latestOf", desc := "(I)I" } : Jvm.MethodName) prog_5_method_8_code (3 : Nat) (Option.some Jvm.ClassFile.FieldType.int))]
def bk_3_11 : List Cond := [(Jvm.Cond.methodLinkNest "DoorSchool$Learner" (46 : Nat) ({ cls := "DoorSchool$Lessons", name := "nearestTo", desc := "(I)I" } : Jvm.MethodName) "DoorSchool"), (Jvm.Cond.privateMethod ({ cls := "DoorSchool$Lessons", name := "nearestTo", desc := "(I)I" } : Jvm.MethodName)), (Jvm.Cond.instanceMethod ({ cls := "DoorSchool$Lessons", name := "nearestTo", desc := "(I)I" } : Jvm.MethodName)), (Jvm.Cond.code ({ cls := "DoorSchool$Lessons", name := "nearestTo", desc := "(I)I" } : Jvm.MethodName) prog_5_method_9_code (6 : Nat) (Option.some Jvm.ClassFile.FieldType.int)), (Jvm.Cond.methodLink "DoorSchool$Lessons" (36 : Nat) ({ cls := "java/lang/Integer", name := "bitCount", desc := "(I)I" } : Jvm.MethodName)), (Jvm.Cond.methodLink "DoorSchool" (181 : Nat) ({ cls := "DoorSchool", name := "bit", desc := "(II)I" } : Jvm.MethodName)), (Jvm.Cond.static ({ cls := "DoorSchool", name := "bit", desc := "(II)I" } : Jvm.MethodName)), (Jvm.Cond.code ({ cls := "DoorSchool", name := "bit", desc := "(II)I" } : Jvm.MethodName) prog_1_method_71_code (2 : Nat) (Option.some Jvm.ClassFile.FieldType.int)), (Jvm.Cond.methodLink "DoorSchoolLaw" (54 : Nat) ({ cls := "DoorSchool", name := "deeds", desc := "(I)I" } : Jvm.MethodName)), (Jvm.Cond.instanceMethod ({ cls := "DoorSchool", name := "deeds", desc := "(I)I" } : Jvm.MethodName)), (Jvm.Cond.selects "DoorSchool" ({ cls := "DoorSchool", name := "deeds", desc := "(I)I" } : Jvm.MethodName) ({ cls := "DoorSchool", name := "deeds", desc := "(I)I" } : Jvm.MethodName)), (Jvm.Cond.code ({ cls := "DoorSchool", name := "deeds", desc := "(I)I" } : Jvm.MethodName) prog_1_method_11_code (2 : Nat) (Option.some Jvm.ClassFile.FieldType.int)), (Jvm.Cond.methodLink "DoorSchoolLaw" (58 : Nat) ({ cls := "DoorSchool", name := "often", desc := "(I)I" } : Jvm.MethodName)), (Jvm.Cond.instanceMethod ({ cls := "DoorSchool", name := "often", desc := "(I)I" } : Jvm.MethodName)), (Jvm.Cond.selects "DoorSchool" ({ cls := "DoorSchool", name := "often", desc := "(I)I" } : Jvm.MethodName) ({ cls := "DoorSchool", name := "often", desc := "(I)I" } : Jvm.MethodName)), (Jvm.Cond.code ({ cls := "DoorSchool", name := "often", desc := "(I)I" } : Jvm.MethodName) prog_1_method_12_code (2 : Nat) (Option.some Jvm.ClassFile.FieldType.int))]
def bk_3_12 : List Cond := [(Jvm.Cond.methodLink "DoorSchoolLaw" (62 : Nat) ({ cls := "DoorSchool", name := "why", desc := "(II)I" } : Jvm.MethodName)), (Jvm.Cond.instanceMethod ({ cls := "DoorSchool", name := "why", desc := "(II)I" } : Jvm.MethodName)), (Jvm.Cond.selects "DoorSchool" ({ cls := "DoorSchool", name := "why", desc := "(II)I" } : Jvm.MethodName) ({ cls := "DoorSchool", name := "why", desc := "(II)I" } : Jvm.MethodName)), (Jvm.Cond.code ({ cls := "DoorSchool", name := "why", desc := "(II)I" } : Jvm.MethodName) prog_1_method_13_code (4 : Nat) (Option.some Jvm.ClassFile.FieldType.int)), (Jvm.Cond.methodLinkNest "DoorSchool" (188 : Nat) ({ cls := "DoorSchool$Lessons", name := "latestOf", desc := "(I)I" } : Jvm.MethodName) "DoorSchool"), (Jvm.Cond.methodLinkNest "DoorSchool" (191 : Nat) ({ cls := "DoorSchool$Lessons", name := "nearestTo", desc := "(I)I" } : Jvm.MethodName) "DoorSchool"), (Jvm.Cond.methodLink "DoorSchoolLaw" (66 : Nat) ({ cls := "DoorSchool", name := "rule", desc := "(II)I" } : Jvm.MethodName)), (Jvm.Cond.instanceMethod ({ cls := "DoorSchool", name := "rule", desc := "(II)I" } : Jvm.MethodName)), (Jvm.Cond.selects "DoorSchool" ({ cls := "DoorSchool", name := "rule", desc := "(II)I" } : Jvm.MethodName) ({ cls := "DoorSchool", name := "rule", desc := "(II)I" } : Jvm.MethodName)), (Jvm.Cond.code ({ cls := "DoorSchool", name := "rule", desc := "(II)I" } : Jvm.MethodName) prog_1_method_14_code (5 : Nat) (Option.some Jvm.ClassFile.FieldType.int)), (Jvm.Cond.methodLinkNest "DoorSchool" (194 : Nat) ({ cls := "DoorSchool$Lessons", name := "said", desc := "(I)I" } : Jvm.MethodName) "DoorSchool"), (Jvm.Cond.methodLinkNest "DoorSchool" (197 : Nat) ({ cls := "DoorSchool$Rules", name := "first", desc := "(II)I" } : Jvm.MethodName) "DoorSchool"), (Jvm.Cond.methodLink "DoorSchoolLaw" (70 : Nat) ({ cls := "DoorSchool", name := "rules", desc := "(I)I" } : Jvm.MethodName)), (Jvm.Cond.instanceMethod ({ cls := "DoorSchool", name := "rules", desc := "(I)I" } : Jvm.MethodName)), (Jvm.Cond.selects "DoorSchool" ({ cls := "DoorSchool", name := "rules", desc := "(I)I" } : Jvm.MethodName) ({ cls := "DoorSchool", name := "rules", desc := "(I)I" } : Jvm.MethodName)), (Jvm.Cond.code ({ cls := "DoorSchool", name := "rules", desc := "(I)I" } : Jvm.MethodName) prog_1_method_15_code (3 : Nat) (Option.some Jvm.ClassFile.FieldType.int))]
def bk_3_13 : List Cond := [(Jvm.Cond.methodLinkNest "DoorSchool" (205 : Nat) ({ cls := "DoorSchool$Rules", name := "howMany", desc := "(II)I" } : Jvm.MethodName) "DoorSchool"), (Jvm.Cond.privateMethod ({ cls := "DoorSchool$Rules", name := "howMany", desc := "(II)I" } : Jvm.MethodName)), (Jvm.Cond.instanceMethod ({ cls := "DoorSchool$Rules", name := "howMany", desc := "(II)I" } : Jvm.MethodName)), (Jvm.Cond.code ({ cls := "DoorSchool$Rules", name := "howMany", desc := "(II)I" } : Jvm.MethodName) prog_8_method_7_code (5 : Nat) (Option.some Jvm.ClassFile.FieldType.int)), (Jvm.Cond.methodLink "DoorSchoolLaw" (74 : Nat) ({ cls := "DoorSchool", name := "does", desc := "(II)I" } : Jvm.MethodName)), (Jvm.Cond.instanceMethod ({ cls := "DoorSchool", name := "does", desc := "(II)I" } : Jvm.MethodName)), (Jvm.Cond.selects "DoorSchool" ({ cls := "DoorSchool", name := "does", desc := "(II)I" } : Jvm.MethodName) ({ cls := "DoorSchool", name := "does", desc := "(II)I" } : Jvm.MethodName)), (Jvm.Cond.code ({ cls := "DoorSchool", name := "does", desc := "(II)I" } : Jvm.MethodName) prog_1_method_16_code (3 : Nat) (Option.some Jvm.ClassFile.FieldType.int)), (Jvm.Cond.methodLinkNest "DoorSchool" (208 : Nat) ({ cls := "DoorSchool$Plan", name := "isRule", desc := "(II)Z" } : Jvm.MethodName) "DoorSchool"), (Jvm.Cond.privateMethod ({ cls := "DoorSchool$Plan", name := "isRule", desc := "(II)Z" } : Jvm.MethodName)), (Jvm.Cond.instanceMethod ({ cls := "DoorSchool$Plan", name := "isRule", desc := "(II)Z" } : Jvm.MethodName)), (Jvm.Cond.code ({ cls := "DoorSchool$Plan", name := "isRule", desc := "(II)Z" } : Jvm.MethodName) prog_6_method_9_code (3 : Nat) (Option.some Jvm.ClassFile.FieldType.boolean)), (Jvm.Cond.methodLink "DoorSchool$Plan" (99 : Nat) ({ cls := "DoorSchool$Plan", name := "isKnock", desc := "(I)Z" } : Jvm.MethodName)), (Jvm.Cond.methodLink "DoorSchoolLaw" (78 : Nat) ({ cls := "DoorSchool", name := "told", desc := "(II)I" } : Jvm.MethodName)), (Jvm.Cond.instanceMethod ({ cls := "DoorSchool", name := "told", desc := "(II)I" } : Jvm.MethodName)), (Jvm.Cond.selects "DoorSchool" ({ cls := "DoorSchool", name := "told", desc := "(II)I" } : Jvm.MethodName) ({ cls := "DoorSchool", name := "told", desc := "(II)I" } : Jvm.MethodName))]
def bk_3_14 : List Cond := [(Jvm.Cond.code ({ cls := "DoorSchool", name := "told", desc := "(II)I" } : Jvm.MethodName) prog_1_method_17_code (4 : Nat) (Option.some Jvm.ClassFile.FieldType.int)), (Jvm.Cond.methodLinkNest "DoorSchool" (212 : Nat) ({ cls := "DoorSchool$Plan", name := "isDeeds", desc := "(I)Z" } : Jvm.MethodName) "DoorSchool"), (Jvm.Cond.privateMethod ({ cls := "DoorSchool$Plan", name := "isDeeds", desc := "(I)Z" } : Jvm.MethodName)), (Jvm.Cond.instanceMethod ({ cls := "DoorSchool$Plan", name := "isDeeds", desc := "(I)Z" } : Jvm.MethodName)), (Jvm.Cond.code ({ cls := "DoorSchool$Plan", name := "isDeeds", desc := "(I)Z" } : Jvm.MethodName) prog_6_method_10_code (2 : Nat) (Option.some Jvm.ClassFile.FieldType.boolean)), (Jvm.Cond.methodLinkNest "DoorSchool" (215 : Nat) ({ cls := "DoorSchool$Rules", name := "placeOf", desc := "(I)I" } : Jvm.MethodName) "DoorSchool"), (Jvm.Cond.privateMethod ({ cls := "DoorSchool$Rules", name := "placeOf", desc := "(I)I" } : Jvm.MethodName)), (Jvm.Cond.instanceMethod ({ cls := "DoorSchool$Rules", name := "placeOf", desc := "(I)I" } : Jvm.MethodName)), (Jvm.Cond.code ({ cls := "DoorSchool$Rules", name := "placeOf", desc := "(I)I" } : Jvm.MethodName) prog_8_method_5_code (3 : Nat) (Option.some Jvm.ClassFile.FieldType.int)), (Jvm.Cond.methodLink "DoorSchoolLaw" (82 : Nat) ({ cls := "DoorSchool", name := "marks", desc := "(I)I" } : Jvm.MethodName)), (Jvm.Cond.instanceMethod ({ cls := "DoorSchool", name := "marks", desc := "(I)I" } : Jvm.MethodName)), (Jvm.Cond.selects "DoorSchool" ({ cls := "DoorSchool", name := "marks", desc := "(I)I" } : Jvm.MethodName) ({ cls := "DoorSchool", name := "marks", desc := "(I)I" } : Jvm.MethodName)), (Jvm.Cond.code ({ cls := "DoorSchool", name := "marks", desc := "(I)I" } : Jvm.MethodName) prog_1_method_18_code (2 : Nat) (Option.some Jvm.ClassFile.FieldType.int)), (Jvm.Cond.methodLink "DoorSchool" (218 : Nat) ({ cls := "DoorSchool", name := "marksFor", desc := "(I)I" } : Jvm.MethodName)), (Jvm.Cond.privateMethod ({ cls := "DoorSchool", name := "marksFor", desc := "(I)I" } : Jvm.MethodName)), (Jvm.Cond.instanceMethod ({ cls := "DoorSchool", name := "marksFor", desc := "(I)I" } : Jvm.MethodName))]
set_option maxRecDepth 20000 in
theorem ck_3 : chunk 3 = bk_3_0 ++ (bk_3_1 ++ (bk_3_2 ++ (bk_3_3 ++ (bk_3_4 ++ (bk_3_5 ++ (bk_3_6 ++ (bk_3_7 ++ (bk_3_8 ++ (bk_3_9 ++ (bk_3_10 ++ (bk_3_11 ++ (bk_3_12 ++ (bk_3_13 ++ (bk_3_14)))))))))))))) := rfl
theorem bi_3_0 {w : Cond} (h : w ∈ bk_3_0) : w ∈ chunk 3 := by rw [ck_3]; exact List.mem_append_left _ h
theorem bi_3_1 {w : Cond} (h : w ∈ bk_3_1) : w ∈ chunk 3 := by rw [ck_3]; exact List.mem_append_right _ (List.mem_append_left _ h)
theorem bi_3_2 {w : Cond} (h : w ∈ bk_3_2) : w ∈ chunk 3 := by rw [ck_3]; exact List.mem_append_right _ (List.mem_append_right _ (List.mem_append_left _ h))
theorem bi_3_3 {w : Cond} (h : w ∈ bk_3_3) : w ∈ chunk 3 := by rw [ck_3]; exact List.mem_append_right _ (List.mem_append_right _ (List.mem_append_right _ (List.mem_append_left _ h)))
theorem bi_3_4 {w : Cond} (h : w ∈ bk_3_4) : w ∈ chunk 3 := by rw [ck_3]; exact List.mem_append_right _ (List.mem_append_right _ (List.mem_append_right _ (List.mem_append_right _ (List.mem_append_left _ h))))
theorem bi_3_5 {w : Cond} (h : w ∈ bk_3_5) : w ∈ chunk 3 := by rw [ck_3]; exact List.mem_append_right _ (List.mem_append_right _ (List.mem_append_right _ (List.mem_append_right _ (List.mem_append_right _ (List.mem_append_left _ h)))))
theorem bi_3_6 {w : Cond} (h : w ∈ bk_3_6) : w ∈ chunk 3 := by rw [ck_3]; exact List.mem_append_right _ (List.mem_append_right _ (List.mem_append_right _ (List.mem_append_right _ (List.mem_append_right _ (List.mem_append_right _ (List.mem_append_left _ h))))))
theorem bi_3_7 {w : Cond} (h : w ∈ bk_3_7) : w ∈ chunk 3 := by rw [ck_3]; exact List.mem_append_right _ (List.mem_append_right _ (List.mem_append_right _ (List.mem_append_right _ (List.mem_append_right _ (List.mem_append_right _ (List.mem_append_right _ (List.mem_append_left _ h)))))))
theorem bi_3_8 {w : Cond} (h : w ∈ bk_3_8) : w ∈ chunk 3 := by rw [ck_3]; exact List.mem_append_right _ (List.mem_append_right _ (List.mem_append_right _ (List.mem_append_right _ (List.mem_append_right _ (List.mem_append_right _ (List.mem_append_right _ (List.mem_append_right _ (List.mem_append_left _ h))))))))
theorem bi_3_9 {w : Cond} (h : w ∈ bk_3_9) : w ∈ chunk 3 := by rw [ck_3]; exact List.mem_append_right _ (List.mem_append_right _ (List.mem_append_right _ (List.mem_append_right _ (List.mem_append_right _ (List.mem_append_right _ (List.mem_append_right _ (List.mem_append_right _ (List.mem_append_right _ (List.mem_append_left _ h)))))))))
theorem bi_3_10 {w : Cond} (h : w ∈ bk_3_10) : w ∈ chunk 3 := by rw [ck_3]; exact List.mem_append_right _ (List.mem_append_right _ (List.mem_append_right _ (List.mem_append_right _ (List.mem_append_right _ (List.mem_append_right _ (List.mem_append_right _ (List.mem_append_right _ (List.mem_append_right _ (List.mem_append_right _ (List.mem_append_left _ h))))))))))
theorem bi_3_11 {w : Cond} (h : w ∈ bk_3_11) : w ∈ chunk 3 := by rw [ck_3]; exact List.mem_append_right _ (List.mem_append_right _ (List.mem_append_right _ (List.mem_append_right _ (List.mem_append_right _ (List.mem_append_right _ (List.mem_append_right _ (List.mem_append_right _ (List.mem_append_right _ (List.mem_append_right _ (List.mem_append_right _ (List.mem_append_left _ h)))))))))))
theorem bi_3_12 {w : Cond} (h : w ∈ bk_3_12) : w ∈ chunk 3 := by rw [ck_3]; exact List.mem_append_right _ (List.mem_append_right _ (List.mem_append_right _ (List.mem_append_right _ (List.mem_append_right _ (List.mem_append_right _ (List.mem_append_right _ (List.mem_append_right _ (List.mem_append_right _ (List.mem_append_right _ (List.mem_append_right _ (List.mem_append_right _ (List.mem_append_left _ h))))))))))))
theorem bi_3_13 {w : Cond} (h : w ∈ bk_3_13) : w ∈ chunk 3 := by rw [ck_3]; exact List.mem_append_right _ (List.mem_append_right _ (List.mem_append_right _ (List.mem_append_right _ (List.mem_append_right _ (List.mem_append_right _ (List.mem_append_right _ (List.mem_append_right _ (List.mem_append_right _ (List.mem_append_right _ (List.mem_append_right _ (List.mem_append_right _ (List.mem_append_right _ (List.mem_append_left _ h)))))))))))))
theorem bi_3_14 {w : Cond} (h : w ∈ bk_3_14) : w ∈ chunk 3 := by rw [ck_3]; exact List.mem_append_right _ (List.mem_append_right _ (List.mem_append_right _ (List.mem_append_right _ (List.mem_append_right _ (List.mem_append_right _ (List.mem_append_right _ (List.mem_append_right _ (List.mem_append_right _ (List.mem_append_right _ (List.mem_append_right _ (List.mem_append_right _ (List.mem_append_right _ (List.mem_append_right _ (h))))))))))))))
def bk_4_0 : List Cond := [(Jvm.Cond.code ({ cls := "DoorSchool", name := "marksFor", desc := "(I)I" } : Jvm.MethodName) prog_1_method_77_code (2 : Nat) (Option.some Jvm.ClassFile.FieldType.int)), (Jvm.Cond.methodLinkNest "DoorSchool" (227 : Nat) ({ cls := "DoorSchool$Lessons", name := "allAs", desc := "(I)I" } : Jvm.MethodName) "DoorSchool"), (Jvm.Cond.privateMethod ({ cls := "DoorSchool$Lessons", name := "allAs", desc := "(I)I" } : Jvm.MethodName)), (Jvm.Cond.instanceMethod ({ cls := "DoorSchool$Lessons", name := "allAs", desc := "(I)I" } : Jvm.MethodName)), (Jvm.Cond.code ({ cls := "DoorSchool$Lessons", name := "allAs", desc := "(I)I" } : Jvm.MethodName) prog_5_method_10_code (4 : Nat) (Option.some Jvm.ClassFile.FieldType.int)), (Jvm.Cond.methodLinkNest "DoorSchool$Lessons" (42 : Nat) ({ cls := "DoorSchool", name := "bit", desc := "(II)I" } : Jvm.MethodName) "DoorSchool"), (Jvm.Cond.methodLink "DoorSchoolLaw" (86 : Nat) ({ cls := "DoorSchool", name := "wrong", desc := "(I)I" } : Jvm.MethodName)), (Jvm.Cond.instanceMethod ({ cls := "DoorSchool", name := "wrong", desc := "(I)I" } : Jvm.MethodName)), (Jvm.Cond.selects "DoorSchool" ({ cls := "DoorSchool", name := "wrong", desc := "(I)I" } : Jvm.MethodName) ({ cls := "DoorSchool", name := "wrong", desc := "(I)I" } : Jvm.MethodName)), (Jvm.Cond.code ({ cls := "DoorSchool", name := "wrong", desc := "(I)I" } : Jvm.MethodName) prog_1_method_19_code (2 : Nat) (Option.some Jvm.ClassFile.FieldType.int)), (Jvm.Cond.methodLinkNest "DoorSchool" (221 : Nat) ({ cls := "DoorSchool$Lessons", name := "firstNotAs", desc := "(I)I" } : Jvm.MethodName) "DoorSchool"), (Jvm.Cond.privateMethod ({ cls := "DoorSchool$Lessons", name := "firstNotAs", desc := "(I)I" } : Jvm.MethodName)), (Jvm.Cond.instanceMethod ({ cls := "DoorSchool$Lessons", name := "firstNotAs", desc := "(I)I" } : Jvm.MethodName)), (Jvm.Cond.code ({ cls := "DoorSchool$Lessons", name := "firstNotAs", desc := "(I)I" } : Jvm.MethodName) prog_5_method_11_code (3 : Nat) (Option.some Jvm.ClassFile.FieldType.int)), (Jvm.Cond.methodLink "DoorSchoolLaw" (90 : Nat) ({ cls := "DoorSchool", name := "best", desc := "()I" } : Jvm.MethodName)), (Jvm.Cond.instanceMethod ({ cls := "DoorSchool", name := "best", desc := "()I" } : Jvm.MethodName))]
def bk_4_1 : List Cond := [(Jvm.Cond.selects "DoorSchool" ({ cls := "DoorSchool", name := "best", desc := "()I" } : Jvm.MethodName) ({ cls := "DoorSchool", name := "best", desc := "()I" } : Jvm.MethodName)), (Jvm.Cond.code ({ cls := "DoorSchool", name := "best", desc := "()I" } : Jvm.MethodName) prog_1_method_20_code (5 : Nat) (Option.some Jvm.ClassFile.FieldType.int)), (Jvm.Cond.methodLink "DoorSchoolLaw" (94 : Nat) ({ cls := "DoorSchool", name := "hard", desc := "()I" } : Jvm.MethodName)), (Jvm.Cond.instanceMethod ({ cls := "DoorSchool", name := "hard", desc := "()I" } : Jvm.MethodName)), (Jvm.Cond.selects "DoorSchool" ({ cls := "DoorSchool", name := "hard", desc := "()I" } : Jvm.MethodName) ({ cls := "DoorSchool", name := "hard", desc := "()I" } : Jvm.MethodName)), (Jvm.Cond.code ({ cls := "DoorSchool", name := "hard", desc := "()I" } : Jvm.MethodName) prog_1_method_21_code (3 : Nat) (Option.some Jvm.ClassFile.FieldType.int)), (Jvm.Cond.methodLink "DoorSchoolLaw" (98 : Nat) ({ cls := "DoorSchool", name := "teach", desc := "(III)I" } : Jvm.MethodName)), (Jvm.Cond.instanceMethod ({ cls := "DoorSchool", name := "teach", desc := "(III)I" } : Jvm.MethodName)), (Jvm.Cond.selects "DoorSchool" ({ cls := "DoorSchool", name := "teach", desc := "(III)I" } : Jvm.MethodName) ({ cls := "DoorSchool", name := "teach", desc := "(III)I" } : Jvm.MethodName)), (Jvm.Cond.code ({ cls := "DoorSchool", name := "teach", desc := "(III)I" } : Jvm.MethodName) prog_1_method_22_code (5 : Nat) (Option.some Jvm.ClassFile.FieldType.int)), (Jvm.Cond.methodLink "DoorSchool" (230 : Nat) ({ cls := "DoorSchool", name := "isLesson", desc := "(III)Z" } : Jvm.MethodName)), (Jvm.Cond.privateMethod ({ cls := "DoorSchool", name := "isLesson", desc := "(III)Z" } : Jvm.MethodName)), (Jvm.Cond.instanceMethod ({ cls := "DoorSchool", name := "isLesson", desc := "(III)Z" } : Jvm.MethodName)), (Jvm.Cond.code ({ cls := "DoorSchool", name := "isLesson", desc := "(III)Z" } : Jvm.MethodName) prog_1_method_70_code (4 : Nat) (Option.some Jvm.ClassFile.FieldType.boolean)), (Jvm.Cond.methodLinkNest "DoorSchool" (237 : Nat) ({ cls := "DoorSchool$Lessons", name := "add", desc := "(II)V" } : Jvm.MethodName) "DoorSchool"), (Jvm.Cond.methodLink "DoorSchoolLaw" (102 : Nat) ({ cls := "DoorSchool", name := "unteach", desc := "()I" } : Jvm.MethodName))]
def bk_4_2 : List Cond := [(Jvm.Cond.instanceMethod ({ cls := "DoorSchool", name := "unteach", desc := "()I" } : Jvm.MethodName)), (Jvm.Cond.selects "DoorSchool" ({ cls := "DoorSchool", name := "unteach", desc := "()I" } : Jvm.MethodName) ({ cls := "DoorSchool", name := "unteach", desc := "()I" } : Jvm.MethodName)), (Jvm.Cond.code ({ cls := "DoorSchool", name := "unteach", desc := "()I" } : Jvm.MethodName) prog_1_method_23_code (2 : Nat) (Option.some Jvm.ClassFile.FieldType.int)), (Jvm.Cond.methodLinkNest "DoorSchool" (244 : Nat) ({ cls := "DoorSchool$Lessons", name := "dropLast", desc := "()V" } : Jvm.MethodName) "DoorSchool"), (Jvm.Cond.privateMethod ({ cls := "DoorSchool$Lessons", name := "dropLast", desc := "()V" } : Jvm.MethodName)), (Jvm.Cond.instanceMethod ({ cls := "DoorSchool$Lessons", name := "dropLast", desc := "()V" } : Jvm.MethodName)), (Jvm.Cond.code ({ cls := "DoorSchool$Lessons", name := "dropLast", desc := "()V" } : Jvm.MethodName) prog_5_method_3_code (1 : Nat) (Option.none : Option Jvm.ClassFile.FieldType)), (Jvm.Cond.methodLink "DoorSchool$Lessons" (26 : Nat) ({ cls := "DoorSchool$Lessons", name := "takeOut", desc := "(I)V" } : Jvm.MethodName)), (Jvm.Cond.privateMethod ({ cls := "DoorSchool$Lessons", name := "takeOut", desc := "(I)V" } : Jvm.MethodName)), (Jvm.Cond.instanceMethod ({ cls := "DoorSchool$Lessons", name := "takeOut", desc := "(I)V" } : Jvm.MethodName)), (Jvm.Cond.code ({ cls := "DoorSchool$Lessons", name := "takeOut", desc := "(I)V" } : Jvm.MethodName) prog_5_method_5_code (3 : Nat) (Option.none : Option Jvm.ClassFile.FieldType)), (Jvm.Cond.methodLink "DoorSchoolLaw" (106 : Nat) ({ cls := "DoorSchool", name := "gains", desc := "(III)I" } : Jvm.MethodName)), (Jvm.Cond.instanceMethod ({ cls := "DoorSchool", name := "gains", desc := "(III)I" } : Jvm.MethodName)), (Jvm.Cond.selects "DoorSchool" ({ cls := "DoorSchool", name := "gains", desc := "(III)I" } : Jvm.MethodName) ({ cls := "DoorSchool", name := "gains", desc := "(III)I" } : Jvm.MethodName)), (Jvm.Cond.code ({ cls := "DoorSchool", name := "gains", desc := "(III)I" } : Jvm.MethodName) prog_1_method_24_code (4 : Nat) (Option.some Jvm.ClassFile.FieldType.int)), (Jvm.Cond.methodLink "DoorSchool" (247 : Nat) ({ cls := "DoorSchool", name := "gainOf", desc := "(III)I" } : Jvm.MethodName))]
def bk_4_3 : List Cond := [(Jvm.Cond.privateMethod ({ cls := "DoorSchool", name := "gainOf", desc := "(III)I" } : Jvm.MethodName)), (Jvm.Cond.instanceMethod ({ cls := "DoorSchool", name := "gainOf", desc := "(III)I" } : Jvm.MethodName)), (Jvm.Cond.code ({ cls := "DoorSchool", name := "gainOf", desc := "(III)I" } : Jvm.MethodName) prog_1_method_78_code (7 : Nat) (Option.some Jvm.ClassFile.FieldType.int)), (Jvm.Cond.methodLink "DoorSchoolLaw" (110 : Nat) ({ cls := "DoorSchool", name := "help", desc := "(I)I" } : Jvm.MethodName)), (Jvm.Cond.instanceMethod ({ cls := "DoorSchool", name := "help", desc := "(I)I" } : Jvm.MethodName)), (Jvm.Cond.selects "DoorSchool" ({ cls := "DoorSchool", name := "help", desc := "(I)I" } : Jvm.MethodName) ({ cls := "DoorSchool", name := "help", desc := "(I)I" } : Jvm.MethodName)), (Jvm.Cond.code ({ cls := "DoorSchool", name := "help", desc := "(I)I" } : Jvm.MethodName) prog_1_method_25_code (6 : Nat) (Option.some Jvm.ClassFile.FieldType.int)), (Jvm.Cond.methodLinkNest "DoorSchool" (251 : Nat) ({ cls := "DoorSchool$Plan", name := "knocks", desc := "()I" } : Jvm.MethodName) "DoorSchool"), (Jvm.Cond.methodLink "DoorSchoolLaw" (114 : Nat) ({ cls := "DoorSchool", name := "idle", desc := "(I)I" } : Jvm.MethodName)), (Jvm.Cond.instanceMethod ({ cls := "DoorSchool", name := "idle", desc := "(I)I" } : Jvm.MethodName)), (Jvm.Cond.selects "DoorSchool" ({ cls := "DoorSchool", name := "idle", desc := "(I)I" } : Jvm.MethodName) ({ cls := "DoorSchool", name := "idle", desc := "(I)I" } : Jvm.MethodName)), (Jvm.Cond.code ({ cls := "DoorSchool", name := "idle", desc := "(I)I" } : Jvm.MethodName) prog_1_method_26_code (9 : Nat) (Option.some Jvm.ClassFile.FieldType.int)), (Jvm.Cond.methodLinkNest "DoorSchool" (254 : Nat) ({ cls := "DoorSchool$Lessons", name := "takeOut", desc := "(I)V" } : Jvm.MethodName) "DoorSchool"), (Jvm.Cond.methodLinkNest "DoorSchool" (257 : Nat) ({ cls := "DoorSchool$Lessons", name := "putIn", desc := "(III)V" } : Jvm.MethodName) "DoorSchool"), (Jvm.Cond.methodLink "DoorSchoolLaw" (118 : Nat) ({ cls := "DoorSchool", name := "fewest", desc := "(II)I" } : Jvm.MethodName)), (Jvm.Cond.instanceMethod ({ cls := "DoorSchool", name := "fewest", desc := "(II)I" } : Jvm.MethodName))]
def bk_4_4 : List Cond := [(Jvm.Cond.selects "DoorSchool" ({ cls := "DoorSchool", name := "fewest", desc := "(II)I" } : Jvm.MethodName) ({ cls := "DoorSchool", name := "fewest", desc := "(II)I" } : Jvm.MethodName)), (Jvm.Cond.code ({ cls := "DoorSchool", name := "fewest", desc := "(II)I" } : Jvm.MethodName) prog_1_method_27_code (4 : Nat) (Option.some Jvm.ClassFile.FieldType.int)), (Jvm.Cond.methodLink "DoorSchool" (261 : Nat) ({ cls := "DoorSchool", name := "isWay", desc := "(I)Z" } : Jvm.MethodName)), (Jvm.Cond.static ({ cls := "DoorSchool", name := "isWay", desc := "(I)Z" } : Jvm.MethodName)), (Jvm.Cond.code ({ cls := "DoorSchool", name := "isWay", desc := "(I)Z" } : Jvm.MethodName) prog_1_method_67_code (1 : Nat) (Option.some Jvm.ClassFile.FieldType.boolean)), (Jvm.Cond.methodLinkNest "DoorSchool" (264 : Nat) ({ cls := "DoorSchool$Learner", name := "leastSet", desc := "(II)I" } : Jvm.MethodName) "DoorSchool"), (Jvm.Cond.privateMethod ({ cls := "DoorSchool$Learner", name := "leastSet", desc := "(II)I" } : Jvm.MethodName)), (Jvm.Cond.instanceMethod ({ cls := "DoorSchool$Learner", name := "leastSet", desc := "(II)I" } : Jvm.MethodName)), (Jvm.Cond.code ({ cls := "DoorSchool$Learner", name := "leastSet", desc := "(II)I" } : Jvm.MethodName) prog_4_method_6_code (7 : Nat) (Option.some Jvm.ClassFile.FieldType.int)), (Jvm.Cond.methodLink "DoorSchool$Learner" (62 : Nat) ({ cls := "DoorSchool$Learner", name := "allKnocks", desc := "()I" } : Jvm.MethodName)), (Jvm.Cond.privateMethod ({ cls := "DoorSchool$Learner", name := "allKnocks", desc := "()I" } : Jvm.MethodName)), (Jvm.Cond.instanceMethod ({ cls := "DoorSchool$Learner", name := "allKnocks", desc := "()I" } : Jvm.MethodName)), (Jvm.Cond.code ({ cls := "DoorSchool$Learner", name := "allKnocks", desc := "()I" } : Jvm.MethodName) prog_4_method_9_code (1 : Nat) (Option.some Jvm.ClassFile.FieldType.int)), (Jvm.Cond.methodLink "DoorSchool$Learner" (66 : Nat) ({ cls := "DoorSchool$Learner", name := "teaches", desc := "(III)Z" } : Jvm.MethodName)), (Jvm.Cond.privateMethod ({ cls := "DoorSchool$Learner", name := "teaches", desc := "(III)Z" } : Jvm.MethodName)), (Jvm.Cond.instanceMethod ({ cls := "DoorSchool$Learner", name := "teaches", desc := "(III)Z" } : Jvm.MethodName))]
def bk_4_5 : List Cond := [(Jvm.Cond.code ({ cls := "DoorSchool$Learner", name := "teaches", desc := "(III)Z" } : Jvm.MethodName) prog_4_method_5_code (5 : Nat) (Option.some Jvm.ClassFile.FieldType.boolean)), (Jvm.Cond.methodLink "DoorSchool$Learner" (55 : Nat) ({ cls := "DoorSchool$Learner", name := "learnSet", desc := "(III)I" } : Jvm.MethodName)), (Jvm.Cond.privateMethod ({ cls := "DoorSchool$Learner", name := "learnSet", desc := "(III)I" } : Jvm.MethodName)), (Jvm.Cond.instanceMethod ({ cls := "DoorSchool$Learner", name := "learnSet", desc := "(III)I" } : Jvm.MethodName)), (Jvm.Cond.code ({ cls := "DoorSchool$Learner", name := "learnSet", desc := "(III)I" } : Jvm.MethodName) prog_4_method_3_code (6 : Nat) (Option.some Jvm.ClassFile.FieldType.int)), (Jvm.Cond.methodLink "DoorSchool$Learner" (52 : Nat) ({ cls := "DoorSchool$Learner", name := "nearestOf", desc := "(II)I" } : Jvm.MethodName)), (Jvm.Cond.privateMethod ({ cls := "DoorSchool$Learner", name := "nearestOf", desc := "(II)I" } : Jvm.MethodName)), (Jvm.Cond.instanceMethod ({ cls := "DoorSchool$Learner", name := "nearestOf", desc := "(II)I" } : Jvm.MethodName)), (Jvm.Cond.code ({ cls := "DoorSchool$Learner", name := "nearestOf", desc := "(II)I" } : Jvm.MethodName) prog_4_method_4_code (5 : Nat) (Option.some Jvm.ClassFile.FieldType.int)), (Jvm.Cond.methodLinkNest "DoorSchool$Learner" (59 : Nat) ({ cls := "DoorSchool", name := "bit", desc := "(II)I" } : Jvm.MethodName) "DoorSchool"), (Jvm.Cond.methodLink "DoorSchool$Learner" (70 : Nat) ({ cls := "DoorSchool$Learner", name := "needed", desc := "(II)I" } : Jvm.MethodName)), (Jvm.Cond.privateMethod ({ cls := "DoorSchool$Learner", name := "needed", desc := "(II)I" } : Jvm.MethodName)), (Jvm.Cond.instanceMethod ({ cls := "DoorSchool$Learner", name := "needed", desc := "(II)I" } : Jvm.MethodName)), (Jvm.Cond.code ({ cls := "DoorSchool$Learner", name := "needed", desc := "(II)I" } : Jvm.MethodName) prog_4_method_8_code (5 : Nat) (Option.some Jvm.ClassFile.FieldType.int)), (Jvm.Cond.methodLink "DoorSchool$Learner" (73 : Nat) ({ cls := "DoorSchool$Learner", name := "setBehind", desc := "(I)I" } : Jvm.MethodName)), (Jvm.Cond.static ({ cls := "DoorSchool$Learner", name := "setBehind", desc := "(I)I" } : Jvm.MethodName))]
def bk_4_6 : List Cond := [(Jvm.Cond.code ({ cls := "DoorSchool$Learner", name := "setBehind", desc := "(I)I" } : Jvm.MethodName) prog_4_method_10_code (2 : Nat) (Option.some Jvm.ClassFile.FieldType.int)), (Jvm.Cond.constant "DoorSchool$Learner" (76 : Nat) (65536 : Int32)), (Jvm.Cond.methodLink "DoorSchoolLaw" (122 : Nat) ({ cls := "DoorSchool", name := "course", desc := "(II)I" } : Jvm.MethodName)), (Jvm.Cond.instanceMethod ({ cls := "DoorSchool", name := "course", desc := "(II)I" } : Jvm.MethodName)), (Jvm.Cond.selects "DoorSchool" ({ cls := "DoorSchool", name := "course", desc := "(II)I" } : Jvm.MethodName) ({ cls := "DoorSchool", name := "course", desc := "(II)I" } : Jvm.MethodName)), (Jvm.Cond.code ({ cls := "DoorSchool", name := "course", desc := "(II)I" } : Jvm.MethodName) prog_1_method_28_code (3 : Nat) (Option.some Jvm.ClassFile.FieldType.int)), (Jvm.Cond.methodLink "DoorSchoolLaw" (126 : Nat) ({ cls := "DoorSchool", name := "sets", desc := "(III)I" } : Jvm.MethodName)), (Jvm.Cond.instanceMethod ({ cls := "DoorSchool", name := "sets", desc := "(III)I" } : Jvm.MethodName)), (Jvm.Cond.selects "DoorSchool" ({ cls := "DoorSchool", name := "sets", desc := "(III)I" } : Jvm.MethodName) ({ cls := "DoorSchool", name := "sets", desc := "(III)I" } : Jvm.MethodName)), (Jvm.Cond.code ({ cls := "DoorSchool", name := "sets", desc := "(III)I" } : Jvm.MethodName) prog_1_method_29_code (4 : Nat) (Option.some Jvm.ClassFile.FieldType.int)), (Jvm.Cond.methodLinkNest "DoorSchool" (267 : Nat) ({ cls := "DoorSchool$Learner", name := "setsOf", desc := "(III)I" } : Jvm.MethodName) "DoorSchool"), (Jvm.Cond.privateMethod ({ cls := "DoorSchool$Learner", name := "setsOf", desc := "(III)I" } : Jvm.MethodName)), (Jvm.Cond.instanceMethod ({ cls := "DoorSchool$Learner", name := "setsOf", desc := "(III)I" } : Jvm.MethodName)), (Jvm.Cond.code ({ cls := "DoorSchool$Learner", name := "setsOf", desc := "(III)I" } : Jvm.MethodName) prog_4_method_7_code (8 : Nat) (Option.some Jvm.ClassFile.FieldType.int)), (Jvm.Cond.methodLink "DoorSchoolLaw" (130 : Nat) ({ cls := "DoorSchool", name := "easiest", desc := "(I)I" } : Jvm.MethodName)), (Jvm.Cond.instanceMethod ({ cls := "DoorSchool", name := "easiest", desc := "(I)I" } : Jvm.MethodName))]
def bk_4_7 : List Cond := [(Jvm.Cond.selects "DoorSchool" ({ cls := "DoorSchool", name := "easiest", desc := "(I)I" } : Jvm.MethodName) ({ cls := "DoorSchool", name := "easiest", desc := "(I)I" } : Jvm.MethodName)), (Jvm.Cond.code ({ cls := "DoorSchool", name := "easiest", desc := "(I)I" } : Jvm.MethodName) prog_1_method_30_code (6 : Nat) (Option.some Jvm.ClassFile.FieldType.int)), (Jvm.Cond.methodLink "DoorSchoolLaw" (134 : Nat) ({ cls := "DoorSchool", name := "fooled", desc := "(II)I" } : Jvm.MethodName)), (Jvm.Cond.instanceMethod ({ cls := "DoorSchool", name := "fooled", desc := "(II)I" } : Jvm.MethodName)), (Jvm.Cond.selects "DoorSchool" ({ cls := "DoorSchool", name := "fooled", desc := "(II)I" } : Jvm.MethodName) ({ cls := "DoorSchool", name := "fooled", desc := "(II)I" } : Jvm.MethodName)), (Jvm.Cond.code ({ cls := "DoorSchool", name := "fooled", desc := "(II)I" } : Jvm.MethodName) prog_1_method_31_code (3 : Nat) (Option.some Jvm.ClassFile.FieldType.int)), (Jvm.Cond.methodLink "DoorSchool" (270 : Nat) ({ cls := "DoorSchool", name := "fooling", desc := "(I)I" } : Jvm.MethodName)), (Jvm.Cond.privateMethod ({ cls := "DoorSchool", name := "fooling", desc := "(I)I" } : Jvm.MethodName)), (Jvm.Cond.instanceMethod ({ cls := "DoorSchool", name := "fooling", desc := "(I)I" } : Jvm.MethodName)), (Jvm.Cond.code ({ cls := "DoorSchool", name := "fooling", desc := "(I)I" } : Jvm.MethodName) prog_1_method_79_code (2 : Nat) (Option.some Jvm.ClassFile.FieldType.int)), (Jvm.Cond.methodLink "DoorSchool" (273 : Nat) ({ cls := "DoorSchool", name := "ownerDeeds", desc := "()I" } : Jvm.MethodName)), (Jvm.Cond.privateMethod ({ cls := "DoorSchool", name := "ownerDeeds", desc := "()I" } : Jvm.MethodName)), (Jvm.Cond.instanceMethod ({ cls := "DoorSchool", name := "ownerDeeds", desc := "()I" } : Jvm.MethodName)), (Jvm.Cond.code ({ cls := "DoorSchool", name := "ownerDeeds", desc := "()I" } : Jvm.MethodName) prog_1_method_75_code (1 : Nat) (Option.some Jvm.ClassFile.FieldType.int)), (Jvm.Cond.methodLink "DoorSchoolLaw" (138 : Nat) ({ cls := "DoorSchool", name := "tries", desc := "(II)I" } : Jvm.MethodName)), (Jvm.Cond.instanceMethod ({ cls := "DoorSchool", name := "tries", desc := "(II)I" } : Jvm.MethodName))]
def bk_4_8 : List Cond := [(Jvm.Cond.selects "DoorSchool" ({ cls := "DoorSchool", name := "tries", desc := "(II)I" } : Jvm.MethodName) ({ cls := "DoorSchool", name := "tries", desc := "(II)I" } : Jvm.MethodName)), (Jvm.Cond.code ({ cls := "DoorSchool", name := "tries", desc := "(II)I" } : Jvm.MethodName) prog_1_method_32_code (4 : Nat) (Option.some Jvm.ClassFile.FieldType.int)), (Jvm.Cond.methodLink "DoorSchool" (276 : Nat) ({ cls := "DoorSchool", name := "trick", desc := "(II)I" } : Jvm.MethodName)), (Jvm.Cond.instanceMethod ({ cls := "DoorSchool", name := "trick", desc := "(II)I" } : Jvm.MethodName)), (Jvm.Cond.selects "DoorSchool" ({ cls := "DoorSchool", name := "trick", desc := "(II)I" } : Jvm.MethodName) ({ cls := "DoorSchool", name := "trick", desc := "(II)I" } : Jvm.MethodName)), (Jvm.Cond.code ({ cls := "DoorSchool", name := "trick", desc := "(II)I" } : Jvm.MethodName) prog_1_method_33_code (8 : Nat) (Option.some Jvm.ClassFile.FieldType.int)), (Jvm.Cond.methodLink "DoorSchoolLaw" (142 : Nat) ({ cls := "DoorSchool", name := "trick", desc := "(II)I" } : Jvm.MethodName)), (Jvm.Cond.methodLink "DoorSchoolLaw" (146 : Nat) ({ cls := "DoorSchool", name := "harden", desc := "(I)I" } : Jvm.MethodName)), (Jvm.Cond.instanceMethod ({ cls := "DoorSchool", name := "harden", desc := "(I)I" } : Jvm.MethodName)), (Jvm.Cond.selects "DoorSchool" ({ cls := "DoorSchool", name := "harden", desc := "(I)I" } : Jvm.MethodName) ({ cls := "DoorSchool", name := "harden", desc := "(I)I" } : Jvm.MethodName)), (Jvm.Cond.code ({ cls := "DoorSchool", name := "harden", desc := "(I)I" } : Jvm.MethodName) prog_1_method_34_code (6 : Nat) (Option.some Jvm.ClassFile.FieldType.int)), (Jvm.Cond.methodLink "DoorSchool" (279 : Nat) ({ cls := "DoorSchool", name := "foolingAfter", desc := "(II)I" } : Jvm.MethodName)), (Jvm.Cond.privateMethod ({ cls := "DoorSchool", name := "foolingAfter", desc := "(II)I" } : Jvm.MethodName)), (Jvm.Cond.instanceMethod ({ cls := "DoorSchool", name := "foolingAfter", desc := "(II)I" } : Jvm.MethodName)), (Jvm.Cond.code ({ cls := "DoorSchool", name := "foolingAfter", desc := "(II)I" } : Jvm.MethodName) prog_1_method_80_code (5 : Nat) (Option.some Jvm.ClassFile.FieldType.int)), (Jvm.Cond.methodLink "DoorSchoolLaw" (150 : Nat) ({ cls := "DoorSchool", name := "left", desc := "(I)I" } : Jvm.MethodName))]
def bk_4_9 : List Cond := [(Jvm.Cond.instanceMethod ({ cls := "DoorSchool", name := "left", desc := "(I)I" } : Jvm.MethodName)), (Jvm.Cond.selects "DoorSchool" ({ cls := "DoorSchool", name := "left", desc := "(I)I" } : Jvm.MethodName) ({ cls := "DoorSchool", name := "left", desc := "(I)I" } : Jvm.MethodName)), (Jvm.Cond.code ({ cls := "DoorSchool", name := "left", desc := "(I)I" } : Jvm.MethodName) prog_1_method_35_code (3 : Nat) (Option.some Jvm.ClassFile.FieldType.int)), (Jvm.Cond.methodLink "DoorSchool" (282 : Nat) ({ cls := "DoorSchool", name := "harden", desc := "(I)I" } : Jvm.MethodName)), (Jvm.Cond.methodLink "DoorSchoolLaw" (154 : Nat) ({ cls := "DoorSchool", name := "game", desc := "(III)I" } : Jvm.MethodName)), (Jvm.Cond.instanceMethod ({ cls := "DoorSchool", name := "game", desc := "(III)I" } : Jvm.MethodName)), (Jvm.Cond.selects "DoorSchool" ({ cls := "DoorSchool", name := "game", desc := "(III)I" } : Jvm.MethodName) ({ cls := "DoorSchool", name := "game", desc := "(III)I" } : Jvm.MethodName)), (Jvm.Cond.code ({ cls := "DoorSchool", name := "game", desc := "(III)I" } : Jvm.MethodName) prog_1_method_36_code (4 : Nat) (Option.some Jvm.ClassFile.FieldType.int)), (Jvm.Cond.methodLink "DoorSchool" (285 : Nat) ({ cls := "DoorSchool", name := "stolenBy", desc := "(II)I" } : Jvm.MethodName)), (Jvm.Cond.privateMethod ({ cls := "DoorSchool", name := "stolenBy", desc := "(II)I" } : Jvm.MethodName)), (Jvm.Cond.instanceMethod ({ cls := "DoorSchool", name := "stolenBy", desc := "(II)I" } : Jvm.MethodName)), (Jvm.Cond.code ({ cls := "DoorSchool", name := "stolenBy", desc := "(II)I" } : Jvm.MethodName) prog_1_method_81_code (3 : Nat) (Option.some Jvm.ClassFile.FieldType.int)), (Jvm.Cond.methodLink "DoorSchool" (291 : Nat) ({ cls := "DoorSchool", name := "wouldDo", desc := "(II)I" } : Jvm.MethodName)), (Jvm.Cond.privateMethod ({ cls := "DoorSchool", name := "wouldDo", desc := "(II)I" } : Jvm.MethodName)), (Jvm.Cond.instanceMethod ({ cls := "DoorSchool", name := "wouldDo", desc := "(II)I" } : Jvm.MethodName)), (Jvm.Cond.code ({ cls := "DoorSchool", name := "wouldDo", desc := "(II)I" } : Jvm.MethodName) prog_1_method_74_code (3 : Nat) (Option.some Jvm.ClassFile.FieldType.int))]
def bk_4_10 : List Cond := [(Jvm.Cond.methodLink "DoorSchoolLaw" (158 : Nat) ({ cls := "DoorSchool", name := "rests", desc := "(I)I" } : Jvm.MethodName)), (Jvm.Cond.instanceMethod ({ cls := "DoorSchool", name := "rests", desc := "(I)I" } : Jvm.MethodName)), (Jvm.Cond.selects "DoorSchool" ({ cls := "DoorSchool", name := "rests", desc := "(I)I" } : Jvm.MethodName) ({ cls := "DoorSchool", name := "rests", desc := "(I)I" } : Jvm.MethodName)), (Jvm.Cond.code ({ cls := "DoorSchool", name := "rests", desc := "(I)I" } : Jvm.MethodName) prog_1_method_37_code (5 : Nat) (Option.some Jvm.ClassFile.FieldType.int)), (Jvm.Cond.methodLink "DoorSchool" (288 : Nat) ({ cls := "DoorSchool", name := "isRest", desc := "(III)Z" } : Jvm.MethodName)), (Jvm.Cond.privateMethod ({ cls := "DoorSchool", name := "isRest", desc := "(III)Z" } : Jvm.MethodName)), (Jvm.Cond.instanceMethod ({ cls := "DoorSchool", name := "isRest", desc := "(III)Z" } : Jvm.MethodName)), (Jvm.Cond.code ({ cls := "DoorSchool", name := "isRest", desc := "(III)Z" } : Jvm.MethodName) prog_1_method_82_code (5 : Nat) (Option.some Jvm.ClassFile.FieldType.boolean)), (Jvm.Cond.methodLink "DoorSchoolLaw" (162 : Nat) ({ cls := "DoorSchool", name := "rest", desc := "(I)I" } : Jvm.MethodName)), (Jvm.Cond.instanceMethod ({ cls := "DoorSchool", name := "rest", desc := "(I)I" } : Jvm.MethodName)), (Jvm.Cond.selects "DoorSchool" ({ cls := "DoorSchool", name := "rest", desc := "(I)I" } : Jvm.MethodName) ({ cls := "DoorSchool", name := "rest", desc := "(I)I" } : Jvm.MethodName)), (Jvm.Cond.code ({ cls := "DoorSchool", name := "rest", desc := "(I)I" } : Jvm.MethodName) prog_1_method_38_code (4 : Nat) (Option.some Jvm.ClassFile.FieldType.int)), (Jvm.Cond.methodLink "DoorSchoolLaw" (166 : Nat) ({ cls := "DoorSchool", name := "way", desc := "(II)I" } : Jvm.MethodName)), (Jvm.Cond.instanceMethod ({ cls := "DoorSchool", name := "way", desc := "(II)I" } : Jvm.MethodName)), (Jvm.Cond.selects "DoorSchool" ({ cls := "DoorSchool", name := "way", desc := "(II)I" } : Jvm.MethodName) ({ cls := "DoorSchool", name := "way", desc := "(II)I" } : Jvm.MethodName)), (Jvm.Cond.code ({ cls := "DoorSchool", name := "way", desc := "(II)I" } : Jvm.MethodName) prog_1_method_39_code (7 : Nat) (Option.some Jvm.ClassFile.FieldType.int))]
def bk_4_11 : List Cond := [(Jvm.Cond.methodLink "DoorSchoolLaw" (170 : Nat) ({ cls := "DoorSchool", name := "errors", desc := "(II)I" } : Jvm.MethodName)), (Jvm.Cond.instanceMethod ({ cls := "DoorSchool", name := "errors", desc := "(II)I" } : Jvm.MethodName)), (Jvm.Cond.selects "DoorSchool" ({ cls := "DoorSchool", name := "errors", desc := "(II)I" } : Jvm.MethodName) ({ cls := "DoorSchool", name := "errors", desc := "(II)I" } : Jvm.MethodName)), (Jvm.Cond.code ({ cls := "DoorSchool", name := "errors", desc := "(II)I" } : Jvm.MethodName) prog_1_method_40_code (3 : Nat) (Option.some Jvm.ClassFile.FieldType.int)), (Jvm.Cond.methodLinkNest "DoorSchool" (294 : Nat) ({ cls := "DoorSchool$Learner", name := "errorsBy", desc := "(II)I" } : Jvm.MethodName) "DoorSchool"), (Jvm.Cond.privateMethod ({ cls := "DoorSchool$Learner", name := "errorsBy", desc := "(II)I" } : Jvm.MethodName)), (Jvm.Cond.instanceMethod ({ cls := "DoorSchool$Learner", name := "errorsBy", desc := "(II)I" } : Jvm.MethodName)), (Jvm.Cond.code ({ cls := "DoorSchool$Learner", name := "errorsBy", desc := "(II)I" } : Jvm.MethodName) prog_4_method_11_code (5 : Nat) (Option.some Jvm.ClassFile.FieldType.int)), (Jvm.Cond.methodLink "DoorSchoolLaw" (174 : Nat) ({ cls := "DoorSchool", name := "learnt", desc := "(II)I" } : Jvm.MethodName)), (Jvm.Cond.instanceMethod ({ cls := "DoorSchool", name := "learnt", desc := "(II)I" } : Jvm.MethodName)), (Jvm.Cond.selects "DoorSchool" ({ cls := "DoorSchool", name := "learnt", desc := "(II)I" } : Jvm.MethodName) ({ cls := "DoorSchool", name := "learnt", desc := "(II)I" } : Jvm.MethodName)), (Jvm.Cond.code ({ cls := "DoorSchool", name := "learnt", desc := "(II)I" } : Jvm.MethodName) prog_1_method_41_code (3 : Nat) (Option.some Jvm.ClassFile.FieldType.int)), (Jvm.Cond.methodLinkNest "DoorSchool" (297 : Nat) ({ cls := "DoorSchool$Learner", name := "learntWhole", desc := "(II)I" } : Jvm.MethodName) "DoorSchool"), (Jvm.Cond.privateMethod ({ cls := "DoorSchool$Learner", name := "learntWhole", desc := "(II)I" } : Jvm.MethodName)), (Jvm.Cond.instanceMethod ({ cls := "DoorSchool$Learner", name := "learntWhole", desc := "(II)I" } : Jvm.MethodName)), (Jvm.Cond.code ({ cls := "DoorSchool$Learner", name := "learntWhole", desc := "(II)I" } : Jvm.MethodName) prog_4_method_12_code (5 : Nat) (Option.some Jvm.ClassFile.FieldType.int))]
def bk_4_12 : List Cond := [(Jvm.Cond.methodLink "DoorSchoolLaw" (178 : Nat) ({ cls := "DoorSchool", name := "next", desc := "(II)I" } : Jvm.MethodName)), (Jvm.Cond.instanceMethod ({ cls := "DoorSchool", name := "next", desc := "(II)I" } : Jvm.MethodName)), (Jvm.Cond.selects "DoorSchool" ({ cls := "DoorSchool", name := "next", desc := "(II)I" } : Jvm.MethodName) ({ cls := "DoorSchool", name := "next", desc := "(II)I" } : Jvm.MethodName)), (Jvm.Cond.code ({ cls := "DoorSchool", name := "next", desc := "(II)I" } : Jvm.MethodName) prog_1_method_42_code (7 : Nat) (Option.some Jvm.ClassFile.FieldType.int)), (Jvm.Cond.methodLink "DoorSchoolLaw" (182 : Nat) ({ cls := "DoorSchool", name := "same", desc := "(I)I" } : Jvm.MethodName)), (Jvm.Cond.instanceMethod ({ cls := "DoorSchool", name := "same", desc := "(I)I" } : Jvm.MethodName)), (Jvm.Cond.selects "DoorSchool" ({ cls := "DoorSchool", name := "same", desc := "(I)I" } : Jvm.MethodName) ({ cls := "DoorSchool", name := "same", desc := "(I)I" } : Jvm.MethodName)), (Jvm.Cond.code ({ cls := "DoorSchool", name := "same", desc := "(I)I" } : Jvm.MethodName) prog_1_method_43_code (7 : Nat) (Option.some Jvm.ClassFile.FieldType.int)), (Jvm.Cond.methodLink "DoorSchool" (300 : Nat) ({ cls := "DoorSchool", name := "troubleWith", desc := "(I)I" } : Jvm.MethodName)), (Jvm.Cond.privateMethod ({ cls := "DoorSchool", name := "troubleWith", desc := "(I)I" } : Jvm.MethodName)), (Jvm.Cond.instanceMethod ({ cls := "DoorSchool", name := "troubleWith", desc := "(I)I" } : Jvm.MethodName)), (Jvm.Cond.code ({ cls := "DoorSchool", name := "troubleWith", desc := "(I)I" } : Jvm.MethodName) prog_1_method_84_code (2 : Nat) (Option.some Jvm.ClassFile.FieldType.int)), (Jvm.Cond.methodLink "DoorSchool" (365 : Nat) ({ cls := "DoorSchool", name := "isSlot", desc := "(I)Z" } : Jvm.MethodName)), (Jvm.Cond.static ({ cls := "DoorSchool", name := "isSlot", desc := "(I)Z" } : Jvm.MethodName)), (Jvm.Cond.code ({ cls := "DoorSchool", name := "isSlot", desc := "(I)Z" } : Jvm.MethodName) prog_1_method_69_code (1 : Nat) (Option.some Jvm.ClassFile.FieldType.boolean)), (Jvm.Cond.methodLinkNest "DoorSchool" (407 : Nat) ({ cls := "DoorSchool$Slot", name := "isPairs", desc := "(I)Z" } : Jvm.MethodName) "DoorSchool")]
def bk_4_13 : List Cond := [(Jvm.Cond.privateMethod ({ cls := "DoorSchool$Slot", name := "isPairs", desc := "(I)Z" } : Jvm.MethodName)), (Jvm.Cond.instanceMethod ({ cls := "DoorSchool$Slot", name := "isPairs", desc := "(I)Z" } : Jvm.MethodName)), (Jvm.Cond.code ({ cls := "DoorSchool$Slot", name := "isPairs", desc := "(I)Z" } : Jvm.MethodName) prog_9_method_5_code (7 : Nat) (Option.some Jvm.ClassFile.FieldType.boolean)), (Jvm.Cond.methodLinkNest "DoorSchool" (303 : Nat) ({ cls := "DoorSchool$Slot", name := "said", desc := "(I)I" } : Jvm.MethodName) "DoorSchool"), (Jvm.Cond.privateMethod ({ cls := "DoorSchool$Slot", name := "said", desc := "(I)I" } : Jvm.MethodName)), (Jvm.Cond.instanceMethod ({ cls := "DoorSchool$Slot", name := "said", desc := "(I)I" } : Jvm.MethodName)), (Jvm.Cond.code ({ cls := "DoorSchool$Slot", name := "said", desc := "(I)I" } : Jvm.MethodName) prog_9_method_6_code (4 : Nat) (Option.some Jvm.ClassFile.FieldType.int)), (Jvm.Cond.methodLink "DoorSchool" (304 : Nat) ({ cls := "DoorSchool", name := "agree", desc := "(III)Z" } : Jvm.MethodName)), (Jvm.Cond.methodLink "DoorSchoolLaw" (186 : Nat) ({ cls := "DoorSchool", name := "alike", desc := "(I)I" } : Jvm.MethodName)), (Jvm.Cond.instanceMethod ({ cls := "DoorSchool", name := "alike", desc := "(I)I" } : Jvm.MethodName)), (Jvm.Cond.selects "DoorSchool" ({ cls := "DoorSchool", name := "alike", desc := "(I)I" } : Jvm.MethodName) ({ cls := "DoorSchool", name := "alike", desc := "(I)I" } : Jvm.MethodName)), (Jvm.Cond.code ({ cls := "DoorSchool", name := "alike", desc := "(I)I" } : Jvm.MethodName) prog_1_method_44_code (4 : Nat) (Option.some Jvm.ClassFile.FieldType.int)), (Jvm.Cond.methodLink "DoorSchoolLaw" (190 : Nat) ({ cls := "DoorSchool", name := "copy", desc := "(II)I" } : Jvm.MethodName)), (Jvm.Cond.instanceMethod ({ cls := "DoorSchool", name := "copy", desc := "(II)I" } : Jvm.MethodName)), (Jvm.Cond.selects "DoorSchool" ({ cls := "DoorSchool", name := "copy", desc := "(II)I" } : Jvm.MethodName) ({ cls := "DoorSchool", name := "copy", desc := "(II)I" } : Jvm.MethodName)), (Jvm.Cond.code ({ cls := "DoorSchool", name := "copy", desc := "(II)I" } : Jvm.MethodName) prog_1_method_45_code (4 : Nat) (Option.some Jvm.ClassFile.FieldType.int))]
def bk_4_14 : List Cond := [(Jvm.Cond.methodLinkNest "DoorSchool" (307 : Nat) ({ cls := "DoorSchool$Plan", name := "isCopied", desc := "(I)Z" } : Jvm.MethodName) "DoorSchool"), (Jvm.Cond.methodLink "DoorSchoolLaw" (194 : Nat) ({ cls := "DoorSchool", name := "hanging", desc := "()I" } : Jvm.MethodName)), (Jvm.Cond.instanceMethod ({ cls := "DoorSchool", name := "hanging", desc := "()I" } : Jvm.MethodName)), (Jvm.Cond.selects "DoorSchool" ({ cls := "DoorSchool", name := "hanging", desc := "()I" } : Jvm.MethodName) ({ cls := "DoorSchool", name := "hanging", desc := "()I" } : Jvm.MethodName)), (Jvm.Cond.code ({ cls := "DoorSchool", name := "hanging", desc := "()I" } : Jvm.MethodName) prog_1_method_46_code (1 : Nat) (Option.some Jvm.ClassFile.FieldType.int)), (Jvm.Cond.methodLink "DoorSchool" (310 : Nat) ({ cls := "DoorSchool", name := "hangAll", desc := "()Z" } : Jvm.MethodName)), (Jvm.Cond.privateMethod ({ cls := "DoorSchool", name := "hangAll", desc := "()Z" } : Jvm.MethodName)), (Jvm.Cond.instanceMethod ({ cls := "DoorSchool", name := "hangAll", desc := "()Z" } : Jvm.MethodName)), (Jvm.Cond.code ({ cls := "DoorSchool", name := "hangAll", desc := "()Z" } : Jvm.MethodName) prog_1_method_83_code (4 : Nat) (Option.some Jvm.ClassFile.FieldType.boolean)), (Jvm.Cond.methodLink "DoorSchool" (319 : Nat) ({ cls := "DoorSchool", name := "houseDeeds", desc := "(I)I" } : Jvm.MethodName)), (Jvm.Cond.privateMethod ({ cls := "DoorSchool", name := "houseDeeds", desc := "(I)I" } : Jvm.MethodName)), (Jvm.Cond.instanceMethod ({ cls := "DoorSchool", name := "houseDeeds", desc := "(I)I" } : Jvm.MethodName)), (Jvm.Cond.code ({ cls := "DoorSchool", name := "houseDeeds", desc := "(I)I" } : Jvm.MethodName) prog_1_method_76_code (2 : Nat) (Option.some Jvm.ClassFile.FieldType.int)), (Jvm.Cond.methodLinkNest "DoorSchool" (404 : Nat) ({ cls := "DoorSchool$Hanging", name := "search", desc := "(II)V" } : Jvm.MethodName) "DoorSchool"), (Jvm.Cond.privateMethod ({ cls := "DoorSchool$Hanging", name := "search", desc := "(II)V" } : Jvm.MethodName)), (Jvm.Cond.instanceMethod ({ cls := "DoorSchool$Hanging", name := "search", desc := "(II)V" } : Jvm.MethodName))]
set_option maxRecDepth 20000 in
theorem ck_4 : chunk 4 = bk_4_0 ++ (bk_4_1 ++ (bk_4_2 ++ (bk_4_3 ++ (bk_4_4 ++ (bk_4_5 ++ (bk_4_6 ++ (bk_4_7 ++ (bk_4_8 ++ (bk_4_9 ++ (bk_4_10 ++ (bk_4_11 ++ (bk_4_12 ++ (bk_4_13 ++ (bk_4_14)))))))))))))) := rfl
theorem bi_4_0 {w : Cond} (h : w ∈ bk_4_0) : w ∈ chunk 4 := by rw [ck_4]; exact List.mem_append_left _ h
theorem bi_4_1 {w : Cond} (h : w ∈ bk_4_1) : w ∈ chunk 4 := by rw [ck_4]; exact List.mem_append_right _ (List.mem_append_left _ h)
theorem bi_4_2 {w : Cond} (h : w ∈ bk_4_2) : w ∈ chunk 4 := by rw [ck_4]; exact List.mem_append_right _ (List.mem_append_right _ (List.mem_append_left _ h))
theorem bi_4_3 {w : Cond} (h : w ∈ bk_4_3) : w ∈ chunk 4 := by rw [ck_4]; exact List.mem_append_right _ (List.mem_append_right _ (List.mem_append_right _ (List.mem_append_left _ h)))
theorem bi_4_4 {w : Cond} (h : w ∈ bk_4_4) : w ∈ chunk 4 := by rw [ck_4]; exact List.mem_append_right _ (List.mem_append_right _ (List.mem_append_right _ (List.mem_append_right _ (List.mem_append_left _ h))))
theorem bi_4_5 {w : Cond} (h : w ∈ bk_4_5) : w ∈ chunk 4 := by rw [ck_4]; exact List.mem_append_right _ (List.mem_append_right _ (List.mem_append_right _ (List.mem_append_right _ (List.mem_append_right _ (List.mem_append_left _ h)))))
theorem bi_4_6 {w : Cond} (h : w ∈ bk_4_6) : w ∈ chunk 4 := by rw [ck_4]; exact List.mem_append_right _ (List.mem_append_right _ (List.mem_append_right _ (List.mem_append_right _ (List.mem_append_right _ (List.mem_append_right _ (List.mem_append_left _ h))))))
theorem bi_4_7 {w : Cond} (h : w ∈ bk_4_7) : w ∈ chunk 4 := by rw [ck_4]; exact List.mem_append_right _ (List.mem_append_right _ (List.mem_append_right _ (List.mem_append_right _ (List.mem_append_right _ (List.mem_append_right _ (List.mem_append_right _ (List.mem_append_left _ h)))))))
theorem bi_4_8 {w : Cond} (h : w ∈ bk_4_8) : w ∈ chunk 4 := by rw [ck_4]; exact List.mem_append_right _ (List.mem_append_right _ (List.mem_append_right _ (List.mem_append_right _ (List.mem_append_right _ (List.mem_append_right _ (List.mem_append_right _ (List.mem_append_right _ (List.mem_append_left _ h))))))))
theorem bi_4_9 {w : Cond} (h : w ∈ bk_4_9) : w ∈ chunk 4 := by rw [ck_4]; exact List.mem_append_right _ (List.mem_append_right _ (List.mem_append_right _ (List.mem_append_right _ (List.mem_append_right _ (List.mem_append_right _ (List.mem_append_right _ (List.mem_append_right _ (List.mem_append_right _ (List.mem_append_left _ h)))))))))
theorem bi_4_10 {w : Cond} (h : w ∈ bk_4_10) : w ∈ chunk 4 := by rw [ck_4]; exact List.mem_append_right _ (List.mem_append_right _ (List.mem_append_right _ (List.mem_append_right _ (List.mem_append_right _ (List.mem_append_right _ (List.mem_append_right _ (List.mem_append_right _ (List.mem_append_right _ (List.mem_append_right _ (List.mem_append_left _ h))))))))))
theorem bi_4_11 {w : Cond} (h : w ∈ bk_4_11) : w ∈ chunk 4 := by rw [ck_4]; exact List.mem_append_right _ (List.mem_append_right _ (List.mem_append_right _ (List.mem_append_right _ (List.mem_append_right _ (List.mem_append_right _ (List.mem_append_right _ (List.mem_append_right _ (List.mem_append_right _ (List.mem_append_right _ (List.mem_append_right _ (List.mem_append_left _ h)))))))))))
theorem bi_4_12 {w : Cond} (h : w ∈ bk_4_12) : w ∈ chunk 4 := by rw [ck_4]; exact List.mem_append_right _ (List.mem_append_right _ (List.mem_append_right _ (List.mem_append_right _ (List.mem_append_right _ (List.mem_append_right _ (List.mem_append_right _ (List.mem_append_right _ (List.mem_append_right _ (List.mem_append_right _ (List.mem_append_right _ (List.mem_append_right _ (List.mem_append_left _ h))))))))))))
theorem bi_4_13 {w : Cond} (h : w ∈ bk_4_13) : w ∈ chunk 4 := by rw [ck_4]; exact List.mem_append_right _ (List.mem_append_right _ (List.mem_append_right _ (List.mem_append_right _ (List.mem_append_right _ (List.mem_append_right _ (List.mem_append_right _ (List.mem_append_right _ (List.mem_append_right _ (List.mem_append_right _ (List.mem_append_right _ (List.mem_append_right _ (List.mem_append_right _ (List.mem_append_left _ h)))))))))))))
theorem bi_4_14 {w : Cond} (h : w ∈ bk_4_14) : w ∈ chunk 4 := by rw [ck_4]; exact List.mem_append_right _ (List.mem_append_right _ (List.mem_append_right _ (List.mem_append_right _ (List.mem_append_right _ (List.mem_append_right _ (List.mem_append_right _ (List.mem_append_right _ (List.mem_append_right _ (List.mem_append_right _ (List.mem_append_right _ (List.mem_append_right _ (List.mem_append_right _ (List.mem_append_right _ (h))))))))))))))
def bk_5_0 : List Cond := [(Jvm.Cond.code ({ cls := "DoorSchool$Hanging", name := "search", desc := "(II)V" } : Jvm.MethodName) prog_3_method_2_code (3 : Nat) (Option.none : Option Jvm.ClassFile.FieldType)), (Jvm.Cond.methodLink "DoorSchool$Hanging" (31 : Nat) ({ cls := "DoorSchool$Hanging", name := "hangFrom", desc := "(LDoorSchool$Hanging;III)V" } : Jvm.MethodName)), (Jvm.Cond.static ({ cls := "DoorSchool$Hanging", name := "hangFrom", desc := "(LDoorSchool$Hanging;III)V" } : Jvm.MethodName)), (Jvm.Cond.code ({ cls := "DoorSchool$Hanging", name := "hangFrom", desc := "(LDoorSchool$Hanging;III)V" } : Jvm.MethodName) prog_3_method_3_code (5 : Nat) (Option.none : Option Jvm.ClassFile.FieldType)), (Jvm.Cond.methodLink "DoorSchool$Hanging" (35 : Nat) ({ cls := "DoorSchool$Hanging", name := "keepIfBetter", desc := "(I)V" } : Jvm.MethodName)), (Jvm.Cond.privateMethod ({ cls := "DoorSchool$Hanging", name := "keepIfBetter", desc := "(I)V" } : Jvm.MethodName)), (Jvm.Cond.instanceMethod ({ cls := "DoorSchool$Hanging", name := "keepIfBetter", desc := "(I)V" } : Jvm.MethodName)), (Jvm.Cond.code ({ cls := "DoorSchool$Hanging", name := "keepIfBetter", desc := "(I)V" } : Jvm.MethodName) prog_3_method_4_code (2 : Nat) (Option.none : Option Jvm.ClassFile.FieldType)), (Jvm.Cond.methodLink "DoorSchool$Hanging" (43 : Nat) ({ cls := "java/lang/System", name := "arraycopy", desc := "(Ljava/lang/Object;ILjava/lang/Object;II)V" } : Jvm.MethodName)), (Jvm.Cond.static ({ cls := "java/lang/System", name := "arraycopy", desc := "(Ljava/lang/Object;ILjava/lang/Object;II)V" } : Jvm.MethodName)), (Jvm.Cond.native ({ cls := "java/lang/System", name := "arraycopy", desc := "(Ljava/lang/Object;ILjava/lang/Object;II)V" } : Jvm.MethodName)), (Jvm.Cond.methodLinkNest "DoorSchool$Hanging" (39 : Nat) ({ cls := "DoorSchool", name := "bit", desc := "(II)I" } : Jvm.MethodName) "DoorSchool"), (Jvm.Cond.methodLink "DoorSchoolLaw" (198 : Nat) ({ cls := "DoorSchool", name := "hung", desc := "(I)I" } : Jvm.MethodName)), (Jvm.Cond.instanceMethod ({ cls := "DoorSchool", name := "hung", desc := "(I)I" } : Jvm.MethodName)), (Jvm.Cond.selects "DoorSchool" ({ cls := "DoorSchool", name := "hung", desc := "(I)I" } : Jvm.MethodName) ({ cls := "DoorSchool", name := "hung", desc := "(I)I" } : Jvm.MethodName)), (Jvm.Cond.code ({ cls := "DoorSchool", name := "hung", desc := "(I)I" } : Jvm.MethodName) prog_1_method_47_code (2 : Nat) (Option.some Jvm.ClassFile.FieldType.int))]
def bk_5_1 : List Cond := [(Jvm.Cond.methodLink "DoorSchoolLaw" (202 : Nat) ({ cls := "DoorSchool", name := "amiss", desc := "(II)I" } : Jvm.MethodName)), (Jvm.Cond.instanceMethod ({ cls := "DoorSchool", name := "amiss", desc := "(II)I" } : Jvm.MethodName)), (Jvm.Cond.selects "DoorSchool" ({ cls := "DoorSchool", name := "amiss", desc := "(II)I" } : Jvm.MethodName) ({ cls := "DoorSchool", name := "amiss", desc := "(II)I" } : Jvm.MethodName)), (Jvm.Cond.code ({ cls := "DoorSchool", name := "amiss", desc := "(II)I" } : Jvm.MethodName) prog_1_method_48_code (3 : Nat) (Option.some Jvm.ClassFile.FieldType.int)), (Jvm.Cond.methodLink "DoorSchoolLaw" (206 : Nat) ({ cls := "DoorSchool", name := "fits", desc := "(I)I" } : Jvm.MethodName)), (Jvm.Cond.instanceMethod ({ cls := "DoorSchool", name := "fits", desc := "(I)I" } : Jvm.MethodName)), (Jvm.Cond.selects "DoorSchool" ({ cls := "DoorSchool", name := "fits", desc := "(I)I" } : Jvm.MethodName) ({ cls := "DoorSchool", name := "fits", desc := "(I)I" } : Jvm.MethodName)), (Jvm.Cond.code ({ cls := "DoorSchool", name := "fits", desc := "(I)I" } : Jvm.MethodName) prog_1_method_49_code (3 : Nat) (Option.some Jvm.ClassFile.FieldType.int)), (Jvm.Cond.methodLink "DoorSchoolLaw" (210 : Nat) ({ cls := "DoorSchool", name := "sure", desc := "(II)I" } : Jvm.MethodName)), (Jvm.Cond.instanceMethod ({ cls := "DoorSchool", name := "sure", desc := "(II)I" } : Jvm.MethodName)), (Jvm.Cond.selects "DoorSchool" ({ cls := "DoorSchool", name := "sure", desc := "(II)I" } : Jvm.MethodName) ({ cls := "DoorSchool", name := "sure", desc := "(II)I" } : Jvm.MethodName)), (Jvm.Cond.code ({ cls := "DoorSchool", name := "sure", desc := "(II)I" } : Jvm.MethodName) prog_1_method_50_code (4 : Nat) (Option.some Jvm.ClassFile.FieldType.int)), (Jvm.Cond.methodLinkNest "DoorSchool" (322 : Nat) ({ cls := "DoorSchool$Rules", name := "surely", desc := "(IIZ)I" } : Jvm.MethodName) "DoorSchool"), (Jvm.Cond.privateMethod ({ cls := "DoorSchool$Rules", name := "surely", desc := "(IIZ)I" } : Jvm.MethodName)), (Jvm.Cond.instanceMethod ({ cls := "DoorSchool$Rules", name := "surely", desc := "(IIZ)I" } : Jvm.MethodName)), (Jvm.Cond.code ({ cls := "DoorSchool$Rules", name := "surely", desc := "(IIZ)I" } : Jvm.MethodName) prog_8_method_8_code (6 : Nat) (Option.some Jvm.ClassFile.FieldType.int))]
def bk_5_2 : List Cond := [(Jvm.Cond.methodLink "DoorSchoolLaw" (214 : Nat) ({ cls := "DoorSchool", name := "ask", desc := "(I)I" } : Jvm.MethodName)), (Jvm.Cond.instanceMethod ({ cls := "DoorSchool", name := "ask", desc := "(I)I" } : Jvm.MethodName)), (Jvm.Cond.selects "DoorSchool" ({ cls := "DoorSchool", name := "ask", desc := "(I)I" } : Jvm.MethodName) ({ cls := "DoorSchool", name := "ask", desc := "(I)I" } : Jvm.MethodName)), (Jvm.Cond.code ({ cls := "DoorSchool", name := "ask", desc := "(I)I" } : Jvm.MethodName) prog_1_method_51_code (3 : Nat) (Option.some Jvm.ClassFile.FieldType.int)), (Jvm.Cond.methodLink "DoorSchool" (326 : Nat) ({ cls := "DoorSchool", name := "askedOf", desc := "(LDoorSchool$Slot;)I" } : Jvm.MethodName)), (Jvm.Cond.privateMethod ({ cls := "DoorSchool", name := "askedOf", desc := "(LDoorSchool$Slot;)I" } : Jvm.MethodName)), (Jvm.Cond.instanceMethod ({ cls := "DoorSchool", name := "askedOf", desc := "(LDoorSchool$Slot;)I" } : Jvm.MethodName)), (Jvm.Cond.code ({ cls := "DoorSchool", name := "askedOf", desc := "(LDoorSchool$Slot;)I" } : Jvm.MethodName) prog_1_method_85_code (6 : Nat) (Option.some Jvm.ClassFile.FieldType.int)), (Jvm.Cond.methodLink "DoorSchool" (333 : Nat) ({ cls := "DoorSchool", name := "leftAtWorst", desc := "(LDoorSchool$Slot;I)I" } : Jvm.MethodName)), (Jvm.Cond.privateMethod ({ cls := "DoorSchool", name := "leftAtWorst", desc := "(LDoorSchool$Slot;I)I" } : Jvm.MethodName)), (Jvm.Cond.instanceMethod ({ cls := "DoorSchool", name := "leftAtWorst", desc := "(LDoorSchool$Slot;I)I" } : Jvm.MethodName)), (Jvm.Cond.code ({ cls := "DoorSchool", name := "leftAtWorst", desc := "(LDoorSchool$Slot;I)I" } : Jvm.MethodName) prog_1_method_86_code (6 : Nat) (Option.some Jvm.ClassFile.FieldType.int)), (Jvm.Cond.methodLink "DoorSchool" (410 : Nat) ({ cls := "java/lang/Math", name := "max", desc := "(II)I" } : Jvm.MethodName)), (Jvm.Cond.static ({ cls := "java/lang/Math", name := "max", desc := "(II)I" } : Jvm.MethodName)), (Jvm.Cond.code ({ cls := "java/lang/Math", name := "max", desc := "(II)I" } : Jvm.MethodName) prog_15_method_65_code (2 : Nat) (Option.some Jvm.ClassFile.FieldType.int)), (Jvm.Cond.methodLink "DoorSchoolLaw" (218 : Nat) ({ cls := "DoorSchool", name := "leaves", desc := "(I)I" } : Jvm.MethodName))]
def bk_5_3 : List Cond := [(Jvm.Cond.instanceMethod ({ cls := "DoorSchool", name := "leaves", desc := "(I)I" } : Jvm.MethodName)), (Jvm.Cond.selects "DoorSchool" ({ cls := "DoorSchool", name := "leaves", desc := "(I)I" } : Jvm.MethodName) ({ cls := "DoorSchool", name := "leaves", desc := "(I)I" } : Jvm.MethodName)), (Jvm.Cond.code ({ cls := "DoorSchool", name := "leaves", desc := "(I)I" } : Jvm.MethodName) prog_1_method_52_code (4 : Nat) (Option.some Jvm.ClassFile.FieldType.int)), (Jvm.Cond.methodLink "DoorSchool" (330 : Nat) ({ cls := "DoorSchool", name := "fits", desc := "(I)I" } : Jvm.MethodName)), (Jvm.Cond.methodLink "DoorSchoolLaw" (222 : Nat) ({ cls := "DoorSchool", name := "hours", desc := "()I" } : Jvm.MethodName)), (Jvm.Cond.instanceMethod ({ cls := "DoorSchool", name := "hours", desc := "()I" } : Jvm.MethodName)), (Jvm.Cond.selects "DoorSchool" ({ cls := "DoorSchool", name := "hours", desc := "()I" } : Jvm.MethodName) ({ cls := "DoorSchool", name := "hours", desc := "()I" } : Jvm.MethodName)), (Jvm.Cond.code ({ cls := "DoorSchool", name := "hours", desc := "()I" } : Jvm.MethodName) prog_1_method_53_code (1 : Nat) (Option.some Jvm.ClassFile.FieldType.int)), (Jvm.Cond.methodLinkNest "DoorSchool" (340 : Nat) ({ cls := "DoorSchool$Timetable", name := "solve", desc := "(LDoorSchool$Plan;I)I" } : Jvm.MethodName) "DoorSchool"), (Jvm.Cond.privateMethod ({ cls := "DoorSchool$Timetable", name := "solve", desc := "(LDoorSchool$Plan;I)I" } : Jvm.MethodName)), (Jvm.Cond.instanceMethod ({ cls := "DoorSchool$Timetable", name := "solve", desc := "(LDoorSchool$Plan;I)I" } : Jvm.MethodName)), (Jvm.Cond.code ({ cls := "DoorSchool$Timetable", name := "solve", desc := "(LDoorSchool$Plan;I)I" } : Jvm.MethodName) prog_11_method_2_code (3 : Nat) (Option.some Jvm.ClassFile.FieldType.int)), (Jvm.Cond.methodLink "DoorSchool$Timetable" (28 : Nat) ({ cls := "java/util/Arrays", name := "fill", desc := "([II)V" } : Jvm.MethodName)), (Jvm.Cond.methodLink "DoorSchool$Timetable" (34 : Nat) ({ cls := "DoorSchool$Timetable", name := "placeFrom", desc := "(LDoorSchool$Timetable;LDoorSchool$Plan;III)V" } : Jvm.MethodName)), (Jvm.Cond.static ({ cls := "DoorSchool$Timetable", name := "placeFrom", desc := "(LDoorSchool$Timetable;LDoorSchool$Plan;III)V" } : Jvm.MethodName)), (Jvm.Cond.code ({ cls := "DoorSchool$Timetable", name := "placeFrom", desc := "(LDoorSchool$Timetable;LDoorSchool$Plan;III)V" } : Jvm.MethodName) prog_11_method_3_code (8 : Nat) (Option.none : Option Jvm.ClassFile.FieldType))]
def bk_5_4 : List Cond := [(Jvm.Cond.methodLink "DoorSchool$Timetable" (43 : Nat) ({ cls := "DoorSchool$Timetable", name := "keepIfFirst", desc := "(I)V" } : Jvm.MethodName)), (Jvm.Cond.privateMethod ({ cls := "DoorSchool$Timetable", name := "keepIfFirst", desc := "(I)V" } : Jvm.MethodName)), (Jvm.Cond.instanceMethod ({ cls := "DoorSchool$Timetable", name := "keepIfFirst", desc := "(I)V" } : Jvm.MethodName)), (Jvm.Cond.code ({ cls := "DoorSchool$Timetable", name := "keepIfFirst", desc := "(I)V" } : Jvm.MethodName) prog_11_method_7_code (2 : Nat) (Option.none : Option Jvm.ClassFile.FieldType)), (Jvm.Cond.methodLink "DoorSchool$Timetable" (73 : Nat) ({ cls := "DoorSchool$Timetable", name := "isEarlier", desc := "()Z" } : Jvm.MethodName)), (Jvm.Cond.privateMethod ({ cls := "DoorSchool$Timetable", name := "isEarlier", desc := "()Z" } : Jvm.MethodName)), (Jvm.Cond.instanceMethod ({ cls := "DoorSchool$Timetable", name := "isEarlier", desc := "()Z" } : Jvm.MethodName)), (Jvm.Cond.code ({ cls := "DoorSchool$Timetable", name := "isEarlier", desc := "()Z" } : Jvm.MethodName) prog_11_method_8_code (2 : Nat) (Option.some Jvm.ClassFile.FieldType.boolean)), (Jvm.Cond.methodLink "DoorSchool$Timetable" (77 : Nat) ({ cls := "java/lang/System", name := "arraycopy", desc := "(Ljava/lang/Object;ILjava/lang/Object;II)V" } : Jvm.MethodName)), (Jvm.Cond.methodLinkNest "DoorSchool$Timetable" (47 : Nat) ({ cls := "DoorSchool", name := "bit", desc := "(II)I" } : Jvm.MethodName) "DoorSchool"), (Jvm.Cond.methodLink "DoorSchool$Timetable" (54 : Nat) ({ cls := "DoorSchool$Timetable", name := "earliest", desc := "(LDoorSchool$Plan;I)I" } : Jvm.MethodName)), (Jvm.Cond.privateMethod ({ cls := "DoorSchool$Timetable", name := "earliest", desc := "(LDoorSchool$Plan;I)I" } : Jvm.MethodName)), (Jvm.Cond.instanceMethod ({ cls := "DoorSchool$Timetable", name := "earliest", desc := "(LDoorSchool$Plan;I)I" } : Jvm.MethodName)), (Jvm.Cond.code ({ cls := "DoorSchool$Timetable", name := "earliest", desc := "(LDoorSchool$Plan;I)I" } : Jvm.MethodName) prog_11_method_4_code (5 : Nat) (Option.some Jvm.ClassFile.FieldType.int)), (Jvm.Cond.methodLink "DoorSchool$Timetable" (70 : Nat) ({ cls := "DoorSchool$Timetable", name := "readyAt", desc := "(LDoorSchool$Plan;I)I" } : Jvm.MethodName)), (Jvm.Cond.privateMethod ({ cls := "DoorSchool$Timetable", name := "readyAt", desc := "(LDoorSchool$Plan;I)I" } : Jvm.MethodName))]
def bk_5_5 : List Cond := [(Jvm.Cond.instanceMethod ({ cls := "DoorSchool$Timetable", name := "readyAt", desc := "(LDoorSchool$Plan;I)I" } : Jvm.MethodName)), (Jvm.Cond.code ({ cls := "DoorSchool$Timetable", name := "readyAt", desc := "(LDoorSchool$Plan;I)I" } : Jvm.MethodName) prog_11_method_5_code (5 : Nat) (Option.some Jvm.ClassFile.FieldType.int)), (Jvm.Cond.methodLink "DoorSchool$Timetable" (65 : Nat) ({ cls := "java/lang/Math", name := "max", desc := "(II)I" } : Jvm.MethodName)), (Jvm.Cond.methodLink "DoorSchool$Timetable" (61 : Nat) ({ cls := "DoorSchool$Timetable", name := "work", desc := "(III)V" } : Jvm.MethodName)), (Jvm.Cond.privateMethod ({ cls := "DoorSchool$Timetable", name := "work", desc := "(III)V" } : Jvm.MethodName)), (Jvm.Cond.instanceMethod ({ cls := "DoorSchool$Timetable", name := "work", desc := "(III)V" } : Jvm.MethodName)), (Jvm.Cond.code ({ cls := "DoorSchool$Timetable", name := "work", desc := "(III)V" } : Jvm.MethodName) prog_11_method_6_code (5 : Nat) (Option.none : Option Jvm.ClassFile.FieldType)), (Jvm.Cond.methodLink "DoorSchoolLaw" (226 : Nat) ({ cls := "DoorSchool", name := "begins", desc := "(I)I" } : Jvm.MethodName)), (Jvm.Cond.instanceMethod ({ cls := "DoorSchool", name := "begins", desc := "(I)I" } : Jvm.MethodName)), (Jvm.Cond.selects "DoorSchool" ({ cls := "DoorSchool", name := "begins", desc := "(I)I" } : Jvm.MethodName) ({ cls := "DoorSchool", name := "begins", desc := "(I)I" } : Jvm.MethodName)), (Jvm.Cond.code ({ cls := "DoorSchool", name := "begins", desc := "(I)I" } : Jvm.MethodName) prog_1_method_54_code (2 : Nat) (Option.some Jvm.ClassFile.FieldType.int)), (Jvm.Cond.methodLink "DoorSchoolLaw" (230 : Nat) ({ cls := "DoorSchool", name := "teacher", desc := "()I" } : Jvm.MethodName)), (Jvm.Cond.instanceMethod ({ cls := "DoorSchool", name := "teacher", desc := "()I" } : Jvm.MethodName)), (Jvm.Cond.selects "DoorSchool" ({ cls := "DoorSchool", name := "teacher", desc := "()I" } : Jvm.MethodName) ({ cls := "DoorSchool", name := "teacher", desc := "()I" } : Jvm.MethodName)), (Jvm.Cond.code ({ cls := "DoorSchool", name := "teacher", desc := "()I" } : Jvm.MethodName) prog_1_method_55_code (1 : Nat) (Option.some Jvm.ClassFile.FieldType.int)), (Jvm.Cond.methodLink "DoorSchoolLaw" (234 : Nat) ({ cls := "DoorSchool", name := "train", desc := "(III)I" } : Jvm.MethodName))]
def bk_5_6 : List Cond := [(Jvm.Cond.instanceMethod ({ cls := "DoorSchool", name := "train", desc := "(III)I" } : Jvm.MethodName)), (Jvm.Cond.selects "DoorSchool" ({ cls := "DoorSchool", name := "train", desc := "(III)I" } : Jvm.MethodName) ({ cls := "DoorSchool", name := "train", desc := "(III)I" } : Jvm.MethodName)), (Jvm.Cond.code ({ cls := "DoorSchool", name := "train", desc := "(III)I" } : Jvm.MethodName) prog_1_method_56_code (6 : Nat) (Option.some Jvm.ClassFile.FieldType.int)), (Jvm.Cond.methodLink "DoorSchoolLaw" (238 : Nat) ({ cls := "DoorSchool", name := "owns", desc := "(II)I" } : Jvm.MethodName)), (Jvm.Cond.instanceMethod ({ cls := "DoorSchool", name := "owns", desc := "(II)I" } : Jvm.MethodName)), (Jvm.Cond.selects "DoorSchool" ({ cls := "DoorSchool", name := "owns", desc := "(II)I" } : Jvm.MethodName) ({ cls := "DoorSchool", name := "owns", desc := "(II)I" } : Jvm.MethodName)), (Jvm.Cond.code ({ cls := "DoorSchool", name := "owns", desc := "(II)I" } : Jvm.MethodName) prog_1_method_57_code (4 : Nat) (Option.some Jvm.ClassFile.FieldType.int)), (Jvm.Cond.methodLink "DoorSchoolLaw" (242 : Nat) ({ cls := "DoorSchool", name := "storm", desc := "(III)I" } : Jvm.MethodName)), (Jvm.Cond.instanceMethod ({ cls := "DoorSchool", name := "storm", desc := "(III)I" } : Jvm.MethodName)), (Jvm.Cond.selects "DoorSchool" ({ cls := "DoorSchool", name := "storm", desc := "(III)I" } : Jvm.MethodName) ({ cls := "DoorSchool", name := "storm", desc := "(III)I" } : Jvm.MethodName)), (Jvm.Cond.code ({ cls := "DoorSchool", name := "storm", desc := "(III)I" } : Jvm.MethodName) prog_1_method_58_code (5 : Nat) (Option.some Jvm.ClassFile.FieldType.int)), (Jvm.Cond.methodLink "DoorSchool" (350 : Nat) ({ cls := "DoorSchool", name := "isSeed", desc := "(I)Z" } : Jvm.MethodName)), (Jvm.Cond.static ({ cls := "DoorSchool", name := "isSeed", desc := "(I)Z" } : Jvm.MethodName)), (Jvm.Cond.code ({ cls := "DoorSchool", name := "isSeed", desc := "(I)Z" } : Jvm.MethodName) prog_1_method_68_code (1 : Nat) (Option.some Jvm.ClassFile.FieldType.boolean)), (Jvm.Cond.constant "DoorSchool" (396 : Nat) (2000000000 : Int32)), (Jvm.Cond.methodLink "DoorSchool" (353 : Nat) ({ cls := "DoorSchool", name := "doneInStorm", desc := "(II)I" } : Jvm.MethodName))]
def bk_5_7 : List Cond := [(Jvm.Cond.privateMethod ({ cls := "DoorSchool", name := "doneInStorm", desc := "(II)I" } : Jvm.MethodName)), (Jvm.Cond.instanceMethod ({ cls := "DoorSchool", name := "doneInStorm", desc := "(II)I" } : Jvm.MethodName)), (Jvm.Cond.code ({ cls := "DoorSchool", name := "doneInStorm", desc := "(II)I" } : Jvm.MethodName) prog_1_method_87_code (7 : Nat) (Option.some Jvm.ClassFile.FieldType.int)), (Jvm.Cond.constantLong "DoorSchool" (415 : Nat) (1103515245 : Int64)), (Jvm.Cond.constantLong "DoorSchool" (417 : Nat) (12345 : Int64)), (Jvm.Cond.constantLong "DoorSchool" (419 : Nat) (2147483648 : Int64)), (Jvm.Cond.constantLong "DoorSchool" (421 : Nat) (65536 : Int64)), (Jvm.Cond.constantLong "DoorSchool" (423 : Nat) (100 : Int64)), (Jvm.Cond.methodLink "DoorSchoolLaw" (246 : Nat) ({ cls := "DoorSchool", name := "years", desc := "(IIII)I" } : Jvm.MethodName)), (Jvm.Cond.instanceMethod ({ cls := "DoorSchool", name := "years", desc := "(IIII)I" } : Jvm.MethodName)), (Jvm.Cond.selects "DoorSchool" ({ cls := "DoorSchool", name := "years", desc := "(IIII)I" } : Jvm.MethodName) ({ cls := "DoorSchool", name := "years", desc := "(IIII)I" } : Jvm.MethodName)), (Jvm.Cond.code ({ cls := "DoorSchool", name := "years", desc := "(IIII)I" } : Jvm.MethodName) prog_1_method_59_code (7 : Nat) (Option.some Jvm.ClassFile.FieldType.int)), (Jvm.Cond.methodLink "DoorSchoolLaw" (251 : Nat) ({ cls := "DoorSchool", name := "count", desc := "(I)I" } : Jvm.MethodName)), (Jvm.Cond.instanceMethod ({ cls := "DoorSchool", name := "count", desc := "(I)I" } : Jvm.MethodName)), (Jvm.Cond.selects "DoorSchool" ({ cls := "DoorSchool", name := "count", desc := "(I)I" } : Jvm.MethodName) ({ cls := "DoorSchool", name := "count", desc := "(I)I" } : Jvm.MethodName)), (Jvm.Cond.code ({ cls := "DoorSchool", name := "count", desc := "(I)I" } : Jvm.MethodName) prog_1_method_60_code (2 : Nat) (Option.some Jvm.ClassFile.FieldType.int))]
def bk_5_8 : List Cond := [(Jvm.Cond.methodLink "DoorSchool" (359 : Nat) ({ cls := "DoorSchool", name := "fullSlots", desc := "()I" } : Jvm.MethodName)), (Jvm.Cond.privateMethod ({ cls := "DoorSchool", name := "fullSlots", desc := "()I" } : Jvm.MethodName)), (Jvm.Cond.instanceMethod ({ cls := "DoorSchool", name := "fullSlots", desc := "()I" } : Jvm.MethodName)), (Jvm.Cond.code ({ cls := "DoorSchool", name := "fullSlots", desc := "()I" } : Jvm.MethodName) prog_1_method_88_code (3 : Nat) (Option.some Jvm.ClassFile.FieldType.int)), (Jvm.Cond.methodLink "DoorSchoolLaw" (255 : Nat) ({ cls := "DoorSchool", name := "image", desc := "(I)I" } : Jvm.MethodName)), (Jvm.Cond.instanceMethod ({ cls := "DoorSchool", name := "image", desc := "(I)I" } : Jvm.MethodName)), (Jvm.Cond.selects "DoorSchool" ({ cls := "DoorSchool", name := "image", desc := "(I)I" } : Jvm.MethodName) ({ cls := "DoorSchool", name := "image", desc := "(I)I" } : Jvm.MethodName)), (Jvm.Cond.code ({ cls := "DoorSchool", name := "image", desc := "(I)I" } : Jvm.MethodName) prog_1_method_61_code (2 : Nat) (Option.some Jvm.ClassFile.FieldType.int)), (Jvm.Cond.methodLinkNest "DoorSchool" (362 : Nat) ({ cls := "DoorSchool$Plan", name := "takeFrom", desc := "(LDoorSchool$Plan;)V" } : Jvm.MethodName) "DoorSchool"), (Jvm.Cond.privateMethod ({ cls := "DoorSchool$Plan", name := "takeFrom", desc := "(LDoorSchool$Plan;)V" } : Jvm.MethodName)), (Jvm.Cond.instanceMethod ({ cls := "DoorSchool$Plan", name := "takeFrom", desc := "(LDoorSchool$Plan;)V" } : Jvm.MethodName)), (Jvm.Cond.code ({ cls := "DoorSchool$Plan", name := "takeFrom", desc := "(LDoorSchool$Plan;)V" } : Jvm.MethodName) prog_6_method_3_code (3 : Nat) (Option.none : Option Jvm.ClassFile.FieldType)), (Jvm.Cond.methodLinkNest "DoorSchool$Plan" (78 : Nat) ({ cls := "DoorSchool$Door", name := "takeFrom", desc := "(LDoorSchool$Door;)V" } : Jvm.MethodName) "DoorSchool"), (Jvm.Cond.privateMethod ({ cls := "DoorSchool$Door", name := "takeFrom", desc := "(LDoorSchool$Door;)V" } : Jvm.MethodName)), (Jvm.Cond.instanceMethod ({ cls := "DoorSchool$Door", name := "takeFrom", desc := "(LDoorSchool$Door;)V" } : Jvm.MethodName)), (Jvm.Cond.code ({ cls := "DoorSchool$Door", name := "takeFrom", desc := "(LDoorSchool$Door;)V" } : Jvm.MethodName) prog_2_method_3_code (2 : Nat) (Option.none : Option Jvm.ClassFile.FieldType))]
def bk_5_9 : List Cond := [(Jvm.Cond.methodLink "DoorSchool$Door" (31 : Nat) ({ cls := "DoorSchool$Door", name := "begin", desc := "(II)V" } : Jvm.MethodName)), (Jvm.Cond.methodLinkNest "DoorSchool$Door" (35 : Nat) ({ cls := "DoorSchool$Lessons", name := "takeFrom", desc := "(LDoorSchool$Lessons;)V" } : Jvm.MethodName) "DoorSchool"), (Jvm.Cond.privateMethod ({ cls := "DoorSchool$Lessons", name := "takeFrom", desc := "(LDoorSchool$Lessons;)V" } : Jvm.MethodName)), (Jvm.Cond.instanceMethod ({ cls := "DoorSchool$Lessons", name := "takeFrom", desc := "(LDoorSchool$Lessons;)V" } : Jvm.MethodName)), (Jvm.Cond.code ({ cls := "DoorSchool$Lessons", name := "takeFrom", desc := "(LDoorSchool$Lessons;)V" } : Jvm.MethodName) prog_5_method_6_code (2 : Nat) (Option.none : Option Jvm.ClassFile.FieldType)), (Jvm.Cond.methodLink "DoorSchool$Lessons" (30 : Nat) ({ cls := "java/lang/System", name := "arraycopy", desc := "(Ljava/lang/Object;ILjava/lang/Object;II)V" } : Jvm.MethodName)), (Jvm.Cond.methodLinkNest "DoorSchool$Plan" (82 : Nat) ({ cls := "DoorSchool$Lessons", name := "takeFrom", desc := "(LDoorSchool$Lessons;)V" } : Jvm.MethodName) "DoorSchool"), (Jvm.Cond.methodLink "DoorSchool$Plan" (85 : Nat) ({ cls := "java/lang/System", name := "arraycopy", desc := "(Ljava/lang/Object;ILjava/lang/Object;II)V" } : Jvm.MethodName)), (Jvm.Cond.methodLink "DoorSchoolLaw" (259 : Nat) ({ cls := "DoorSchool", name := "back", desc := "(I)I" } : Jvm.MethodName)), (Jvm.Cond.instanceMethod ({ cls := "DoorSchool", name := "back", desc := "(I)I" } : Jvm.MethodName)), (Jvm.Cond.selects "DoorSchool" ({ cls := "DoorSchool", name := "back", desc := "(I)I" } : Jvm.MethodName) ({ cls := "DoorSchool", name := "back", desc := "(I)I" } : Jvm.MethodName)), (Jvm.Cond.code ({ cls := "DoorSchool", name := "back", desc := "(I)I" } : Jvm.MethodName) prog_1_method_62_code (2 : Nat) (Option.some Jvm.ClassFile.FieldType.int)), (Jvm.Cond.methodLink "DoorSchoolLaw" (263 : Nat) ({ cls := "DoorSchool", name := "row", desc := "(III)I" } : Jvm.MethodName)), (Jvm.Cond.instanceMethod ({ cls := "DoorSchool", name := "row", desc := "(III)I" } : Jvm.MethodName)), (Jvm.Cond.selects "DoorSchool" ({ cls := "DoorSchool", name := "row", desc := "(III)I" } : Jvm.MethodName) ({ cls := "DoorSchool", name := "row", desc := "(III)I" } : Jvm.MethodName)), (Jvm.Cond.code ({ cls := "DoorSchool", name := "row", desc := "(III)I" } : Jvm.MethodName) prog_1_method_63_code (4 : Nat) (Option.some Jvm.ClassFile.FieldType.int))]
def bk_5_10 : List Cond := [(Jvm.Cond.methodLinkNest "DoorSchool" (368 : Nat) ({ cls := "DoorSchool$Slot", name := "begin", desc := "(II)V" } : Jvm.MethodName) "DoorSchool"), (Jvm.Cond.privateMethod ({ cls := "DoorSchool$Slot", name := "begin", desc := "(II)V" } : Jvm.MethodName)), (Jvm.Cond.instanceMethod ({ cls := "DoorSchool$Slot", name := "begin", desc := "(II)V" } : Jvm.MethodName)), (Jvm.Cond.code ({ cls := "DoorSchool$Slot", name := "begin", desc := "(II)V" } : Jvm.MethodName) prog_9_method_2_code (3 : Nat) (Option.none : Option Jvm.ClassFile.FieldType)), (Jvm.Cond.methodLink "DoorSchool$Slot" (26 : Nat) ({ cls := "java/util/Arrays", name := "fill", desc := "([JJ)V" } : Jvm.MethodName)), (Jvm.Cond.static ({ cls := "java/util/Arrays", name := "fill", desc := "([JJ)V" } : Jvm.MethodName)), (Jvm.Cond.code ({ cls := "java/util/Arrays", name := "fill", desc := "([JJ)V" } : Jvm.MethodName) prog_20_method_101_code (5 : Nat) (Option.none : Option Jvm.ClassFile.FieldType)), (Jvm.Cond.methodLink "DoorSchoolLaw" (269 : Nat) ({ cls := "DoorSchool", name := "write", desc := "(IIJ)I" } : Jvm.MethodName)), (Jvm.Cond.instanceMethod ({ cls := "DoorSchool", name := "write", desc := "(IIJ)I" } : Jvm.MethodName)), (Jvm.Cond.selects "DoorSchool" ({ cls := "DoorSchool", name := "write", desc := "(IIJ)I" } : Jvm.MethodName) ({ cls := "DoorSchool", name := "write", desc := "(IIJ)I" } : Jvm.MethodName)), (Jvm.Cond.code ({ cls := "DoorSchool", name := "write", desc := "(IIJ)I" } : Jvm.MethodName) prog_1_method_64_code (6 : Nat) (Option.some Jvm.ClassFile.FieldType.int)), (Jvm.Cond.methodLinkNest "DoorSchool" (376 : Nat) ({ cls := "DoorSchool$Slot", name := "put", desc := "(IJ)V" } : Jvm.MethodName) "DoorSchool"), (Jvm.Cond.privateMethod ({ cls := "DoorSchool$Slot", name := "put", desc := "(IJ)V" } : Jvm.MethodName)), (Jvm.Cond.instanceMethod ({ cls := "DoorSchool$Slot", name := "put", desc := "(IJ)V" } : Jvm.MethodName)), (Jvm.Cond.code ({ cls := "DoorSchool$Slot", name := "put", desc := "(IJ)V" } : Jvm.MethodName) prog_9_method_3_code (5 : Nat) (Option.none : Option Jvm.ClassFile.FieldType)), (Jvm.Cond.methodLink "DoorSchoolLaw" (274 : Nat) ({ cls := "DoorSchool", name := "paste", desc := "(IIIII)I" } : Jvm.MethodName))]
def bk_5_11 : List Cond := [(Jvm.Cond.instanceMethod ({ cls := "DoorSchool", name := "paste", desc := "(IIIII)I" } : Jvm.MethodName)), (Jvm.Cond.selects "DoorSchool" ({ cls := "DoorSchool", name := "paste", desc := "(IIIII)I" } : Jvm.MethodName) ({ cls := "DoorSchool", name := "paste", desc := "(IIIII)I" } : Jvm.MethodName)), (Jvm.Cond.code ({ cls := "DoorSchool", name := "paste", desc := "(IIIII)I" } : Jvm.MethodName) prog_1_method_65_code (8 : Nat) (Option.some Jvm.ClassFile.FieldType.int)), (Jvm.Cond.methodLinkNest "DoorSchool" (383 : Nat) ({ cls := "DoorSchool$Slot", name := "has", desc := "(II)Z" } : Jvm.MethodName) "DoorSchool"), (Jvm.Cond.privateMethod ({ cls := "DoorSchool$Slot", name := "has", desc := "(II)Z" } : Jvm.MethodName)), (Jvm.Cond.instanceMethod ({ cls := "DoorSchool$Slot", name := "has", desc := "(II)Z" } : Jvm.MethodName)), (Jvm.Cond.code ({ cls := "DoorSchool$Slot", name := "has", desc := "(II)Z" } : Jvm.MethodName) prog_9_method_4_code (3 : Nat) (Option.some Jvm.ClassFile.FieldType.boolean)), (Jvm.Cond.methodLink "DoorSchool" (390 : Nat) ({ cls := "java/lang/System", name := "arraycopy", desc := "(Ljava/lang/Object;ILjava/lang/Object;II)V" } : Jvm.MethodName)), (Jvm.Cond.classLink "DoorSchoolLaw" (10 : Nat) "DoorSchoolModel"), (Jvm.Cond.instantiable "DoorSchoolModel" (36 : Nat)), (Jvm.Cond.methodLink "DoorSchoolLaw" (12 : Nat) ({ cls := "DoorSchoolModel", name := "<init>", desc := "()V" } : Jvm.MethodName)), (Jvm.Cond.instanceMethod ({ cls := "DoorSchoolModel", name := "<init>", desc := "()V" } : Jvm.MethodName)), (Jvm.Cond.code ({ cls := "DoorSchoolModel", name := "<init>", desc := "()V" } : Jvm.MethodName) prog_13_method_1_code (1 : Nat) (Option.none : Option Jvm.ClassFile.FieldType)), (Jvm.Cond.methodLink "DoorSchoolModel" (3 : Nat) ({ cls := "java/lang/Object", name := "<init>", desc := "()V" } : Jvm.MethodName)), (Jvm.Cond.fieldLink "DoorSchoolModel" (9 : Nat) "DoorSchoolModel" "world" "[I"), (Jvm.Cond.fieldLink "DoorSchoolModel" (13 : Nat) "DoorSchoolModel" "images" "[I")]
def bk_5_12 : List Cond := [(Jvm.Cond.fieldLink "DoorSchoolModel" (16 : Nat) "DoorSchoolModel" "hasImage" "[Z"), (Jvm.Cond.fieldLink "DoorSchoolModel" (20 : Nat) "DoorSchoolModel" "tape" "[B"), (Jvm.Cond.fieldLink "DoorSchoolModel" (104 : Nat) "DoorSchoolModel" "taped" "I"), (Jvm.Cond.fieldLink "DoorSchoolModel" (24 : Nat) "DoorSchoolModel" "five" "[I"), (Jvm.Cond.fieldLink "DoorSchoolModel" (107 : Nat) "DoorSchoolModel" "size" "I"), (Jvm.Cond.fieldLink "DoorSchoolModel" (110 : Nat) "DoorSchoolModel" "at" "I"), (Jvm.Cond.fieldLink "DoorSchoolModel" (117 : Nat) "DoorSchoolModel" "from" "I"), (Jvm.Cond.fieldLink "DoorSchoolModel" (120 : Nat) "DoorSchoolModel" "token" "I"), (Jvm.Cond.fieldLink "DoorSchoolModel" (131 : Nat) "DoorSchoolModel" "value" "I"), (Jvm.Cond.fieldLink "DoorSchoolModel" (141 : Nat) "DoorSchoolModel" "faultKind" "I"), (Jvm.Cond.fieldLink "DoorSchoolModel" (27 : Nat) "DoorSchoolModel" "faultPlace" "I"), (Jvm.Cond.fieldLink "DoorSchoolModel" (31 : Nat) "DoorSchoolModel" "fresh" "[I"), (Jvm.Cond.fieldLink "DoorSchoolModel" (34 : Nat) "DoorSchoolModel" "ruleSigns" "[I"), (Jvm.Cond.fieldLink "DoorSchoolModel" (37 : Nat) "DoorSchoolModel" "ruleThere" "[I"), (Jvm.Cond.fieldLink "DoorSchoolModel" (40 : Nat) "DoorSchoolModel" "ruleDeeds" "[I"), (Jvm.Cond.fieldLink "DoorSchoolModel" (253 : Nat) "DoorSchoolModel" "rulesMany" "I")]
def bk_5_13 : List Cond := [(Jvm.Cond.fieldLink "DoorSchoolModel" (43 : Nat) "DoorSchoolModel" "learnKnock" "[I"), (Jvm.Cond.fieldLink "DoorSchoolModel" (46 : Nat) "DoorSchoolModel" "learnOpen" "[I"), (Jvm.Cond.fieldLink "DoorSchoolModel" (262 : Nat) "DoorSchoolModel" "learnMany" "I"), (Jvm.Cond.fieldLink "DoorSchoolModel" (380 : Nat) "DoorSchoolModel" "errorsMany" "I"), (Jvm.Cond.fieldLink "DoorSchoolModel" (383 : Nat) "DoorSchoolModel" "learntMany" "I"), (Jvm.Cond.fieldLink "DoorSchoolModel" (49 : Nat) "DoorSchoolModel" "hungNow" "[I"), (Jvm.Cond.fieldLink "DoorSchoolModel" (52 : Nat) "DoorSchoolModel" "hungBest" "[I"), (Jvm.Cond.fieldLink "DoorSchoolModel" (406 : Nat) "DoorSchoolModel" "hungLeast" "I"), (Jvm.Cond.fieldLink "DoorSchoolModel" (55 : Nat) "DoorSchoolModel" "begin" "[I"), (Jvm.Cond.fieldLink "DoorSchoolModel" (58 : Nat) "DoorSchoolModel" "busy" "[I"), (Jvm.Cond.fieldLink "DoorSchoolModel" (61 : Nat) "DoorSchoolModel" "fixed" "[I"), (Jvm.Cond.fieldLink "DoorSchoolModel" (64 : Nat) "DoorSchoolModel" "order" "[I"), (Jvm.Cond.fieldLink "DoorSchoolModel" (453 : Nat) "DoorSchoolModel" "slipped" "I"), (Jvm.Cond.fieldLink "DoorSchoolModel" (67 : Nat) "DoorSchoolModel" "many" "[I"), (Jvm.Cond.fieldLink "DoorSchoolModel" (70 : Nat) "DoorSchoolModel" "width" "[I"), (Jvm.Cond.fieldLink "DoorSchoolModel" (73 : Nat) "DoorSchoolModel" "numbers" "[J")]
def bk_5_14 : List Cond := [(Jvm.Cond.fieldLink "DoorSchoolModel" (77 : Nat) "DoorSchoolModel" "moving" "[J"), (Jvm.Cond.lays "DoorSchoolModel" "DoorSchoolModel" "thrown" "I"), (Jvm.Cond.soleField "DoorSchoolModel" "thrown"), (Jvm.Cond.laysFinal "DoorSchoolModel" "DoorSchoolModel" "world" "[I"), (Jvm.Cond.soleField "DoorSchoolModel" "world"), (Jvm.Cond.laysFinal "DoorSchoolModel" "DoorSchoolModel" "images" "[I"), (Jvm.Cond.soleField "DoorSchoolModel" "images"), (Jvm.Cond.laysFinal "DoorSchoolModel" "DoorSchoolModel" "hasImage" "[Z"), (Jvm.Cond.soleField "DoorSchoolModel" "hasImage"), (Jvm.Cond.laysFinal "DoorSchoolModel" "DoorSchoolModel" "tape" "[B"), (Jvm.Cond.soleField "DoorSchoolModel" "tape"), (Jvm.Cond.lays "DoorSchoolModel" "DoorSchoolModel" "taped" "I"), (Jvm.Cond.soleField "DoorSchoolModel" "taped"), (Jvm.Cond.laysFinal "DoorSchoolModel" "DoorSchoolModel" "five" "[I"), (Jvm.Cond.soleField "DoorSchoolModel" "five"), (Jvm.Cond.lays "DoorSchoolModel" "DoorSchoolModel" "size" "I")]
set_option maxRecDepth 20000 in
theorem ck_5 : chunk 5 = bk_5_0 ++ (bk_5_1 ++ (bk_5_2 ++ (bk_5_3 ++ (bk_5_4 ++ (bk_5_5 ++ (bk_5_6 ++ (bk_5_7 ++ (bk_5_8 ++ (bk_5_9 ++ (bk_5_10 ++ (bk_5_11 ++ (bk_5_12 ++ (bk_5_13 ++ (bk_5_14)))))))))))))) := rfl
theorem bi_5_0 {w : Cond} (h : w ∈ bk_5_0) : w ∈ chunk 5 := by rw [ck_5]; exact List.mem_append_left _ h
theorem bi_5_1 {w : Cond} (h : w ∈ bk_5_1) : w ∈ chunk 5 := by rw [ck_5]; exact List.mem_append_right _ (List.mem_append_left _ h)
theorem bi_5_2 {w : Cond} (h : w ∈ bk_5_2) : w ∈ chunk 5 := by rw [ck_5]; exact List.mem_append_right _ (List.mem_append_right _ (List.mem_append_left _ h))
theorem bi_5_3 {w : Cond} (h : w ∈ bk_5_3) : w ∈ chunk 5 := by rw [ck_5]; exact List.mem_append_right _ (List.mem_append_right _ (List.mem_append_right _ (List.mem_append_left _ h)))
theorem bi_5_4 {w : Cond} (h : w ∈ bk_5_4) : w ∈ chunk 5 := by rw [ck_5]; exact List.mem_append_right _ (List.mem_append_right _ (List.mem_append_right _ (List.mem_append_right _ (List.mem_append_left _ h))))
theorem bi_5_5 {w : Cond} (h : w ∈ bk_5_5) : w ∈ chunk 5 := by rw [ck_5]; exact List.mem_append_right _ (List.mem_append_right _ (List.mem_append_right _ (List.mem_append_right _ (List.mem_append_right _ (List.mem_append_left _ h)))))
theorem bi_5_6 {w : Cond} (h : w ∈ bk_5_6) : w ∈ chunk 5 := by rw [ck_5]; exact List.mem_append_right _ (List.mem_append_right _ (List.mem_append_right _ (List.mem_append_right _ (List.mem_append_right _ (List.mem_append_right _ (List.mem_append_left _ h))))))
theorem bi_5_7 {w : Cond} (h : w ∈ bk_5_7) : w ∈ chunk 5 := by rw [ck_5]; exact List.mem_append_right _ (List.mem_append_right _ (List.mem_append_right _ (List.mem_append_right _ (List.mem_append_right _ (List.mem_append_right _ (List.mem_append_right _ (List.mem_append_left _ h)))))))
theorem bi_5_8 {w : Cond} (h : w ∈ bk_5_8) : w ∈ chunk 5 := by rw [ck_5]; exact List.mem_append_right _ (List.mem_append_right _ (List.mem_append_right _ (List.mem_append_right _ (List.mem_append_right _ (List.mem_append_right _ (List.mem_append_right _ (List.mem_append_right _ (List.mem_append_left _ h))))))))
theorem bi_5_9 {w : Cond} (h : w ∈ bk_5_9) : w ∈ chunk 5 := by rw [ck_5]; exact List.mem_append_right _ (List.mem_append_right _ (List.mem_append_right _ (List.mem_append_right _ (List.mem_append_right _ (List.mem_append_right _ (List.mem_append_right _ (List.mem_append_right _ (List.mem_append_right _ (List.mem_append_left _ h)))))))))
theorem bi_5_10 {w : Cond} (h : w ∈ bk_5_10) : w ∈ chunk 5 := by rw [ck_5]; exact List.mem_append_right _ (List.mem_append_right _ (List.mem_append_right _ (List.mem_append_right _ (List.mem_append_right _ (List.mem_append_right _ (List.mem_append_right _ (List.mem_append_right _ (List.mem_append_right _ (List.mem_append_right _ (List.mem_append_left _ h))))))))))
theorem bi_5_11 {w : Cond} (h : w ∈ bk_5_11) : w ∈ chunk 5 := by rw [ck_5]; exact List.mem_append_right _ (List.mem_append_right _ (List.mem_append_right _ (List.mem_append_right _ (List.mem_append_right _ (List.mem_append_right _ (List.mem_append_right _ (List.mem_append_right _ (List.mem_append_right _ (List.mem_append_right _ (List.mem_append_right _ (List.mem_append_left _ h)))))))))))
theorem bi_5_12 {w : Cond} (h : w ∈ bk_5_12) : w ∈ chunk 5 := by rw [ck_5]; exact List.mem_append_right _ (List.mem_append_right _ (List.mem_append_right _ (List.mem_append_right _ (List.mem_append_right _ (List.mem_append_right _ (List.mem_append_right _ (List.mem_append_right _ (List.mem_append_right _ (List.mem_append_right _ (List.mem_append_right _ (List.mem_append_right _ (List.mem_append_left _ h))))))))))))
theorem bi_5_13 {w : Cond} (h : w ∈ bk_5_13) : w ∈ chunk 5 := by rw [ck_5]; exact List.mem_append_right _ (List.mem_append_right _ (List.mem_append_right _ (List.mem_append_right _ (List.mem_append_right _ (List.mem_append_right _ (List.mem_append_right _ (List.mem_append_right _ (List.mem_append_right _ (List.mem_append_right _ (List.mem_append_right _ (List.mem_append_right _ (List.mem_append_right _ (List.mem_append_left _ h)))))))))))))
theorem bi_5_14 {w : Cond} (h : w ∈ bk_5_14) : w ∈ chunk 5 := by rw [ck_5]; exact List.mem_append_right _ (List.mem_append_right _ (List.mem_append_right _ (List.mem_append_right _ (List.mem_append_right _ (List.mem_append_right _ (List.mem_append_right _ (List.mem_append_right _ (List.mem_append_right _ (List.mem_append_right _ (List.mem_append_right _ (List.mem_append_right _ (List.mem_append_right _ (List.mem_append_right _ (h))))))))))))))
def bk_6_0 : List Cond := [(Jvm.Cond.soleField "DoorSchoolModel" "size"), (Jvm.Cond.lays "DoorSchoolModel" "DoorSchoolModel" "at" "I"), (Jvm.Cond.soleField "DoorSchoolModel" "at"), (Jvm.Cond.lays "DoorSchoolModel" "DoorSchoolModel" "from" "I"), (Jvm.Cond.soleField "DoorSchoolModel" "from"), (Jvm.Cond.lays "DoorSchoolModel" "DoorSchoolModel" "token" "I"), (Jvm.Cond.soleField "DoorSchoolModel" "token"), (Jvm.Cond.lays "DoorSchoolModel" "DoorSchoolModel" "value" "I"), (Jvm.Cond.soleField "DoorSchoolModel" "value"), (Jvm.Cond.lays "DoorSchoolModel" "DoorSchoolModel" "faultKind" "I"), (Jvm.Cond.soleField "DoorSchoolModel" "faultKind"), (Jvm.Cond.lays "DoorSchoolModel" "DoorSchoolModel" "faultPlace" "I"), (Jvm.Cond.soleField "DoorSchoolModel" "faultPlace"), (Jvm.Cond.laysFinal "DoorSchoolModel" "DoorSchoolModel" "fresh" "[I"), (Jvm.Cond.soleField "DoorSchoolModel" "fresh"), (Jvm.Cond.laysFinal "DoorSchoolModel" "DoorSchoolModel" "ruleSigns" "[I")]
def bk_6_1 : List Cond := [(Jvm.Cond.soleField "DoorSchoolModel" "ruleSigns"), (Jvm.Cond.laysFinal "DoorSchoolModel" "DoorSchoolModel" "ruleThere" "[I"), (Jvm.Cond.soleField "DoorSchoolModel" "ruleThere"), (Jvm.Cond.laysFinal "DoorSchoolModel" "DoorSchoolModel" "ruleDeeds" "[I"), (Jvm.Cond.soleField "DoorSchoolModel" "ruleDeeds"), (Jvm.Cond.lays "DoorSchoolModel" "DoorSchoolModel" "rulesMany" "I"), (Jvm.Cond.soleField "DoorSchoolModel" "rulesMany"), (Jvm.Cond.laysFinal "DoorSchoolModel" "DoorSchoolModel" "learnKnock" "[I"), (Jvm.Cond.soleField "DoorSchoolModel" "learnKnock"), (Jvm.Cond.laysFinal "DoorSchoolModel" "DoorSchoolModel" "learnOpen" "[I"), (Jvm.Cond.soleField "DoorSchoolModel" "learnOpen"), (Jvm.Cond.lays "DoorSchoolModel" "DoorSchoolModel" "learnMany" "I"), (Jvm.Cond.soleField "DoorSchoolModel" "learnMany"), (Jvm.Cond.lays "DoorSchoolModel" "DoorSchoolModel" "errorsMany" "I"), (Jvm.Cond.soleField "DoorSchoolModel" "errorsMany"), (Jvm.Cond.lays "DoorSchoolModel" "DoorSchoolModel" "learntMany" "I")]
def bk_6_2 : List Cond := [(Jvm.Cond.soleField "DoorSchoolModel" "learntMany"), (Jvm.Cond.laysFinal "DoorSchoolModel" "DoorSchoolModel" "hungNow" "[I"), (Jvm.Cond.soleField "DoorSchoolModel" "hungNow"), (Jvm.Cond.laysFinal "DoorSchoolModel" "DoorSchoolModel" "hungBest" "[I"), (Jvm.Cond.soleField "DoorSchoolModel" "hungBest"), (Jvm.Cond.lays "DoorSchoolModel" "DoorSchoolModel" "hungLeast" "I"), (Jvm.Cond.soleField "DoorSchoolModel" "hungLeast"), (Jvm.Cond.laysFinal "DoorSchoolModel" "DoorSchoolModel" "begin" "[I"), (Jvm.Cond.soleField "DoorSchoolModel" "begin"), (Jvm.Cond.laysFinal "DoorSchoolModel" "DoorSchoolModel" "busy" "[I"), (Jvm.Cond.soleField "DoorSchoolModel" "busy"), (Jvm.Cond.laysFinal "DoorSchoolModel" "DoorSchoolModel" "fixed" "[I"), (Jvm.Cond.soleField "DoorSchoolModel" "fixed"), (Jvm.Cond.laysFinal "DoorSchoolModel" "DoorSchoolModel" "order" "[I"), (Jvm.Cond.soleField "DoorSchoolModel" "order"), (Jvm.Cond.lays "DoorSchoolModel" "DoorSchoolModel" "slipped" "I")]
def bk_6_3 : List Cond := [(Jvm.Cond.soleField "DoorSchoolModel" "slipped"), (Jvm.Cond.laysFinal "DoorSchoolModel" "DoorSchoolModel" "many" "[I"), (Jvm.Cond.soleField "DoorSchoolModel" "many"), (Jvm.Cond.laysFinal "DoorSchoolModel" "DoorSchoolModel" "width" "[I"), (Jvm.Cond.soleField "DoorSchoolModel" "width"), (Jvm.Cond.laysFinal "DoorSchoolModel" "DoorSchoolModel" "numbers" "[J"), (Jvm.Cond.soleField "DoorSchoolModel" "numbers"), (Jvm.Cond.laysFinal "DoorSchoolModel" "DoorSchoolModel" "moving" "[J"), (Jvm.Cond.soleField "DoorSchoolModel" "moving"), (Jvm.Cond.superclass "DoorSchoolModel" "java/lang/Object"), (Jvm.Cond.methodLink "DoorSchoolLaw" (258 : Nat) ({ cls := "DoorSchoolModel", name := "image", desc := "(I)I" } : Jvm.MethodName)), (Jvm.Cond.instanceMethod ({ cls := "DoorSchoolModel", name := "image", desc := "(I)I" } : Jvm.MethodName)), (Jvm.Cond.selects "DoorSchoolModel" ({ cls := "DoorSchoolModel", name := "image", desc := "(I)I" } : Jvm.MethodName) ({ cls := "DoorSchoolModel", name := "image", desc := "(I)I" } : Jvm.MethodName)), (Jvm.Cond.code ({ cls := "DoorSchoolModel", name := "image", desc := "(I)I" } : Jvm.MethodName) prog_13_method_6_code (3 : Nat) (Option.some Jvm.ClassFile.FieldType.int)), (Jvm.Cond.constantLong "DoorSchoolModel" (87 : Nat) (2 : Int64)), (Jvm.Cond.methodLink "DoorSchoolModel" (89 : Nat) ({ cls := "DoorSchoolModel", name := "in", desc := "(JJJ)Z" } : Jvm.MethodName))]
def bk_6_4 : List Cond := [(Jvm.Cond.static ({ cls := "DoorSchoolModel", name := "in", desc := "(JJJ)Z" } : Jvm.MethodName)), (Jvm.Cond.code ({ cls := "DoorSchoolModel", name := "in", desc := "(JJJ)Z" } : Jvm.MethodName) prog_13_method_3_code (6 : Nat) (Option.some Jvm.ClassFile.FieldType.boolean)), (Jvm.Cond.methodLink "DoorSchoolLaw" (262 : Nat) ({ cls := "DoorSchoolModel", name := "back", desc := "(I)I" } : Jvm.MethodName)), (Jvm.Cond.instanceMethod ({ cls := "DoorSchoolModel", name := "back", desc := "(I)I" } : Jvm.MethodName)), (Jvm.Cond.selects "DoorSchoolModel" ({ cls := "DoorSchoolModel", name := "back", desc := "(I)I" } : Jvm.MethodName) ({ cls := "DoorSchoolModel", name := "back", desc := "(I)I" } : Jvm.MethodName)), (Jvm.Cond.code ({ cls := "DoorSchoolModel", name := "back", desc := "(I)I" } : Jvm.MethodName) prog_13_method_7_code (3 : Nat) (Option.some Jvm.ClassFile.FieldType.int)), (Jvm.Cond.methodLink "DoorSchoolLaw" (17 : Nat) ({ cls := "DoorSchoolModel", name := "feed", desc := "(IIIII)I" } : Jvm.MethodName)), (Jvm.Cond.instanceMethod ({ cls := "DoorSchoolModel", name := "feed", desc := "(IIIII)I" } : Jvm.MethodName)), (Jvm.Cond.selects "DoorSchoolModel" ({ cls := "DoorSchoolModel", name := "feed", desc := "(IIIII)I" } : Jvm.MethodName) ({ cls := "DoorSchoolModel", name := "feed", desc := "(IIIII)I" } : Jvm.MethodName)), (Jvm.Cond.code ({ cls := "DoorSchoolModel", name := "feed", desc := "(IIIII)I" } : Jvm.MethodName) prog_13_method_19_code (7 : Nat) (Option.some Jvm.ClassFile.FieldType.int)), (Jvm.Cond.methodLink "DoorSchoolLaw" (22 : Nat) ({ cls := "DoorSchoolModel", name := "end", desc := "(I)I" } : Jvm.MethodName)), (Jvm.Cond.instanceMethod ({ cls := "DoorSchoolModel", name := "end", desc := "(I)I" } : Jvm.MethodName)), (Jvm.Cond.selects "DoorSchoolModel" ({ cls := "DoorSchoolModel", name := "end", desc := "(I)I" } : Jvm.MethodName) ({ cls := "DoorSchoolModel", name := "end", desc := "(I)I" } : Jvm.MethodName)), (Jvm.Cond.code ({ cls := "DoorSchoolModel", name := "end", desc := "(I)I" } : Jvm.MethodName) prog_13_method_20_code (2 : Nat) (Option.some Jvm.ClassFile.FieldType.int)), (Jvm.Cond.methodLink "DoorSchoolLaw" (31 : Nat) ({ cls := "DoorSchoolModel", name := "fault", desc := "(I)I" } : Jvm.MethodName)), (Jvm.Cond.instanceMethod ({ cls := "DoorSchoolModel", name := "fault", desc := "(I)I" } : Jvm.MethodName))]
def bk_6_5 : List Cond := [(Jvm.Cond.selects "DoorSchoolModel" ({ cls := "DoorSchoolModel", name := "fault", desc := "(I)I" } : Jvm.MethodName) ({ cls := "DoorSchoolModel", name := "fault", desc := "(I)I" } : Jvm.MethodName)), (Jvm.Cond.code ({ cls := "DoorSchoolModel", name := "fault", desc := "(I)I" } : Jvm.MethodName) prog_13_method_30_code (2 : Nat) (Option.some Jvm.ClassFile.FieldType.int)), (Jvm.Cond.methodLink "DoorSchoolLaw" (27 : Nat) ({ cls := "DoorSchoolModel", name := "school", desc := "()I" } : Jvm.MethodName)), (Jvm.Cond.instanceMethod ({ cls := "DoorSchoolModel", name := "school", desc := "()I" } : Jvm.MethodName)), (Jvm.Cond.selects "DoorSchoolModel" ({ cls := "DoorSchoolModel", name := "school", desc := "()I" } : Jvm.MethodName) ({ cls := "DoorSchoolModel", name := "school", desc := "()I" } : Jvm.MethodName)), (Jvm.Cond.code ({ cls := "DoorSchoolModel", name := "school", desc := "()I" } : Jvm.MethodName) prog_13_method_42_code (2 : Nat) (Option.some Jvm.ClassFile.FieldType.int)), (Jvm.Cond.methodLink "DoorSchoolModel" (160 : Nat) ({ cls := "DoorSchoolModel", name := "advance", desc := "()V" } : Jvm.MethodName)), (Jvm.Cond.privateMethod ({ cls := "DoorSchoolModel", name := "advance", desc := "()V" } : Jvm.MethodName)), (Jvm.Cond.instanceMethod ({ cls := "DoorSchoolModel", name := "advance", desc := "()V" } : Jvm.MethodName)), (Jvm.Cond.code ({ cls := "DoorSchoolModel", name := "advance", desc := "()V" } : Jvm.MethodName) prog_13_method_22_code (2 : Nat) (Option.none : Option Jvm.ClassFile.FieldType)), (Jvm.Cond.methodLink "DoorSchoolModel" (113 : Nat) ({ cls := "DoorSchoolModel", name := "see", desc := "(I)I" } : Jvm.MethodName)), (Jvm.Cond.privateMethod ({ cls := "DoorSchoolModel", name := "see", desc := "(I)I" } : Jvm.MethodName)), (Jvm.Cond.instanceMethod ({ cls := "DoorSchoolModel", name := "see", desc := "(I)I" } : Jvm.MethodName)), (Jvm.Cond.code ({ cls := "DoorSchoolModel", name := "see", desc := "(I)I" } : Jvm.MethodName) prog_13_method_21_code (2 : Nat) (Option.some Jvm.ClassFile.FieldType.int)), (Jvm.Cond.constantLong "DoorSchoolModel" (123 : Nat) (97 : Int64)), (Jvm.Cond.constantLong "DoorSchoolModel" (125 : Nat) (122 : Int64))]
def bk_6_6 : List Cond := [(Jvm.Cond.constantLong "DoorSchoolModel" (127 : Nat) (48 : Int64)), (Jvm.Cond.constantLong "DoorSchoolModel" (129 : Nat) (57 : Int64)), (Jvm.Cond.constant "DoorSchoolModel" (134 : Nat) (99999 : Int32)), (Jvm.Cond.methodLink "DoorSchoolModel" (135 : Nat) ({ cls := "java/lang/Math", name := "min", desc := "(II)I" } : Jvm.MethodName)), (Jvm.Cond.methodLink "DoorSchoolModel" (144 : Nat) ({ cls := "DoorSchoolModel", name := "good", desc := "()Z" } : Jvm.MethodName)), (Jvm.Cond.privateMethod ({ cls := "DoorSchoolModel", name := "good", desc := "()Z" } : Jvm.MethodName)), (Jvm.Cond.instanceMethod ({ cls := "DoorSchoolModel", name := "good", desc := "()Z" } : Jvm.MethodName)), (Jvm.Cond.code ({ cls := "DoorSchoolModel", name := "good", desc := "()Z" } : Jvm.MethodName) prog_13_method_23_code (1 : Nat) (Option.some Jvm.ClassFile.FieldType.boolean)), (Jvm.Cond.methodLink "DoorSchoolModel" (250 : Nat) ({ cls := "DoorSchoolModel", name := "readLine", desc := "()V" } : Jvm.MethodName)), (Jvm.Cond.privateMethod ({ cls := "DoorSchoolModel", name := "readLine", desc := "()V" } : Jvm.MethodName)), (Jvm.Cond.instanceMethod ({ cls := "DoorSchoolModel", name := "readLine", desc := "()V" } : Jvm.MethodName)), (Jvm.Cond.code ({ cls := "DoorSchoolModel", name := "readLine", desc := "()V" } : Jvm.MethodName) prog_13_method_41_code (1 : Nat) (Option.none : Option Jvm.ClassFile.FieldType)), (Jvm.Cond.stringRef "DoorSchoolModel" (241 : Nat) "school"), (Jvm.Cond.methodLink "DoorSchoolModel" (170 : Nat) ({ cls := "DoorSchoolModel", name := "needs", desc := "(Ljava/lang/String;)V" } : Jvm.MethodName)), (Jvm.Cond.privateMethod ({ cls := "DoorSchoolModel", name := "needs", desc := "(Ljava/lang/String;)V" } : Jvm.MethodName)), (Jvm.Cond.instanceMethod ({ cls := "DoorSchoolModel", name := "needs", desc := "(Ljava/lang/String;)V" } : Jvm.MethodName))]
def bk_6_7 : List Cond := [(Jvm.Cond.code ({ cls := "DoorSchoolModel", name := "needs", desc := "(Ljava/lang/String;)V" } : Jvm.MethodName) prog_13_method_27_code (2 : Nat) (Option.none : Option Jvm.ClassFile.FieldType)), (Jvm.Cond.methodLink "DoorSchoolModel" (163 : Nat) ({ cls := "DoorSchoolModel", name := "takes", desc := "(Ljava/lang/String;)Z" } : Jvm.MethodName)), (Jvm.Cond.privateMethod ({ cls := "DoorSchoolModel", name := "takes", desc := "(Ljava/lang/String;)Z" } : Jvm.MethodName)), (Jvm.Cond.instanceMethod ({ cls := "DoorSchoolModel", name := "takes", desc := "(Ljava/lang/String;)Z" } : Jvm.MethodName)), (Jvm.Cond.code ({ cls := "DoorSchoolModel", name := "takes", desc := "(Ljava/lang/String;)Z" } : Jvm.MethodName) prog_13_method_26_code (3 : Nat) (Option.some Jvm.ClassFile.FieldType.boolean)), (Jvm.Cond.methodLink "DoorSchoolModel" (156 : Nat) ({ cls := "DoorSchoolModel", name := "is", desc := "(Ljava/lang/String;)Z" } : Jvm.MethodName)), (Jvm.Cond.privateMethod ({ cls := "DoorSchoolModel", name := "is", desc := "(Ljava/lang/String;)Z" } : Jvm.MethodName)), (Jvm.Cond.instanceMethod ({ cls := "DoorSchoolModel", name := "is", desc := "(Ljava/lang/String;)Z" } : Jvm.MethodName)), (Jvm.Cond.code ({ cls := "DoorSchoolModel", name := "is", desc := "(Ljava/lang/String;)Z" } : Jvm.MethodName) prog_13_method_25_code (4 : Nat) (Option.some Jvm.ClassFile.FieldType.boolean)), (Jvm.Cond.methodLink "DoorSchoolModel" (147 : Nat) ({ cls := "java/lang/String", name := "length", desc := "()I" } : Jvm.MethodName)), (Jvm.Cond.methodLink "DoorSchoolModel" (152 : Nat) ({ cls := "java/lang/String", name := "charAt", desc := "(I)C" } : Jvm.MethodName)), (Jvm.Cond.methodLink "DoorSchoolModel" (166 : Nat) ({ cls := "DoorSchoolModel", name := "errs", desc := "(I)V" } : Jvm.MethodName)), (Jvm.Cond.privateMethod ({ cls := "DoorSchoolModel", name := "errs", desc := "(I)V" } : Jvm.MethodName)), (Jvm.Cond.instanceMethod ({ cls := "DoorSchoolModel", name := "errs", desc := "(I)V" } : Jvm.MethodName)), (Jvm.Cond.code ({ cls := "DoorSchoolModel", name := "errs", desc := "(I)V" } : Jvm.MethodName) prog_13_method_24_code (2 : Nat) (Option.none : Option Jvm.ClassFile.FieldType)), (Jvm.Cond.stringRef "DoorSchoolModel" (243 : Nat) "signs")]
def bk_6_8 : List Cond := [(Jvm.Cond.methodLink "DoorSchoolModel" (189 : Nat) ({ cls := "DoorSchoolModel", name := "told", desc := "(Ljava/lang/String;II)I" } : Jvm.MethodName)), (Jvm.Cond.privateMethod ({ cls := "DoorSchoolModel", name := "told", desc := "(Ljava/lang/String;II)I" } : Jvm.MethodName)), (Jvm.Cond.instanceMethod ({ cls := "DoorSchoolModel", name := "told", desc := "(Ljava/lang/String;II)I" } : Jvm.MethodName)), (Jvm.Cond.code ({ cls := "DoorSchoolModel", name := "told", desc := "(Ljava/lang/String;II)I" } : Jvm.MethodName) prog_13_method_29_code (4 : Nat) (Option.some Jvm.ClassFile.FieldType.int)), (Jvm.Cond.methodLink "DoorSchoolModel" (174 : Nat) ({ cls := "DoorSchoolModel", name := "number", desc := "(II)I" } : Jvm.MethodName)), (Jvm.Cond.privateMethod ({ cls := "DoorSchoolModel", name := "number", desc := "(II)I" } : Jvm.MethodName)), (Jvm.Cond.instanceMethod ({ cls := "DoorSchoolModel", name := "number", desc := "(II)I" } : Jvm.MethodName)), (Jvm.Cond.code ({ cls := "DoorSchoolModel", name := "number", desc := "(II)I" } : Jvm.MethodName) prog_13_method_28_code (4 : Nat) (Option.some Jvm.ClassFile.FieldType.int)), (Jvm.Cond.stringRef "DoorSchoolModel" (245 : Nat) "teachers"), (Jvm.Cond.methodLink "DoorSchoolModel" (247 : Nat) ({ cls := "DoorSchoolModel", name := "readNext", desc := "()V" } : Jvm.MethodName)), (Jvm.Cond.privateMethod ({ cls := "DoorSchoolModel", name := "readNext", desc := "()V" } : Jvm.MethodName)), (Jvm.Cond.instanceMethod ({ cls := "DoorSchoolModel", name := "readNext", desc := "()V" } : Jvm.MethodName)), (Jvm.Cond.code ({ cls := "DoorSchoolModel", name := "readNext", desc := "()V" } : Jvm.MethodName) prog_13_method_40_code (4 : Nat) (Option.none : Option Jvm.ClassFile.FieldType)), (Jvm.Cond.stringRef "DoorSchoolModel" (212 : Nat) "door"), (Jvm.Cond.stringRef "DoorSchoolModel" (214 : Nat) "lesson"), (Jvm.Cond.stringRef "DoorSchoolModel" (216 : Nat) "exam")]
def bk_6_9 : List Cond := [(Jvm.Cond.stringRef "DoorSchoolModel" (218 : Nat) "twin"), (Jvm.Cond.stringRef "DoorSchoolModel" (220 : Nat) "owner"), (Jvm.Cond.stringRef "DoorSchoolModel" (222 : Nat) "house"), (Jvm.Cond.stringRef "DoorSchoolModel" (224 : Nat) "course"), (Jvm.Cond.stringRef "DoorSchoolModel" (226 : Nat) "ahead"), (Jvm.Cond.methodLink "DoorSchoolModel" (228 : Nat) ({ cls := "DoorSchoolModel", name := "readDoor", desc := "()V" } : Jvm.MethodName)), (Jvm.Cond.privateMethod ({ cls := "DoorSchoolModel", name := "readDoor", desc := "()V" } : Jvm.MethodName)), (Jvm.Cond.instanceMethod ({ cls := "DoorSchoolModel", name := "readDoor", desc := "()V" } : Jvm.MethodName)), (Jvm.Cond.code ({ cls := "DoorSchoolModel", name := "readDoor", desc := "()V" } : Jvm.MethodName) prog_13_method_34_code (2 : Nat) (Option.none : Option Jvm.ClassFile.FieldType)), (Jvm.Cond.stringRef "DoorSchoolModel" (181 : Nat) "heart"), (Jvm.Cond.stringRef "DoorSchoolModel" (183 : Nat) "shortest"), (Jvm.Cond.stringRef "DoorSchoolModel" (185 : Nat) "nearest"), (Jvm.Cond.stringRef "DoorSchoolModel" (187 : Nat) "slips"), (Jvm.Cond.methodLink "DoorSchoolModel" (231 : Nat) ({ cls := "DoorSchoolModel", name := "readLesson", desc := "()V" } : Jvm.MethodName)), (Jvm.Cond.privateMethod ({ cls := "DoorSchoolModel", name := "readLesson", desc := "()V" } : Jvm.MethodName)), (Jvm.Cond.instanceMethod ({ cls := "DoorSchoolModel", name := "readLesson", desc := "()V" } : Jvm.MethodName))]
def bk_6_10 : List Cond := [(Jvm.Cond.code ({ cls := "DoorSchoolModel", name := "readLesson", desc := "()V" } : Jvm.MethodName) prog_13_method_35_code (5 : Nat) (Option.none : Option Jvm.ClassFile.FieldType)), (Jvm.Cond.methodLink "DoorSchoolModel" (193 : Nat) ({ cls := "DoorSchoolModel", name := "isNextIn", desc := "(I)Z" } : Jvm.MethodName)), (Jvm.Cond.privateMethod ({ cls := "DoorSchoolModel", name := "isNextIn", desc := "(I)Z" } : Jvm.MethodName)), (Jvm.Cond.instanceMethod ({ cls := "DoorSchoolModel", name := "isNextIn", desc := "(I)Z" } : Jvm.MethodName)), (Jvm.Cond.code ({ cls := "DoorSchoolModel", name := "isNextIn", desc := "(I)Z" } : Jvm.MethodName) prog_13_method_33_code (2 : Nat) (Option.some Jvm.ClassFile.FieldType.boolean)), (Jvm.Cond.methodLink "DoorSchoolModel" (197 : Nat) ({ cls := "DoorSchoolModel", name := "freshKnock", desc := "()I" } : Jvm.MethodName)), (Jvm.Cond.privateMethod ({ cls := "DoorSchoolModel", name := "freshKnock", desc := "()I" } : Jvm.MethodName)), (Jvm.Cond.instanceMethod ({ cls := "DoorSchoolModel", name := "freshKnock", desc := "()I" } : Jvm.MethodName)), (Jvm.Cond.code ({ cls := "DoorSchoolModel", name := "freshKnock", desc := "()I" } : Jvm.MethodName) prog_13_method_31_code (1 : Nat) (Option.some Jvm.ClassFile.FieldType.int)), (Jvm.Cond.methodLink "DoorSchoolModel" (200 : Nat) ({ cls := "DoorSchoolModel", name := "deed", desc := "()I" } : Jvm.MethodName)), (Jvm.Cond.privateMethod ({ cls := "DoorSchoolModel", name := "deed", desc := "()I" } : Jvm.MethodName)), (Jvm.Cond.instanceMethod ({ cls := "DoorSchoolModel", name := "deed", desc := "()I" } : Jvm.MethodName)), (Jvm.Cond.code ({ cls := "DoorSchoolModel", name := "deed", desc := "()I" } : Jvm.MethodName) prog_13_method_32_code (1 : Nat) (Option.some Jvm.ClassFile.FieldType.int)), (Jvm.Cond.stringRef "DoorSchoolModel" (177 : Nat) "open"), (Jvm.Cond.stringRef "DoorSchoolModel" (179 : Nat) "shut"), (Jvm.Cond.methodLink "DoorSchoolModel" (203 : Nat) ({ cls := "DoorSchoolModel", name := "lessonAt", desc := "(II)I" } : Jvm.MethodName))]
def bk_6_11 : List Cond := [(Jvm.Cond.static ({ cls := "DoorSchoolModel", name := "lessonAt", desc := "(II)I" } : Jvm.MethodName)), (Jvm.Cond.code ({ cls := "DoorSchoolModel", name := "lessonAt", desc := "(II)I" } : Jvm.MethodName) prog_13_method_18_code (2 : Nat) (Option.some Jvm.ClassFile.FieldType.int)), (Jvm.Cond.methodLink "DoorSchoolModel" (234 : Nat) ({ cls := "DoorSchoolModel", name := "readTwin", desc := "()V" } : Jvm.MethodName)), (Jvm.Cond.privateMethod ({ cls := "DoorSchoolModel", name := "readTwin", desc := "()V" } : Jvm.MethodName)), (Jvm.Cond.instanceMethod ({ cls := "DoorSchoolModel", name := "readTwin", desc := "()V" } : Jvm.MethodName)), (Jvm.Cond.code ({ cls := "DoorSchoolModel", name := "readTwin", desc := "()V" } : Jvm.MethodName) prog_13_method_38_code (3 : Nat) (Option.none : Option Jvm.ClassFile.FieldType)), (Jvm.Cond.methodLink "DoorSchoolModel" (206 : Nat) ({ cls := "DoorSchoolModel", name := "doesFreshCopy", desc := "(I)Z" } : Jvm.MethodName)), (Jvm.Cond.privateMethod ({ cls := "DoorSchoolModel", name := "doesFreshCopy", desc := "(I)Z" } : Jvm.MethodName)), (Jvm.Cond.instanceMethod ({ cls := "DoorSchoolModel", name := "doesFreshCopy", desc := "(I)Z" } : Jvm.MethodName)), (Jvm.Cond.code ({ cls := "DoorSchoolModel", name := "doesFreshCopy", desc := "(I)Z" } : Jvm.MethodName) prog_13_method_37_code (2 : Nat) (Option.some Jvm.ClassFile.FieldType.boolean)), (Jvm.Cond.methodLink "DoorSchoolModel" (209 : Nat) ({ cls := "DoorSchoolModel", name := "isFreshCopied", desc := "(I)Z" } : Jvm.MethodName)), (Jvm.Cond.privateMethod ({ cls := "DoorSchoolModel", name := "isFreshCopied", desc := "(I)Z" } : Jvm.MethodName)), (Jvm.Cond.instanceMethod ({ cls := "DoorSchoolModel", name := "isFreshCopied", desc := "(I)Z" } : Jvm.MethodName)), (Jvm.Cond.code ({ cls := "DoorSchoolModel", name := "isFreshCopied", desc := "(I)Z" } : Jvm.MethodName) prog_13_method_36_code (3 : Nat) (Option.some Jvm.ClassFile.FieldType.boolean)), (Jvm.Cond.methodLink "DoorSchoolModel" (237 : Nat) ({ cls := "DoorSchoolModel", name := "readRule", desc := "(I)V" } : Jvm.MethodName)), (Jvm.Cond.privateMethod ({ cls := "DoorSchoolModel", name := "readRule", desc := "(I)V" } : Jvm.MethodName))]
def bk_6_12 : List Cond := [(Jvm.Cond.instanceMethod ({ cls := "DoorSchoolModel", name := "readRule", desc := "(I)V" } : Jvm.MethodName)), (Jvm.Cond.code ({ cls := "DoorSchoolModel", name := "readRule", desc := "(I)V" } : Jvm.MethodName) prog_13_method_39_code (4 : Nat) (Option.none : Option Jvm.ClassFile.FieldType)), (Jvm.Cond.stringRef "DoorSchoolModel" (240 : Nat) "takes"), (Jvm.Cond.methodLink "DoorSchoolLaw" (36 : Nat) ({ cls := "DoorSchoolModel", name := "door", desc := "(II)I" } : Jvm.MethodName)), (Jvm.Cond.instanceMethod ({ cls := "DoorSchoolModel", name := "door", desc := "(II)I" } : Jvm.MethodName)), (Jvm.Cond.selects "DoorSchoolModel" ({ cls := "DoorSchoolModel", name := "door", desc := "(II)I" } : Jvm.MethodName) ({ cls := "DoorSchoolModel", name := "door", desc := "(II)I" } : Jvm.MethodName)), (Jvm.Cond.code ({ cls := "DoorSchoolModel", name := "door", desc := "(II)I" } : Jvm.MethodName) prog_13_method_57_code (3 : Nat) (Option.some Jvm.ClassFile.FieldType.int)), (Jvm.Cond.methodLink "DoorSchoolModel" (302 : Nat) ({ cls := "DoorSchoolModel", name := "isDoor", desc := "(I)Z" } : Jvm.MethodName)), (Jvm.Cond.privateMethod ({ cls := "DoorSchoolModel", name := "isDoor", desc := "(I)Z" } : Jvm.MethodName)), (Jvm.Cond.instanceMethod ({ cls := "DoorSchoolModel", name := "isDoor", desc := "(I)Z" } : Jvm.MethodName)), (Jvm.Cond.code ({ cls := "DoorSchoolModel", name := "isDoor", desc := "(I)Z" } : Jvm.MethodName) prog_13_method_12_code (2 : Nat) (Option.some Jvm.ClassFile.FieldType.boolean)), (Jvm.Cond.constantLong "DoorSchoolModel" (305 : Nat) (3 : Int64)), (Jvm.Cond.methodLink "DoorSchoolModel" (265 : Nat) ({ cls := "DoorSchoolModel", name := "of", desc := "(II)I" } : Jvm.MethodName)), (Jvm.Cond.privateMethod ({ cls := "DoorSchoolModel", name := "of", desc := "(II)I" } : Jvm.MethodName)), (Jvm.Cond.instanceMethod ({ cls := "DoorSchoolModel", name := "of", desc := "(II)I" } : Jvm.MethodName)), (Jvm.Cond.code ({ cls := "DoorSchoolModel", name := "of", desc := "(II)I" } : Jvm.MethodName) prog_13_method_17_code (3 : Nat) (Option.some Jvm.ClassFile.FieldType.int))]
def bk_6_13 : List Cond := [(Jvm.Cond.methodLink "DoorSchoolLaw" (41 : Nat) ({ cls := "DoorSchoolModel", name := "lesson", desc := "(III)I" } : Jvm.MethodName)), (Jvm.Cond.instanceMethod ({ cls := "DoorSchoolModel", name := "lesson", desc := "(III)I" } : Jvm.MethodName)), (Jvm.Cond.selects "DoorSchoolModel" ({ cls := "DoorSchoolModel", name := "lesson", desc := "(III)I" } : Jvm.MethodName) ({ cls := "DoorSchoolModel", name := "lesson", desc := "(III)I" } : Jvm.MethodName)), (Jvm.Cond.code ({ cls := "DoorSchoolModel", name := "lesson", desc := "(III)I" } : Jvm.MethodName) prog_13_method_58_code (4 : Nat) (Option.some Jvm.ClassFile.FieldType.int)), (Jvm.Cond.methodLink "DoorSchoolLaw" (45 : Nat) ({ cls := "DoorSchoolModel", name := "exam", desc := "(II)I" } : Jvm.MethodName)), (Jvm.Cond.instanceMethod ({ cls := "DoorSchoolModel", name := "exam", desc := "(II)I" } : Jvm.MethodName)), (Jvm.Cond.selects "DoorSchoolModel" ({ cls := "DoorSchoolModel", name := "exam", desc := "(II)I" } : Jvm.MethodName) ({ cls := "DoorSchoolModel", name := "exam", desc := "(II)I" } : Jvm.MethodName)), (Jvm.Cond.code ({ cls := "DoorSchoolModel", name := "exam", desc := "(II)I" } : Jvm.MethodName) prog_13_method_59_code (3 : Nat) (Option.some Jvm.ClassFile.FieldType.int)), (Jvm.Cond.methodLink "DoorSchoolModel" (307 : Nat) ({ cls := "DoorSchoolModel", name := "isExam", desc := "(I)Z" } : Jvm.MethodName)), (Jvm.Cond.privateMethod ({ cls := "DoorSchoolModel", name := "isExam", desc := "(I)Z" } : Jvm.MethodName)), (Jvm.Cond.instanceMethod ({ cls := "DoorSchoolModel", name := "isExam", desc := "(I)Z" } : Jvm.MethodName)), (Jvm.Cond.code ({ cls := "DoorSchoolModel", name := "isExam", desc := "(I)Z" } : Jvm.MethodName) prog_13_method_13_code (2 : Nat) (Option.some Jvm.ClassFile.FieldType.boolean)), (Jvm.Cond.methodLink "DoorSchoolLaw" (49 : Nat) ({ cls := "DoorSchoolModel", name := "house", desc := "(II)I" } : Jvm.MethodName)), (Jvm.Cond.instanceMethod ({ cls := "DoorSchoolModel", name := "house", desc := "(II)I" } : Jvm.MethodName)), (Jvm.Cond.selects "DoorSchoolModel" ({ cls := "DoorSchoolModel", name := "house", desc := "(II)I" } : Jvm.MethodName) ({ cls := "DoorSchoolModel", name := "house", desc := "(II)I" } : Jvm.MethodName)), (Jvm.Cond.code ({ cls := "DoorSchoolModel", name := "house", desc := "(II)I" } : Jvm.MethodName) prog_13_method_60_code (4 : Nat) (Option.some Jvm.ClassFile.FieldType.int))]
def bk_6_14 : List Cond := [(Jvm.Cond.methodLink "DoorSchoolModel" (93 : Nat) ({ cls := "DoorSchoolModel", name := "isSchool", desc := "()Z" } : Jvm.MethodName)), (Jvm.Cond.privateMethod ({ cls := "DoorSchoolModel", name := "isSchool", desc := "()Z" } : Jvm.MethodName)), (Jvm.Cond.instanceMethod ({ cls := "DoorSchoolModel", name := "isSchool", desc := "()Z" } : Jvm.MethodName)), (Jvm.Cond.code ({ cls := "DoorSchoolModel", name := "isSchool", desc := "()Z" } : Jvm.MethodName) prog_13_method_8_code (1 : Nat) (Option.some Jvm.ClassFile.FieldType.boolean)), (Jvm.Cond.methodLink "DoorSchoolModel" (310 : Nat) ({ cls := "DoorSchoolModel", name := "isHouse", desc := "(I)Z" } : Jvm.MethodName)), (Jvm.Cond.privateMethod ({ cls := "DoorSchoolModel", name := "isHouse", desc := "(I)Z" } : Jvm.MethodName)), (Jvm.Cond.instanceMethod ({ cls := "DoorSchoolModel", name := "isHouse", desc := "(I)Z" } : Jvm.MethodName)), (Jvm.Cond.code ({ cls := "DoorSchoolModel", name := "isHouse", desc := "(I)Z" } : Jvm.MethodName) prog_13_method_14_code (2 : Nat) (Option.some Jvm.ClassFile.FieldType.boolean)), (Jvm.Cond.methodLink "DoorSchoolModel" (259 : Nat) ({ cls := "DoorSchoolModel", name := "deedsOf", desc := "(II)I" } : Jvm.MethodName)), (Jvm.Cond.privateMethod ({ cls := "DoorSchoolModel", name := "deedsOf", desc := "(II)I" } : Jvm.MethodName)), (Jvm.Cond.instanceMethod ({ cls := "DoorSchoolModel", name := "deedsOf", desc := "(II)I" } : Jvm.MethodName)), (Jvm.Cond.code ({ cls := "DoorSchoolModel", name := "deedsOf", desc := "(II)I" } : Jvm.MethodName) prog_13_method_43_code (5 : Nat) (Option.some Jvm.ClassFile.FieldType.int)), (Jvm.Cond.methodLink "DoorSchoolModel" (97 : Nat) ({ cls := "DoorSchoolModel", name := "knocks", desc := "()I" } : Jvm.MethodName)), (Jvm.Cond.privateMethod ({ cls := "DoorSchoolModel", name := "knocks", desc := "()I" } : Jvm.MethodName)), (Jvm.Cond.instanceMethod ({ cls := "DoorSchoolModel", name := "knocks", desc := "()I" } : Jvm.MethodName)), (Jvm.Cond.code ({ cls := "DoorSchoolModel", name := "knocks", desc := "()I" } : Jvm.MethodName) prog_13_method_9_code (1 : Nat) (Option.some Jvm.ClassFile.FieldType.int))]
set_option maxRecDepth 20000 in
theorem ck_6 : chunk 6 = bk_6_0 ++ (bk_6_1 ++ (bk_6_2 ++ (bk_6_3 ++ (bk_6_4 ++ (bk_6_5 ++ (bk_6_6 ++ (bk_6_7 ++ (bk_6_8 ++ (bk_6_9 ++ (bk_6_10 ++ (bk_6_11 ++ (bk_6_12 ++ (bk_6_13 ++ (bk_6_14)))))))))))))) := rfl
theorem bi_6_3 {w : Cond} (h : w ∈ bk_6_3) : w ∈ chunk 6 := by rw [ck_6]; exact List.mem_append_right _ (List.mem_append_right _ (List.mem_append_right _ (List.mem_append_left _ h)))
theorem bi_6_4 {w : Cond} (h : w ∈ bk_6_4) : w ∈ chunk 6 := by rw [ck_6]; exact List.mem_append_right _ (List.mem_append_right _ (List.mem_append_right _ (List.mem_append_right _ (List.mem_append_left _ h))))
theorem bi_6_5 {w : Cond} (h : w ∈ bk_6_5) : w ∈ chunk 6 := by rw [ck_6]; exact List.mem_append_right _ (List.mem_append_right _ (List.mem_append_right _ (List.mem_append_right _ (List.mem_append_right _ (List.mem_append_left _ h)))))
theorem bi_6_6 {w : Cond} (h : w ∈ bk_6_6) : w ∈ chunk 6 := by rw [ck_6]; exact List.mem_append_right _ (List.mem_append_right _ (List.mem_append_right _ (List.mem_append_right _ (List.mem_append_right _ (List.mem_append_right _ (List.mem_append_left _ h))))))
theorem bi_6_7 {w : Cond} (h : w ∈ bk_6_7) : w ∈ chunk 6 := by rw [ck_6]; exact List.mem_append_right _ (List.mem_append_right _ (List.mem_append_right _ (List.mem_append_right _ (List.mem_append_right _ (List.mem_append_right _ (List.mem_append_right _ (List.mem_append_left _ h)))))))
theorem bi_6_8 {w : Cond} (h : w ∈ bk_6_8) : w ∈ chunk 6 := by rw [ck_6]; exact List.mem_append_right _ (List.mem_append_right _ (List.mem_append_right _ (List.mem_append_right _ (List.mem_append_right _ (List.mem_append_right _ (List.mem_append_right _ (List.mem_append_right _ (List.mem_append_left _ h))))))))
theorem bi_6_9 {w : Cond} (h : w ∈ bk_6_9) : w ∈ chunk 6 := by rw [ck_6]; exact List.mem_append_right _ (List.mem_append_right _ (List.mem_append_right _ (List.mem_append_right _ (List.mem_append_right _ (List.mem_append_right _ (List.mem_append_right _ (List.mem_append_right _ (List.mem_append_right _ (List.mem_append_left _ h)))))))))
theorem bi_6_10 {w : Cond} (h : w ∈ bk_6_10) : w ∈ chunk 6 := by rw [ck_6]; exact List.mem_append_right _ (List.mem_append_right _ (List.mem_append_right _ (List.mem_append_right _ (List.mem_append_right _ (List.mem_append_right _ (List.mem_append_right _ (List.mem_append_right _ (List.mem_append_right _ (List.mem_append_right _ (List.mem_append_left _ h))))))))))
theorem bi_6_11 {w : Cond} (h : w ∈ bk_6_11) : w ∈ chunk 6 := by rw [ck_6]; exact List.mem_append_right _ (List.mem_append_right _ (List.mem_append_right _ (List.mem_append_right _ (List.mem_append_right _ (List.mem_append_right _ (List.mem_append_right _ (List.mem_append_right _ (List.mem_append_right _ (List.mem_append_right _ (List.mem_append_right _ (List.mem_append_left _ h)))))))))))
theorem bi_6_12 {w : Cond} (h : w ∈ bk_6_12) : w ∈ chunk 6 := by rw [ck_6]; exact List.mem_append_right _ (List.mem_append_right _ (List.mem_append_right _ (List.mem_append_right _ (List.mem_append_right _ (List.mem_append_right _ (List.mem_append_right _ (List.mem_append_right _ (List.mem_append_right _ (List.mem_append_right _ (List.mem_append_right _ (List.mem_append_right _ (List.mem_append_left _ h))))))))))))
theorem bi_6_13 {w : Cond} (h : w ∈ bk_6_13) : w ∈ chunk 6 := by rw [ck_6]; exact List.mem_append_right _ (List.mem_append_right _ (List.mem_append_right _ (List.mem_append_right _ (List.mem_append_right _ (List.mem_append_right _ (List.mem_append_right _ (List.mem_append_right _ (List.mem_append_right _ (List.mem_append_right _ (List.mem_append_right _ (List.mem_append_right _ (List.mem_append_right _ (List.mem_append_left _ h)))))))))))))
theorem bi_6_14 {w : Cond} (h : w ∈ bk_6_14) : w ∈ chunk 6 := by rw [ck_6]; exact List.mem_append_right _ (List.mem_append_right _ (List.mem_append_right _ (List.mem_append_right _ (List.mem_append_right _ (List.mem_append_right _ (List.mem_append_right _ (List.mem_append_right _ (List.mem_append_right _ (List.mem_append_right _ (List.mem_append_right _ (List.mem_append_right _ (List.mem_append_right _ (List.mem_append_right _ (h))))))))))))))
def bk_7_0 : List Cond := [(Jvm.Cond.methodLink "DoorSchoolModel" (256 : Nat) ({ cls := "DoorSchoolModel", name := "bits", desc := "(I)I" } : Jvm.MethodName)), (Jvm.Cond.static ({ cls := "DoorSchoolModel", name := "bits", desc := "(I)I" } : Jvm.MethodName)), (Jvm.Cond.code ({ cls := "DoorSchoolModel", name := "bits", desc := "(I)I" } : Jvm.MethodName) prog_13_method_4_code (3 : Nat) (Option.some Jvm.ClassFile.FieldType.int)), (Jvm.Cond.constant "DoorSchoolModel" (83 : Nat) (1431655765 : Int32)), (Jvm.Cond.constant "DoorSchoolModel" (84 : Nat) (858993459 : Int32)), (Jvm.Cond.constant "DoorSchoolModel" (85 : Nat) (252645135 : Int32)), (Jvm.Cond.constant "DoorSchoolModel" (86 : Nat) (16843009 : Int32)), (Jvm.Cond.methodLink "DoorSchoolLaw" (53 : Nat) ({ cls := "DoorSchoolModel", name := "opens", desc := "(II)I" } : Jvm.MethodName)), (Jvm.Cond.instanceMethod ({ cls := "DoorSchoolModel", name := "opens", desc := "(II)I" } : Jvm.MethodName)), (Jvm.Cond.selects "DoorSchoolModel" ({ cls := "DoorSchoolModel", name := "opens", desc := "(II)I" } : Jvm.MethodName) ({ cls := "DoorSchoolModel", name := "opens", desc := "(II)I" } : Jvm.MethodName)), (Jvm.Cond.code ({ cls := "DoorSchoolModel", name := "opens", desc := "(II)I" } : Jvm.MethodName) prog_13_method_61_code (3 : Nat) (Option.some Jvm.ClassFile.FieldType.int)), (Jvm.Cond.methodLink "DoorSchoolModel" (313 : Nat) ({ cls := "DoorSchoolModel", name := "isKnock", desc := "(J)Z" } : Jvm.MethodName)), (Jvm.Cond.privateMethod ({ cls := "DoorSchoolModel", name := "isKnock", desc := "(J)Z" } : Jvm.MethodName)), (Jvm.Cond.instanceMethod ({ cls := "DoorSchoolModel", name := "isKnock", desc := "(J)Z" } : Jvm.MethodName)), (Jvm.Cond.code ({ cls := "DoorSchoolModel", name := "isKnock", desc := "(J)Z" } : Jvm.MethodName) prog_13_method_11_code (3 : Nat) (Option.some Jvm.ClassFile.FieldType.boolean)), (Jvm.Cond.methodLink "DoorSchoolModel" (317 : Nat) ({ cls := "DoorSchoolModel", name := "deedsOfDoor", desc := "(I)I" } : Jvm.MethodName))]
def bk_7_1 : List Cond := [(Jvm.Cond.privateMethod ({ cls := "DoorSchoolModel", name := "deedsOfDoor", desc := "(I)I" } : Jvm.MethodName)), (Jvm.Cond.instanceMethod ({ cls := "DoorSchoolModel", name := "deedsOfDoor", desc := "(I)I" } : Jvm.MethodName)), (Jvm.Cond.code ({ cls := "DoorSchoolModel", name := "deedsOfDoor", desc := "(I)I" } : Jvm.MethodName) prog_13_method_55_code (2 : Nat) (Option.some Jvm.ClassFile.FieldType.int)), (Jvm.Cond.methodLink "DoorSchoolModel" (290 : Nat) ({ cls := "DoorSchoolModel", name := "layRules", desc := "()V" } : Jvm.MethodName)), (Jvm.Cond.privateMethod ({ cls := "DoorSchoolModel", name := "layRules", desc := "()V" } : Jvm.MethodName)), (Jvm.Cond.instanceMethod ({ cls := "DoorSchoolModel", name := "layRules", desc := "()V" } : Jvm.MethodName)), (Jvm.Cond.code ({ cls := "DoorSchoolModel", name := "layRules", desc := "()V" } : Jvm.MethodName) prog_13_method_44_code (4 : Nat) (Option.none : Option Jvm.ClassFile.FieldType)), (Jvm.Cond.methodLink "DoorSchoolModel" (293 : Nat) ({ cls := "DoorSchoolModel", name := "real", desc := "(I)I" } : Jvm.MethodName)), (Jvm.Cond.privateMethod ({ cls := "DoorSchoolModel", name := "real", desc := "(I)I" } : Jvm.MethodName)), (Jvm.Cond.instanceMethod ({ cls := "DoorSchoolModel", name := "real", desc := "(I)I" } : Jvm.MethodName)), (Jvm.Cond.code ({ cls := "DoorSchoolModel", name := "real", desc := "(I)I" } : Jvm.MethodName) prog_13_method_54_code (2 : Nat) (Option.some Jvm.ClassFile.FieldType.int)), (Jvm.Cond.methodLink "DoorSchoolModel" (296 : Nat) ({ cls := "DoorSchoolModel", name := "layLessons", desc := "(I)V" } : Jvm.MethodName)), (Jvm.Cond.privateMethod ({ cls := "DoorSchoolModel", name := "layLessons", desc := "(I)V" } : Jvm.MethodName)), (Jvm.Cond.instanceMethod ({ cls := "DoorSchoolModel", name := "layLessons", desc := "(I)V" } : Jvm.MethodName)), (Jvm.Cond.code ({ cls := "DoorSchoolModel", name := "layLessons", desc := "(I)V" } : Jvm.MethodName) prog_13_method_46_code (3 : Nat) (Option.none : Option Jvm.ClassFile.FieldType)), (Jvm.Cond.methodLink "DoorSchoolModel" (268 : Nat) ({ cls := "DoorSchoolModel", name := "add", desc := "(II)V" } : Jvm.MethodName))]
def bk_7_2 : List Cond := [(Jvm.Cond.privateMethod ({ cls := "DoorSchoolModel", name := "add", desc := "(II)V" } : Jvm.MethodName)), (Jvm.Cond.instanceMethod ({ cls := "DoorSchoolModel", name := "add", desc := "(II)V" } : Jvm.MethodName)), (Jvm.Cond.code ({ cls := "DoorSchoolModel", name := "add", desc := "(II)V" } : Jvm.MethodName) prog_13_method_45_code (3 : Nat) (Option.none : Option Jvm.ClassFile.FieldType)), (Jvm.Cond.methodLink "DoorSchoolModel" (299 : Nat) ({ cls := "DoorSchoolModel", name := "learns", desc := "(I)I" } : Jvm.MethodName)), (Jvm.Cond.privateMethod ({ cls := "DoorSchoolModel", name := "learns", desc := "(I)I" } : Jvm.MethodName)), (Jvm.Cond.instanceMethod ({ cls := "DoorSchoolModel", name := "learns", desc := "(I)I" } : Jvm.MethodName)), (Jvm.Cond.code ({ cls := "DoorSchoolModel", name := "learns", desc := "(I)I" } : Jvm.MethodName) prog_13_method_53_code (5 : Nat) (Option.some Jvm.ClassFile.FieldType.int)), (Jvm.Cond.methodLink "DoorSchoolModel" (284 : Nat) ({ cls := "DoorSchoolModel", name := "firstRule", desc := "()I" } : Jvm.MethodName)), (Jvm.Cond.privateMethod ({ cls := "DoorSchoolModel", name := "firstRule", desc := "()I" } : Jvm.MethodName)), (Jvm.Cond.instanceMethod ({ cls := "DoorSchoolModel", name := "firstRule", desc := "()I" } : Jvm.MethodName)), (Jvm.Cond.code ({ cls := "DoorSchoolModel", name := "firstRule", desc := "()I" } : Jvm.MethodName) prog_13_method_49_code (2 : Nat) (Option.some Jvm.ClassFile.FieldType.int)), (Jvm.Cond.methodLink "DoorSchoolModel" (275 : Nat) ({ cls := "DoorSchoolModel", name := "isAsTold", desc := "(I)Z" } : Jvm.MethodName)), (Jvm.Cond.privateMethod ({ cls := "DoorSchoolModel", name := "isAsTold", desc := "(I)Z" } : Jvm.MethodName)), (Jvm.Cond.instanceMethod ({ cls := "DoorSchoolModel", name := "isAsTold", desc := "(I)Z" } : Jvm.MethodName)), (Jvm.Cond.code ({ cls := "DoorSchoolModel", name := "isAsTold", desc := "(I)Z" } : Jvm.MethodName) prog_13_method_48_code (3 : Nat) (Option.some Jvm.ClassFile.FieldType.boolean)), (Jvm.Cond.methodLink "DoorSchoolModel" (272 : Nat) ({ cls := "DoorSchoolModel", name := "bit", desc := "(II)I" } : Jvm.MethodName))]
def bk_7_3 : List Cond := [(Jvm.Cond.static ({ cls := "DoorSchoolModel", name := "bit", desc := "(II)I" } : Jvm.MethodName)), (Jvm.Cond.code ({ cls := "DoorSchoolModel", name := "bit", desc := "(II)I" } : Jvm.MethodName) prog_13_method_5_code (2 : Nat) (Option.some Jvm.ClassFile.FieldType.int)), (Jvm.Cond.methodLink "DoorSchoolModel" (287 : Nat) ({ cls := "DoorSchoolModel", name := "byLesson", desc := "(II)I" } : Jvm.MethodName)), (Jvm.Cond.privateMethod ({ cls := "DoorSchoolModel", name := "byLesson", desc := "(II)I" } : Jvm.MethodName)), (Jvm.Cond.instanceMethod ({ cls := "DoorSchoolModel", name := "byLesson", desc := "(II)I" } : Jvm.MethodName)), (Jvm.Cond.code ({ cls := "DoorSchoolModel", name := "byLesson", desc := "(II)I" } : Jvm.MethodName) prog_13_method_52_code (3 : Nat) (Option.some Jvm.ClassFile.FieldType.int)), (Jvm.Cond.methodLink "DoorSchoolModel" (278 : Nat) ({ cls := "DoorSchoolModel", name := "latestOf", desc := "(I)I" } : Jvm.MethodName)), (Jvm.Cond.privateMethod ({ cls := "DoorSchoolModel", name := "latestOf", desc := "(I)I" } : Jvm.MethodName)), (Jvm.Cond.instanceMethod ({ cls := "DoorSchoolModel", name := "latestOf", desc := "(I)I" } : Jvm.MethodName)), (Jvm.Cond.code ({ cls := "DoorSchoolModel", name := "latestOf", desc := "(I)I" } : Jvm.MethodName) prog_13_method_50_code (3 : Nat) (Option.some Jvm.ClassFile.FieldType.int)), (Jvm.Cond.methodLink "DoorSchoolModel" (281 : Nat) ({ cls := "DoorSchoolModel", name := "nearestTo", desc := "(I)I" } : Jvm.MethodName)), (Jvm.Cond.privateMethod ({ cls := "DoorSchoolModel", name := "nearestTo", desc := "(I)I" } : Jvm.MethodName)), (Jvm.Cond.instanceMethod ({ cls := "DoorSchoolModel", name := "nearestTo", desc := "(I)I" } : Jvm.MethodName)), (Jvm.Cond.code ({ cls := "DoorSchoolModel", name := "nearestTo", desc := "(I)I" } : Jvm.MethodName) prog_13_method_51_code (4 : Nat) (Option.some Jvm.ClassFile.FieldType.int)), (Jvm.Cond.methodLink "DoorSchoolLaw" (57 : Nat) ({ cls := "DoorSchoolModel", name := "deeds", desc := "(I)I" } : Jvm.MethodName)), (Jvm.Cond.instanceMethod ({ cls := "DoorSchoolModel", name := "deeds", desc := "(I)I" } : Jvm.MethodName))]
def bk_7_4 : List Cond := [(Jvm.Cond.selects "DoorSchoolModel" ({ cls := "DoorSchoolModel", name := "deeds", desc := "(I)I" } : Jvm.MethodName) ({ cls := "DoorSchoolModel", name := "deeds", desc := "(I)I" } : Jvm.MethodName)), (Jvm.Cond.code ({ cls := "DoorSchoolModel", name := "deeds", desc := "(I)I" } : Jvm.MethodName) prog_13_method_62_code (2 : Nat) (Option.some Jvm.ClassFile.FieldType.int)), (Jvm.Cond.methodLink "DoorSchoolLaw" (61 : Nat) ({ cls := "DoorSchoolModel", name := "often", desc := "(I)I" } : Jvm.MethodName)), (Jvm.Cond.instanceMethod ({ cls := "DoorSchoolModel", name := "often", desc := "(I)I" } : Jvm.MethodName)), (Jvm.Cond.selects "DoorSchoolModel" ({ cls := "DoorSchoolModel", name := "often", desc := "(I)I" } : Jvm.MethodName) ({ cls := "DoorSchoolModel", name := "often", desc := "(I)I" } : Jvm.MethodName)), (Jvm.Cond.code ({ cls := "DoorSchoolModel", name := "often", desc := "(I)I" } : Jvm.MethodName) prog_13_method_63_code (2 : Nat) (Option.some Jvm.ClassFile.FieldType.int)), (Jvm.Cond.methodLink "DoorSchoolLaw" (65 : Nat) ({ cls := "DoorSchoolModel", name := "why", desc := "(II)I" } : Jvm.MethodName)), (Jvm.Cond.instanceMethod ({ cls := "DoorSchoolModel", name := "why", desc := "(II)I" } : Jvm.MethodName)), (Jvm.Cond.selects "DoorSchoolModel" ({ cls := "DoorSchoolModel", name := "why", desc := "(II)I" } : Jvm.MethodName) ({ cls := "DoorSchoolModel", name := "why", desc := "(II)I" } : Jvm.MethodName)), (Jvm.Cond.code ({ cls := "DoorSchoolModel", name := "why", desc := "(II)I" } : Jvm.MethodName) prog_13_method_64_code (3 : Nat) (Option.some Jvm.ClassFile.FieldType.int)), (Jvm.Cond.methodLink "DoorSchoolLaw" (69 : Nat) ({ cls := "DoorSchoolModel", name := "rule", desc := "(II)I" } : Jvm.MethodName)), (Jvm.Cond.instanceMethod ({ cls := "DoorSchoolModel", name := "rule", desc := "(II)I" } : Jvm.MethodName)), (Jvm.Cond.selects "DoorSchoolModel" ({ cls := "DoorSchoolModel", name := "rule", desc := "(II)I" } : Jvm.MethodName) ({ cls := "DoorSchoolModel", name := "rule", desc := "(II)I" } : Jvm.MethodName)), (Jvm.Cond.code ({ cls := "DoorSchoolModel", name := "rule", desc := "(II)I" } : Jvm.MethodName) prog_13_method_65_code (4 : Nat) (Option.some Jvm.ClassFile.FieldType.int)), (Jvm.Cond.methodLink "DoorSchoolLaw" (73 : Nat) ({ cls := "DoorSchoolModel", name := "rules", desc := "(I)I" } : Jvm.MethodName)), (Jvm.Cond.instanceMethod ({ cls := "DoorSchoolModel", name := "rules", desc := "(I)I" } : Jvm.MethodName))]
def bk_7_5 : List Cond := [(Jvm.Cond.selects "DoorSchoolModel" ({ cls := "DoorSchoolModel", name := "rules", desc := "(I)I" } : Jvm.MethodName) ({ cls := "DoorSchoolModel", name := "rules", desc := "(I)I" } : Jvm.MethodName)), (Jvm.Cond.code ({ cls := "DoorSchoolModel", name := "rules", desc := "(I)I" } : Jvm.MethodName) prog_13_method_66_code (4 : Nat) (Option.some Jvm.ClassFile.FieldType.int)), (Jvm.Cond.methodLink "DoorSchoolLaw" (77 : Nat) ({ cls := "DoorSchoolModel", name := "does", desc := "(II)I" } : Jvm.MethodName)), (Jvm.Cond.instanceMethod ({ cls := "DoorSchoolModel", name := "does", desc := "(II)I" } : Jvm.MethodName)), (Jvm.Cond.selects "DoorSchoolModel" ({ cls := "DoorSchoolModel", name := "does", desc := "(II)I" } : Jvm.MethodName) ({ cls := "DoorSchoolModel", name := "does", desc := "(II)I" } : Jvm.MethodName)), (Jvm.Cond.code ({ cls := "DoorSchoolModel", name := "does", desc := "(II)I" } : Jvm.MethodName) prog_13_method_68_code (3 : Nat) (Option.some Jvm.ClassFile.FieldType.int)), (Jvm.Cond.methodLink "DoorSchoolModel" (320 : Nat) ({ cls := "DoorSchoolModel", name := "isRule", desc := "(II)Z" } : Jvm.MethodName)), (Jvm.Cond.privateMethod ({ cls := "DoorSchoolModel", name := "isRule", desc := "(II)Z" } : Jvm.MethodName)), (Jvm.Cond.instanceMethod ({ cls := "DoorSchoolModel", name := "isRule", desc := "(II)Z" } : Jvm.MethodName)), (Jvm.Cond.code ({ cls := "DoorSchoolModel", name := "isRule", desc := "(II)Z" } : Jvm.MethodName) prog_13_method_67_code (3 : Nat) (Option.some Jvm.ClassFile.FieldType.boolean)), (Jvm.Cond.methodLink "DoorSchoolLaw" (81 : Nat) ({ cls := "DoorSchoolModel", name := "told", desc := "(II)I" } : Jvm.MethodName)), (Jvm.Cond.instanceMethod ({ cls := "DoorSchoolModel", name := "told", desc := "(II)I" } : Jvm.MethodName)), (Jvm.Cond.selects "DoorSchoolModel" ({ cls := "DoorSchoolModel", name := "told", desc := "(II)I" } : Jvm.MethodName) ({ cls := "DoorSchoolModel", name := "told", desc := "(II)I" } : Jvm.MethodName)), (Jvm.Cond.code ({ cls := "DoorSchoolModel", name := "told", desc := "(II)I" } : Jvm.MethodName) prog_13_method_69_code (4 : Nat) (Option.some Jvm.ClassFile.FieldType.int)), (Jvm.Cond.methodLink "DoorSchoolModel" (324 : Nat) ({ cls := "DoorSchoolModel", name := "areDeeds", desc := "(I)Z" } : Jvm.MethodName)), (Jvm.Cond.privateMethod ({ cls := "DoorSchoolModel", name := "areDeeds", desc := "(I)Z" } : Jvm.MethodName))]
def bk_7_6 : List Cond := [(Jvm.Cond.instanceMethod ({ cls := "DoorSchoolModel", name := "areDeeds", desc := "(I)Z" } : Jvm.MethodName)), (Jvm.Cond.code ({ cls := "DoorSchoolModel", name := "areDeeds", desc := "(I)Z" } : Jvm.MethodName) prog_13_method_16_code (2 : Nat) (Option.some Jvm.ClassFile.FieldType.boolean)), (Jvm.Cond.methodLink "DoorSchoolModel" (101 : Nat) ({ cls := "DoorSchoolModel", name := "allKnocks", desc := "()I" } : Jvm.MethodName)), (Jvm.Cond.privateMethod ({ cls := "DoorSchoolModel", name := "allKnocks", desc := "()I" } : Jvm.MethodName)), (Jvm.Cond.instanceMethod ({ cls := "DoorSchoolModel", name := "allKnocks", desc := "()I" } : Jvm.MethodName)), (Jvm.Cond.code ({ cls := "DoorSchoolModel", name := "allKnocks", desc := "()I" } : Jvm.MethodName) prog_13_method_10_code (1 : Nat) (Option.some Jvm.ClassFile.FieldType.int)), (Jvm.Cond.methodLink "DoorSchoolLaw" (85 : Nat) ({ cls := "DoorSchoolModel", name := "marks", desc := "(I)I" } : Jvm.MethodName)), (Jvm.Cond.instanceMethod ({ cls := "DoorSchoolModel", name := "marks", desc := "(I)I" } : Jvm.MethodName)), (Jvm.Cond.selects "DoorSchoolModel" ({ cls := "DoorSchoolModel", name := "marks", desc := "(I)I" } : Jvm.MethodName) ({ cls := "DoorSchoolModel", name := "marks", desc := "(I)I" } : Jvm.MethodName)), (Jvm.Cond.code ({ cls := "DoorSchoolModel", name := "marks", desc := "(I)I" } : Jvm.MethodName) prog_13_method_72_code (2 : Nat) (Option.some Jvm.ClassFile.FieldType.int)), (Jvm.Cond.methodLink "DoorSchoolModel" (330 : Nat) ({ cls := "DoorSchoolModel", name := "marksBy", desc := "(I)I" } : Jvm.MethodName)), (Jvm.Cond.privateMethod ({ cls := "DoorSchoolModel", name := "marksBy", desc := "(I)I" } : Jvm.MethodName)), (Jvm.Cond.instanceMethod ({ cls := "DoorSchoolModel", name := "marksBy", desc := "(I)I" } : Jvm.MethodName)), (Jvm.Cond.code ({ cls := "DoorSchoolModel", name := "marksBy", desc := "(I)I" } : Jvm.MethodName) prog_13_method_71_code (4 : Nat) (Option.some Jvm.ClassFile.FieldType.int)), (Jvm.Cond.methodLink "DoorSchoolModel" (327 : Nat) ({ cls := "DoorSchoolModel", name := "isRight", desc := "(II)Z" } : Jvm.MethodName)), (Jvm.Cond.privateMethod ({ cls := "DoorSchoolModel", name := "isRight", desc := "(II)Z" } : Jvm.MethodName))]
def bk_7_7 : List Cond := [(Jvm.Cond.instanceMethod ({ cls := "DoorSchoolModel", name := "isRight", desc := "(II)Z" } : Jvm.MethodName)), (Jvm.Cond.code ({ cls := "DoorSchoolModel", name := "isRight", desc := "(II)Z" } : Jvm.MethodName) prog_13_method_70_code (3 : Nat) (Option.some Jvm.ClassFile.FieldType.boolean)), (Jvm.Cond.methodLink "DoorSchoolLaw" (89 : Nat) ({ cls := "DoorSchoolModel", name := "wrong", desc := "(I)I" } : Jvm.MethodName)), (Jvm.Cond.instanceMethod ({ cls := "DoorSchoolModel", name := "wrong", desc := "(I)I" } : Jvm.MethodName)), (Jvm.Cond.selects "DoorSchoolModel" ({ cls := "DoorSchoolModel", name := "wrong", desc := "(I)I" } : Jvm.MethodName) ({ cls := "DoorSchoolModel", name := "wrong", desc := "(I)I" } : Jvm.MethodName)), (Jvm.Cond.code ({ cls := "DoorSchoolModel", name := "wrong", desc := "(I)I" } : Jvm.MethodName) prog_13_method_73_code (4 : Nat) (Option.some Jvm.ClassFile.FieldType.int)), (Jvm.Cond.methodLink "DoorSchoolLaw" (93 : Nat) ({ cls := "DoorSchoolModel", name := "best", desc := "()I" } : Jvm.MethodName)), (Jvm.Cond.instanceMethod ({ cls := "DoorSchoolModel", name := "best", desc := "()I" } : Jvm.MethodName)), (Jvm.Cond.selects "DoorSchoolModel" ({ cls := "DoorSchoolModel", name := "best", desc := "()I" } : Jvm.MethodName) ({ cls := "DoorSchoolModel", name := "best", desc := "()I" } : Jvm.MethodName)), (Jvm.Cond.code ({ cls := "DoorSchoolModel", name := "best", desc := "()I" } : Jvm.MethodName) prog_13_method_74_code (3 : Nat) (Option.some Jvm.ClassFile.FieldType.int)), (Jvm.Cond.methodLink "DoorSchoolLaw" (97 : Nat) ({ cls := "DoorSchoolModel", name := "hard", desc := "()I" } : Jvm.MethodName)), (Jvm.Cond.instanceMethod ({ cls := "DoorSchoolModel", name := "hard", desc := "()I" } : Jvm.MethodName)), (Jvm.Cond.selects "DoorSchoolModel" ({ cls := "DoorSchoolModel", name := "hard", desc := "()I" } : Jvm.MethodName) ({ cls := "DoorSchoolModel", name := "hard", desc := "()I" } : Jvm.MethodName)), (Jvm.Cond.code ({ cls := "DoorSchoolModel", name := "hard", desc := "()I" } : Jvm.MethodName) prog_13_method_75_code (5 : Nat) (Option.some Jvm.ClassFile.FieldType.int)), (Jvm.Cond.methodLink "DoorSchoolLaw" (101 : Nat) ({ cls := "DoorSchoolModel", name := "teach", desc := "(III)I" } : Jvm.MethodName)), (Jvm.Cond.instanceMethod ({ cls := "DoorSchoolModel", name := "teach", desc := "(III)I" } : Jvm.MethodName))]
def bk_7_8 : List Cond := [(Jvm.Cond.selects "DoorSchoolModel" ({ cls := "DoorSchoolModel", name := "teach", desc := "(III)I" } : Jvm.MethodName) ({ cls := "DoorSchoolModel", name := "teach", desc := "(III)I" } : Jvm.MethodName)), (Jvm.Cond.code ({ cls := "DoorSchoolModel", name := "teach", desc := "(III)I" } : Jvm.MethodName) prog_13_method_76_code (5 : Nat) (Option.some Jvm.ClassFile.FieldType.int)), (Jvm.Cond.methodLink "DoorSchoolLaw" (105 : Nat) ({ cls := "DoorSchoolModel", name := "unteach", desc := "()I" } : Jvm.MethodName)), (Jvm.Cond.instanceMethod ({ cls := "DoorSchoolModel", name := "unteach", desc := "()I" } : Jvm.MethodName)), (Jvm.Cond.selects "DoorSchoolModel" ({ cls := "DoorSchoolModel", name := "unteach", desc := "()I" } : Jvm.MethodName) ({ cls := "DoorSchoolModel", name := "unteach", desc := "()I" } : Jvm.MethodName)), (Jvm.Cond.code ({ cls := "DoorSchoolModel", name := "unteach", desc := "()I" } : Jvm.MethodName) prog_13_method_77_code (2 : Nat) (Option.some Jvm.ClassFile.FieldType.int)), (Jvm.Cond.methodLink "DoorSchoolLaw" (109 : Nat) ({ cls := "DoorSchoolModel", name := "gains", desc := "(III)I" } : Jvm.MethodName)), (Jvm.Cond.instanceMethod ({ cls := "DoorSchoolModel", name := "gains", desc := "(III)I" } : Jvm.MethodName)), (Jvm.Cond.selects "DoorSchoolModel" ({ cls := "DoorSchoolModel", name := "gains", desc := "(III)I" } : Jvm.MethodName) ({ cls := "DoorSchoolModel", name := "gains", desc := "(III)I" } : Jvm.MethodName)), (Jvm.Cond.code ({ cls := "DoorSchoolModel", name := "gains", desc := "(III)I" } : Jvm.MethodName) prog_13_method_79_code (4 : Nat) (Option.some Jvm.ClassFile.FieldType.int)), (Jvm.Cond.methodLink "DoorSchoolModel" (333 : Nat) ({ cls := "DoorSchoolModel", name := "deedsWith", desc := "(III)I" } : Jvm.MethodName)), (Jvm.Cond.privateMethod ({ cls := "DoorSchoolModel", name := "deedsWith", desc := "(III)I" } : Jvm.MethodName)), (Jvm.Cond.instanceMethod ({ cls := "DoorSchoolModel", name := "deedsWith", desc := "(III)I" } : Jvm.MethodName)), (Jvm.Cond.code ({ cls := "DoorSchoolModel", name := "deedsWith", desc := "(III)I" } : Jvm.MethodName) prog_13_method_78_code (5 : Nat) (Option.some Jvm.ClassFile.FieldType.int)), (Jvm.Cond.methodLink "DoorSchoolLaw" (113 : Nat) ({ cls := "DoorSchoolModel", name := "help", desc := "(I)I" } : Jvm.MethodName)), (Jvm.Cond.instanceMethod ({ cls := "DoorSchoolModel", name := "help", desc := "(I)I" } : Jvm.MethodName))]
def bk_7_9 : List Cond := [(Jvm.Cond.selects "DoorSchoolModel" ({ cls := "DoorSchoolModel", name := "help", desc := "(I)I" } : Jvm.MethodName) ({ cls := "DoorSchoolModel", name := "help", desc := "(I)I" } : Jvm.MethodName)), (Jvm.Cond.code ({ cls := "DoorSchoolModel", name := "help", desc := "(I)I" } : Jvm.MethodName) prog_13_method_80_code (6 : Nat) (Option.some Jvm.ClassFile.FieldType.int)), (Jvm.Cond.methodLink "DoorSchoolLaw" (117 : Nat) ({ cls := "DoorSchoolModel", name := "idle", desc := "(I)I" } : Jvm.MethodName)), (Jvm.Cond.instanceMethod ({ cls := "DoorSchoolModel", name := "idle", desc := "(I)I" } : Jvm.MethodName)), (Jvm.Cond.selects "DoorSchoolModel" ({ cls := "DoorSchoolModel", name := "idle", desc := "(I)I" } : Jvm.MethodName) ({ cls := "DoorSchoolModel", name := "idle", desc := "(I)I" } : Jvm.MethodName)), (Jvm.Cond.code ({ cls := "DoorSchoolModel", name := "idle", desc := "(I)I" } : Jvm.MethodName) prog_13_method_82_code (5 : Nat) (Option.some Jvm.ClassFile.FieldType.int)), (Jvm.Cond.methodLink "DoorSchoolModel" (337 : Nat) ({ cls := "DoorSchoolModel", name := "deedsWithout", desc := "(II)I" } : Jvm.MethodName)), (Jvm.Cond.privateMethod ({ cls := "DoorSchoolModel", name := "deedsWithout", desc := "(II)I" } : Jvm.MethodName)), (Jvm.Cond.instanceMethod ({ cls := "DoorSchoolModel", name := "deedsWithout", desc := "(II)I" } : Jvm.MethodName)), (Jvm.Cond.code ({ cls := "DoorSchoolModel", name := "deedsWithout", desc := "(II)I" } : Jvm.MethodName) prog_13_method_81_code (4 : Nat) (Option.some Jvm.ClassFile.FieldType.int)), (Jvm.Cond.methodLink "DoorSchoolLaw" (121 : Nat) ({ cls := "DoorSchoolModel", name := "fewest", desc := "(II)I" } : Jvm.MethodName)), (Jvm.Cond.instanceMethod ({ cls := "DoorSchoolModel", name := "fewest", desc := "(II)I" } : Jvm.MethodName)), (Jvm.Cond.selects "DoorSchoolModel" ({ cls := "DoorSchoolModel", name := "fewest", desc := "(II)I" } : Jvm.MethodName) ({ cls := "DoorSchoolModel", name := "fewest", desc := "(II)I" } : Jvm.MethodName)), (Jvm.Cond.code ({ cls := "DoorSchoolModel", name := "fewest", desc := "(II)I" } : Jvm.MethodName) prog_13_method_85_code (4 : Nat) (Option.some Jvm.ClassFile.FieldType.int)), (Jvm.Cond.methodLink "DoorSchoolModel" (347 : Nat) ({ cls := "DoorSchoolModel", name := "isWay", desc := "(I)Z" } : Jvm.MethodName)), (Jvm.Cond.static ({ cls := "DoorSchoolModel", name := "isWay", desc := "(I)Z" } : Jvm.MethodName))]
def bk_7_10 : List Cond := [(Jvm.Cond.code ({ cls := "DoorSchoolModel", name := "isWay", desc := "(I)Z" } : Jvm.MethodName) prog_13_method_15_code (1 : Nat) (Option.some Jvm.ClassFile.FieldType.boolean)), (Jvm.Cond.methodLink "DoorSchoolModel" (350 : Nat) ({ cls := "DoorSchoolModel", name := "fewestSet", desc := "(II)I" } : Jvm.MethodName)), (Jvm.Cond.privateMethod ({ cls := "DoorSchoolModel", name := "fewestSet", desc := "(II)I" } : Jvm.MethodName)), (Jvm.Cond.instanceMethod ({ cls := "DoorSchoolModel", name := "fewestSet", desc := "(II)I" } : Jvm.MethodName)), (Jvm.Cond.code ({ cls := "DoorSchoolModel", name := "fewestSet", desc := "(II)I" } : Jvm.MethodName) prog_13_method_84_code (5 : Nat) (Option.some Jvm.ClassFile.FieldType.int)), (Jvm.Cond.methodLink "DoorSchoolModel" (343 : Nat) ({ cls := "DoorSchoolModel", name := "learnsBy", desc := "(III)Z" } : Jvm.MethodName)), (Jvm.Cond.privateMethod ({ cls := "DoorSchoolModel", name := "learnsBy", desc := "(III)Z" } : Jvm.MethodName)), (Jvm.Cond.instanceMethod ({ cls := "DoorSchoolModel", name := "learnsBy", desc := "(III)Z" } : Jvm.MethodName)), (Jvm.Cond.code ({ cls := "DoorSchoolModel", name := "learnsBy", desc := "(III)Z" } : Jvm.MethodName) prog_13_method_83_code (5 : Nat) (Option.some Jvm.ClassFile.FieldType.boolean)), (Jvm.Cond.methodLink "DoorSchoolModel" (340 : Nat) ({ cls := "DoorSchoolModel", name := "laySet", desc := "(II)V" } : Jvm.MethodName)), (Jvm.Cond.privateMethod ({ cls := "DoorSchoolModel", name := "laySet", desc := "(II)V" } : Jvm.MethodName)), (Jvm.Cond.instanceMethod ({ cls := "DoorSchoolModel", name := "laySet", desc := "(II)V" } : Jvm.MethodName)), (Jvm.Cond.code ({ cls := "DoorSchoolModel", name := "laySet", desc := "(II)V" } : Jvm.MethodName) prog_13_method_47_code (4 : Nat) (Option.none : Option Jvm.ClassFile.FieldType)), (Jvm.Cond.methodLink "DoorSchoolLaw" (125 : Nat) ({ cls := "DoorSchoolModel", name := "course", desc := "(II)I" } : Jvm.MethodName)), (Jvm.Cond.instanceMethod ({ cls := "DoorSchoolModel", name := "course", desc := "(II)I" } : Jvm.MethodName)), (Jvm.Cond.selects "DoorSchoolModel" ({ cls := "DoorSchoolModel", name := "course", desc := "(II)I" } : Jvm.MethodName) ({ cls := "DoorSchoolModel", name := "course", desc := "(II)I" } : Jvm.MethodName))]
def bk_7_11 : List Cond := [(Jvm.Cond.code ({ cls := "DoorSchoolModel", name := "course", desc := "(II)I" } : Jvm.MethodName) prog_13_method_86_code (3 : Nat) (Option.some Jvm.ClassFile.FieldType.int)), (Jvm.Cond.methodLink "DoorSchoolLaw" (129 : Nat) ({ cls := "DoorSchoolModel", name := "sets", desc := "(III)I" } : Jvm.MethodName)), (Jvm.Cond.instanceMethod ({ cls := "DoorSchoolModel", name := "sets", desc := "(III)I" } : Jvm.MethodName)), (Jvm.Cond.selects "DoorSchoolModel" ({ cls := "DoorSchoolModel", name := "sets", desc := "(III)I" } : Jvm.MethodName) ({ cls := "DoorSchoolModel", name := "sets", desc := "(III)I" } : Jvm.MethodName)), (Jvm.Cond.code ({ cls := "DoorSchoolModel", name := "sets", desc := "(III)I" } : Jvm.MethodName) prog_13_method_87_code (6 : Nat) (Option.some Jvm.ClassFile.FieldType.int)), (Jvm.Cond.constantLong "DoorSchoolModel" (353 : Nat) (16 : Int64)), (Jvm.Cond.methodLink "DoorSchoolLaw" (133 : Nat) ({ cls := "DoorSchoolModel", name := "easiest", desc := "(I)I" } : Jvm.MethodName)), (Jvm.Cond.instanceMethod ({ cls := "DoorSchoolModel", name := "easiest", desc := "(I)I" } : Jvm.MethodName)), (Jvm.Cond.selects "DoorSchoolModel" ({ cls := "DoorSchoolModel", name := "easiest", desc := "(I)I" } : Jvm.MethodName) ({ cls := "DoorSchoolModel", name := "easiest", desc := "(I)I" } : Jvm.MethodName)), (Jvm.Cond.code ({ cls := "DoorSchoolModel", name := "easiest", desc := "(I)I" } : Jvm.MethodName) prog_13_method_88_code (6 : Nat) (Option.some Jvm.ClassFile.FieldType.int)), (Jvm.Cond.constant "DoorSchoolModel" (355 : Nat) (1000000 : Int32)), (Jvm.Cond.methodLink "DoorSchoolLaw" (137 : Nat) ({ cls := "DoorSchoolModel", name := "fooled", desc := "(II)I" } : Jvm.MethodName)), (Jvm.Cond.instanceMethod ({ cls := "DoorSchoolModel", name := "fooled", desc := "(II)I" } : Jvm.MethodName)), (Jvm.Cond.selects "DoorSchoolModel" ({ cls := "DoorSchoolModel", name := "fooled", desc := "(II)I" } : Jvm.MethodName) ({ cls := "DoorSchoolModel", name := "fooled", desc := "(II)I" } : Jvm.MethodName)), (Jvm.Cond.code ({ cls := "DoorSchoolModel", name := "fooled", desc := "(II)I" } : Jvm.MethodName) prog_13_method_89_code (4 : Nat) (Option.some Jvm.ClassFile.FieldType.int)), (Jvm.Cond.methodLink "DoorSchoolModel" (356 : Nat) ({ cls := "DoorSchoolModel", name := "ownDeeds", desc := "()I" } : Jvm.MethodName))]
def bk_7_12 : List Cond := [(Jvm.Cond.privateMethod ({ cls := "DoorSchoolModel", name := "ownDeeds", desc := "()I" } : Jvm.MethodName)), (Jvm.Cond.instanceMethod ({ cls := "DoorSchoolModel", name := "ownDeeds", desc := "()I" } : Jvm.MethodName)), (Jvm.Cond.code ({ cls := "DoorSchoolModel", name := "ownDeeds", desc := "()I" } : Jvm.MethodName) prog_13_method_56_code (1 : Nat) (Option.some Jvm.ClassFile.FieldType.int)), (Jvm.Cond.methodLink "DoorSchoolLaw" (141 : Nat) ({ cls := "DoorSchoolModel", name := "tries", desc := "(II)I" } : Jvm.MethodName)), (Jvm.Cond.instanceMethod ({ cls := "DoorSchoolModel", name := "tries", desc := "(II)I" } : Jvm.MethodName)), (Jvm.Cond.selects "DoorSchoolModel" ({ cls := "DoorSchoolModel", name := "tries", desc := "(II)I" } : Jvm.MethodName) ({ cls := "DoorSchoolModel", name := "tries", desc := "(II)I" } : Jvm.MethodName)), (Jvm.Cond.code ({ cls := "DoorSchoolModel", name := "tries", desc := "(II)I" } : Jvm.MethodName) prog_13_method_91_code (4 : Nat) (Option.some Jvm.ClassFile.FieldType.int)), (Jvm.Cond.methodLink "DoorSchoolModel" (359 : Nat) ({ cls := "DoorSchoolModel", name := "trickOf", desc := "(II)I" } : Jvm.MethodName)), (Jvm.Cond.privateMethod ({ cls := "DoorSchoolModel", name := "trickOf", desc := "(II)I" } : Jvm.MethodName)), (Jvm.Cond.instanceMethod ({ cls := "DoorSchoolModel", name := "trickOf", desc := "(II)I" } : Jvm.MethodName)), (Jvm.Cond.code ({ cls := "DoorSchoolModel", name := "trickOf", desc := "(II)I" } : Jvm.MethodName) prog_13_method_90_code (6 : Nat) (Option.some Jvm.ClassFile.FieldType.int)), (Jvm.Cond.methodLink "DoorSchoolLaw" (145 : Nat) ({ cls := "DoorSchoolModel", name := "trick", desc := "(II)I" } : Jvm.MethodName)), (Jvm.Cond.instanceMethod ({ cls := "DoorSchoolModel", name := "trick", desc := "(II)I" } : Jvm.MethodName)), (Jvm.Cond.selects "DoorSchoolModel" ({ cls := "DoorSchoolModel", name := "trick", desc := "(II)I" } : Jvm.MethodName) ({ cls := "DoorSchoolModel", name := "trick", desc := "(II)I" } : Jvm.MethodName)), (Jvm.Cond.code ({ cls := "DoorSchoolModel", name := "trick", desc := "(II)I" } : Jvm.MethodName) prog_13_method_92_code (3 : Nat) (Option.some Jvm.ClassFile.FieldType.int)), (Jvm.Cond.methodLink "DoorSchoolLaw" (149 : Nat) ({ cls := "DoorSchoolModel", name := "harden", desc := "(I)I" } : Jvm.MethodName))]
def bk_7_13 : List Cond := [(Jvm.Cond.instanceMethod ({ cls := "DoorSchoolModel", name := "harden", desc := "(I)I" } : Jvm.MethodName)), (Jvm.Cond.selects "DoorSchoolModel" ({ cls := "DoorSchoolModel", name := "harden", desc := "(I)I" } : Jvm.MethodName) ({ cls := "DoorSchoolModel", name := "harden", desc := "(I)I" } : Jvm.MethodName)), (Jvm.Cond.code ({ cls := "DoorSchoolModel", name := "harden", desc := "(I)I" } : Jvm.MethodName) prog_13_method_95_code (6 : Nat) (Option.some Jvm.ClassFile.FieldType.int)), (Jvm.Cond.methodLink "DoorSchoolModel" (362 : Nat) ({ cls := "DoorSchoolModel", name := "fooledBy", desc := "(I)I" } : Jvm.MethodName)), (Jvm.Cond.privateMethod ({ cls := "DoorSchoolModel", name := "fooledBy", desc := "(I)I" } : Jvm.MethodName)), (Jvm.Cond.instanceMethod ({ cls := "DoorSchoolModel", name := "fooledBy", desc := "(I)I" } : Jvm.MethodName)), (Jvm.Cond.code ({ cls := "DoorSchoolModel", name := "fooledBy", desc := "(I)I" } : Jvm.MethodName) prog_13_method_93_code (2 : Nat) (Option.some Jvm.ClassFile.FieldType.int)), (Jvm.Cond.methodLink "DoorSchoolModel" (365 : Nat) ({ cls := "DoorSchoolModel", name := "hardened", desc := "(II)I" } : Jvm.MethodName)), (Jvm.Cond.privateMethod ({ cls := "DoorSchoolModel", name := "hardened", desc := "(II)I" } : Jvm.MethodName)), (Jvm.Cond.instanceMethod ({ cls := "DoorSchoolModel", name := "hardened", desc := "(II)I" } : Jvm.MethodName)), (Jvm.Cond.code ({ cls := "DoorSchoolModel", name := "hardened", desc := "(II)I" } : Jvm.MethodName) prog_13_method_94_code (3 : Nat) (Option.some Jvm.ClassFile.FieldType.int)), (Jvm.Cond.methodLink "DoorSchoolLaw" (153 : Nat) ({ cls := "DoorSchoolModel", name := "left", desc := "(I)I" } : Jvm.MethodName)), (Jvm.Cond.instanceMethod ({ cls := "DoorSchoolModel", name := "left", desc := "(I)I" } : Jvm.MethodName)), (Jvm.Cond.selects "DoorSchoolModel" ({ cls := "DoorSchoolModel", name := "left", desc := "(I)I" } : Jvm.MethodName) ({ cls := "DoorSchoolModel", name := "left", desc := "(I)I" } : Jvm.MethodName)), (Jvm.Cond.code ({ cls := "DoorSchoolModel", name := "left", desc := "(I)I" } : Jvm.MethodName) prog_13_method_96_code (3 : Nat) (Option.some Jvm.ClassFile.FieldType.int)), (Jvm.Cond.methodLink "DoorSchoolModel" (368 : Nat) ({ cls := "DoorSchoolModel", name := "harden", desc := "(I)I" } : Jvm.MethodName))]
def bk_7_14 : List Cond := [(Jvm.Cond.methodLink "DoorSchoolLaw" (157 : Nat) ({ cls := "DoorSchoolModel", name := "game", desc := "(III)I" } : Jvm.MethodName)), (Jvm.Cond.instanceMethod ({ cls := "DoorSchoolModel", name := "game", desc := "(III)I" } : Jvm.MethodName)), (Jvm.Cond.selects "DoorSchoolModel" ({ cls := "DoorSchoolModel", name := "game", desc := "(III)I" } : Jvm.MethodName) ({ cls := "DoorSchoolModel", name := "game", desc := "(III)I" } : Jvm.MethodName)), (Jvm.Cond.code ({ cls := "DoorSchoolModel", name := "game", desc := "(III)I" } : Jvm.MethodName) prog_13_method_99_code (4 : Nat) (Option.some Jvm.ClassFile.FieldType.int)), (Jvm.Cond.methodLink "DoorSchoolModel" (371 : Nat) ({ cls := "DoorSchoolModel", name := "isStrange", desc := "(I)Z" } : Jvm.MethodName)), (Jvm.Cond.privateMethod ({ cls := "DoorSchoolModel", name := "isStrange", desc := "(I)Z" } : Jvm.MethodName)), (Jvm.Cond.instanceMethod ({ cls := "DoorSchoolModel", name := "isStrange", desc := "(I)Z" } : Jvm.MethodName)), (Jvm.Cond.code ({ cls := "DoorSchoolModel", name := "isStrange", desc := "(I)Z" } : Jvm.MethodName) prog_13_method_98_code (2 : Nat) (Option.some Jvm.ClassFile.FieldType.boolean)), (Jvm.Cond.methodLink "DoorSchoolModel" (374 : Nat) ({ cls := "DoorSchoolModel", name := "deedsByWay", desc := "(II)I" } : Jvm.MethodName)), (Jvm.Cond.privateMethod ({ cls := "DoorSchoolModel", name := "deedsByWay", desc := "(II)I" } : Jvm.MethodName)), (Jvm.Cond.instanceMethod ({ cls := "DoorSchoolModel", name := "deedsByWay", desc := "(II)I" } : Jvm.MethodName)), (Jvm.Cond.code ({ cls := "DoorSchoolModel", name := "deedsByWay", desc := "(II)I" } : Jvm.MethodName) prog_13_method_97_code (3 : Nat) (Option.some Jvm.ClassFile.FieldType.int)), (Jvm.Cond.methodLink "DoorSchoolLaw" (161 : Nat) ({ cls := "DoorSchoolModel", name := "rests", desc := "(I)I" } : Jvm.MethodName)), (Jvm.Cond.instanceMethod ({ cls := "DoorSchoolModel", name := "rests", desc := "(I)I" } : Jvm.MethodName)), (Jvm.Cond.selects "DoorSchoolModel" ({ cls := "DoorSchoolModel", name := "rests", desc := "(I)I" } : Jvm.MethodName) ({ cls := "DoorSchoolModel", name := "rests", desc := "(I)I" } : Jvm.MethodName)), (Jvm.Cond.code ({ cls := "DoorSchoolModel", name := "rests", desc := "(I)I" } : Jvm.MethodName) prog_13_method_101_code (5 : Nat) (Option.some Jvm.ClassFile.FieldType.int))]
set_option maxRecDepth 20000 in
theorem ck_7 : chunk 7 = bk_7_0 ++ (bk_7_1 ++ (bk_7_2 ++ (bk_7_3 ++ (bk_7_4 ++ (bk_7_5 ++ (bk_7_6 ++ (bk_7_7 ++ (bk_7_8 ++ (bk_7_9 ++ (bk_7_10 ++ (bk_7_11 ++ (bk_7_12 ++ (bk_7_13 ++ (bk_7_14)))))))))))))) := rfl
theorem bi_7_0 {w : Cond} (h : w ∈ bk_7_0) : w ∈ chunk 7 := by rw [ck_7]; exact List.mem_append_left _ h
theorem bi_7_1 {w : Cond} (h : w ∈ bk_7_1) : w ∈ chunk 7 := by rw [ck_7]; exact List.mem_append_right _ (List.mem_append_left _ h)
theorem bi_7_2 {w : Cond} (h : w ∈ bk_7_2) : w ∈ chunk 7 := by rw [ck_7]; exact List.mem_append_right _ (List.mem_append_right _ (List.mem_append_left _ h))
theorem bi_7_3 {w : Cond} (h : w ∈ bk_7_3) : w ∈ chunk 7 := by rw [ck_7]; exact List.mem_append_right _ (List.mem_append_right _ (List.mem_append_right _ (List.mem_append_left _ h)))
theorem bi_7_4 {w : Cond} (h : w ∈ bk_7_4) : w ∈ chunk 7 := by rw [ck_7]; exact List.mem_append_right _ (List.mem_append_right _ (List.mem_append_right _ (List.mem_append_right _ (List.mem_append_left _ h))))
theorem bi_7_5 {w : Cond} (h : w ∈ bk_7_5) : w ∈ chunk 7 := by rw [ck_7]; exact List.mem_append_right _ (List.mem_append_right _ (List.mem_append_right _ (List.mem_append_right _ (List.mem_append_right _ (List.mem_append_left _ h)))))
theorem bi_7_6 {w : Cond} (h : w ∈ bk_7_6) : w ∈ chunk 7 := by rw [ck_7]; exact List.mem_append_right _ (List.mem_append_right _ (List.mem_append_right _ (List.mem_append_right _ (List.mem_append_right _ (List.mem_append_right _ (List.mem_append_left _ h))))))
theorem bi_7_7 {w : Cond} (h : w ∈ bk_7_7) : w ∈ chunk 7 := by rw [ck_7]; exact List.mem_append_right _ (List.mem_append_right _ (List.mem_append_right _ (List.mem_append_right _ (List.mem_append_right _ (List.mem_append_right _ (List.mem_append_right _ (List.mem_append_left _ h)))))))
theorem bi_7_8 {w : Cond} (h : w ∈ bk_7_8) : w ∈ chunk 7 := by rw [ck_7]; exact List.mem_append_right _ (List.mem_append_right _ (List.mem_append_right _ (List.mem_append_right _ (List.mem_append_right _ (List.mem_append_right _ (List.mem_append_right _ (List.mem_append_right _ (List.mem_append_left _ h))))))))
theorem bi_7_9 {w : Cond} (h : w ∈ bk_7_9) : w ∈ chunk 7 := by rw [ck_7]; exact List.mem_append_right _ (List.mem_append_right _ (List.mem_append_right _ (List.mem_append_right _ (List.mem_append_right _ (List.mem_append_right _ (List.mem_append_right _ (List.mem_append_right _ (List.mem_append_right _ (List.mem_append_left _ h)))))))))
theorem bi_7_10 {w : Cond} (h : w ∈ bk_7_10) : w ∈ chunk 7 := by rw [ck_7]; exact List.mem_append_right _ (List.mem_append_right _ (List.mem_append_right _ (List.mem_append_right _ (List.mem_append_right _ (List.mem_append_right _ (List.mem_append_right _ (List.mem_append_right _ (List.mem_append_right _ (List.mem_append_right _ (List.mem_append_left _ h))))))))))
theorem bi_7_11 {w : Cond} (h : w ∈ bk_7_11) : w ∈ chunk 7 := by rw [ck_7]; exact List.mem_append_right _ (List.mem_append_right _ (List.mem_append_right _ (List.mem_append_right _ (List.mem_append_right _ (List.mem_append_right _ (List.mem_append_right _ (List.mem_append_right _ (List.mem_append_right _ (List.mem_append_right _ (List.mem_append_right _ (List.mem_append_left _ h)))))))))))
theorem bi_7_12 {w : Cond} (h : w ∈ bk_7_12) : w ∈ chunk 7 := by rw [ck_7]; exact List.mem_append_right _ (List.mem_append_right _ (List.mem_append_right _ (List.mem_append_right _ (List.mem_append_right _ (List.mem_append_right _ (List.mem_append_right _ (List.mem_append_right _ (List.mem_append_right _ (List.mem_append_right _ (List.mem_append_right _ (List.mem_append_right _ (List.mem_append_left _ h))))))))))))
theorem bi_7_13 {w : Cond} (h : w ∈ bk_7_13) : w ∈ chunk 7 := by rw [ck_7]; exact List.mem_append_right _ (List.mem_append_right _ (List.mem_append_right _ (List.mem_append_right _ (List.mem_append_right _ (List.mem_append_right _ (List.mem_append_right _ (List.mem_append_right _ (List.mem_append_right _ (List.mem_append_right _ (List.mem_append_right _ (List.mem_append_right _ (List.mem_append_right _ (List.mem_append_left _ h)))))))))))))
theorem bi_7_14 {w : Cond} (h : w ∈ bk_7_14) : w ∈ chunk 7 := by rw [ck_7]; exact List.mem_append_right _ (List.mem_append_right _ (List.mem_append_right _ (List.mem_append_right _ (List.mem_append_right _ (List.mem_append_right _ (List.mem_append_right _ (List.mem_append_right _ (List.mem_append_right _ (List.mem_append_right _ (List.mem_append_right _ (List.mem_append_right _ (List.mem_append_right _ (List.mem_append_right _ (h))))))))))))))
def bk_8_0 : List Cond := [(Jvm.Cond.methodLink "DoorSchoolModel" (377 : Nat) ({ cls := "DoorSchoolModel", name := "isRest", desc := "(III)Z" } : Jvm.MethodName)), (Jvm.Cond.privateMethod ({ cls := "DoorSchoolModel", name := "isRest", desc := "(III)Z" } : Jvm.MethodName)), (Jvm.Cond.instanceMethod ({ cls := "DoorSchoolModel", name := "isRest", desc := "(III)Z" } : Jvm.MethodName)), (Jvm.Cond.code ({ cls := "DoorSchoolModel", name := "isRest", desc := "(III)Z" } : Jvm.MethodName) prog_13_method_100_code (6 : Nat) (Option.some Jvm.ClassFile.FieldType.boolean)), (Jvm.Cond.methodLink "DoorSchoolLaw" (165 : Nat) ({ cls := "DoorSchoolModel", name := "rest", desc := "(I)I" } : Jvm.MethodName)), (Jvm.Cond.instanceMethod ({ cls := "DoorSchoolModel", name := "rest", desc := "(I)I" } : Jvm.MethodName)), (Jvm.Cond.selects "DoorSchoolModel" ({ cls := "DoorSchoolModel", name := "rest", desc := "(I)I" } : Jvm.MethodName) ({ cls := "DoorSchoolModel", name := "rest", desc := "(I)I" } : Jvm.MethodName)), (Jvm.Cond.code ({ cls := "DoorSchoolModel", name := "rest", desc := "(I)I" } : Jvm.MethodName) prog_13_method_102_code (4 : Nat) (Option.some Jvm.ClassFile.FieldType.int)), (Jvm.Cond.methodLink "DoorSchoolLaw" (169 : Nat) ({ cls := "DoorSchoolModel", name := "way", desc := "(II)I" } : Jvm.MethodName)), (Jvm.Cond.instanceMethod ({ cls := "DoorSchoolModel", name := "way", desc := "(II)I" } : Jvm.MethodName)), (Jvm.Cond.selects "DoorSchoolModel" ({ cls := "DoorSchoolModel", name := "way", desc := "(II)I" } : Jvm.MethodName) ({ cls := "DoorSchoolModel", name := "way", desc := "(II)I" } : Jvm.MethodName)), (Jvm.Cond.code ({ cls := "DoorSchoolModel", name := "way", desc := "(II)I" } : Jvm.MethodName) prog_13_method_103_code (7 : Nat) (Option.some Jvm.ClassFile.FieldType.int)), (Jvm.Cond.methodLink "DoorSchoolLaw" (173 : Nat) ({ cls := "DoorSchoolModel", name := "errors", desc := "(II)I" } : Jvm.MethodName)), (Jvm.Cond.instanceMethod ({ cls := "DoorSchoolModel", name := "errors", desc := "(II)I" } : Jvm.MethodName)), (Jvm.Cond.selects "DoorSchoolModel" ({ cls := "DoorSchoolModel", name := "errors", desc := "(II)I" } : Jvm.MethodName) ({ cls := "DoorSchoolModel", name := "errors", desc := "(II)I" } : Jvm.MethodName)), (Jvm.Cond.code ({ cls := "DoorSchoolModel", name := "errors", desc := "(II)I" } : Jvm.MethodName) prog_13_method_105_code (3 : Nat) (Option.some Jvm.ClassFile.FieldType.int))]
def bk_8_1 : List Cond := [(Jvm.Cond.methodLink "DoorSchoolModel" (386 : Nat) ({ cls := "DoorSchoolModel", name := "teachAll", desc := "(II)V" } : Jvm.MethodName)), (Jvm.Cond.privateMethod ({ cls := "DoorSchoolModel", name := "teachAll", desc := "(II)V" } : Jvm.MethodName)), (Jvm.Cond.instanceMethod ({ cls := "DoorSchoolModel", name := "teachAll", desc := "(II)V" } : Jvm.MethodName)), (Jvm.Cond.code ({ cls := "DoorSchoolModel", name := "teachAll", desc := "(II)V" } : Jvm.MethodName) prog_13_method_104_code (5 : Nat) (Option.none : Option Jvm.ClassFile.FieldType)), (Jvm.Cond.methodLink "DoorSchoolLaw" (177 : Nat) ({ cls := "DoorSchoolModel", name := "learnt", desc := "(II)I" } : Jvm.MethodName)), (Jvm.Cond.instanceMethod ({ cls := "DoorSchoolModel", name := "learnt", desc := "(II)I" } : Jvm.MethodName)), (Jvm.Cond.selects "DoorSchoolModel" ({ cls := "DoorSchoolModel", name := "learnt", desc := "(II)I" } : Jvm.MethodName) ({ cls := "DoorSchoolModel", name := "learnt", desc := "(II)I" } : Jvm.MethodName)), (Jvm.Cond.code ({ cls := "DoorSchoolModel", name := "learnt", desc := "(II)I" } : Jvm.MethodName) prog_13_method_106_code (3 : Nat) (Option.some Jvm.ClassFile.FieldType.int)), (Jvm.Cond.methodLink "DoorSchoolLaw" (181 : Nat) ({ cls := "DoorSchoolModel", name := "next", desc := "(II)I" } : Jvm.MethodName)), (Jvm.Cond.instanceMethod ({ cls := "DoorSchoolModel", name := "next", desc := "(II)I" } : Jvm.MethodName)), (Jvm.Cond.selects "DoorSchoolModel" ({ cls := "DoorSchoolModel", name := "next", desc := "(II)I" } : Jvm.MethodName) ({ cls := "DoorSchoolModel", name := "next", desc := "(II)I" } : Jvm.MethodName)), (Jvm.Cond.code ({ cls := "DoorSchoolModel", name := "next", desc := "(II)I" } : Jvm.MethodName) prog_13_method_107_code (6 : Nat) (Option.some Jvm.ClassFile.FieldType.int)), (Jvm.Cond.methodLink "DoorSchoolLaw" (185 : Nat) ({ cls := "DoorSchoolModel", name := "same", desc := "(I)I" } : Jvm.MethodName)), (Jvm.Cond.instanceMethod ({ cls := "DoorSchoolModel", name := "same", desc := "(I)I" } : Jvm.MethodName)), (Jvm.Cond.selects "DoorSchoolModel" ({ cls := "DoorSchoolModel", name := "same", desc := "(I)I" } : Jvm.MethodName) ({ cls := "DoorSchoolModel", name := "same", desc := "(I)I" } : Jvm.MethodName)), (Jvm.Cond.code ({ cls := "DoorSchoolModel", name := "same", desc := "(I)I" } : Jvm.MethodName) prog_13_method_111_code (5 : Nat) (Option.some Jvm.ClassFile.FieldType.int))]
def bk_8_2 : List Cond := [(Jvm.Cond.methodLink "DoorSchoolModel" (396 : Nat) ({ cls := "DoorSchoolModel", name := "asksSeen", desc := "(IZ)I" } : Jvm.MethodName)), (Jvm.Cond.privateMethod ({ cls := "DoorSchoolModel", name := "asksSeen", desc := "(IZ)I" } : Jvm.MethodName)), (Jvm.Cond.instanceMethod ({ cls := "DoorSchoolModel", name := "asksSeen", desc := "(IZ)I" } : Jvm.MethodName)), (Jvm.Cond.code ({ cls := "DoorSchoolModel", name := "asksSeen", desc := "(IZ)I" } : Jvm.MethodName) prog_13_method_109_code (4 : Nat) (Option.some Jvm.ClassFile.FieldType.int)), (Jvm.Cond.methodLink "DoorSchoolModel" (389 : Nat) ({ cls := "DoorSchoolModel", name := "isSlot", desc := "(I)Z" } : Jvm.MethodName)), (Jvm.Cond.static ({ cls := "DoorSchoolModel", name := "isSlot", desc := "(I)Z" } : Jvm.MethodName)), (Jvm.Cond.code ({ cls := "DoorSchoolModel", name := "isSlot", desc := "(I)Z" } : Jvm.MethodName) prog_13_method_145_code (1 : Nat) (Option.some Jvm.ClassFile.FieldType.boolean)), (Jvm.Cond.methodLink "DoorSchoolModel" (392 : Nat) ({ cls := "DoorSchoolModel", name := "numberAt", desc := "(II)J" } : Jvm.MethodName)), (Jvm.Cond.privateMethod ({ cls := "DoorSchoolModel", name := "numberAt", desc := "(II)J" } : Jvm.MethodName)), (Jvm.Cond.instanceMethod ({ cls := "DoorSchoolModel", name := "numberAt", desc := "(II)J" } : Jvm.MethodName)), (Jvm.Cond.code ({ cls := "DoorSchoolModel", name := "numberAt", desc := "(II)J" } : Jvm.MethodName) prog_13_method_108_code (3 : Nat) (Option.some Jvm.ClassFile.FieldType.long)), (Jvm.Cond.methodLink "DoorSchoolModel" (400 : Nat) ({ cls := "DoorSchoolModel", name := "doesSo", desc := "(II)Z" } : Jvm.MethodName)), (Jvm.Cond.privateMethod ({ cls := "DoorSchoolModel", name := "doesSo", desc := "(II)Z" } : Jvm.MethodName)), (Jvm.Cond.instanceMethod ({ cls := "DoorSchoolModel", name := "doesSo", desc := "(II)Z" } : Jvm.MethodName)), (Jvm.Cond.code ({ cls := "DoorSchoolModel", name := "doesSo", desc := "(II)Z" } : Jvm.MethodName) prog_13_method_110_code (4 : Nat) (Option.some Jvm.ClassFile.FieldType.boolean)), (Jvm.Cond.methodLink "DoorSchoolLaw" (189 : Nat) ({ cls := "DoorSchoolModel", name := "alike", desc := "(I)I" } : Jvm.MethodName))]
def bk_8_3 : List Cond := [(Jvm.Cond.instanceMethod ({ cls := "DoorSchoolModel", name := "alike", desc := "(I)I" } : Jvm.MethodName)), (Jvm.Cond.selects "DoorSchoolModel" ({ cls := "DoorSchoolModel", name := "alike", desc := "(I)I" } : Jvm.MethodName) ({ cls := "DoorSchoolModel", name := "alike", desc := "(I)I" } : Jvm.MethodName)), (Jvm.Cond.code ({ cls := "DoorSchoolModel", name := "alike", desc := "(I)I" } : Jvm.MethodName) prog_13_method_112_code (5 : Nat) (Option.some Jvm.ClassFile.FieldType.int)), (Jvm.Cond.methodLink "DoorSchoolLaw" (193 : Nat) ({ cls := "DoorSchoolModel", name := "copy", desc := "(II)I" } : Jvm.MethodName)), (Jvm.Cond.instanceMethod ({ cls := "DoorSchoolModel", name := "copy", desc := "(II)I" } : Jvm.MethodName)), (Jvm.Cond.selects "DoorSchoolModel" ({ cls := "DoorSchoolModel", name := "copy", desc := "(II)I" } : Jvm.MethodName) ({ cls := "DoorSchoolModel", name := "copy", desc := "(II)I" } : Jvm.MethodName)), (Jvm.Cond.code ({ cls := "DoorSchoolModel", name := "copy", desc := "(II)I" } : Jvm.MethodName) prog_13_method_114_code (4 : Nat) (Option.some Jvm.ClassFile.FieldType.int)), (Jvm.Cond.methodLink "DoorSchoolModel" (403 : Nat) ({ cls := "DoorSchoolModel", name := "isCopied", desc := "(I)Z" } : Jvm.MethodName)), (Jvm.Cond.privateMethod ({ cls := "DoorSchoolModel", name := "isCopied", desc := "(I)Z" } : Jvm.MethodName)), (Jvm.Cond.instanceMethod ({ cls := "DoorSchoolModel", name := "isCopied", desc := "(I)Z" } : Jvm.MethodName)), (Jvm.Cond.code ({ cls := "DoorSchoolModel", name := "isCopied", desc := "(I)Z" } : Jvm.MethodName) prog_13_method_113_code (3 : Nat) (Option.some Jvm.ClassFile.FieldType.boolean)), (Jvm.Cond.methodLink "DoorSchoolLaw" (197 : Nat) ({ cls := "DoorSchoolModel", name := "hanging", desc := "()I" } : Jvm.MethodName)), (Jvm.Cond.instanceMethod ({ cls := "DoorSchoolModel", name := "hanging", desc := "()I" } : Jvm.MethodName)), (Jvm.Cond.selects "DoorSchoolModel" ({ cls := "DoorSchoolModel", name := "hanging", desc := "()I" } : Jvm.MethodName) ({ cls := "DoorSchoolModel", name := "hanging", desc := "()I" } : Jvm.MethodName)), (Jvm.Cond.code ({ cls := "DoorSchoolModel", name := "hanging", desc := "()I" } : Jvm.MethodName) prog_13_method_117_code (1 : Nat) (Option.some Jvm.ClassFile.FieldType.int)), (Jvm.Cond.methodLink "DoorSchoolModel" (412 : Nat) ({ cls := "DoorSchoolModel", name := "hangAll", desc := "()V" } : Jvm.MethodName))]
def bk_8_4 : List Cond := [(Jvm.Cond.privateMethod ({ cls := "DoorSchoolModel", name := "hangAll", desc := "()V" } : Jvm.MethodName)), (Jvm.Cond.instanceMethod ({ cls := "DoorSchoolModel", name := "hangAll", desc := "()V" } : Jvm.MethodName)), (Jvm.Cond.code ({ cls := "DoorSchoolModel", name := "hangAll", desc := "()V" } : Jvm.MethodName) prog_13_method_116_code (7 : Nat) (Option.none : Option Jvm.ClassFile.FieldType)), (Jvm.Cond.methodLink "DoorSchoolModel" (409 : Nat) ({ cls := "DoorSchoolModel", name := "amissOf", desc := "(II)I" } : Jvm.MethodName)), (Jvm.Cond.privateMethod ({ cls := "DoorSchoolModel", name := "amissOf", desc := "(II)I" } : Jvm.MethodName)), (Jvm.Cond.instanceMethod ({ cls := "DoorSchoolModel", name := "amissOf", desc := "(II)I" } : Jvm.MethodName)), (Jvm.Cond.code ({ cls := "DoorSchoolModel", name := "amissOf", desc := "(II)I" } : Jvm.MethodName) prog_13_method_115_code (3 : Nat) (Option.some Jvm.ClassFile.FieldType.int)), (Jvm.Cond.methodLink "DoorSchoolLaw" (201 : Nat) ({ cls := "DoorSchoolModel", name := "hung", desc := "(I)I" } : Jvm.MethodName)), (Jvm.Cond.instanceMethod ({ cls := "DoorSchoolModel", name := "hung", desc := "(I)I" } : Jvm.MethodName)), (Jvm.Cond.selects "DoorSchoolModel" ({ cls := "DoorSchoolModel", name := "hung", desc := "(I)I" } : Jvm.MethodName) ({ cls := "DoorSchoolModel", name := "hung", desc := "(I)I" } : Jvm.MethodName)), (Jvm.Cond.code ({ cls := "DoorSchoolModel", name := "hung", desc := "(I)I" } : Jvm.MethodName) prog_13_method_118_code (2 : Nat) (Option.some Jvm.ClassFile.FieldType.int)), (Jvm.Cond.methodLink "DoorSchoolLaw" (205 : Nat) ({ cls := "DoorSchoolModel", name := "amiss", desc := "(II)I" } : Jvm.MethodName)), (Jvm.Cond.instanceMethod ({ cls := "DoorSchoolModel", name := "amiss", desc := "(II)I" } : Jvm.MethodName)), (Jvm.Cond.selects "DoorSchoolModel" ({ cls := "DoorSchoolModel", name := "amiss", desc := "(II)I" } : Jvm.MethodName) ({ cls := "DoorSchoolModel", name := "amiss", desc := "(II)I" } : Jvm.MethodName)), (Jvm.Cond.code ({ cls := "DoorSchoolModel", name := "amiss", desc := "(II)I" } : Jvm.MethodName) prog_13_method_119_code (3 : Nat) (Option.some Jvm.ClassFile.FieldType.int)), (Jvm.Cond.methodLink "DoorSchoolLaw" (209 : Nat) ({ cls := "DoorSchoolModel", name := "fits", desc := "(I)I" } : Jvm.MethodName))]
def bk_8_5 : List Cond := [(Jvm.Cond.instanceMethod ({ cls := "DoorSchoolModel", name := "fits", desc := "(I)I" } : Jvm.MethodName)), (Jvm.Cond.selects "DoorSchoolModel" ({ cls := "DoorSchoolModel", name := "fits", desc := "(I)I" } : Jvm.MethodName) ({ cls := "DoorSchoolModel", name := "fits", desc := "(I)I" } : Jvm.MethodName)), (Jvm.Cond.code ({ cls := "DoorSchoolModel", name := "fits", desc := "(I)I" } : Jvm.MethodName) prog_13_method_121_code (3 : Nat) (Option.some Jvm.ClassFile.FieldType.int)), (Jvm.Cond.methodLink "DoorSchoolModel" (415 : Nat) ({ cls := "DoorSchoolModel", name := "fitsOf", desc := "(I)I" } : Jvm.MethodName)), (Jvm.Cond.privateMethod ({ cls := "DoorSchoolModel", name := "fitsOf", desc := "(I)I" } : Jvm.MethodName)), (Jvm.Cond.instanceMethod ({ cls := "DoorSchoolModel", name := "fitsOf", desc := "(I)I" } : Jvm.MethodName)), (Jvm.Cond.code ({ cls := "DoorSchoolModel", name := "fitsOf", desc := "(I)I" } : Jvm.MethodName) prog_13_method_120_code (4 : Nat) (Option.some Jvm.ClassFile.FieldType.int)), (Jvm.Cond.methodLink "DoorSchoolLaw" (213 : Nat) ({ cls := "DoorSchoolModel", name := "sure", desc := "(II)I" } : Jvm.MethodName)), (Jvm.Cond.instanceMethod ({ cls := "DoorSchoolModel", name := "sure", desc := "(II)I" } : Jvm.MethodName)), (Jvm.Cond.selects "DoorSchoolModel" ({ cls := "DoorSchoolModel", name := "sure", desc := "(II)I" } : Jvm.MethodName) ({ cls := "DoorSchoolModel", name := "sure", desc := "(II)I" } : Jvm.MethodName)), (Jvm.Cond.code ({ cls := "DoorSchoolModel", name := "sure", desc := "(II)I" } : Jvm.MethodName) prog_13_method_122_code (6 : Nat) (Option.some Jvm.ClassFile.FieldType.int)), (Jvm.Cond.methodLink "DoorSchoolLaw" (217 : Nat) ({ cls := "DoorSchoolModel", name := "ask", desc := "(I)I" } : Jvm.MethodName)), (Jvm.Cond.instanceMethod ({ cls := "DoorSchoolModel", name := "ask", desc := "(I)I" } : Jvm.MethodName)), (Jvm.Cond.selects "DoorSchoolModel" ({ cls := "DoorSchoolModel", name := "ask", desc := "(I)I" } : Jvm.MethodName) ({ cls := "DoorSchoolModel", name := "ask", desc := "(I)I" } : Jvm.MethodName)), (Jvm.Cond.code ({ cls := "DoorSchoolModel", name := "ask", desc := "(I)I" } : Jvm.MethodName) prog_13_method_125_code (3 : Nat) (Option.some Jvm.ClassFile.FieldType.int)), (Jvm.Cond.methodLink "DoorSchoolModel" (424 : Nat) ({ cls := "DoorSchoolModel", name := "askOf", desc := "(I)I" } : Jvm.MethodName))]
def bk_8_6 : List Cond := [(Jvm.Cond.privateMethod ({ cls := "DoorSchoolModel", name := "askOf", desc := "(I)I" } : Jvm.MethodName)), (Jvm.Cond.instanceMethod ({ cls := "DoorSchoolModel", name := "askOf", desc := "(I)I" } : Jvm.MethodName)), (Jvm.Cond.code ({ cls := "DoorSchoolModel", name := "askOf", desc := "(I)I" } : Jvm.MethodName) prog_13_method_124_code (6 : Nat) (Option.some Jvm.ClassFile.FieldType.int)), (Jvm.Cond.methodLink "DoorSchoolModel" (421 : Nat) ({ cls := "DoorSchoolModel", name := "worstOf", desc := "(II)I" } : Jvm.MethodName)), (Jvm.Cond.privateMethod ({ cls := "DoorSchoolModel", name := "worstOf", desc := "(II)I" } : Jvm.MethodName)), (Jvm.Cond.instanceMethod ({ cls := "DoorSchoolModel", name := "worstOf", desc := "(II)I" } : Jvm.MethodName)), (Jvm.Cond.code ({ cls := "DoorSchoolModel", name := "worstOf", desc := "(II)I" } : Jvm.MethodName) prog_13_method_123_code (6 : Nat) (Option.some Jvm.ClassFile.FieldType.int)), (Jvm.Cond.methodLink "DoorSchoolModel" (418 : Nat) ({ cls := "java/lang/Math", name := "max", desc := "(II)I" } : Jvm.MethodName)), (Jvm.Cond.methodLink "DoorSchoolLaw" (221 : Nat) ({ cls := "DoorSchoolModel", name := "leaves", desc := "(I)I" } : Jvm.MethodName)), (Jvm.Cond.instanceMethod ({ cls := "DoorSchoolModel", name := "leaves", desc := "(I)I" } : Jvm.MethodName)), (Jvm.Cond.selects "DoorSchoolModel" ({ cls := "DoorSchoolModel", name := "leaves", desc := "(I)I" } : Jvm.MethodName) ({ cls := "DoorSchoolModel", name := "leaves", desc := "(I)I" } : Jvm.MethodName)), (Jvm.Cond.code ({ cls := "DoorSchoolModel", name := "leaves", desc := "(I)I" } : Jvm.MethodName) prog_13_method_126_code (4 : Nat) (Option.some Jvm.ClassFile.FieldType.int)), (Jvm.Cond.methodLink "DoorSchoolLaw" (225 : Nat) ({ cls := "DoorSchoolModel", name := "hours", desc := "()I" } : Jvm.MethodName)), (Jvm.Cond.instanceMethod ({ cls := "DoorSchoolModel", name := "hours", desc := "()I" } : Jvm.MethodName)), (Jvm.Cond.selects "DoorSchoolModel" ({ cls := "DoorSchoolModel", name := "hours", desc := "()I" } : Jvm.MethodName) ({ cls := "DoorSchoolModel", name := "hours", desc := "()I" } : Jvm.MethodName)), (Jvm.Cond.code ({ cls := "DoorSchoolModel", name := "hours", desc := "()I" } : Jvm.MethodName) prog_13_method_134_code (1 : Nat) (Option.some Jvm.ClassFile.FieldType.int))]
def bk_8_7 : List Cond := [(Jvm.Cond.methodLink "DoorSchoolModel" (445 : Nat) ({ cls := "DoorSchoolModel", name := "leastHours", desc := "(II)I" } : Jvm.MethodName)), (Jvm.Cond.privateMethod ({ cls := "DoorSchoolModel", name := "leastHours", desc := "(II)I" } : Jvm.MethodName)), (Jvm.Cond.instanceMethod ({ cls := "DoorSchoolModel", name := "leastHours", desc := "(II)I" } : Jvm.MethodName)), (Jvm.Cond.code ({ cls := "DoorSchoolModel", name := "leastHours", desc := "(II)I" } : Jvm.MethodName) prog_13_method_133_code (6 : Nat) (Option.some Jvm.ClassFile.FieldType.int)), (Jvm.Cond.methodLink "DoorSchoolModel" (442 : Nat) ({ cls := "DoorSchoolModel", name := "overBy", desc := "(III)I" } : Jvm.MethodName)), (Jvm.Cond.privateMethod ({ cls := "DoorSchoolModel", name := "overBy", desc := "(III)I" } : Jvm.MethodName)), (Jvm.Cond.instanceMethod ({ cls := "DoorSchoolModel", name := "overBy", desc := "(III)I" } : Jvm.MethodName)), (Jvm.Cond.code ({ cls := "DoorSchoolModel", name := "overBy", desc := "(III)I" } : Jvm.MethodName) prog_13_method_132_code (12 : Nat) (Option.some Jvm.ClassFile.FieldType.int)), (Jvm.Cond.methodLink "DoorSchoolModel" (433 : Nat) ({ cls := "DoorSchoolModel", name := "put", desc := "(II)V" } : Jvm.MethodName)), (Jvm.Cond.privateMethod ({ cls := "DoorSchoolModel", name := "put", desc := "(II)V" } : Jvm.MethodName)), (Jvm.Cond.instanceMethod ({ cls := "DoorSchoolModel", name := "put", desc := "(II)V" } : Jvm.MethodName)), (Jvm.Cond.code ({ cls := "DoorSchoolModel", name := "put", desc := "(II)V" } : Jvm.MethodName) prog_13_method_130_code (4 : Nat) (Option.none : Option Jvm.ClassFile.FieldType)), (Jvm.Cond.methodLink "DoorSchoolModel" (427 : Nat) ({ cls := "DoorSchoolModel", name := "takesOf", desc := "(I)I" } : Jvm.MethodName)), (Jvm.Cond.privateMethod ({ cls := "DoorSchoolModel", name := "takesOf", desc := "(I)I" } : Jvm.MethodName)), (Jvm.Cond.instanceMethod ({ cls := "DoorSchoolModel", name := "takesOf", desc := "(I)I" } : Jvm.MethodName)), (Jvm.Cond.code ({ cls := "DoorSchoolModel", name := "takesOf", desc := "(I)I" } : Jvm.MethodName) prog_13_method_127_code (2 : Nat) (Option.some Jvm.ClassFile.FieldType.int))]
def bk_8_8 : List Cond := [(Jvm.Cond.methodLink "DoorSchoolModel" (430 : Nat) ({ cls := "DoorSchoolModel", name := "overOf", desc := "(I)I" } : Jvm.MethodName)), (Jvm.Cond.privateMethod ({ cls := "DoorSchoolModel", name := "overOf", desc := "(I)I" } : Jvm.MethodName)), (Jvm.Cond.instanceMethod ({ cls := "DoorSchoolModel", name := "overOf", desc := "(I)I" } : Jvm.MethodName)), (Jvm.Cond.code ({ cls := "DoorSchoolModel", name := "overOf", desc := "(I)I" } : Jvm.MethodName) prog_13_method_128_code (2 : Nat) (Option.some Jvm.ClassFile.FieldType.int)), (Jvm.Cond.methodLink "DoorSchoolModel" (436 : Nat) ({ cls := "DoorSchoolModel", name := "afterAll", desc := "(II)I" } : Jvm.MethodName)), (Jvm.Cond.privateMethod ({ cls := "DoorSchoolModel", name := "afterAll", desc := "(II)I" } : Jvm.MethodName)), (Jvm.Cond.instanceMethod ({ cls := "DoorSchoolModel", name := "afterAll", desc := "(II)I" } : Jvm.MethodName)), (Jvm.Cond.code ({ cls := "DoorSchoolModel", name := "afterAll", desc := "(II)I" } : Jvm.MethodName) prog_13_method_131_code (5 : Nat) (Option.some Jvm.ClassFile.FieldType.int)), (Jvm.Cond.methodLink "DoorSchoolModel" (439 : Nat) ({ cls := "DoorSchoolModel", name := "isFree", desc := "(III)Z" } : Jvm.MethodName)), (Jvm.Cond.privateMethod ({ cls := "DoorSchoolModel", name := "isFree", desc := "(III)Z" } : Jvm.MethodName)), (Jvm.Cond.instanceMethod ({ cls := "DoorSchoolModel", name := "isFree", desc := "(III)Z" } : Jvm.MethodName)), (Jvm.Cond.code ({ cls := "DoorSchoolModel", name := "isFree", desc := "(III)Z" } : Jvm.MethodName) prog_13_method_129_code (5 : Nat) (Option.some Jvm.ClassFile.FieldType.boolean)), (Jvm.Cond.methodLink "DoorSchoolLaw" (229 : Nat) ({ cls := "DoorSchoolModel", name := "begins", desc := "(I)I" } : Jvm.MethodName)), (Jvm.Cond.instanceMethod ({ cls := "DoorSchoolModel", name := "begins", desc := "(I)I" } : Jvm.MethodName)), (Jvm.Cond.selects "DoorSchoolModel" ({ cls := "DoorSchoolModel", name := "begins", desc := "(I)I" } : Jvm.MethodName) ({ cls := "DoorSchoolModel", name := "begins", desc := "(I)I" } : Jvm.MethodName)), (Jvm.Cond.code ({ cls := "DoorSchoolModel", name := "begins", desc := "(I)I" } : Jvm.MethodName) prog_13_method_136_code (4 : Nat) (Option.some Jvm.ClassFile.FieldType.int))]
def bk_8_9 : List Cond := [(Jvm.Cond.methodLink "DoorSchoolModel" (448 : Nat) ({ cls := "DoorSchoolModel", name := "mayBegin", desc := "(II)Z" } : Jvm.MethodName)), (Jvm.Cond.privateMethod ({ cls := "DoorSchoolModel", name := "mayBegin", desc := "(II)Z" } : Jvm.MethodName)), (Jvm.Cond.instanceMethod ({ cls := "DoorSchoolModel", name := "mayBegin", desc := "(II)Z" } : Jvm.MethodName)), (Jvm.Cond.code ({ cls := "DoorSchoolModel", name := "mayBegin", desc := "(II)Z" } : Jvm.MethodName) prog_13_method_135_code (4 : Nat) (Option.some Jvm.ClassFile.FieldType.boolean)), (Jvm.Cond.methodLink "DoorSchoolLaw" (233 : Nat) ({ cls := "DoorSchoolModel", name := "teacher", desc := "()I" } : Jvm.MethodName)), (Jvm.Cond.instanceMethod ({ cls := "DoorSchoolModel", name := "teacher", desc := "()I" } : Jvm.MethodName)), (Jvm.Cond.selects "DoorSchoolModel" ({ cls := "DoorSchoolModel", name := "teacher", desc := "()I" } : Jvm.MethodName) ({ cls := "DoorSchoolModel", name := "teacher", desc := "()I" } : Jvm.MethodName)), (Jvm.Cond.code ({ cls := "DoorSchoolModel", name := "teacher", desc := "()I" } : Jvm.MethodName) prog_13_method_137_code (1 : Nat) (Option.some Jvm.ClassFile.FieldType.int)), (Jvm.Cond.methodLink "DoorSchoolLaw" (237 : Nat) ({ cls := "DoorSchoolModel", name := "train", desc := "(III)I" } : Jvm.MethodName)), (Jvm.Cond.instanceMethod ({ cls := "DoorSchoolModel", name := "train", desc := "(III)I" } : Jvm.MethodName)), (Jvm.Cond.selects "DoorSchoolModel" ({ cls := "DoorSchoolModel", name := "train", desc := "(III)I" } : Jvm.MethodName) ({ cls := "DoorSchoolModel", name := "train", desc := "(III)I" } : Jvm.MethodName)), (Jvm.Cond.code ({ cls := "DoorSchoolModel", name := "train", desc := "(III)I" } : Jvm.MethodName) prog_13_method_138_code (5 : Nat) (Option.some Jvm.ClassFile.FieldType.int)), (Jvm.Cond.constantLong "DoorSchoolModel" (451 : Nat) (50 : Int64)), (Jvm.Cond.methodLink "DoorSchoolLaw" (241 : Nat) ({ cls := "DoorSchoolModel", name := "owns", desc := "(II)I" } : Jvm.MethodName)), (Jvm.Cond.instanceMethod ({ cls := "DoorSchoolModel", name := "owns", desc := "(II)I" } : Jvm.MethodName)), (Jvm.Cond.selects "DoorSchoolModel" ({ cls := "DoorSchoolModel", name := "owns", desc := "(II)I" } : Jvm.MethodName) ({ cls := "DoorSchoolModel", name := "owns", desc := "(II)I" } : Jvm.MethodName))]
def bk_8_10 : List Cond := [(Jvm.Cond.code ({ cls := "DoorSchoolModel", name := "owns", desc := "(II)I" } : Jvm.MethodName) prog_13_method_139_code (4 : Nat) (Option.some Jvm.ClassFile.FieldType.int)), (Jvm.Cond.methodLink "DoorSchoolLaw" (245 : Nat) ({ cls := "DoorSchoolModel", name := "storm", desc := "(III)I" } : Jvm.MethodName)), (Jvm.Cond.instanceMethod ({ cls := "DoorSchoolModel", name := "storm", desc := "(III)I" } : Jvm.MethodName)), (Jvm.Cond.selects "DoorSchoolModel" ({ cls := "DoorSchoolModel", name := "storm", desc := "(III)I" } : Jvm.MethodName) ({ cls := "DoorSchoolModel", name := "storm", desc := "(III)I" } : Jvm.MethodName)), (Jvm.Cond.code ({ cls := "DoorSchoolModel", name := "storm", desc := "(III)I" } : Jvm.MethodName) prog_13_method_142_code (5 : Nat) (Option.some Jvm.ClassFile.FieldType.int)), (Jvm.Cond.methodLink "DoorSchoolModel" (468 : Nat) ({ cls := "DoorSchoolModel", name := "isSeed", desc := "(I)Z" } : Jvm.MethodName)), (Jvm.Cond.static ({ cls := "DoorSchoolModel", name := "isSeed", desc := "(I)Z" } : Jvm.MethodName)), (Jvm.Cond.code ({ cls := "DoorSchoolModel", name := "isSeed", desc := "(I)Z" } : Jvm.MethodName) prog_13_method_141_code (1 : Nat) (Option.some Jvm.ClassFile.FieldType.boolean)), (Jvm.Cond.constantLong "DoorSchoolModel" (466 : Nat) (2000000000 : Int64)), (Jvm.Cond.methodLink "DoorSchoolModel" (471 : Nat) ({ cls := "DoorSchoolModel", name := "stormed", desc := "(JI)I" } : Jvm.MethodName)), (Jvm.Cond.privateMethod ({ cls := "DoorSchoolModel", name := "stormed", desc := "(JI)I" } : Jvm.MethodName)), (Jvm.Cond.instanceMethod ({ cls := "DoorSchoolModel", name := "stormed", desc := "(JI)I" } : Jvm.MethodName)), (Jvm.Cond.code ({ cls := "DoorSchoolModel", name := "stormed", desc := "(JI)I" } : Jvm.MethodName) prog_13_method_140_code (8 : Nat) (Option.some Jvm.ClassFile.FieldType.int)), (Jvm.Cond.constantLong "DoorSchoolModel" (456 : Nat) (1103515245 : Int64)), (Jvm.Cond.constantLong "DoorSchoolModel" (458 : Nat) (12345 : Int64)), (Jvm.Cond.constantLong "DoorSchoolModel" (460 : Nat) (2147483648 : Int64))]
def bk_8_11 : List Cond := [(Jvm.Cond.constantLong "DoorSchoolModel" (462 : Nat) (65536 : Int64)), (Jvm.Cond.constantLong "DoorSchoolModel" (464 : Nat) (100 : Int64)), (Jvm.Cond.methodLink "DoorSchoolLaw" (250 : Nat) ({ cls := "DoorSchoolModel", name := "years", desc := "(IIII)I" } : Jvm.MethodName)), (Jvm.Cond.instanceMethod ({ cls := "DoorSchoolModel", name := "years", desc := "(IIII)I" } : Jvm.MethodName)), (Jvm.Cond.selects "DoorSchoolModel" ({ cls := "DoorSchoolModel", name := "years", desc := "(IIII)I" } : Jvm.MethodName) ({ cls := "DoorSchoolModel", name := "years", desc := "(IIII)I" } : Jvm.MethodName)), (Jvm.Cond.code ({ cls := "DoorSchoolModel", name := "years", desc := "(IIII)I" } : Jvm.MethodName) prog_13_method_143_code (7 : Nat) (Option.some Jvm.ClassFile.FieldType.int)), (Jvm.Cond.constantLong "DoorSchoolModel" (475 : Nat) (20 : Int64)), (Jvm.Cond.methodLink "DoorSchoolLaw" (254 : Nat) ({ cls := "DoorSchoolModel", name := "count", desc := "(I)I" } : Jvm.MethodName)), (Jvm.Cond.instanceMethod ({ cls := "DoorSchoolModel", name := "count", desc := "(I)I" } : Jvm.MethodName)), (Jvm.Cond.selects "DoorSchoolModel" ({ cls := "DoorSchoolModel", name := "count", desc := "(I)I" } : Jvm.MethodName) ({ cls := "DoorSchoolModel", name := "count", desc := "(I)I" } : Jvm.MethodName)), (Jvm.Cond.code ({ cls := "DoorSchoolModel", name := "count", desc := "(I)I" } : Jvm.MethodName) prog_13_method_144_code (4 : Nat) (Option.some Jvm.ClassFile.FieldType.int)), (Jvm.Cond.methodLink "DoorSchoolLaw" (266 : Nat) ({ cls := "DoorSchoolModel", name := "row", desc := "(III)I" } : Jvm.MethodName)), (Jvm.Cond.instanceMethod ({ cls := "DoorSchoolModel", name := "row", desc := "(III)I" } : Jvm.MethodName)), (Jvm.Cond.selects "DoorSchoolModel" ({ cls := "DoorSchoolModel", name := "row", desc := "(III)I" } : Jvm.MethodName) ({ cls := "DoorSchoolModel", name := "row", desc := "(III)I" } : Jvm.MethodName)), (Jvm.Cond.code ({ cls := "DoorSchoolModel", name := "row", desc := "(III)I" } : Jvm.MethodName) prog_13_method_147_code (5 : Nat) (Option.some Jvm.ClassFile.FieldType.int)), (Jvm.Cond.methodLink "DoorSchoolLaw" (273 : Nat) ({ cls := "DoorSchoolModel", name := "write", desc := "(IIJ)I" } : Jvm.MethodName))]
def bk_8_12 : List Cond := [(Jvm.Cond.instanceMethod ({ cls := "DoorSchoolModel", name := "write", desc := "(IIJ)I" } : Jvm.MethodName)), (Jvm.Cond.selects "DoorSchoolModel" ({ cls := "DoorSchoolModel", name := "write", desc := "(IIJ)I" } : Jvm.MethodName) ({ cls := "DoorSchoolModel", name := "write", desc := "(IIJ)I" } : Jvm.MethodName)), (Jvm.Cond.code ({ cls := "DoorSchoolModel", name := "write", desc := "(IIJ)I" } : Jvm.MethodName) prog_13_method_148_code (5 : Nat) (Option.some Jvm.ClassFile.FieldType.int)), (Jvm.Cond.methodLink "DoorSchoolModel" (477 : Nat) ({ cls := "DoorSchoolModel", name := "cut", desc := "(JI)J" } : Jvm.MethodName)), (Jvm.Cond.static ({ cls := "DoorSchoolModel", name := "cut", desc := "(JI)J" } : Jvm.MethodName)), (Jvm.Cond.code ({ cls := "DoorSchoolModel", name := "cut", desc := "(JI)J" } : Jvm.MethodName) prog_13_method_146_code (4 : Nat) (Option.some Jvm.ClassFile.FieldType.long)), (Jvm.Cond.methodLink "DoorSchoolLaw" (277 : Nat) ({ cls := "DoorSchoolModel", name := "paste", desc := "(IIIII)I" } : Jvm.MethodName)), (Jvm.Cond.instanceMethod ({ cls := "DoorSchoolModel", name := "paste", desc := "(IIIII)I" } : Jvm.MethodName)), (Jvm.Cond.selects "DoorSchoolModel" ({ cls := "DoorSchoolModel", name := "paste", desc := "(IIIII)I" } : Jvm.MethodName) ({ cls := "DoorSchoolModel", name := "paste", desc := "(IIIII)I" } : Jvm.MethodName)), (Jvm.Cond.code ({ cls := "DoorSchoolModel", name := "paste", desc := "(IIIII)I" } : Jvm.MethodName) prog_13_method_149_code (7 : Nat) (Option.some Jvm.ClassFile.FieldType.int)), (Jvm.Cond.constantLong "DoorSchoolLaw" (267 : Nat) (4294967295 : Int64)), (Jvm.Cond.fieldLink "java/lang/String" (9 : Nat) "java/lang/String" "value" "[B"), (Jvm.Cond.fieldLink "java/lang/String" (15 : Nat) "java/lang/String" "coder" "B")]
set_option maxRecDepth 20000 in
theorem ck_8 : chunk 8 = bk_8_0 ++ (bk_8_1 ++ (bk_8_2 ++ (bk_8_3 ++ (bk_8_4 ++ (bk_8_5 ++ (bk_8_6 ++ (bk_8_7 ++ (bk_8_8 ++ (bk_8_9 ++ (bk_8_10 ++ (bk_8_11 ++ (bk_8_12)))))))))))) := rfl
theorem bi_8_0 {w : Cond} (h : w ∈ bk_8_0) : w ∈ chunk 8 := by rw [ck_8]; exact List.mem_append_left _ h
theorem bi_8_1 {w : Cond} (h : w ∈ bk_8_1) : w ∈ chunk 8 := by rw [ck_8]; exact List.mem_append_right _ (List.mem_append_left _ h)
theorem bi_8_2 {w : Cond} (h : w ∈ bk_8_2) : w ∈ chunk 8 := by rw [ck_8]; exact List.mem_append_right _ (List.mem_append_right _ (List.mem_append_left _ h))
theorem bi_8_3 {w : Cond} (h : w ∈ bk_8_3) : w ∈ chunk 8 := by rw [ck_8]; exact List.mem_append_right _ (List.mem_append_right _ (List.mem_append_right _ (List.mem_append_left _ h)))
theorem bi_8_4 {w : Cond} (h : w ∈ bk_8_4) : w ∈ chunk 8 := by rw [ck_8]; exact List.mem_append_right _ (List.mem_append_right _ (List.mem_append_right _ (List.mem_append_right _ (List.mem_append_left _ h))))
theorem bi_8_5 {w : Cond} (h : w ∈ bk_8_5) : w ∈ chunk 8 := by rw [ck_8]; exact List.mem_append_right _ (List.mem_append_right _ (List.mem_append_right _ (List.mem_append_right _ (List.mem_append_right _ (List.mem_append_left _ h)))))
theorem bi_8_6 {w : Cond} (h : w ∈ bk_8_6) : w ∈ chunk 8 := by rw [ck_8]; exact List.mem_append_right _ (List.mem_append_right _ (List.mem_append_right _ (List.mem_append_right _ (List.mem_append_right _ (List.mem_append_right _ (List.mem_append_left _ h))))))
theorem bi_8_7 {w : Cond} (h : w ∈ bk_8_7) : w ∈ chunk 8 := by rw [ck_8]; exact List.mem_append_right _ (List.mem_append_right _ (List.mem_append_right _ (List.mem_append_right _ (List.mem_append_right _ (List.mem_append_right _ (List.mem_append_right _ (List.mem_append_left _ h)))))))
theorem bi_8_8 {w : Cond} (h : w ∈ bk_8_8) : w ∈ chunk 8 := by rw [ck_8]; exact List.mem_append_right _ (List.mem_append_right _ (List.mem_append_right _ (List.mem_append_right _ (List.mem_append_right _ (List.mem_append_right _ (List.mem_append_right _ (List.mem_append_right _ (List.mem_append_left _ h))))))))
theorem bi_8_9 {w : Cond} (h : w ∈ bk_8_9) : w ∈ chunk 8 := by rw [ck_8]; exact List.mem_append_right _ (List.mem_append_right _ (List.mem_append_right _ (List.mem_append_right _ (List.mem_append_right _ (List.mem_append_right _ (List.mem_append_right _ (List.mem_append_right _ (List.mem_append_right _ (List.mem_append_left _ h)))))))))
theorem bi_8_10 {w : Cond} (h : w ∈ bk_8_10) : w ∈ chunk 8 := by rw [ck_8]; exact List.mem_append_right _ (List.mem_append_right _ (List.mem_append_right _ (List.mem_append_right _ (List.mem_append_right _ (List.mem_append_right _ (List.mem_append_right _ (List.mem_append_right _ (List.mem_append_right _ (List.mem_append_right _ (List.mem_append_left _ h))))))))))
theorem bi_8_11 {w : Cond} (h : w ∈ bk_8_11) : w ∈ chunk 8 := by rw [ck_8]; exact List.mem_append_right _ (List.mem_append_right _ (List.mem_append_right _ (List.mem_append_right _ (List.mem_append_right _ (List.mem_append_right _ (List.mem_append_right _ (List.mem_append_right _ (List.mem_append_right _ (List.mem_append_right _ (List.mem_append_right _ (List.mem_append_left _ h)))))))))))
theorem bi_8_12 {w : Cond} (h : w ∈ bk_8_12) : w ∈ chunk 8 := by rw [ck_8]; exact List.mem_append_right _ (List.mem_append_right _ (List.mem_append_right _ (List.mem_append_right _ (List.mem_append_right _ (List.mem_append_right _ (List.mem_append_right _ (List.mem_append_right _ (List.mem_append_right _ (List.mem_append_right _ (List.mem_append_right _ (List.mem_append_right _ (h))))))))))))
end
/-! 05.pure -/
section
/-! the steps that read alone -/
abbrev AS : Type := Option (Nat × (Nat → Int32))
def jmp (t : Bool) (a b : Nat) (lv : ALv) (r : List Value) : Option (Nat × ALv × List Value) := match t with
  | true => some (a, lv, r)
  | false => some (b, lv, r)
theorem jmp_inv {t : Bool} {a b : Nat} {lv : ALv} {r : List Value} {x : Nat × ALv × List Value} (h : jmp t a b lv r = some x) : (t = true ∧ x = (a, lv, r)) ∨ (t = false ∧ x = (b, lv, r)) := by
  unfold jmp at h; split at h
  · cases h; exact Or.inl ⟨rfl, rfl⟩
  · cases h; exact Or.inr ⟨rfl, rfl⟩
def sV {α : Type} (st : List Value) (f : Value → List Value → Option α) : Option α := match st with
  | v :: r => f v r
  | _ => none
def sVV {α : Type} (st : List Value) (f : Value → Value → List Value → Option α) : Option α := match st with
  | v :: u :: r => f v u r
  | _ => none
theorem sV_inv {α : Type} {st : List Value} {f : Value → List Value → Option α} {a : α} (h : sV st f = some a) : ∃ v r, st = v :: r ∧ f v r = some a := by
  unfold sV at h; split at h
  · exact ⟨_, _, rfl, h⟩
  · cases h
theorem sVV_inv {α : Type} {st : List Value} {f : Value → Value → List Value → Option α} {a : α} (h : sVV st f = some a) : ∃ v u r, st = v :: u :: r ∧ f v u r = some a := by
  unfold sVV at h; split at h
  · exact ⟨_, _, _, rfl, h⟩
  · cases h
/-- a load out of a row -/
def ldR (scr : AS) (k ty1 ty2 : Nat) (st : List Value) (h : AH) : Option (Value × List Value) := match st with
  | .int j :: .ref a :: r => oB h[a]? (fun c => oC (c.1 == k && (c.2.1 == ty1 || c.2.1 == ty2) && decide (¬ j < 0)) (oB c.2.2[j.toNatClampNeg]? (fun v => some (v, r))))
  | .int j :: .retAddr 0 :: r => oB scr (fun q => oC (decide (¬ (j < 0 ∨ q.1 ≤ j.toNatClampNeg))) (some (.int (q.2 j.toNatClampNeg), r)))
  | _ => none
theorem ldR_inv {scr : AS} {k t1 t2 : Nat} {st : List Value} {h : AH} {x : Value × List Value} (hh : ldR scr k t1 t2 st h = some x) :
    (∃ a j c, st = .int j :: .ref a :: x.2 ∧ h[a]? = some c ∧ c.1 = k ∧ (c.2.1 = t1 ∨ c.2.1 = t2) ∧ ¬ j < 0 ∧ c.2.2[j.toNatClampNeg]? = some x.1) ∨ (∃ (_ : Nat) (j : Int32) (q : Nat × (Nat → Int32)), st = .int j :: .retAddr 0 :: x.2 ∧ scr = some q ∧ ¬ (j < 0 ∨ q.1 ≤ j.toNatClampNeg) ∧ x.1 = .int (q.2 j.toNatClampNeg)) := by
  unfold ldR at hh; split at hh
  · rename_i j a r
    obtain ⟨c, hc, h2⟩ := oB_inv hh
    obtain ⟨h3, h4⟩ := oC_inv h2
    obtain ⟨v, hv, h5⟩ := oB_inv h4
    cases h5
    simp only [Bool.and_eq_true, Bool.or_eq_true, beq_iff_eq, decide_eq_true_eq] at h3
    exact Or.inl ⟨a, j, c, rfl, hc, h3.1.1, h3.1.2, h3.2, hv⟩
  · rename_i j r
    obtain ⟨q, hq, h2⟩ := oB_inv hh
    obtain ⟨h3, h4⟩ := oC_inv h2
    cases h4
    exact Or.inr ⟨0, j, q, rfl, hq, of_decide_eq_true h3, rfl⟩
  · cases hh
def isI : Value → Bool
  | .int _ => true
  | _ => false
def isL : Value → Bool
  | .long _ => true
  | _ => false
def isR : Value → Bool
  | .ref _ => true
  | .null => true
  | _ => false
theorem isI_inv {v : Value} (h : isI v = true) : ∃ x, v = .int x := by cases v <;> first | exact ⟨_, rfl⟩ | cases h
theorem isL_inv {v : Value} (h : isL v = true) : ∃ x, v = .long x := by cases v <;> first | exact ⟨_, rfl⟩ | cases h
theorem isR_inv {v : Value} (h : isR v = true) : v = .null ∨ ∃ x, v = .ref x := by cases v <;> first | exact Or.inr ⟨_, rfl⟩ | exact Or.inl rfl | cases h
def alen (scr : AS) (h : AH) (v : Value) : Option Int32 := match v with
  | .ref a => oB h[a]? (fun c => oC ((c.1 == 1 || c.1 == 2 || c.1 == 3) && decide (c.2.1 < 7)) (some (Int32.ofNat c.2.2.length)))
  | .retAddr 0 => oB scr (fun q => some (Int32.ofNat q.1))
  | _ => none
def tsw (pc : Nat) (dflt lo hi : Int) (offs : Array Int) (x : Int32) : Option Nat :=
  if x.toInt < lo ∨ hi < x.toInt then oC (decide (0 ≤ (pc : Int) + dflt)) (some ((pc : Int) + dflt).toNat) else oB offs[(x.toInt - lo).toNat]? (fun o => oC (decide (0 ≤ (pc : Int) + o)) (some ((pc : Int) + o).toNat))

def stpP (F : MR) (scr : AS) (i : Instr) (tgt pc : Nat) (lv : ALv) (st : List Value) (h : AH) : Option (Nat × ALv × List Value) :=
  match i with
  | .iconst n => some (pc + 1, lv, .int (Int32.ofInt n) :: st)
  | .bipush n => some (pc + 2, lv, .int (Int8.ofInt n).toInt32 :: st)
  | .sipush n => some (pc + 3, lv, .int (Int16.ofInt n).toInt32 :: st)
  | .lconst n => some (pc + 1, lv, .long (Int64.ofNat (n : Nat)) :: st)
  | .iload_n k => oB (ldI lv (k : Nat)) (fun v => some (pc + 1, lv, v :: st))
  | .iload k => oB (ldI lv k) (fun v => some (pc + 2, lv, v :: st))
  | .lload_n k => oB (ldL lv (k : Nat)) (fun v => some (pc + 1, lv, v :: st))
  | .lload k => oB (ldL lv k) (fun v => some (pc + 2, lv, v :: st))
  | .aload_n k => oB (ldA lv (k : Nat)) (fun v => some (pc + 1, lv, v :: st))
  | .aload k => oB (ldA lv k) (fun v => some (pc + 2, lv, v :: st))
  | .istore_n k => sI st (fun x r => oC (decide ((k : Nat) < mml F)) (some (pc + 1, lvset1 lv (k : Nat) (.int x), r)))
  | .istore k => sI st (fun x r => oC (decide (k < mml F)) (some (pc + 2, lvset1 lv k (.int x), r)))
  | .lstore_n k => sL st (fun x r => oC (decide ((k : Nat) + 1 < mml F)) (some (pc + 1, lvset2 lv (k : Nat) (.long x), r)))
  | .lstore k => sL st (fun x r => oC (decide (k + 1 < mml F)) (some (pc + 2, lvset2 lv k (.long x), r)))
  | .astore_n k => sR st (fun x r => oC (decide ((k : Nat) < mml F)) (some (pc + 1, lvset1 lv (k : Nat) (.ref x), r)))
  | .astore k => sR st (fun x r => oC (decide (k < mml F)) (some (pc + 2, lvset1 lv k (.ref x), r)))
  | .iinc k n => oB (ldI lv k) (fun v => oC (decide (k < mml F)) (some (pc + 3, lvset1 lv k (.int (asI v + Int32.ofInt n)), st)))
  | .iadd => sII st (fun x y r => some (pc + 1, lv, .int (x + y) :: r))
  | .isub => sII st (fun x y r => some (pc + 1, lv, .int (x - y) :: r))
  | .imul => sII st (fun x y r => some (pc + 1, lv, .int (x * y) :: r))
  | .iand => sII st (fun x y r => some (pc + 1, lv, .int (x &&& y) :: r))
  | .ior => sII st (fun x y r => some (pc + 1, lv, .int (x ||| y) :: r))
  | .ixor => sII st (fun x y r => some (pc + 1, lv, .int (x ^^^ y) :: r))
  | .ishl => sII st (fun x y r => some (pc + 1, lv, .int (x <<< (y &&& 31)) :: r))
  | .ishr => sII st (fun x y r => some (pc + 1, lv, .int (x >>> (y &&& 31)) :: r))
  | .iushr => sII st (fun x y r => some (pc + 1, lv, .int ((x.toUInt32 >>> (y.toUInt32 &&& Int32.toUInt32 31)).toInt32) :: r))
  | .idiv => sII st (fun x y r => oC (decide (¬ y = 0)) (some (pc + 1, lv, .int (x / y) :: r)))
  | .irem => sII st (fun x y r => oC (decide (¬ y = 0)) (some (pc + 1, lv, .int (x - x / y * y) :: r)))
  | .ladd => sLL st (fun x y r => some (pc + 1, lv, .long (x + y) :: r))
  | .lsub => sLL st (fun x y r => some (pc + 1, lv, .long (x - y) :: r))
  | .lmul => sLL st (fun x y r => some (pc + 1, lv, .long (x * y) :: r))
  | .land => sLL st (fun x y r => some (pc + 1, lv, .long (x &&& y) :: r))
  | .lor => sLL st (fun x y r => some (pc + 1, lv, .long (x ||| y) :: r))
  | .lxor => sLL st (fun x y r => some (pc + 1, lv, .long (x ^^^ y) :: r))
  | .ldiv => sLL st (fun x y r => oC (decide (¬ y = 0)) (some (pc + 1, lv, .long (x / y) :: r)))
  | .lrem => sLL st (fun x y r => oC (decide (¬ y = 0)) (some (pc + 1, lv, .long (x - x / y * y) :: r)))
  | .lshl => sLI st (fun x y r => some (pc + 1, lv, .long (x <<< (y.toInt64 &&& 63)) :: r))
  | .lshr => sLI st (fun x y r => some (pc + 1, lv, .long (x >>> (y.toInt64 &&& 63)) :: r))
  | .ineg => sI st (fun x r => some (pc + 1, lv, .int (-x) :: r))
  | .i2l => sI st (fun x r => some (pc + 1, lv, .long x.toInt64 :: r))
  | .l2i => sL st (fun x r => some (pc + 1, lv, .int x.toInt32 :: r))
  | .i2b => sI st (fun x r => some (pc + 1, lv, .int x.toInt8.toInt32 :: r))
  | .lcmp => sLL st (fun x y r => some (pc + 1, lv, .int (lg_cmp x y) :: r))
  | .dup => sV st (fun v r => oC (v.category == 1) (some (pc + 1, lv, v :: v :: r)))
  | .dup2 => sVV st (fun v u r => oC (v.category == 1 && u.category == 1) (some (pc + 1, lv, v :: u :: v :: u :: r)))
  | .pop => sV st (fun v r => oC (v.category == 1) (some (pc + 1, lv, r)))
  | .goto _ => some (tgt, lv, st)
  | .if_icmp .eq _ => sII st (fun x y r => jmp (decide (x = y)) tgt (pc + 3) lv r)
  | .ifCond .eq _ => sI st (fun x r => jmp (decide (x = 0)) tgt (pc + 3) lv r)
  | .if_icmp .ne _ => sII st (fun x y r => jmp (decide (¬ x = y)) tgt (pc + 3) lv r)
  | .ifCond .ne _ => sI st (fun x r => jmp (decide (¬ x = 0)) tgt (pc + 3) lv r)
  | .if_icmp .lt _ => sII st (fun x y r => jmp (decide (x < y)) tgt (pc + 3) lv r)
  | .ifCond .lt _ => sI st (fun x r => jmp (decide (x < 0)) tgt (pc + 3) lv r)
  | .if_icmp .ge _ => sII st (fun x y r => jmp (decide (y ≤ x)) tgt (pc + 3) lv r)
  | .ifCond .ge _ => sI st (fun x r => jmp (decide (0 ≤ x)) tgt (pc + 3) lv r)
  | .if_icmp .gt _ => sII st (fun x y r => jmp (decide (y < x)) tgt (pc + 3) lv r)
  | .ifCond .gt _ => sI st (fun x r => jmp (decide (0 < x)) tgt (pc + 3) lv r)
  | .if_icmp .le _ => sII st (fun x y r => jmp (decide (x ≤ y)) tgt (pc + 3) lv r)
  | .ifCond .le _ => sI st (fun x r => jmp (decide (x ≤ 0)) tgt (pc + 3) lv r)
  | .tableswitch dflt lo hi offs => sI st (fun x r => oB (tsw pc dflt lo hi offs x) (fun t => some (t, lv, r)))
  | .lookupswitch dflt ps => sI st (fun x r => oC ((ps.toList.zip (ps.toList.drop 1)).all (fun (a, next) => a.1 < next.1) && decide (0 ≤ (pc : Int) + Op.lookupswitch.offset ps.toList dflt x.toInt)) (some (((pc : Int) + Op.lookupswitch.offset ps.toList dflt x.toInt).toNat, lv, r)))
  | .ldc k => oB (fnd (mki F) k) (fun q => some (pc + 2, lv, .int q.1 :: st))
  | .ldc_w k => oB (fnd (mki F) k) (fun q => some (pc + 3, lv, .int q.1 :: st))
  | .ldc2_w k => oB (fnd (mkl F) k) (fun q => some (pc + 3, lv, .long q.1 :: st))
  | .getfield k => sR st (fun a r => oB (fnd (mfl F) k) (fun e => oB h[a]? (fun c => oC (c.1 == 0 && c.2.1 == e.1) (oB c.2.2[e.2.1]? (fun v => some (pc + 3, lv, v :: r))))))
  | .iaload => oB (ldR scr 1 0 0 st h) (fun q => oC (isI q.1) (some (pc + 1, lv, q.1 :: q.2)))
  | .baload => oB (ldR none 1 2 3 st h) (fun q => oC (isI q.1) (some (pc + 1, lv, q.1 :: q.2)))
  | .laload => oB (ldR none 2 1 1 st h) (fun q => oC (isL q.1) (some (pc + 1, lv, q.1 :: q.2)))
  | .aaload => sRI st (fun a j r => oB h[a]? (fun c => oC (c.1 == 3 && (c.2.1 == 4 || c.2.1 == 5 || c.2.1 == 6) && decide (¬ j < 0)) (oB c.2.2[j.toNatClampNeg]? (fun v => oC (isR v) (some (pc + 1, lv, v :: r))))))
  | .arraylength => sV st (fun v r => oB (alen scr h v) (fun x => some (pc + 1, lv, .int x :: r)))
  | _ => none
/-- the cells outside: the literals, and two statics of the library -/
def KS (b : Nat → Nat) (base : Nat) (s : State) : Prop := vk_S NSTR LENS BYT (fun i => b (2 * i + 1)) (fun i => b (2 * i + 2)) (fun q => base ≤ q) s s.heap ∧ (∀ t ∈ STRTAB, vk_R t.1 t.2.1 (TXT.getD t.2.2 "") (b (2 * t.2.2 + 1)) s) ∧ va_Z "java/lang/String" "COMPACT_STRINGS" "Z" (.int 1) (fun q => base ≤ q) s s.heap ∧ va_Z "jdk/internal/util/Preconditions" "SIOOBE_FORMATTER" "Ljava/util/function/BiFunction;" (fV b) (fun q => base ≤ q) s s.heap
theorem KS_to {b : Nat → Nat} {base : Nat} {s U : State} {locs : List Loc} (h : KS b base s) (hW : s.WarmedH U.vm) (hS : va_S (fun q => base ≤ q) s.heap U.heap locs) : KS b base U :=
  ⟨(vk_S.moved hW.alike h.1).kept hS.2.1, fun t ht => vk_R.warm hW (h.2.1 t ht), (va_Z.moved hW.alike h.2.2.1).kept hS.2.1, (va_Z.moved hW.alike h.2.2.2).kept hS.2.1⟩
theorem KS_call {b : Nat → Nat} {base : Nat} {U : State} {g : JFrame} {mk : MethodId} {a : Array Value} (h : KS b base U) : KS b base (U.calling g mk a) :=
  ⟨vk_S.moved (u := U) (U := U.calling g mk a) (Vm.Alike.refl U.vm) h.1, fun t ht => vk_R.same (u := U) (U := U.calling g mk a) rfl (h.2.1 t ht), va_Z.moved (u := U) (U := U.calling g mk a) (Vm.Alike.refl U.vm) h.2.2.1, va_Z.moved (u := U) (U := U.calling g mk a) (Vm.Alike.refl U.vm) h.2.2.2⟩
def SC (scr : AS) (b : Nat → Nat) (base : Nat) (s : State) : Prop := (∀ q, scr = some q → va_X (b 0) q.1 q.2 s s.heap ∧ b 0 < s.heap.size ∧ b 0 < base) ∧ KS b base s
set_option maxHeartbeats 4000000 in
set_option maxRecDepth 100000 in
theorem stpP_ok {MT : Nat → Option MR} {p : Program} {l : Launch} {e : Env} {R : Room} {s : State} {m : MethodId} {args : Array Value} {below : List Frame} {meth : Method} {c : Code} {H : Heap} {locs : List Loc} {cells slots : Nat} {Q : State → Prop} {F : MR} {scr : AS} {i : Instr} {len tgt pc pc' : Nat} {lv lv' : ALv} {st st' : List Value} {h : AH} {D : va_G} {tyc : Nat → ClassId} {b : Nat → Nat} {base : Nat} {ls : Array Slot}
    (hF : FOK MT F) (C : Ctx p s m args meth c F) (hK : va_K D vwCl (TYS tyc) s) (hW : Wd D tyc b base h H) (hS : va_S (fun q => base ≤ q) s.heap H locs) (hl : lv_has ls (mml F) (gL b base lv)) (hsc : SC scr b base s)
    (hf : fc F pc = some (i, len, tgt)) (hst : stpP F scr i tgt pc lv st h = some (pc', lv', st'))
    (k : ∀ ls', lv_has ls' (mml F) (gL b base lv') → W p l e R s m args below meth c H locs cells slots Q (F0 m pc' ls' (st'.map (gV b base)))) :
    W p l e R s m args below meth c H locs cells slots Q (F0 m pc ls (st.map (gV b base))) := by
  obtain ⟨hx, hb, hr, hml, hown, hlocks, hts, hin0, hal⟩ := C
  obtain ⟨hD, hlen, hoff⟩ := hF.1 _ (fc_mem hf)
  dsimp only at hD hlen hoff
  have hd : ∀ n, ilen i = n → n ≠ 0 → decode (mcc F) pc = .ok (i, n) := by
    intro n h1 h2
    rcases hlen with h3 | h3
    · omega
    · rw [← h1, h3]; exact hD
  cases i with
  | iconst n =>
    change some (_, _, _) = some _ at hst
    have h2 := hst
    simp only [Option.some.injEq, Prod.mk.injEq] at h2
    obtain ⟨rfl, rfl, rfl⟩ := h2
    exact lv_iconst hx hb (hd 1 rfl (by decide)) rfl (k ls hl)
  | bipush n =>
    change some (_, _, _) = some _ at hst
    have h2 := hst
    simp only [Option.some.injEq, Prod.mk.injEq] at h2
    obtain ⟨rfl, rfl, rfl⟩ := h2
    exact lv_bipush hx hb (hd 2 rfl (by decide)) rfl (k ls hl)
  | sipush n =>
    change some (_, _, _) = some _ at hst
    have h2 := hst
    simp only [Option.some.injEq, Prod.mk.injEq] at h2
    obtain ⟨rfl, rfl, rfl⟩ := h2
    exact lv_sipush hx hb (hd 3 rfl (by decide)) rfl (k ls hl)
  | lconst n =>
    change some (_, _, _) = some _ at hst
    have h2 := hst
    simp only [Option.some.injEq, Prod.mk.injEq] at h2
    obtain ⟨rfl, rfl, rfl⟩ := h2
    exact lv_lconst hx hb (hd 1 rfl (by decide)) rfl (k ls hl)
  | iload_n z =>
    change oB _ _ = some _ at hst
    obtain ⟨v, hv, h2⟩ := oB_inv hst
    obtain ⟨x, rfl, hx2⟩ := ldI_inv hv
    simp only [Option.some.injEq, Prod.mk.injEq] at h2
    obtain ⟨rfl, rfl, rfl⟩ := h2
    exact lv_iload_n hx hb (hd 1 rfl (by decide)) rfl (lvA hl hx2) (k ls hl)
  | iload z =>
    change oB _ _ = some _ at hst
    obtain ⟨v, hv, h2⟩ := oB_inv hst
    obtain ⟨x, rfl, hx2⟩ := ldI_inv hv
    simp only [Option.some.injEq, Prod.mk.injEq] at h2
    obtain ⟨rfl, rfl, rfl⟩ := h2
    exact lv_iload hx hb (hd 2 rfl (by decide)) (lvA hl hx2) (k ls hl)
  | lload_n z =>
    change oB _ _ = some _ at hst
    obtain ⟨v, hv, h2⟩ := oB_inv hst
    obtain ⟨x, rfl, hx2⟩ := ldL_inv hv
    simp only [Option.some.injEq, Prod.mk.injEq] at h2
    obtain ⟨rfl, rfl, rfl⟩ := h2
    exact lv_lload_n hx hb (hd 1 rfl (by decide)) rfl (lvA hl hx2) (k ls hl)
  | lload z =>
    change oB _ _ = some _ at hst
    obtain ⟨v, hv, h2⟩ := oB_inv hst
    obtain ⟨x, rfl, hx2⟩ := ldL_inv hv
    simp only [Option.some.injEq, Prod.mk.injEq] at h2
    obtain ⟨rfl, rfl, rfl⟩ := h2
    exact lv_lload hx hb (hd 2 rfl (by decide)) (lvA hl hx2) (k ls hl)
  | aload_n z =>
    change oB _ _ = some _ at hst
    obtain ⟨v, hv, h2⟩ := oB_inv hst
    obtain ⟨hv3, hx2⟩ := ldA_inv hv
    simp only [Option.some.injEq, Prod.mk.injEq] at h2
    obtain ⟨rfl, rfl, rfl⟩ := h2
    rcases hv3 with rfl | ⟨x, rfl⟩ | ⟨x, rfl⟩
    · exact lv_aload_nN hx hb (hd 1 rfl (by decide)) rfl (lvA hl hx2) (k ls hl)
    · exact lv_aload_n hx hb (hd 1 rfl (by decide)) rfl (lvA hl hx2) (k ls hl)
    · exact lv_aload_n hx hb (hd 1 rfl (by decide)) rfl (lvA hl hx2) (k ls hl)
  | aload z =>
    change oB _ _ = some _ at hst
    obtain ⟨v, hv, h2⟩ := oB_inv hst
    obtain ⟨hv3, hx2⟩ := ldA_inv hv
    simp only [Option.some.injEq, Prod.mk.injEq] at h2
    obtain ⟨rfl, rfl, rfl⟩ := h2
    rcases hv3 with rfl | ⟨x, rfl⟩ | ⟨x, rfl⟩
    · exact lv_aloadN hx hb (hd 2 rfl (by decide)) (lvA hl hx2) (k ls hl)
    · exact lv_aload hx hb (hd 2 rfl (by decide)) (lvA hl hx2) (k ls hl)
    · exact lv_aload hx hb (hd 2 rfl (by decide)) (lvA hl hx2) (k ls hl)
  | istore_n z =>
    change sI _ _ = some _ at hst
    obtain ⟨x, r, rfl, h1⟩ := sI_inv hst
    obtain ⟨h3, h2⟩ := oC_inv h1
    simp only [Option.some.injEq, Prod.mk.injEq] at h2
    obtain ⟨rfl, rfl, rfl⟩ := h2
    exact lv_istore_n hx hb (hd 1 rfl (by decide)) rfl hl (of_decide_eq_true h3) (gL_set1 b base lv _ (.int x)) (fun ls2 hl2 => k ls2 hl2)
  | istore z =>
    change sI _ _ = some _ at hst
    obtain ⟨x, r, rfl, h1⟩ := sI_inv hst
    obtain ⟨h3, h2⟩ := oC_inv h1
    simp only [Option.some.injEq, Prod.mk.injEq] at h2
    obtain ⟨rfl, rfl, rfl⟩ := h2
    exact lv_istore hx hb (hd 2 rfl (by decide)) hl (of_decide_eq_true h3) (gL_set1 b base lv _ (.int x)) (fun ls2 hl2 => k ls2 hl2)
  | lstore_n z =>
    change sL _ _ = some _ at hst
    obtain ⟨x, r, rfl, h1⟩ := sL_inv hst
    obtain ⟨h3, h2⟩ := oC_inv h1
    simp only [Option.some.injEq, Prod.mk.injEq] at h2
    obtain ⟨rfl, rfl, rfl⟩ := h2
    exact lv_lstore_n hx hb (hd 1 rfl (by decide)) rfl hl (of_decide_eq_true h3) (gL_set2 b base lv _ (.long x)) (fun ls2 hl2 => k ls2 hl2)
  | lstore z =>
    change sL _ _ = some _ at hst
    obtain ⟨x, r, rfl, h1⟩ := sL_inv hst
    obtain ⟨h3, h2⟩ := oC_inv h1
    simp only [Option.some.injEq, Prod.mk.injEq] at h2
    obtain ⟨rfl, rfl, rfl⟩ := h2
    exact lv_lstore hx hb (hd 2 rfl (by decide)) hl (of_decide_eq_true h3) (gL_set2 b base lv _ (.long x)) (fun ls2 hl2 => k ls2 hl2)
  | astore_n z =>
    change sR _ _ = some _ at hst
    obtain ⟨x, r, rfl, h1⟩ := sR_inv hst
    obtain ⟨h3, h2⟩ := oC_inv h1
    simp only [Option.some.injEq, Prod.mk.injEq] at h2
    obtain ⟨rfl, rfl, rfl⟩ := h2
    exact lv_astore_n hx hb (hd 1 rfl (by decide)) rfl hl (of_decide_eq_true h3) (gL_set1 b base lv _ (.ref x)) (fun ls2 hl2 => k ls2 hl2)
  | astore z =>
    change sR _ _ = some _ at hst
    obtain ⟨x, r, rfl, h1⟩ := sR_inv hst
    obtain ⟨h3, h2⟩ := oC_inv h1
    simp only [Option.some.injEq, Prod.mk.injEq] at h2
    obtain ⟨rfl, rfl, rfl⟩ := h2
    exact lv_astore hx hb (hd 2 rfl (by decide)) hl (of_decide_eq_true h3) (gL_set1 b base lv _ (.ref x)) (fun ls2 hl2 => k ls2 hl2)
  | iinc z n =>
    change oB _ _ = some _ at hst
    obtain ⟨v, hv, h1⟩ := oB_inv hst
    obtain ⟨x, rfl, hx2⟩ := ldI_inv hv
    obtain ⟨h3, h2⟩ := oC_inv h1
    simp only [Option.some.injEq, Prod.mk.injEq] at h2
    obtain ⟨rfl, rfl, rfl⟩ := h2
    obtain ⟨j, hj⟩ := List.getElem?_of_mem (List.mem_map.mpr ⟨(z, .int x), fnd_mem hx2, rfl⟩ : (z, gV b base (.int x)) ∈ gL b base lv)
    exact lv_iinc hx hb (hd 3 rfl (by decide)) hl hj rfl (of_decide_eq_true h3) (gL_set1 b base lv _ (.int (x + Int32.ofInt n))) (fun ls2 hl2 => k ls2 hl2)
  | iadd =>
    change sII _ _ = some _ at hst
    obtain ⟨x, y, r, rfl, h1⟩ := sII_inv hst
    have h2 := h1
    simp only [Option.some.injEq, Prod.mk.injEq] at h2
    obtain ⟨rfl, rfl, rfl⟩ := h2
    exact lv_iadd hx hb (hd 1 rfl (by decide)) (k ls hl)
  | isub =>
    change sII _ _ = some _ at hst
    obtain ⟨x, y, r, rfl, h1⟩ := sII_inv hst
    have h2 := h1
    simp only [Option.some.injEq, Prod.mk.injEq] at h2
    obtain ⟨rfl, rfl, rfl⟩ := h2
    exact lv_isub hx hb (hd 1 rfl (by decide)) (k ls hl)
  | imul =>
    change sII _ _ = some _ at hst
    obtain ⟨x, y, r, rfl, h1⟩ := sII_inv hst
    have h2 := h1
    simp only [Option.some.injEq, Prod.mk.injEq] at h2
    obtain ⟨rfl, rfl, rfl⟩ := h2
    exact lv_imul hx hb (hd 1 rfl (by decide)) (k ls hl)
  | iand =>
    change sII _ _ = some _ at hst
    obtain ⟨x, y, r, rfl, h1⟩ := sII_inv hst
    have h2 := h1
    simp only [Option.some.injEq, Prod.mk.injEq] at h2
    obtain ⟨rfl, rfl, rfl⟩ := h2
    exact lv_iand hx hb (hd 1 rfl (by decide)) (k ls hl)
  | ior =>
    change sII _ _ = some _ at hst
    obtain ⟨x, y, r, rfl, h1⟩ := sII_inv hst
    have h2 := h1
    simp only [Option.some.injEq, Prod.mk.injEq] at h2
    obtain ⟨rfl, rfl, rfl⟩ := h2
    exact lv_ior hx hb (hd 1 rfl (by decide)) (k ls hl)
  | ixor =>
    change sII _ _ = some _ at hst
    obtain ⟨x, y, r, rfl, h1⟩ := sII_inv hst
    have h2 := h1
    simp only [Option.some.injEq, Prod.mk.injEq] at h2
    obtain ⟨rfl, rfl, rfl⟩ := h2
    exact lv_ixor hx hb (hd 1 rfl (by decide)) (k ls hl)
  | ishl =>
    change sII _ _ = some _ at hst
    obtain ⟨x, y, r, rfl, h1⟩ := sII_inv hst
    have h2 := h1
    simp only [Option.some.injEq, Prod.mk.injEq] at h2
    obtain ⟨rfl, rfl, rfl⟩ := h2
    exact lv_ishl hx hb (hd 1 rfl (by decide)) (k ls hl)
  | ishr =>
    change sII _ _ = some _ at hst
    obtain ⟨x, y, r, rfl, h1⟩ := sII_inv hst
    have h2 := h1
    simp only [Option.some.injEq, Prod.mk.injEq] at h2
    obtain ⟨rfl, rfl, rfl⟩ := h2
    exact lv_ishr hx hb (hd 1 rfl (by decide)) (k ls hl)
  | iushr =>
    change sII _ _ = some _ at hst
    obtain ⟨x, y, r, rfl, h1⟩ := sII_inv hst
    have h2 := h1
    simp only [Option.some.injEq, Prod.mk.injEq] at h2
    obtain ⟨rfl, rfl, rfl⟩ := h2
    exact lv_iushr hx hb (hd 1 rfl (by decide)) rfl (k ls hl)
  | idiv =>
    change sII _ _ = some _ at hst
    obtain ⟨x, y, r, rfl, h1⟩ := sII_inv hst
    obtain ⟨h3, h2⟩ := oC_inv h1
    simp only [Option.some.injEq, Prod.mk.injEq] at h2
    obtain ⟨rfl, rfl, rfl⟩ := h2
    exact lv_idiv hx hb (hd 1 rfl (by decide)) (of_decide_eq_true h3) (k ls hl)
  | irem =>
    change sII _ _ = some _ at hst
    obtain ⟨x, y, r, rfl, h1⟩ := sII_inv hst
    obtain ⟨h3, h2⟩ := oC_inv h1
    simp only [Option.some.injEq, Prod.mk.injEq] at h2
    obtain ⟨rfl, rfl, rfl⟩ := h2
    exact lv_irem hx hb (hd 1 rfl (by decide)) (of_decide_eq_true h3) (k ls hl)
  | ladd =>
    change sLL _ _ = some _ at hst
    obtain ⟨x, y, r, rfl, h1⟩ := sLL_inv hst
    have h2 := h1
    simp only [Option.some.injEq, Prod.mk.injEq] at h2
    obtain ⟨rfl, rfl, rfl⟩ := h2
    exact lv_ladd hx hb (hd 1 rfl (by decide)) (k ls hl)
  | lsub =>
    change sLL _ _ = some _ at hst
    obtain ⟨x, y, r, rfl, h1⟩ := sLL_inv hst
    have h2 := h1
    simp only [Option.some.injEq, Prod.mk.injEq] at h2
    obtain ⟨rfl, rfl, rfl⟩ := h2
    exact lv_lsub hx hb (hd 1 rfl (by decide)) (k ls hl)
  | lmul =>
    change sLL _ _ = some _ at hst
    obtain ⟨x, y, r, rfl, h1⟩ := sLL_inv hst
    have h2 := h1
    simp only [Option.some.injEq, Prod.mk.injEq] at h2
    obtain ⟨rfl, rfl, rfl⟩ := h2
    exact lv_lmul hx hb (hd 1 rfl (by decide)) (k ls hl)
  | land =>
    change sLL _ _ = some _ at hst
    obtain ⟨x, y, r, rfl, h1⟩ := sLL_inv hst
    have h2 := h1
    simp only [Option.some.injEq, Prod.mk.injEq] at h2
    obtain ⟨rfl, rfl, rfl⟩ := h2
    exact lv_land hx hb (hd 1 rfl (by decide)) (k ls hl)
  | lor =>
    change sLL _ _ = some _ at hst
    obtain ⟨x, y, r, rfl, h1⟩ := sLL_inv hst
    have h2 := h1
    simp only [Option.some.injEq, Prod.mk.injEq] at h2
    obtain ⟨rfl, rfl, rfl⟩ := h2
    exact lv_lor hx hb (hd 1 rfl (by decide)) (k ls hl)
  | lxor =>
    change sLL _ _ = some _ at hst
    obtain ⟨x, y, r, rfl, h1⟩ := sLL_inv hst
    have h2 := h1
    simp only [Option.some.injEq, Prod.mk.injEq] at h2
    obtain ⟨rfl, rfl, rfl⟩ := h2
    exact lv_lxor hx hb (hd 1 rfl (by decide)) (k ls hl)
  | ldiv =>
    change sLL _ _ = some _ at hst
    obtain ⟨x, y, r, rfl, h1⟩ := sLL_inv hst
    obtain ⟨h3, h2⟩ := oC_inv h1
    simp only [Option.some.injEq, Prod.mk.injEq] at h2
    obtain ⟨rfl, rfl, rfl⟩ := h2
    exact lv_ldiv hx hb (hd 1 rfl (by decide)) (of_decide_eq_true h3) (k ls hl)
  | lrem =>
    change sLL _ _ = some _ at hst
    obtain ⟨x, y, r, rfl, h1⟩ := sLL_inv hst
    obtain ⟨h3, h2⟩ := oC_inv h1
    simp only [Option.some.injEq, Prod.mk.injEq] at h2
    obtain ⟨rfl, rfl, rfl⟩ := h2
    exact lv_lrem hx hb (hd 1 rfl (by decide)) (of_decide_eq_true h3) (k ls hl)
  | lshl =>
    change sLI _ _ = some _ at hst
    obtain ⟨x, y, r, rfl, h1⟩ := sLI_inv hst
    have h2 := h1
    simp only [Option.some.injEq, Prod.mk.injEq] at h2
    obtain ⟨rfl, rfl, rfl⟩ := h2
    exact lv_lshl hx hb (hd 1 rfl (by decide)) rfl (k ls hl)
  | lshr =>
    change sLI _ _ = some _ at hst
    obtain ⟨x, y, r, rfl, h1⟩ := sLI_inv hst
    have h2 := h1
    simp only [Option.some.injEq, Prod.mk.injEq] at h2
    obtain ⟨rfl, rfl, rfl⟩ := h2
    exact lv_lshr hx hb (hd 1 rfl (by decide)) rfl (k ls hl)
  | ineg =>
    change sI _ _ = some _ at hst
    obtain ⟨x, r, rfl, h2⟩ := sI_inv hst
    simp only [Option.some.injEq, Prod.mk.injEq] at h2
    obtain ⟨rfl, rfl, rfl⟩ := h2
    exact lv_ineg hx hb (hd 1 rfl (by decide)) (k ls hl)
  | i2l =>
    change sI _ _ = some _ at hst
    obtain ⟨x, r, rfl, h2⟩ := sI_inv hst
    simp only [Option.some.injEq, Prod.mk.injEq] at h2
    obtain ⟨rfl, rfl, rfl⟩ := h2
    exact lv_i2l hx hb (hd 1 rfl (by decide)) rfl (k ls hl)
  | l2i =>
    change sL _ _ = some _ at hst
    obtain ⟨x, r, rfl, h2⟩ := sL_inv hst
    simp only [Option.some.injEq, Prod.mk.injEq] at h2
    obtain ⟨rfl, rfl, rfl⟩ := h2
    exact lv_l2i hx hb (hd 1 rfl (by decide)) rfl (k ls hl)
  | i2b =>
    change sI _ _ = some _ at hst
    obtain ⟨x, r, rfl, h2⟩ := sI_inv hst
    simp only [Option.some.injEq, Prod.mk.injEq] at h2
    obtain ⟨rfl, rfl, rfl⟩ := h2
    exact lv_i2b hx hb (hd 1 rfl (by decide)) rfl (k ls hl)
  | lcmp =>
    change sLL _ _ = some _ at hst
    obtain ⟨x, y, r, rfl, h2⟩ := sLL_inv hst
    simp only [Option.some.injEq, Prod.mk.injEq] at h2
    obtain ⟨rfl, rfl, rfl⟩ := h2
    exact W.lcmp hx hb (hd 1 rfl (by decide)) (k ls hl)
  | dup =>
    change sV _ _ = some _ at hst
    obtain ⟨v, r, rfl, h1⟩ := sV_inv hst
    obtain ⟨h3, h2⟩ := oC_inv h1
    simp only [Option.some.injEq, Prod.mk.injEq] at h2
    obtain ⟨rfl, rfl, rfl⟩ := h2
    exact lv_dup hx hb (hd 1 rfl (by decide)) ((gV_cat b base v).trans (eq_of_beq h3)) (k ls hl)
  | dup2 =>
    change sVV _ _ = some _ at hst
    obtain ⟨v, u, r, rfl, h1⟩ := sVV_inv hst
    obtain ⟨h3, h2⟩ := oC_inv h1
    simp only [Option.some.injEq, Prod.mk.injEq] at h2
    obtain ⟨rfl, rfl, rfl⟩ := h2
    rw [Bool.and_eq_true] at h3
    exact lv_dup2_11 hx hb (hd 1 rfl (by decide)) ((gV_cat b base v).trans (eq_of_beq h3.1)) ((gV_cat b base u).trans (eq_of_beq h3.2)) (k ls hl)
  | pop =>
    change sV _ _ = some _ at hst
    obtain ⟨v, r, rfl, h1⟩ := sV_inv hst
    obtain ⟨h3, h2⟩ := oC_inv h1
    simp only [Option.some.injEq, Prod.mk.injEq] at h2
    obtain ⟨rfl, rfl, rfl⟩ := h2
    exact lv_pop hx hb (hd 1 rfl (by decide)) ((gV_cat b base v).trans (eq_of_beq h3)) (k ls hl)
  | goto off =>
    change some (_, _, _) = some _ at hst
    have h2 := hst
    simp only [Option.some.injEq, Prod.mk.injEq] at h2
    obtain ⟨rfl, rfl, rfl⟩ := h2
    exact lv_goto hx hb (hd 3 rfl (by decide)) (hoff _ rfl) (k ls hl)
  | if_icmp cd off =>
    cases cd with
    | eq =>
      change sII _ _ = some _ at hst
      obtain ⟨x, y, r, rfl, h2⟩ := sII_inv hst
      rcases jmp_inv h2 with ⟨ht, hz⟩ | ⟨ht, hz⟩
      · cases hz; exact lv_icmp_eq hx hb (hd 3 rfl (by decide)) (hoff _ rfl) (fun _ => k ls hl) (fun z => absurd (of_decide_eq_true ht) z)
      · cases hz; exact lv_icmp_eq hx hb (hd 3 rfl (by decide)) (hoff _ rfl) (fun z => absurd z (of_decide_eq_false ht)) (fun _ => k ls hl)
    | ne =>
      change sII _ _ = some _ at hst
      obtain ⟨x, y, r, rfl, h2⟩ := sII_inv hst
      rcases jmp_inv h2 with ⟨ht, hz⟩ | ⟨ht, hz⟩
      · cases hz; exact lv_icmp_ne hx hb (hd 3 rfl (by decide)) (hoff _ rfl) (fun _ => k ls hl) (fun z => absurd z (of_decide_eq_true ht))
      · cases hz; exact lv_icmp_ne hx hb (hd 3 rfl (by decide)) (hoff _ rfl) (fun z => absurd z (of_decide_eq_false ht)) (fun _ => k ls hl)
    | lt =>
      change sII _ _ = some _ at hst
      obtain ⟨x, y, r, rfl, h2⟩ := sII_inv hst
      rcases jmp_inv h2 with ⟨ht, hz⟩ | ⟨ht, hz⟩
      · cases hz; exact lv_icmp_lt hx hb (hd 3 rfl (by decide)) (hoff _ rfl) (fun _ => k ls hl) (fun z => absurd (of_decide_eq_true ht) z)
      · cases hz; exact lv_icmp_lt hx hb (hd 3 rfl (by decide)) (hoff _ rfl) (fun z => absurd z (of_decide_eq_false ht)) (fun _ => k ls hl)
    | ge =>
      change sII _ _ = some _ at hst
      obtain ⟨x, y, r, rfl, h2⟩ := sII_inv hst
      rcases jmp_inv h2 with ⟨ht, hz⟩ | ⟨ht, hz⟩
      · cases hz; exact lv_icmp_ge hx hb (hd 3 rfl (by decide)) (hoff _ rfl) (fun _ => k ls hl) (fun z => absurd (of_decide_eq_true ht) z)
      · cases hz; exact lv_icmp_ge hx hb (hd 3 rfl (by decide)) (hoff _ rfl) (fun z => absurd z (of_decide_eq_false ht)) (fun _ => k ls hl)
    | gt =>
      change sII _ _ = some _ at hst
      obtain ⟨x, y, r, rfl, h2⟩ := sII_inv hst
      rcases jmp_inv h2 with ⟨ht, hz⟩ | ⟨ht, hz⟩
      · cases hz; exact lv_icmp_gt hx hb (hd 3 rfl (by decide)) (hoff _ rfl) (fun _ => k ls hl) (fun z => absurd (of_decide_eq_true ht) z)
      · cases hz; exact lv_icmp_gt hx hb (hd 3 rfl (by decide)) (hoff _ rfl) (fun z => absurd z (of_decide_eq_false ht)) (fun _ => k ls hl)
    | le =>
      change sII _ _ = some _ at hst
      obtain ⟨x, y, r, rfl, h2⟩ := sII_inv hst
      rcases jmp_inv h2 with ⟨ht, hz⟩ | ⟨ht, hz⟩
      · cases hz; exact lv_icmp_le hx hb (hd 3 rfl (by decide)) (hoff _ rfl) (fun _ => k ls hl) (fun z => absurd (of_decide_eq_true ht) z)
      · cases hz; exact lv_icmp_le hx hb (hd 3 rfl (by decide)) (hoff _ rfl) (fun z => absurd z (of_decide_eq_false ht)) (fun _ => k ls hl)
  | ifCond cd off =>
    cases cd with
    | eq =>
      change sI _ _ = some _ at hst
      obtain ⟨x, r, rfl, h2⟩ := sI_inv hst
      rcases jmp_inv h2 with ⟨ht, hz⟩ | ⟨ht, hz⟩
      · cases hz; exact lv_if_eq hx hb (hd 3 rfl (by decide)) (hoff _ rfl) (fun _ => k ls hl) (fun z => absurd (of_decide_eq_true ht) z)
      · cases hz; exact lv_if_eq hx hb (hd 3 rfl (by decide)) (hoff _ rfl) (fun z => absurd z (of_decide_eq_false ht)) (fun _ => k ls hl)
    | ne =>
      change sI _ _ = some _ at hst
      obtain ⟨x, r, rfl, h2⟩ := sI_inv hst
      rcases jmp_inv h2 with ⟨ht, hz⟩ | ⟨ht, hz⟩
      · cases hz; exact lv_if_ne hx hb (hd 3 rfl (by decide)) (hoff _ rfl) (fun _ => k ls hl) (fun z => absurd z (of_decide_eq_true ht))
      · cases hz; exact lv_if_ne hx hb (hd 3 rfl (by decide)) (hoff _ rfl) (fun z => absurd z (of_decide_eq_false ht)) (fun _ => k ls hl)
    | lt =>
      change sI _ _ = some _ at hst
      obtain ⟨x, r, rfl, h2⟩ := sI_inv hst
      rcases jmp_inv h2 with ⟨ht, hz⟩ | ⟨ht, hz⟩
      · cases hz; exact lv_if_lt hx hb (hd 3 rfl (by decide)) (hoff _ rfl) (fun _ => k ls hl) (fun z => absurd (of_decide_eq_true ht) z)
      · cases hz; exact lv_if_lt hx hb (hd 3 rfl (by decide)) (hoff _ rfl) (fun z => absurd z (of_decide_eq_false ht)) (fun _ => k ls hl)
    | ge =>
      change sI _ _ = some _ at hst
      obtain ⟨x, r, rfl, h2⟩ := sI_inv hst
      rcases jmp_inv h2 with ⟨ht, hz⟩ | ⟨ht, hz⟩
      · cases hz; exact lv_if_ge hx hb (hd 3 rfl (by decide)) (hoff _ rfl) (fun _ => k ls hl) (fun z => absurd (of_decide_eq_true ht) z)
      · cases hz; exact lv_if_ge hx hb (hd 3 rfl (by decide)) (hoff _ rfl) (fun z => absurd z (of_decide_eq_false ht)) (fun _ => k ls hl)
    | gt =>
      change sI _ _ = some _ at hst
      obtain ⟨x, r, rfl, h2⟩ := sI_inv hst
      rcases jmp_inv h2 with ⟨ht, hz⟩ | ⟨ht, hz⟩
      · cases hz; exact lv_if_gt hx hb (hd 3 rfl (by decide)) (hoff _ rfl) (fun _ => k ls hl) (fun z => absurd (of_decide_eq_true ht) z)
      · cases hz; exact lv_if_gt hx hb (hd 3 rfl (by decide)) (hoff _ rfl) (fun z => absurd z (of_decide_eq_false ht)) (fun _ => k ls hl)
    | le =>
      change sI _ _ = some _ at hst
      obtain ⟨x, r, rfl, h2⟩ := sI_inv hst
      rcases jmp_inv h2 with ⟨ht, hz⟩ | ⟨ht, hz⟩
      · cases hz; exact lv_if_le hx hb (hd 3 rfl (by decide)) (hoff _ rfl) (fun _ => k ls hl) (fun z => absurd (of_decide_eq_true ht) z)
      · cases hz; exact lv_if_le hx hb (hd 3 rfl (by decide)) (hoff _ rfl) (fun z => absurd z (of_decide_eq_false ht)) (fun _ => k ls hl)
  | tableswitch dflt lo hi offs =>
    change sI _ _ = some _ at hst
    obtain ⟨x, r, rfl, h1⟩ := sI_inv hst
    obtain ⟨t, ht, h2⟩ := oB_inv h1
    simp only [Option.some.injEq, Prod.mk.injEq] at h2
    obtain ⟨rfl, rfl, rfl⟩ := h2
    unfold tsw at ht
    split at ht
    · rename_i hz
      obtain ⟨h3, h4⟩ := oC_inv ht
      cases h4
      exact lv_tableOut hx hb hD hz (Int.toNat_of_nonneg (of_decide_eq_true h3)).symm (k ls hl)
    · rename_i hz
      obtain ⟨o, ho, h5⟩ := oB_inv ht
      obtain ⟨h3, h4⟩ := oC_inv h5
      cases h4
      exact lv_tableIn hx hb hD (fun z => hz (Or.inl z)) (fun z => hz (Or.inr z)) ho (Int.toNat_of_nonneg (of_decide_eq_true h3)).symm (k ls hl)
  | lookupswitch dflt ps =>
    change sI _ _ = some _ at hst
    obtain ⟨x, r, rfl, h1⟩ := sI_inv hst
    obtain ⟨h3, h2⟩ := oC_inv h1
    simp only [Option.some.injEq, Prod.mk.injEq] at h2
    obtain ⟨rfl, rfl, rfl⟩ := h2
    rw [Bool.and_eq_true] at h3
    exact lv_lookup hx hb hD h3.1 rfl (Int.toNat_of_nonneg (of_decide_eq_true h3.2)).symm (k ls hl)
  | ldc z =>
    change oB _ _ = some _ at hst
    obtain ⟨q, hq, h2⟩ := oB_inv hst
    simp only [Option.some.injEq, Prod.mk.injEq] at h2
    obtain ⟨rfl, rfl, rfl⟩ := h2
    exact lv_ldc hx hb hown (hts _ (hF.2.2.2.1 _ (fnd_mem hq))) (hd 2 rfl (by decide)) (k ls hl)
  | ldc_w z =>
    change oB _ _ = some _ at hst
    obtain ⟨q, hq, h2⟩ := oB_inv hst
    simp only [Option.some.injEq, Prod.mk.injEq] at h2
    obtain ⟨rfl, rfl, rfl⟩ := h2
    exact lv_ldcw hx hb hown (hts _ (hF.2.2.2.1 _ (fnd_mem hq))) (hd 3 rfl (by decide)) (k ls hl)
  | ldc2_w z =>
    change oB _ _ = some _ at hst
    obtain ⟨q, hq, h2⟩ := oB_inv hst
    simp only [Option.some.injEq, Prod.mk.injEq] at h2
    obtain ⟨rfl, rfl, rfl⟩ := h2
    exact lv_ldc2 hx hb hown (hts _ (hF.2.2.2.2.1 _ (fnd_mem hq))) (hd 3 rfl (by decide)) (k ls hl)
  | getfield z =>
    change sR _ _ = some _ at hst
    obtain ⟨a, r, rfl, h1⟩ := sR_inv hst
    obtain ⟨e0, he0, h4⟩ := oB_inv h1
    obtain ⟨cc, hc, h5⟩ := oB_inv h4
    obtain ⟨h3, h6⟩ := oC_inv h5
    obtain ⟨v, hv, h2⟩ := oB_inv h6
    simp only [Option.some.injEq, Prod.mk.injEq] at h2
    obtain ⟨rfl, rfl, rfl⟩ := h2
    simp only [Bool.and_eq_true, beq_iff_eq] at h3
    obtain ⟨⟨C0, T0, N0⟩, hr0, hk0, hw0, -, -⟩ := hF.2.1 _ (fnd_mem he0)
    dsimp only at hr0 hk0 hw0
    have he := gW_at (b := b) (base := base) (tyc := tyc) hc
    rw [gE_o h3.1, h3.2] at he
    have hv2 : (cc.2.2.map (gV b base))[e0.2.1]? = some (gV b base v) := by rw [List.getElem?_map, hv]; rfl
    unfold fldW at hw0
    split at hw0
    · exact va_getN hx hb hts (CLS_in hr0) hown hK hW.2 a he hr0 e0.2.1 hk0 (hal _ hw0) (fun _ h9 => h9) hv2 (hd 3 rfl (by decide)) (k ls hl)
    · exact va_get hx hb hts (CLS_in hr0) hown hK hW.2 a he hr0 e0.2.1 hk0 (hal _ hw0) (fun _ h9 => h9) hv2 (hd 3 rfl (by decide)) (k ls hl)
  | iaload =>
    change oB _ _ = some _ at hst
    obtain ⟨⟨v, r⟩, hq, h1⟩ := oB_inv hst
    obtain ⟨h3, h2⟩ := oC_inv h1
    simp only [Option.some.injEq, Prod.mk.injEq] at h2
    obtain ⟨rfl, rfl, rfl⟩ := h2
    obtain ⟨x, hxv⟩ := isI_inv h3
    dsimp only at hxv
    subst hxv
    rcases ldR_inv hq with ⟨a, j, cc, hs, hc, hk1, hk2, hj, hv⟩ | ⟨a, j, q, hs, hsq, hj, hv⟩
    · dsimp only at hs hv
      subst hs
      have he := gW_at (b := b) (base := base) (tyc := tyc) hc
      rw [gE_i hk1] at he
      have e9 : asI (cc.2.2.getD j.toNatClampNeg .null) = x := by rw [List.getD_eq_getElem?_getD, hv]; rfl
      have hin : vp_in j cc.2.2.length := by
        have h8 := (List.getElem?_eq_some_iff.mp hv).1
        exact fun z => z.elim hj (fun z => by omega)
      have hk3 : cc.2.1 = 0 := by rcases hk2 with z | z <;> exact z
      rw [hk3] at he
      exact va_iald hx hb hK hW.2 a 0 he rfl hin (hd 1 rfl (by decide)) (W.eq (by show F0 m (pc + 1) ls (.int (asI (cc.2.2.getD j.toNatClampNeg .null)) :: _) = _; rw [e9]; rfl) (k ls hl))
    · dsimp only at hs hv
      subst hs
      cases hv
      obtain ⟨hX, hbl, hbb⟩ := hsc.1 q hsq
      exact va_sld hx hb hX hbl (Nat.not_le.mpr hbb) hS hj (hd 1 rfl (by decide)) (k ls hl)
  | baload =>
    change oB _ _ = some _ at hst
    obtain ⟨⟨v, r⟩, hq, h1⟩ := oB_inv hst
    obtain ⟨h3, h2⟩ := oC_inv h1
    simp only [Option.some.injEq, Prod.mk.injEq] at h2
    obtain ⟨rfl, rfl, rfl⟩ := h2
    obtain ⟨x, hxv⟩ := isI_inv h3
    dsimp only at hxv
    subst hxv
    rcases ldR_inv hq with ⟨a, j, cc, hs, hc, hk1, hk2, hj, hv⟩ | ⟨a, j, q, hs, hsq, hj, hv⟩
    · dsimp only at hs hv
      subst hs
      have he := gW_at (b := b) (base := base) (tyc := tyc) hc
      rw [gE_i hk1] at he
      have e9 : asI (cc.2.2.getD j.toNatClampNeg .null) = x := by rw [List.getD_eq_getElem?_getD, hv]; rfl
      have hin : vp_in j cc.2.2.length := by
        have h8 := (List.getElem?_eq_some_iff.mp hv).1
        exact fun z => z.elim hj (fun z => by omega)
      rcases hk2 with hk3 | hk3
      · rw [hk3] at he
        exact va_bald hx hb hK hW.2 a 2 he rfl hin (hd 1 rfl (by decide)) (W.eq (by show F0 m (pc + 1) ls (.int (asI (cc.2.2.getD j.toNatClampNeg .null)) :: _) = _; rw [e9]; rfl) (k ls hl))
      · rw [hk3] at he
        exact va_zald hx hb hK hW.2 a 3 he rfl hin (hd 1 rfl (by decide)) (W.eq (by show F0 m (pc + 1) ls (.int (asI (cc.2.2.getD j.toNatClampNeg .null)) :: _) = _; rw [e9]; rfl) (k ls hl))
    · cases hsq
  | laload =>
    change oB _ _ = some _ at hst
    obtain ⟨⟨v, r⟩, hq, h1⟩ := oB_inv hst
    obtain ⟨h3, h2⟩ := oC_inv h1
    simp only [Option.some.injEq, Prod.mk.injEq] at h2
    obtain ⟨rfl, rfl, rfl⟩ := h2
    obtain ⟨x, hxv⟩ := isL_inv h3
    dsimp only at hxv
    subst hxv
    rcases ldR_inv hq with ⟨a, j, cc, hs, hc, hk1, hk2, hj, hv⟩ | ⟨a, j, q, hs, hsq, hj, hv⟩
    · dsimp only at hs hv
      subst hs
      have he := gW_at (b := b) (base := base) (tyc := tyc) hc
      rw [gE_l hk1] at he
      have e9 : asL (cc.2.2.getD j.toNatClampNeg .null) = x := by rw [List.getD_eq_getElem?_getD, hv]; rfl
      have hin : vp_in j cc.2.2.length := by
        have h8 := (List.getElem?_eq_some_iff.mp hv).1
        exact fun z => z.elim hj (fun z => by omega)
      have hk3 : cc.2.1 = 1 := by rcases hk2 with z | z <;> exact z
      rw [hk3] at he
      exact va_lald hx hb hK hW.2 a 1 he rfl hin (hd 1 rfl (by decide)) (W.eq (by show F0 m (pc + 1) ls (.long (asL (cc.2.2.getD j.toNatClampNeg .null)) :: _) = _; rw [e9]; rfl) (k ls hl))
    · cases hsq
  | aaload =>
    change sRI _ _ = some _ at hst
    obtain ⟨a, j, r, rfl, h1⟩ := sRI_inv hst
    obtain ⟨cc, hc, h4⟩ := oB_inv h1
    obtain ⟨h3, h5⟩ := oC_inv h4
    obtain ⟨v, hv, h6⟩ := oB_inv h5
    obtain ⟨h7, h2⟩ := oC_inv h6
    simp only [Option.some.injEq, Prod.mk.injEq] at h2
    obtain ⟨rfl, rfl, rfl⟩ := h2
    simp only [Bool.and_eq_true, Bool.or_eq_true, beq_iff_eq, decide_eq_true_eq] at h3
    obtain ⟨⟨hk1, hk2⟩, hj⟩ := h3
    have he := gW_at (b := b) (base := base) (tyc := tyc) hc
    rw [gE_r hk1] at he
    have e9 : va_rf (asR base (cc.2.2.getD j.toNatClampNeg .null)) = gV b base v := by
      rw [List.getD_eq_getElem?_getD, hv]
      rcases isR_inv h7 with rfl | ⟨x, rfl⟩ <;> rfl
    have hin : vp_in j cc.2.2.length := by
      have h8 := (List.getElem?_eq_some_iff.mp hv).1
      exact fun z => z.elim hj (fun z => by omega)
    rcases hk2 with (hk3 | hk3) | hk3
    · rw [hk3] at he
      exact va_aldq hx hb hK hW.2 a 4 he rfl hin (hd 1 rfl (by decide)) (W.eq (by show F0 m (pc + 1) ls (va_rf (asR base (cc.2.2.getD j.toNatClampNeg .null)) :: _) = _; rw [e9]; rfl) (k ls hl))
    · rw [hk3] at he
      exact va_aldq hx hb hK hW.2 a 5 he rfl hin (hd 1 rfl (by decide)) (W.eq (by show F0 m (pc + 1) ls (va_rf (asR base (cc.2.2.getD j.toNatClampNeg .null)) :: _) = _; rw [e9]; rfl) (k ls hl))
    · rw [hk3] at he
      exact va_aldq hx hb hK hW.2 a 6 he rfl hin (hd 1 rfl (by decide)) (W.eq (by show F0 m (pc + 1) ls (va_rf (asR base (cc.2.2.getD j.toNatClampNeg .null)) :: _) = _; rw [e9]; rfl) (k ls hl))
  | arraylength =>
    change sV _ _ = some _ at hst
    obtain ⟨v, r, rfl, h1⟩ := sV_inv hst
    obtain ⟨x, hx1, h2⟩ := oB_inv h1
    simp only [Option.some.injEq, Prod.mk.injEq] at h2
    obtain ⟨rfl, rfl, rfl⟩ := h2
    unfold alen at hx1
    split at hx1
    · rename_i a
      obtain ⟨cc, hc, h4⟩ := oB_inv hx1
      obtain ⟨h3, h5⟩ := oC_inv h4
      cases h5
      simp only [Bool.and_eq_true, Bool.or_eq_true, beq_iff_eq, decide_eq_true_eq] at h3
      obtain ⟨hk1, hk2⟩ := h3
      obtain ⟨ty, hty⟩ := TYS_get tyc hk2
      have he := gW_at (b := b) (base := base) (tyc := tyc) hc
      rcases hk1 with (hk1 | hk1) | hk1
      · rw [gE_i hk1] at he; exact va_alen hx hb hK hW.2 a _ he hty rfl (hd 1 rfl (by decide)) (k ls hl)
      · rw [gE_l hk1] at he; exact va_alen hx hb hK hW.2 a _ he hty rfl (hd 1 rfl (by decide)) (k ls hl)
      · rw [gE_r hk1] at he; exact va_alen hx hb hK hW.2 a _ he hty rfl (hd 1 rfl (by decide)) (k ls hl)
    · obtain ⟨q, hq, h4⟩ := oB_inv hx1
      cases h4
      obtain ⟨hX, hbl, hbb⟩ := hsc.1 q hq
      exact va_slen hx hb hX hbl (Nat.not_le.mpr hbb) hS (hd 1 rfl (by decide)) (k ls hl)
    · cases hx1
  | _ => exact absurd hst (by intro z; cases z)
/-! steps on the cells outside -/
def sX {α : Type} (st : List Value) (f : Nat → List Value → Option α) : Option α := match st with
  | .retAddr a :: r => f a r
  | _ => none
def sIX {α : Type} (st : List Value) (f : Nat → Int32 → List Value → Option α) : Option α := match st with
  | .int j :: .retAddr a :: r => f a j r
  | _ => none
theorem sX_inv {α : Type} {st : List Value} {f : Nat → List Value → Option α} {a : α} (h : sX st f = some a) : ∃ x r, st = .retAddr x :: r ∧ f x r = some a := by
  unfold sX at h; split at h
  · exact ⟨_, _, rfl, h⟩
  · cases h
theorem sIX_inv {α : Type} {st : List Value} {f : Nat → Int32 → List Value → Option α} {a : α} (h : sIX st f = some a) : ∃ x j r, st = .int j :: .retAddr x :: r ∧ f x j r = some a := by
  unfold sIX at h; split at h
  · exact ⟨_, _, _, rfl, h⟩
  · cases h
def stpX (F : MR) (i : Instr) (pc : Nat) (lv : ALv) (st : List Value) : Option (Nat × ALv × List Value) := match i with
  | .ldc k => oB (fnd (mks F) k) (fun q => oC (q.1 == 0) (some (pc + 2, lv, .retAddr (2 * q.2.1 + 1) :: st)))
  | .getfield k => sX st (fun a r => oB (fnd (mks F) k) (fun q => oC (a % 2 == 1 && decide (a / 2 < NSTR)) (oC (q.1 == 1 || q.1 == 2) (some (pc + 3, lv, (if q.1 = 1 then .retAddr (2 * (a / 2) + 2) else .int 0) :: r)))))
  | .getstatic k => oB (fnd (mks F) k) (fun q => oC (q.1 == 3 || q.1 == 4) (some (pc + 3, lv, (if q.1 = 3 then .int 1 else .float 0) :: st)))
  | .arraylength => sX st (fun a r => oC (a % 2 == 0 && decide (2 ≤ a) && decide (a / 2 - 1 < NSTR)) (some (pc + 1, lv, .int (Int32.ofNat (LENS.getD (a / 2 - 1) 0)) :: r)))
  | .baload => sIX st (fun a j r => oC (a % 2 == 0 && decide (2 ≤ a) && decide (a / 2 - 1 < NSTR) && decide (¬ j < 0) && decide (j.toNatClampNeg < LENS.getD (a / 2 - 1) 0)) (some (pc + 1, lv, .int ((BYT.getD (a / 2 - 1) []).getD j.toNatClampNeg 0) :: r)))
  | .i2c => sI st (fun x r => some (pc + 1, lv, .int (x.toUInt32 % 65536).toInt32 :: r))
  | _ => none
set_option maxHeartbeats 4000000 in
theorem stpX_ok {MT : Nat → Option MR} {p : Program} {l : Launch} {e : Env} {R : Room} {s : State} {m : MethodId} {args : Array Value} {below : List Frame} {meth : Method} {c : Code} {H : Heap} {locs : List Loc} {cells slots : Nat} {Q : State → Prop} {F : MR} {i : Instr} {len tgt pc pc' : Nat} {lv lv' : ALv} {st st' : List Value} {b : Nat → Nat} {base : Nat} {ls : Array Slot}
    (hF : FOK MT F) (C : Ctx p s m args meth c F) (hS : va_S (fun q => base ≤ q) s.heap H locs) (hl : lv_has ls (mml F) (gL b base lv)) (hks : KS b base s)
    (hf : fc F pc = some (i, len, tgt)) (hst : stpX F i pc lv st = some (pc', lv', st'))
    (k : ∀ ls', lv_has ls' (mml F) (gL b base lv') → W p l e R s m args below meth c H locs cells slots Q (F0 m pc' ls' (st'.map (gV b base)))) :
    W p l e R s m args below meth c H locs cells slots Q (F0 m pc ls (st.map (gV b base))) := by
  obtain ⟨hx, hb, hr, hml, hown, hlocks, hts, hin0, hal⟩ := C
  obtain ⟨hD, hlen, hoff⟩ := hF.1 _ (fc_mem hf)
  dsimp only at hD hlen hoff
  have hd : ∀ n, ilen i = n → n ≠ 0 → decode (mcc F) pc = .ok (i, n) := by
    intro n h1 h2
    rcases hlen with h3 | h3
    · omega
    · rw [← h1, h3]; exact hD
  obtain ⟨kS, kR, kC, kF⟩ := hks
  cases i with
  | ldc z =>
    change oB _ _ = some _ at hst
    obtain ⟨q, hq, h1⟩ := oB_inv hst
    obtain ⟨h3, h2⟩ := oC_inv h1
    simp only [Option.some.injEq, Prod.mk.injEq] at h2
    obtain ⟨rfl, rfl, rfl⟩ := h2
    have hX := hF.2.2.2.2.2.2 _ (fnd_mem hq)
    exact va_ldcS hx hb hown (kR _ (hX.1 (eq_of_beq h3))) (hd 2 rfl (by decide)) (k ls hl)
  | getfield z =>
    change sX _ _ = some _ at hst
    obtain ⟨a, r, rfl, h0⟩ := sX_inv hst
    obtain ⟨q, hq, h1⟩ := oB_inv h0
    obtain ⟨h3, h5⟩ := oC_inv h1
    obtain ⟨h4, h2⟩ := oC_inv h5
    simp only [Option.some.injEq, Prod.mk.injEq] at h2
    obtain ⟨rfl, rfl, rfl⟩ := h2
    simp only [Bool.and_eq_true, beq_iff_eq, decide_eq_true_eq] at h3
    have hX := hF.2.2.2.2.2.2 _ (fnd_mem hq)
    have ea : b a = b (2 * (a / 2) + 1) := by rw [show 2 * (a / 2) + 1 = a by omega]
    have hk := kS.1 (a / 2) h3.2
    show W p l e R s m args below meth c H locs cells slots Q (F0 m pc ls (.ref (b a) :: r.map (gV b base)))
    rw [ea]
    by_cases h1 : q.1 = 1
    · rw [if_pos h1] at k
      exact vk_getf hx hb hk.2.2.1 hS hown (hts _ (hX.2.1 h1)) (fun _ h9 => h9) (hd 3 rfl (by decide)) (k ls hl)
    · rw [if_neg h1] at k
      have h2 : q.1 = 2 := by simp only [Bool.or_eq_true, beq_iff_eq] at h4; omega
      exact vk_getf hx hb hk.2.1 hS hown (hts _ (hX.2.2.1 h2)) (fun _ h9 => h9) (hd 3 rfl (by decide)) (k ls hl)
  | getstatic z =>
    change oB _ _ = some _ at hst
    obtain ⟨q, hq, h1⟩ := oB_inv hst
    obtain ⟨h4, h2⟩ := oC_inv h1
    simp only [Option.some.injEq, Prod.mk.injEq] at h2
    obtain ⟨rfl, rfl, rfl⟩ := h2
    have hX := hF.2.2.2.2.2.2 _ (fnd_mem hq)
    by_cases h1 : q.1 = 3
    · rw [if_pos h1] at k
      exact va_gets hx hb kC hS hown (hts _ (hX.2.2.2.1 h1)) (fun _ h9 => h9) (hd 3 rfl (by decide)) (k ls hl)
    · rw [if_neg h1] at k
      have h2 : q.1 = 4 := by simp only [Bool.or_eq_true, beq_iff_eq] at h4; omega
      exact va_gets hx hb kF hS hown (hts _ (hX.2.2.2.2 h2)) (fun _ h9 => h9) (hd 3 rfl (by decide)) (k ls hl)
  | arraylength =>
    change sX _ _ = some _ at hst
    obtain ⟨a, r, rfl, h0⟩ := sX_inv hst
    obtain ⟨h3, h2⟩ := oC_inv h0
    simp only [Option.some.injEq, Prod.mk.injEq] at h2
    obtain ⟨rfl, rfl, rfl⟩ := h2
    simp only [Bool.and_eq_true, beq_iff_eq, decide_eq_true_eq] at h3
    have ea : b a = b (2 * (a / 2 - 1) + 2) := by rw [show 2 * (a / 2 - 1) + 2 = a by omega]
    have hk := kS.1 (a / 2 - 1) h3.2
    show W p l e R s m args below meth c H locs cells slots Q (F0 m pc ls (.ref (b a) :: r.map (gV b base)))
    rw [ea]
    exact va_tlen hx hb hk.2.2.2 hS rfl (hd 1 rfl (by decide)) (k ls hl)
  | baload =>
    change sIX _ _ = some _ at hst
    obtain ⟨a, j, r, rfl, h0⟩ := sIX_inv hst
    obtain ⟨h3, h2⟩ := oC_inv h0
    simp only [Option.some.injEq, Prod.mk.injEq] at h2
    obtain ⟨rfl, rfl, rfl⟩ := h2
    simp only [Bool.and_eq_true, beq_iff_eq, decide_eq_true_eq] at h3
    obtain ⟨⟨⟨⟨g1, g2⟩, g3⟩, g4⟩, g5⟩ := h3
    have ea : b a = b (2 * (a / 2 - 1) + 2) := by rw [show 2 * (a / 2 - 1) + 2 = a by omega]
    have hk := kS.1 (a / 2 - 1) g3
    show W p l e R s m args below meth c H locs cells slots Q (F0 m pc ls (.int j :: .ref (b a) :: r.map (gV b base)))
    rw [ea]
    exact va_tb hx hb hk.2.2.2 hS (fun z => z.elim g4 (fun z => by omega)) rfl (hd 1 rfl (by decide)) (k ls hl)
  | i2c =>
    change sI _ _ = some _ at hst
    obtain ⟨x, r, rfl, h1⟩ := sI_inv hst
    simp only [Option.some.injEq, Prod.mk.injEq] at h1
    obtain ⟨rfl, rfl, rfl⟩ := h1
    exact lv_i2c hx hb (hd 1 rfl (by decide)) rfl (k ls hl)
  | _ => exact absurd hst (by intro z; cases z)
/-- a reading step, of either kind -/
def stpA (F : MR) (scr : AS) (i : Instr) (tgt pc : Nat) (lv : ALv) (st : List Value) (h : AH) : Option (Nat × ALv × List Value) := match stpP F scr i tgt pc lv st h with
  | some x => some x
  | none => stpX F i pc lv st
theorem stpA_P {F : MR} {scr : AS} {i : Instr} {tgt pc : Nat} {lv : ALv} {st : List Value} {h : AH} {x : Nat × ALv × List Value} (hx : stpP F scr i tgt pc lv st h = some x) : stpA F scr i tgt pc lv st h = some x := by unfold stpA; rw [hx]
theorem stpA_inv {F : MR} {scr : AS} {i : Instr} {tgt pc : Nat} {lv : ALv} {st : List Value} {h : AH} {x : Nat × ALv × List Value} (hx : stpA F scr i tgt pc lv st h = some x) : stpP F scr i tgt pc lv st h = some x ∨ stpP F scr i tgt pc lv st h = none ∧ stpX F i pc lv st = some x := by
  unfold stpA at hx
  split at hx
  · rename_i y hy; cases hx; exact Or.inl hy
  · rename_i hy; exact Or.inr ⟨hy, hx⟩
end
/-! 06.heap -/
section
/-! the steps that write and make -/
theorem vS_self {A : Nat → Prop} {H0 H : Heap} {locs : List Loc} (h : va_S A H0 H locs) : va_S A H H locs := ⟨Nat.le_refl _, fun _ _ _ => rfl, h.2.2⟩
theorem vS_comp {A : Nat → Prop} {H0 H H1 : Heap} {locs locs1 : List Loc} (h1 : va_S A H0 H locs) (h2 : va_S A H H1 locs1) : va_S A H0 H1 locs1 :=
  ⟨Nat.le_trans h1.1 h2.1, fun q hq hA => (h2.2.1 q (Nat.lt_of_lt_of_le hq h1.1) hA).trans (h1.2.1 q hq hA), h2.2.2⟩
/-- a frame has no more cells than are booked -/
theorem W_sz {p : Program} {l : Launch} {e : Env} {R : Room} {s : State} {m : MethodId} {args : Array Value} {below : List Frame} {meth : Method} {c : Code} {H : Heap} {locs : List Loc} {cells slots : Nat} {Q : State → Prop} {g : JFrame}
    (k : H.size ≤ s.heap.size + cells → W p l e R s m args below meth c H locs cells slots Q g) : W p l e R s m args below meth c H locs cells slots Q g := fun T hT X => k (by
  have h := X.same.2.2.1
  rw [← hT]
  exact h) T hT X
theorem Wd_set {D : va_G} {tyc : Nat → ClassId} {b : Nat → Nat} {base : Nat} {h : AH} {H H1 : Heap} {a n : Nat} {c : AC} (hW : Wd D tyc b base h H) (hP : va_P D vwCl ((gW b base tyc h).set a (base + a, gE b base tyc c)) H1) (hle : H.size ≤ H1.size) (hN : base + h.length = n) (hub : H1.size ≤ n) : Wd D tyc b base (h.set a c) H1 := by
  refine ⟨?_, by rw [← gW_set]; exact hP⟩
  have h1 := hW.1
  rw [List.length_set]
  omega
theorem Wd_push {D : va_G} {tyc : Nat → ClassId} {b : Nat → Nat} {base : Nat} {h : AH} {H H1 : Heap} {q n : Nat} {c : AC} (hW : Wd D tyc b base h H) (hP : va_P D vwCl (gW b base tyc h ++ [(q, gE b base tyc c)]) H1) (hD : va_D (fun q => base ≤ q) (gW b base tyc h ++ [(q, gE b base tyc c)])) (hN : base + h.length = n) (hub : H1.size ≤ n + 1) : Wd D tyc b base (h ++ [c]) H1 ∧ q = base + h.length := by
  have hk : (gW b base tyc h ++ [(q, gE b base tyc c)])[h.length]? = some (q, gE b base tyc c) := by
    rw [List.getElem?_append_right (by rw [gW_len]; exact Nat.le_refl _), gW_len]; simp
  have hq1 : base ≤ q := hD.2 _ _ hk
  have hq2 : q < H1.size := (hP _ _ hk).lt
  have hq3 : base + h.length ≤ q := by
    rcases Nat.lt_or_ge q (base + h.length) with z | z
    · exfalso
      have hi : q - base < h.length := by omega
      have h2 : (gW b base tyc h ++ [(q, gE b base tyc c)])[q - base]? = some (base + (q - base), gE b base tyc h[q - base]) := by
        rw [List.getElem?_append_left (by rw [gW_len]; exact hi)]
        exact gW_at (List.getElem?_eq_getElem hi)
      have h3 := hD.1 _ _ _ _ h2 hk (by dsimp only; omega)
      omega
    · exact z
  have e : q = base + h.length := by omega
  subst e
  exact ⟨⟨by rw [List.length_append]; simp only [List.length_cons, List.length_nil]; omega, by rw [gW_push]; exact hP⟩, rfl⟩
theorem updI_list {vs : List Value} {j : Nat} (hj : j < vs.length) (x : Int32) : upd (fun k => asI (vs.getD k .null)) j x = fun k => asI ((vs.set j (.int x)).getD k .null) := by
  funext k
  unfold upd
  simp only [List.getD_eq_getElem?_getD, List.getElem?_set]
  by_cases hk : k = j
  · subst hk; simp [hj, asI]
  · rw [if_neg hk, if_neg (fun z => hk z.symm)]
theorem updL_list {vs : List Value} {j : Nat} (hj : j < vs.length) (x : Int64) : vp_updL (fun k => asL (vs.getD k .null)) j x = fun k => asL ((vs.set j (.long x)).getD k .null) := by
  funext k
  unfold vp_updL
  simp only [List.getD_eq_getElem?_getD, List.getElem?_set]
  by_cases hk : k = j
  · subst hk; simp [hj, asL]
  · rw [if_neg hk, if_neg (fun z => hk z.symm)]
theorem updR_list {base : Nat} {vs : List Value} {j : Nat} (hj : j < vs.length) (a : Nat) : va_up (fun k => asR base (vs.getD k .null)) j (some (base + a)) = fun k => asR base ((vs.set j (.ref a)).getD k .null) := by
  funext k
  unfold va_up
  simp only [List.getD_eq_getElem?_getD, List.getElem?_set]
  by_cases hk : k = j
  · subst hk; simp [hj, asR]
  · rw [if_neg hk, if_neg (fun z => hk z.symm)]
def sVR {α : Type} (st : List Value) (f : Value → Nat → List Value → Option α) : Option α := match st with
  | v :: .ref a :: r => f v a r
  | _ => none
def sVIR {α : Type} (st : List Value) (f : Value → Int32 → Nat → List Value → Option α) : Option α := match st with
  | v :: .int j :: .ref a :: r => f v j a r
  | _ => none
theorem sVR_inv {α : Type} {st : List Value} {f : Value → Nat → List Value → Option α} {a : α} (h : sVR st f = some a) : ∃ v x r, st = v :: .ref x :: r ∧ f v x r = some a := by
  unfold sVR at h; split at h
  · exact ⟨_, _, _, rfl, h⟩
  · cases h
theorem sVIR_inv {α : Type} {st : List Value} {f : Value → Int32 → Nat → List Value → Option α} {a : α} (h : sVIR st f = some a) : ∃ v j x r, st = v :: .int j :: .ref x :: r ∧ f v j x r = some a := by
  unfold sVIR at h; split at h
  · exact ⟨_, _, _, _, rfl, h⟩
  · cases h
/-- the type of the rows that hold a class's objects -/
def ciTy (ci : Nat) : Nat := if ci = 0 then 4 else if ci = 4 then 5 else if ci = 7 then 6 else 99
def stpW (F : MR) (i : Instr) (pc : Nat) (st : List Value) (h : AH) : Option (Nat × List Value × AH) :=
  match i with
  | .putfield k => sVR st (fun v a r => oB (fnd (mfl F) k) (fun e => oB h[a]? (fun c => oC (c.1 == 0 && c.2.1 == e.1 && decide (e.2.2.1 < 3) && decide (e.2.1 < c.2.2.length) && okFit (TYF e.1 e.2.1) v) (some (pc + 3, r, h.set a (0, c.2.1, c.2.2.set e.2.1 v))))))
  | .iastore => sVIR st (fun v j a r => oB h[a]? (fun c => oC (isI v && c.1 == 1 && c.2.1 == 0 && decide (¬ j < 0) && decide (j.toNatClampNeg < c.2.2.length)) (some (pc + 1, r, h.set a (1, c.2.1, c.2.2.set j.toNatClampNeg v)))))
  | .bastore => sVIR st (fun v j a r => oB h[a]? (fun c => oC (isI v && c.1 == 1 && (c.2.1 == 2 || c.2.1 == 3) && decide (¬ j < 0) && decide (j.toNatClampNeg < c.2.2.length)) (some (pc + 1, r, h.set a (1, c.2.1, c.2.2.set j.toNatClampNeg (.int (vp_nar (if c.2.1 = 2 then .byte else .boolean) (asI v))))))))
  | .lastore => sVIR st (fun v j a r => oB h[a]? (fun c => oC (isL v && c.1 == 2 && c.2.1 == 1 && decide (¬ j < 0) && decide (j.toNatClampNeg < c.2.2.length)) (some (pc + 1, r, h.set a (2, c.2.1, c.2.2.set j.toNatClampNeg v)))))
  | .aastore => sVIR st (fun v j a r => match v with
    | .ref x => oB h[x]? (fun d => oB h[a]? (fun c => oC (d.1 == 0 && c.1 == 3 && c.2.1 == ciTy d.2.1 && decide (c.2.1 < 7) && decide (¬ j < 0) && decide (j.toNatClampNeg < c.2.2.length)) (some (pc + 1, r, h.set a (3, c.2.1, c.2.2.set j.toNatClampNeg (.ref x))))))
    | _ => none)
  | _ => none

set_option maxHeartbeats 4000000 in
set_option maxRecDepth 100000 in
theorem stpW_ok {MT : Nat → Option MR} {p : Program} {l : Launch} {e : Env} {R : Room} {s : State} {m : MethodId} {args : Array Value} {below : List Frame} {meth : Method} {c : Code} {H : Heap} {locs : List Loc} {cells slots : Nat} {Q : State → Prop} {F : MR} {i : Instr} {len tgt pc pc' : Nat} {st st' : List Value} {h h' : AH} {D : va_G} {tyc : Nat → ClassId} {b : Nat → Nat} {base : Nat} {ls : Array Slot}
    (hF : FOK MT F) (C : Ctx p s m args meth c F) (hK : va_K D vwCl (TYS tyc) s) (hW : Wd D tyc b base h H) (hS : va_S (fun q => base ≤ q) s.heap H locs) (hN : base + h.length = s.heap.size + cells)
    (hf : fc F pc = some (i, len, tgt)) (hst : stpW F i pc st h = some (pc', st', h'))
    (k : ∀ H' locs', Wd D tyc b base h' H' → va_S (fun q => base ≤ q) s.heap H' locs' → W p l e R s m args below meth c H' locs' cells slots Q (F0 m pc' ls (st'.map (gV b base)))) :
    W p l e R s m args below meth c H locs cells slots Q (F0 m pc ls (st.map (gV b base))) := by
  obtain ⟨hx, hb, hr, hml, hown, hlocks, hts, hin0, hal⟩ := C
  obtain ⟨hD, hlen, hoff⟩ := hF.1 _ (fc_mem hf)
  dsimp only at hD hlen hoff
  have hd : ∀ n, ilen i = n → n ≠ 0 → decode (mcc F) pc = .ok (i, n) := by
    intro n h1 h2
    rcases hlen with h3 | h3
    · omega
    · rw [← h1, h3]; exact hD
  cases i with
  | putfield z =>
    change sVR _ _ = some _ at hst
    obtain ⟨v, a, r, rfl, h1⟩ := sVR_inv hst
    obtain ⟨e0, he0, h4⟩ := oB_inv h1
    obtain ⟨cc, hc, h5⟩ := oB_inv h4
    obtain ⟨h3, h2⟩ := oC_inv h5
    simp only [Option.some.injEq, Prod.mk.injEq] at h2
    obtain ⟨rfl, rfl, rfl⟩ := h2
    simp only [Bool.and_eq_true, beq_iff_eq, decide_eq_true_eq] at h3
    obtain ⟨⟨⟨⟨hk1, hk2⟩, hcd⟩, hlt⟩, hfit⟩ := h3
    obtain ⟨⟨C0, T0, N0⟩, hr0, hk0, hw0, hnf, hfn⟩ := hF.2.1 _ (fnd_mem he0)
    dsimp only at hr0 hk0 hw0 hnf hfn
    obtain ⟨hty, hnm⟩ := CLS_ty hr0
    have he := gW_at (b := b) (base := base) (tyc := tyc) hc
    rw [gE_o hk1, hk2] at he
    obtain ⟨hn1, hn2⟩ := okFit_spec b base hfit
    have hlt2 : e0.2.1 < (cc.2.2.map (gV b base)).length := by rw [List.length_map]; exact hlt
    have fin : ∀ (H1 : Heap) (locs1 : List Loc), va_P D vwCl ((gW b base tyc h).set a (base + a, .inr (e0.1, (cc.2.2.map (gV b base)).set e0.2.1 (gV b base v)))) H1 → va_S (fun q => base ≤ q) H H1 locs1 → W p l e R s m args below meth c H1 locs1 cells slots Q (F0 m (pc + 3) ls (r.map (gV b base))) := by
      intro H1 locs1 hP1 hS1
      refine W_sz (fun hub => k H1 locs1 (Wd_set hW ?_ hS1.1 hN hub) (vS_comp hS hS1))
      rw [gE_o rfl]
      dsimp only
      rw [List.map_set, hk2]
      exact hP1
    unfold fldW at hw0
    by_cases hfi : (T0 e0.2.1).2.2.2 = true
    · have hcd2 : e0.2.2.1 = 2 := by
        rcases (show e0.2.2.1 = 0 ∨ e0.2.2.1 = 1 ∨ e0.2.2.1 = 2 by omega) with z | z | z
        · rw [hnf (Or.inl z)] at hfi; cases hfi
        · rw [hnf (Or.inr z)] at hfi; cases hfi
        · exact z
      obtain ⟨g1, g2, g3⟩ := hfn hcd2
      rw [if_neg (by omega)] at hw0
      exact va_putF hx hb hts (CLS_in hr0) (TYF e0.1) hty hnm hown hK hW.2 (gW_D b base tyc h) (vS_self hS) a he hr0 e0.2.1 hk0 (hal _ hw0) (fun _ h9 => h9) g1 (hin0 g3) g2 (hty _ hk0) hn1 hn2 hlt2 (hd 3 rfl (by decide)) (fun H1 locs1 hP1 _ hS1 => fin H1 locs1 hP1 hS1)
    · have hfi2 : (T0 e0.2.1).2.2.2 = false := by simpa using hfi
      split at hw0
      · exact va_putN hx hb hts (CLS_in hr0) (TYF e0.1) hty hnm hown hK hW.2 (gW_D b base tyc h) (vS_self hS) a he hr0 e0.2.1 hk0 (hal _ hw0) (fun _ h9 => h9) hfi2 (hty _ hk0) hn1 hn2 hlt2 (hd 3 rfl (by decide)) (fun H1 locs1 hP1 _ hS1 => fin H1 locs1 hP1 hS1)
      · exact va_put hx hb hts (CLS_in hr0) (TYF e0.1) hty hnm hown hK hW.2 (gW_D b base tyc h) (vS_self hS) a he hr0 e0.2.1 hk0 (hal _ hw0) (fun _ h9 => h9) hfi2 (hty _ hk0) hn1 hn2 hlt2 (hd 3 rfl (by decide)) (fun H1 locs1 hP1 _ hS1 => fin H1 locs1 hP1 hS1)
  | iastore =>
    change sVIR _ _ = some _ at hst
    obtain ⟨v, j, a, r, rfl, h1⟩ := sVIR_inv hst
    obtain ⟨cc, hc, h4⟩ := oB_inv h1
    obtain ⟨h3, h2⟩ := oC_inv h4
    simp only [Option.some.injEq, Prod.mk.injEq] at h2
    obtain ⟨rfl, rfl, rfl⟩ := h2
    simp only [Bool.and_eq_true, Bool.or_eq_true, beq_iff_eq, decide_eq_true_eq] at h3
    obtain ⟨⟨⟨⟨hv, hk1⟩, hk2⟩, hj⟩, hlt⟩ := h3
    obtain ⟨x, rfl⟩ := isI_inv hv
    have he := gW_at (b := b) (base := base) (tyc := tyc) hc
    rw [gE_i hk1] at he
    have hin : vp_in j cc.2.2.length := fun z => z.elim hj (fun z => by omega)
    rw [hk2] at he
    refine va_iast hx hb hK hW.2 (gW_D b base tyc h) (vS_self hS) a 0 he rfl hin (hd 1 rfl (by decide)) (fun H1 locs1 hP1 _ hS1 => W_sz (fun hub => k H1 locs1 (Wd_set hW ?_ hS1.1 hN hub) (vS_comp hS hS1)))
    rw [updI_list hlt] at hP1
    rw [gE_i rfl]
    dsimp only
    rw [hk2, List.length_set]
    exact hP1
  | bastore =>
    change sVIR _ _ = some _ at hst
    obtain ⟨v, j, a, r, rfl, h1⟩ := sVIR_inv hst
    obtain ⟨cc, hc, h4⟩ := oB_inv h1
    obtain ⟨h3, h2⟩ := oC_inv h4
    simp only [Option.some.injEq, Prod.mk.injEq] at h2
    obtain ⟨rfl, rfl, rfl⟩ := h2
    simp only [Bool.and_eq_true, Bool.or_eq_true, beq_iff_eq, decide_eq_true_eq] at h3
    obtain ⟨⟨⟨⟨hv, hk1⟩, hk2⟩, hj⟩, hlt⟩ := h3
    obtain ⟨x, rfl⟩ := isI_inv hv
    have he := gW_at (b := b) (base := base) (tyc := tyc) hc
    rw [gE_i hk1] at he
    have hin : vp_in j cc.2.2.length := fun z => z.elim hj (fun z => by omega)
    rcases hk2 with hk2 | hk2
    · rw [hk2] at he
      refine va_bast hx hb hK hW.2 (gW_D b base tyc h) (vS_self hS) a 2 he rfl hin (hd 1 rfl (by decide)) (fun H1 locs1 hP1 _ hS1 => W_sz (fun hub => k H1 locs1 (Wd_set hW ?_ hS1.1 hN hub) (vS_comp hS hS1)))
      rw [updI_list hlt] at hP1
      rw [gE_i rfl]
      dsimp only
      rw [hk2, List.length_set]
      first | rw [if_pos rfl] | rw [if_neg (by decide)]
      exact hP1
    · rw [hk2] at he
      refine va_zast hx hb hK hW.2 (gW_D b base tyc h) (vS_self hS) a 3 he rfl hin (hd 1 rfl (by decide)) (fun H1 locs1 hP1 _ hS1 => W_sz (fun hub => k H1 locs1 (Wd_set hW ?_ hS1.1 hN hub) (vS_comp hS hS1)))
      rw [updI_list hlt] at hP1
      rw [gE_i rfl]
      dsimp only
      rw [hk2, List.length_set]
      first | rw [if_pos rfl] | rw [if_neg (by decide)]
      exact hP1
  | lastore =>
    change sVIR _ _ = some _ at hst
    obtain ⟨v, j, a, r, rfl, h1⟩ := sVIR_inv hst
    obtain ⟨cc, hc, h4⟩ := oB_inv h1
    obtain ⟨h3, h2⟩ := oC_inv h4
    simp only [Option.some.injEq, Prod.mk.injEq] at h2
    obtain ⟨rfl, rfl, rfl⟩ := h2
    simp only [Bool.and_eq_true, Bool.or_eq_true, beq_iff_eq, decide_eq_true_eq] at h3
    obtain ⟨⟨⟨⟨hv, hk1⟩, hk2⟩, hj⟩, hlt⟩ := h3
    obtain ⟨x, rfl⟩ := isL_inv hv
    have he := gW_at (b := b) (base := base) (tyc := tyc) hc
    rw [gE_l hk1] at he
    have hin : vp_in j cc.2.2.length := fun z => z.elim hj (fun z => by omega)
    rw [hk2] at he
    refine va_last hx hb hK hW.2 (gW_D b base tyc h) (vS_self hS) a 1 he rfl hin (hd 1 rfl (by decide)) (fun H1 locs1 hP1 _ hS1 => W_sz (fun hub => k H1 locs1 (Wd_set hW ?_ hS1.1 hN hub) (vS_comp hS hS1)))
    rw [updL_list hlt] at hP1
    rw [gE_l rfl]
    dsimp only
    rw [hk2, List.length_set]
    exact hP1
  | aastore =>
    change sVIR _ _ = some _ at hst
    obtain ⟨v, j, a, r, rfl, h1⟩ := sVIR_inv hst
    split at h1
    · rename_i x
      obtain ⟨dd, hdd, h1⟩ := oB_inv h1
      obtain ⟨cc, hc, h4⟩ := oB_inv h1
      obtain ⟨h3, h2⟩ := oC_inv h4
      simp only [Option.some.injEq, Prod.mk.injEq] at h2
      obtain ⟨rfl, rfl, rfl⟩ := h2
      simp only [Bool.and_eq_true, Bool.or_eq_true, beq_iff_eq, decide_eq_true_eq] at h3
      obtain ⟨⟨⟨⟨⟨hd1, hk1⟩, hk2⟩, hk7⟩, hj⟩, hlt⟩ := h3
      have he := gW_at (b := b) (base := base) (tyc := tyc) hc
      rw [gE_r hk1] at he
      have hv := gW_at (b := b) (base := base) (tyc := tyc) hdd
      rw [gE_o hd1] at hv
      have hin : vp_in j cc.2.2.length := fun z => z.elim hj (fun z => by omega)
      have fin : ∀ (H1 : Heap) (locs1 : List Loc), va_P D vwCl ((gW b base tyc h).set a (base + a, .inl (tyc cc.2.1, cc.2.2.length, .inr (.inr (.inr (.inr (va_up (fun k => asR base (cc.2.2.getD k .null)) j.toNatClampNeg (some (base + x))))))))) H1 → va_S (fun q => base ≤ q) H H1 locs1 → W p l e R s m args below meth c H1 locs1 cells slots Q (F0 m (pc + 1) ls (r.map (gV b base))) := by
        intro H1 locs1 hP1 hS1
        refine W_sz (fun hub => k H1 locs1 (Wd_set hW ?_ hS1.1 hN hub) (vS_comp hS hS1))
        rw [updR_list hlt] at hP1
        rw [gE_r rfl]
        simpa only [List.length_set] using hP1
      have hty3 : (dd.2.1 = 0 ∧ cc.2.1 = 4) ∨ (dd.2.1 = 4 ∧ cc.2.1 = 5) ∨ (dd.2.1 = 7 ∧ cc.2.1 = 6) := by
        unfold ciTy at hk2
        split at hk2
        · exact Or.inl ⟨by assumption, hk2⟩
        · split at hk2
          · exact Or.inr (Or.inl ⟨by assumption, hk2⟩)
          · split at hk2
            · exact Or.inr (Or.inr ⟨by assumption, hk2⟩)
            · omega
      rcases hty3 with ⟨z1, z2⟩ | ⟨z1, z2⟩ | ⟨z1, z2⟩
      · rw [z2] at he fin
        rw [z1] at hv
        exact va_astq hx hb hK hW.2 (gW_D b base tyc h) (vS_self hS) a 4 x 0 he rfl hv rfl hin (hd 1 rfl (by decide)) (fun H1 locs1 hP1 _ hS1 => fin H1 locs1 hP1 hS1)
      · rw [z2] at he fin
        rw [z1] at hv
        exact va_astq hx hb hK hW.2 (gW_D b base tyc h) (vS_self hS) a 5 x 4 he rfl hv rfl hin (hd 1 rfl (by decide)) (fun H1 locs1 hP1 _ hS1 => fin H1 locs1 hP1 hS1)
      · rw [z2] at he fin
        rw [z1] at hv
        exact va_astq hx hb hK hW.2 (gW_D b base tyc h) (vS_self hS) a 6 x 7 he rfl hv rfl hin (hd 1 rfl (by decide)) (fun H1 locs1 hP1 _ hS1 => fin H1 locs1 hP1 hS1)
    · cases h1
  | _ => exact absurd hst (by intro z; cases z)
/-! cells that come -/
def aty (t : ArrayType) : Option (Nat × Nat × Value) := match t with
  | .int => some (1, 0, .int 0)
  | .long => some (2, 1, .long 0)
  | .byte => some (1, 2, .int 0)
  | .boolean => some (1, 3, .int 0)
  | _ => none
/-- the classes, the rows' types, and that rows of objects may be made -/
def KX (D : va_G) (tyc : Nat → ClassId) (s : State) : Prop := va_K D vwCl (TYS tyc) s ∧ va_AO RX0 s ∧ va_AO RX4 s ∧ va_AO RX7 s ∧ ∀ w ∈ NST, va_Nw w s
theorem KX_warm {D : va_G} {tyc : Nat → ClassId} {u U : State} (hW : u.WarmedH U.vm) (h : KX D tyc u) : KX D tyc U := ⟨va_K.moved hW.alike h.1, va_AO.moved hW.alike h.2.1, va_AO.moved hW.alike h.2.2.1, va_AO.moved hW.alike h.2.2.2.1, fun w hw => NST_warm hw hW (h.2.2.2.2 w hw)⟩
theorem KX_call {D : va_G} {tyc : Nat → ClassId} {U : State} {g : JFrame} {mk : MethodId} {a : Array Value} (h : KX D tyc U) : KX D tyc (U.calling g mk a) := ⟨va_K.moved (u := U) (U := U.calling g mk a) (Vm.Alike.refl U.vm) h.1, va_AO.moved (u := U) (U := U.calling g mk a) (Vm.Alike.refl U.vm) h.2.1, va_AO.moved (u := U) (U := U.calling g mk a) (Vm.Alike.refl U.vm) h.2.2.1, va_AO.moved (u := U) (U := U.calling g mk a) (Vm.Alike.refl U.vm) h.2.2.2.1, fun w hw => va_Nw.same (NST_on hw) (u := U) (U := U.calling g mk a) rfl (h.2.2.2.2 w hw)⟩
def stpN (F : MR) (i : Instr) (pc : Nat) (st : List Value) (h : AH) : Option (Nat × List Value × AH) :=
  match i with
  | .new k => oB (fnd (mkc F) k) (fun e => some (pc + 3, .ref h.length :: st, h ++ [(0, e.1, DFL e.1)]))
  | .newarray t => oB (aty t) (fun q => sI st (fun n r => oC (decide (¬ n < 0) && decide (n.toNatClampNeg ≤ 100000)) (some (pc + 2, .ref h.length :: r, h ++ [(q.1, q.2.1, List.replicate n.toNatClampNeg q.2.2)]))))
  | .anewarray k => oB (fnd (mkc F) k) (fun e => sI st (fun n r => oC (decide (¬ n < 0) && decide (n.toNatClampNeg ≤ 100000) && decide (ciTy e.1 < 7)) (some (pc + 3, .ref h.length :: r, h ++ [(3, ciTy e.1, List.replicate n.toNatClampNeg .null)]))))
  | _ => none
theorem slo_push (h : AH) (c : AC) : slo (h ++ [c]) = slo h + c.2.2.length := by unfold slo; simp
theorem rep_I (n : Nat) : (fun j => asI ((List.replicate n (Value.int 0)).getD j .null)) = fun _ => (0 : Int32) := by
  funext j
  rw [List.getD_eq_getElem?_getD, List.getElem?_replicate]
  by_cases h : j < n <;> simp [h, asI]
theorem rep_L (n : Nat) : (fun j => asL ((List.replicate n (Value.long 0)).getD j .null)) = fun _ => (0 : Int64) := by
  funext j
  rw [List.getD_eq_getElem?_getD, List.getElem?_replicate]
  by_cases h : j < n <;> simp [h, asL]
theorem rep_R (base n : Nat) : (fun j => asR base ((List.replicate n Value.null).getD j .null)) = fun _ => (none : Option Nat) := by
  funext j
  rw [List.getD_eq_getElem?_getD, List.getElem?_replicate]
  by_cases h : j < n <;> simp [h, asR]
theorem TY_same {D : va_G} {tyc : Nat → ClassId} {s : State} {cA : ClassId} {ty : FieldType} {i : Nat} (hK : va_K D vwCl (TYS tyc ++ [(cA, ty)]) s) (hi : (TYS tyc)[i]? = some (tyc i, ty)) : cA = tyc i := by
  have hl : i < (TYS tyc).length := (List.getElem?_eq_some_iff.mp hi).1
  have h1 := (hK.2 i (tyc i, ty) (by rw [List.getElem?_append_left hl]; exact hi)).2
  have h2 := (hK.2 (TYS tyc).length (cA, ty) (by rw [List.getElem?_append_right (Nat.le_refl _)]; simp)).2
  unfold va_RA at h1 h2
  cases ty with
  | object C =>
    obtain ⟨_, _, _, _, _, e1⟩ := h1
    obtain ⟨_, _, _, _, _, e2⟩ := h2
    exact Option.some.inj (e2.symm.trans e1)
  | _ => exact Option.some.inj (h2.symm.trans h1)
set_option maxHeartbeats 4000000 in
set_option maxRecDepth 100000 in
theorem stpN_ok {MT : Nat → Option MR} {p : Program} {l : Launch} {e : Env} {R : Room} {s : State} {m : MethodId} {args : Array Value} {below : List Frame} {meth : Method} {c : Code} {H : Heap} {locs : List Loc} {cells slots S0 : Nat} {Q : State → Prop} {F : MR} {i : Instr} {len tgt pc pc' : Nat} {st st' : List Value} {h h' : AH} {D : va_G} {tyc : Nat → ClassId} {b : Nat → Nat} {base : Nat} {ls : Array Slot}
    (hF : FOK MT F) (C : Ctx p s m args meth c F) (hKX : KX D tyc s) (hW : Wd D tyc b base h H) (hS : va_S (fun q => base ≤ q) s.heap H locs) (hbs : base ≤ s.heap.size) (hN : base + h.length = s.heap.size + cells) (hM : slo h = S0 + slots) (hRc : base + h'.length ≤ s.heap.size + R.cells) (hRs : slo h' ≤ S0 + R.slots)
    (hf : fc F pc = some (i, len, tgt)) (hst : stpN F i pc st h = some (pc', st', h'))
    (k : ∀ H' locs' cells' slots', Wd D tyc b base h' H' → va_S (fun q => base ≤ q) s.heap H' locs' → base + h'.length = s.heap.size + cells' → slo h' = S0 + slots' → W p l e R s m args below meth c H' locs' cells' slots' Q (F0 m pc' ls (st'.map (gV b base)))) :
    W p l e R s m args below meth c H locs cells slots Q (F0 m pc ls (st.map (gV b base))) := by
  obtain ⟨hx, hb, hr, hml, hown, hlocks, hts, hin0, hal⟩ := C
  obtain ⟨hD, hlen, hoff⟩ := hF.1 _ (fc_mem hf)
  dsimp only at hD hlen hoff
  have hd : ∀ n, ilen i = n → n ≠ 0 → decode (mcc F) pc = .ok (i, n) := by
    intro n h1 h2
    rcases hlen with h3 | h3
    · omega
    · rw [← h1, h3]; exact hD
  have hK := hKX.1
  have hsz := hW.1
  have hA : ∀ q, H.size ≤ q → (fun q => base ≤ q) q := fun q hq => by dsimp only; omega
  cases i with
  | new z =>
    change oB _ _ = some _ at hst
    obtain ⟨e0, he0, h2⟩ := oB_inv hst
    simp only [Option.some.injEq, Prod.mk.injEq] at h2
    obtain ⟨rfl, rfl, rfl⟩ := h2
    obtain ⟨⟨C0, T0, N0⟩, hr0, hw0⟩ := hF.2.2.2.2.2.1 _ (fnd_mem he0)
    dsimp only at hr0 hw0
    obtain ⟨hty, hnm⟩ := CLS_ty hr0
    obtain ⟨hi1, hi2, hdl, hdv⟩ := CLS_new hr0
    rw [slo_push] at hRs k
    rw [List.length_append] at hRc k
    dsimp only [List.length_cons, List.length_nil] at hRc hRs k
    refine va_new hx hb hts (CLS_in hr0) (TYF e0.1) hty hown (hts _ hw0) (hts _ hi1) (hts _ hi2) hK hW.2 (gW_D b base tyc h) (vS_self hS) hA hr0 (fs := (DFL e0.1).map (gV b base)) (hdv b base) (by omega) (by omega) (hd 3 rfl (by decide)) (fun q H1 hP1 hD1 hS1 => W_sz (fun hub => ?_))
    have e9 : (Sum.inr (e0.1, (DFL e0.1).map (gV b base)) : va_E) = gE b base tyc (0, e0.1, DFL e0.1) := (gE_o (c := (0, e0.1, DFL e0.1)) rfl).symm
    rw [e9] at hP1 hD1
    obtain ⟨hW1, rfl⟩ := Wd_push hW hP1 hD1 hN hub
    exact k H1 locs (cells + 1) (slots + N0) hW1 (vS_comp hS hS1) (by omega) (by omega)
  | newarray t =>
    change oB _ _ = some _ at hst
    obtain ⟨q0, hq0, h1⟩ := oB_inv hst
    obtain ⟨n, r, rfl, h4⟩ := sI_inv h1
    obtain ⟨h3, h2⟩ := oC_inv h4
    simp only [Option.some.injEq, Prod.mk.injEq] at h2
    obtain ⟨rfl, rfl, rfl⟩ := h2
    simp only [Bool.and_eq_true, decide_eq_true_eq] at h3
    obtain ⟨hn, hn5⟩ := h3
    rw [slo_push] at hRs k
    rw [List.length_append] at hRc k
    dsimp only [List.length_cons, List.length_nil] at hRc hRs k
    rw [List.length_replicate] at hRs k
    cases t with

    | int =>
      cases (show some (1, 0, Value.int 0) = some q0 from hq0)
      have hbytes : n.toNatClampNeg * componentBytes .int ≤ 536870912 := Nat.le_trans (Nat.mul_le_mul hn5 (show componentBytes .int ≤ 8 by decide)) (by decide)
      refine va_newa (atype := .int) (ty := .int) (a0 := (n.toNatClampNeg, .inl (fun _ => 0))) hx hb (hts _ ARR_int) rfl hK hW.2 (gW_D b base tyc h) (vS_self hS) hA (fun cA => rfl) hn rfl hbytes (by omega) (by omega) (hd 2 rfl (by decide)) (fun q cA H1 hK1 hP1 hD1 hS1 => W_sz (fun hub => ?_))
      have e8 := TY_same (i := 0) hK1 rfl
      subst e8
      have e9 : (Sum.inl (tyc 0, n.toNatClampNeg, .inl (fun _ => 0)) : va_E) = gE b base tyc (1, 0, List.replicate n.toNatClampNeg (.int 0)) := by
        rw [gE_i rfl]
        dsimp only
        rw [List.length_replicate, rep_I]
      rw [e9] at hP1 hD1
      obtain ⟨hW1, rfl⟩ := Wd_push hW hP1 hD1 hN hub
      exact k H1 locs (cells + 1) (slots + n.toNatClampNeg) hW1 (vS_comp hS hS1) (by omega) (by omega)
    | long =>
      cases (show some (2, 1, Value.long 0) = some q0 from hq0)
      have hbytes : n.toNatClampNeg * componentBytes .long ≤ 536870912 := Nat.le_trans (Nat.mul_le_mul hn5 (show componentBytes .long ≤ 8 by decide)) (by decide)
      refine va_newa (atype := .long) (ty := .long) (a0 := (n.toNatClampNeg, .inr (.inl (fun _ => 0)))) hx hb (hts _ ARR_long) rfl hK hW.2 (gW_D b base tyc h) (vS_self hS) hA (fun cA => rfl) hn rfl hbytes (by omega) (by omega) (hd 2 rfl (by decide)) (fun q cA H1 hK1 hP1 hD1 hS1 => W_sz (fun hub => ?_))
      have e8 := TY_same (i := 1) hK1 rfl
      subst e8
      have e9 : (Sum.inl (tyc 1, n.toNatClampNeg, .inr (.inl (fun _ => 0))) : va_E) = gE b base tyc (2, 1, List.replicate n.toNatClampNeg (.long 0)) := by
        rw [gE_l rfl]
        dsimp only
        rw [List.length_replicate, rep_L]
      rw [e9] at hP1 hD1
      obtain ⟨hW1, rfl⟩ := Wd_push hW hP1 hD1 hN hub
      exact k H1 locs (cells + 1) (slots + n.toNatClampNeg) hW1 (vS_comp hS hS1) (by omega) (by omega)
    | byte =>
      cases (show some (1, 2, Value.int 0) = some q0 from hq0)
      have hbytes : n.toNatClampNeg * componentBytes .byte ≤ 536870912 := Nat.le_trans (Nat.mul_le_mul hn5 (show componentBytes .byte ≤ 8 by decide)) (by decide)
      refine va_newa (atype := .byte) (ty := .byte) (a0 := (n.toNatClampNeg, .inl (fun _ => 0))) hx hb (hts _ ARR_byte) rfl hK hW.2 (gW_D b base tyc h) (vS_self hS) hA (fun cA => rfl) hn rfl hbytes (by omega) (by omega) (hd 2 rfl (by decide)) (fun q cA H1 hK1 hP1 hD1 hS1 => W_sz (fun hub => ?_))
      have e8 := TY_same (i := 2) hK1 rfl
      subst e8
      have e9 : (Sum.inl (tyc 2, n.toNatClampNeg, .inl (fun _ => 0)) : va_E) = gE b base tyc (1, 2, List.replicate n.toNatClampNeg (.int 0)) := by
        rw [gE_i rfl]
        dsimp only
        rw [List.length_replicate, rep_I]
      rw [e9] at hP1 hD1
      obtain ⟨hW1, rfl⟩ := Wd_push hW hP1 hD1 hN hub
      exact k H1 locs (cells + 1) (slots + n.toNatClampNeg) hW1 (vS_comp hS hS1) (by omega) (by omega)
    | boolean =>
      cases (show some (1, 3, Value.int 0) = some q0 from hq0)
      have hbytes : n.toNatClampNeg * componentBytes .boolean ≤ 536870912 := Nat.le_trans (Nat.mul_le_mul hn5 (show componentBytes .boolean ≤ 8 by decide)) (by decide)
      refine va_newa (atype := .boolean) (ty := .boolean) (a0 := (n.toNatClampNeg, .inl (fun _ => 0))) hx hb (hts _ ARR_boolean) rfl hK hW.2 (gW_D b base tyc h) (vS_self hS) hA (fun cA => rfl) hn rfl hbytes (by omega) (by omega) (hd 2 rfl (by decide)) (fun q cA H1 hK1 hP1 hD1 hS1 => W_sz (fun hub => ?_))
      have e8 := TY_same (i := 3) hK1 rfl
      subst e8
      have e9 : (Sum.inl (tyc 3, n.toNatClampNeg, .inl (fun _ => 0)) : va_E) = gE b base tyc (1, 3, List.replicate n.toNatClampNeg (.int 0)) := by
        rw [gE_i rfl]
        dsimp only
        rw [List.length_replicate, rep_I]
      rw [e9] at hP1 hD1
      obtain ⟨hW1, rfl⟩ := Wd_push hW hP1 hD1 hN hub
      exact k H1 locs (cells + 1) (slots + n.toNatClampNeg) hW1 (vS_comp hS hS1) (by omega) (by omega)
    | _ => exact absurd hq0 (by intro z; cases z)
  | anewarray z =>
    change oB _ _ = some _ at hst
    obtain ⟨e0, he0, h1⟩ := oB_inv hst
    obtain ⟨n, r, rfl, h4⟩ := sI_inv h1
    obtain ⟨h3, h2⟩ := oC_inv h4
    simp only [Option.some.injEq, Prod.mk.injEq] at h2
    obtain ⟨rfl, rfl, rfl⟩ := h2
    simp only [Bool.and_eq_true, decide_eq_true_eq] at h3
    obtain ⟨⟨hn, hn5⟩, hci⟩ := h3
    rw [slo_push] at hRs k
    rw [List.length_append] at hRc k
    dsimp only [List.length_cons, List.length_nil] at hRc hRs k
    rw [List.length_replicate] at hRs k
    obtain ⟨⟨C0, T0, N0⟩, hr0, hw0⟩ := hF.2.2.2.2.2.1 _ (fnd_mem he0)
    dsimp only at hr0 hw0
    have hty3 : (e0.1 = 0 ∧ ciTy e0.1 = 4) ∨ (e0.1 = 4 ∧ ciTy e0.1 = 5) ∨ (e0.1 = 7 ∧ ciTy e0.1 = 6) := by
      unfold ciTy at hci ⊢
      split
      · exact Or.inl ⟨by assumption, rfl⟩
      · split
        · exact Or.inr (Or.inl ⟨by assumption, rfl⟩)
        · split
          · exact Or.inr (Or.inr ⟨by assumption, rfl⟩)
          · rename_i g1 g2 g3
            rw [if_neg g1, if_neg g2, if_neg g3] at hci
            omega
    rcases hty3 with ⟨z1, z2⟩ | ⟨z1, z2⟩ | ⟨z1, z2⟩
    · rw [z1] at hr0
      cases (show some (RX0, TX0, 4) = some (C0, T0, N0) from hr0)
      refine va_newq hx hb hown (hts _ hw0) hKX.2.1 hK hW.2 (gW_D b base tyc h) (vS_self hS) hA (N' := n.toNatClampNeg) hn rfl (by omega) (by omega) (by omega) (hd 3 rfl (by decide)) (fun q cA H1 hK1 hP1 hD1 hS1 => W_sz (fun hub => ?_))
      have e8 := TY_same (i := 4) hK1 rfl
      subst e8
      have e9 : (Sum.inl (tyc 4, n.toNatClampNeg, .inr (.inr (.inr (.inr (fun _ => none))))) : va_E) = gE b base tyc (3, ciTy e0.1, List.replicate n.toNatClampNeg .null) := by
        rw [gE_r rfl, z2]
        dsimp only
        rw [List.length_replicate, rep_R]
      rw [e9] at hP1 hD1
      obtain ⟨hW1, rfl⟩ := Wd_push hW hP1 hD1 hN hub
      exact k H1 locs (cells + 1) (slots + n.toNatClampNeg) hW1 (vS_comp hS hS1) (by omega) (by omega)
    · rw [z1] at hr0
      cases (show some (RX4, TX4, 16) = some (C0, T0, N0) from hr0)
      refine va_newq hx hb hown (hts _ hw0) hKX.2.2.1 hK hW.2 (gW_D b base tyc h) (vS_self hS) hA (N' := n.toNatClampNeg) hn rfl (by omega) (by omega) (by omega) (hd 3 rfl (by decide)) (fun q cA H1 hK1 hP1 hD1 hS1 => W_sz (fun hub => ?_))
      have e8 := TY_same (i := 5) hK1 rfl
      subst e8
      have e9 : (Sum.inl (tyc 5, n.toNatClampNeg, .inr (.inr (.inr (.inr (fun _ => none))))) : va_E) = gE b base tyc (3, ciTy e0.1, List.replicate n.toNatClampNeg .null) := by
        rw [gE_r rfl, z2]
        dsimp only
        rw [List.length_replicate, rep_R]
      rw [e9] at hP1 hD1
      obtain ⟨hW1, rfl⟩ := Wd_push hW hP1 hD1 hN hub
      exact k H1 locs (cells + 1) (slots + n.toNatClampNeg) hW1 (vS_comp hS hS1) (by omega) (by omega)
    · rw [z1] at hr0
      cases (show some (RX7, TX7, 4) = some (C0, T0, N0) from hr0)
      refine va_newq hx hb hown (hts _ hw0) hKX.2.2.2.1 hK hW.2 (gW_D b base tyc h) (vS_self hS) hA (N' := n.toNatClampNeg) hn rfl (by omega) (by omega) (by omega) (hd 3 rfl (by decide)) (fun q cA H1 hK1 hP1 hD1 hS1 => W_sz (fun hub => ?_))
      have e8 := TY_same (i := 6) hK1 rfl
      subst e8
      have e9 : (Sum.inl (tyc 6, n.toNatClampNeg, .inr (.inr (.inr (.inr (fun _ => none))))) : va_E) = gE b base tyc (3, ciTy e0.1, List.replicate n.toNatClampNeg .null) := by
        rw [gE_r rfl, z2]
        dsimp only
        rw [List.length_replicate, rep_R]
      rw [e9] at hP1 hD1
      obtain ⟨hW1, rfl⟩ := Wd_push hW hP1 hD1 hN hub
      exact k H1 locs (cells + 1) (slots + n.toNatClampNeg) hW1 (vS_comp hS hS1) (by omega) (by omega)
  | _ => exact absurd hst (by intro z; cases z)
end
/-! 07.am -/
section
/-! THE MACHINE -/
def callKd (i : Instr) (kd : Nat) : Bool := match i with
  | .invokevirtual _ => kd == 0 || kd == 1 || kd == 6
  | .invokestatic _ => kd == 2 || kd == 3 || kd == 8
  | .invokespecial _ => kd == 4 || kd == 5 || kd == 9
  | _ => false
def callIx (i : Instr) : Nat := match i with
  | .invokevirtual k => k
  | .invokestatic k => k
  | .invokespecial k => k
  | _ => 0
def cpyl (l0 l1 : List Value) (sp dp n : Nat) : List Value := (List.range l1.length).map (fun k => if dp ≤ k ∧ k < dp + n then l0.getD (sp + (k - dp)) .null else l1.getD k .null)
def acopy (st : List Value) (h : AH) : Option (List Value × AH) := match st with
  | .int n :: .int dp :: .ref a1 :: .int sp :: .ref a0 :: r => oB h[a0]? (fun c0 => oB h[a1]? (fun c1 => oC (decide (¬ sp < 0) && decide (¬ dp < 0) && decide (¬ n < 0) && c0.1 == c1.1 && c0.2.1 == c1.2.1 && (c0.1 == 1 && c0.2.1 == 0 || c0.1 == 2 && c0.2.1 == 1) && decide (sp.toNatClampNeg + n.toNatClampNeg ≤ c0.2.2.length) && decide (dp.toNatClampNeg + n.toNatClampNeg ≤ c1.2.2.length)) (some (r, h.set a1 (c1.1, c1.2.1, cpyl c0.2.2 c1.2.2 sp.toNatClampNeg dp.toNatClampNeg n.toNatClampNeg)))))
  | _ => none
def doRet (F : MR) (i : Instr) (st : List Value) (h : AH) : Option (Option Value × AH) := match i with
  | .ireturn => match mret F, st with
    | some .int, [.int x] => some (some (.int x), h)
    | some .boolean, [.int x] => oC (x &&& 1 == x) (some (some (.int x), h))
    | some .byte, [.int x] => oC (x.toInt8.toInt32 == x) (some (some (.int x), h))
    | some .char, [.int x] => oC ((x.toUInt32 % 65536).toInt32 == x) (some (some (.int x), h))
    | _, _ => none
  | .lreturn => match mret F, st with
    | some .long, [.long x] => some (some (.long x), h)
    | _, _ => none
  | .areturn => match mret F, st with
    | some (.object _), [.ref a] => some (some (.ref a), h)
    | _, _ => none
  | .return_ => match mret F, st with
    | none, [] => some (none, h)
    | _, _ => none
  | _ => none
/-- the receiver of a call is of the callee's class (virtual), or any object (init), or there is none (static) -/
def rcv (kd ci : Nat) (vs : List Value) (h : AH) : Bool := match kd with
  | 2 => true
  | 3 => true
  | 4 => match vs with
    | .ref _ :: _ => true
    | _ => false
  | 5 => match vs with
    | .ref _ :: _ => true
    | _ => false
  | 6 => match vs with
    | .retAddr a :: _ => a % 2 == 1 && decide (a / 2 < NSTR)
    | _ => false
  | _ => match vs with
    | .ref a :: _ => match h[a]? with
      | some c => c.1 == 0 && c.2.1 == ci
      | none => false
    | _ => false
abbrev AM : Type := Nat → Nat → AS → MR → Nat → ALv → List Value → AH → Option (Option Value × AH)
def nArg (kd : Nat) (G : MR) : Nat := if kd = 2 ∨ kd = 3 then mnp G else mnp G + 1
def amC (MT : Nat → Option MR) (rec : AM) (fr lo : Nat) (scr : AS) (F : MR) (i : Instr) (pc : Nat) (lv : ALv) (st : List Value) (h : AH) (kd id : Nat) : Option (Option Value × AH) := match kd with
  | 8 => oB (acopy st h) (fun q => oC (decide (1 ≤ fr) && decide (cats q.1 + 40 ≤ lo)) (rec fr lo scr F (pc + 3) lv q.1 q.2))
  | 9 => sR st (fun _ r => oC (decide (1 ≤ fr) && decide (cats r + 12 ≤ lo)) (rec fr lo scr F (pc + 3) lv r h))
  | kd => oB (MT id) (fun G => oC (decide (nArg kd G ≤ st.length) && decide (1 ≤ fr) && decide (mml G + 19 ≤ lo) && decide (cats (st.drop (nArg kd G)) ≤ 8) && decide (cats (st.take (nArg kd G)) ≤ mml G) && rcv kd (mci G) (st.take (nArg kd G)).reverse h)
      (oB (rec (fr - 1) (lo - (mml G + 19)) none G 0 (lv_args 0 (st.take (nArg kd G)).reverse) [] h) (fun q => rec fr lo scr F (pc + 3) lv (q.1.toList ++ st.drop (nArg kd G)) q.2)))
def amB (MT : Nat → Option MR) (rec : AM) : AM := fun fr lo scr F pc lv st h =>
  oB (fc F pc) (fun q => match ikind q.1 with
    | 0 => oB (stpA F scr q.1 q.2.2 pc lv st h) (fun x => rec fr lo scr F x.1 x.2.1 x.2.2 h)
    | 1 => oB (stpW F q.1 pc st h) (fun x => rec fr lo scr F x.1 lv x.2.1 x.2.2)
    | 2 => oB (stpN F q.1 pc st h) (fun x => rec fr lo scr F x.1 lv x.2.1 x.2.2)
    | 3 => oB (fnd (mcl F) (callIx q.1)) (fun e => oC (callKd q.1 e.1) (amC MT rec fr lo scr F q.1 pc lv st h e.1 e.2.1))
    | _ => doRet F q.1 st h)
noncomputable def am (MT : Nat → Option MR) (n : Nat) : AM := Nat.rec (motive := fun _ => AM) (fun _ _ _ _ _ _ _ _ => none) (fun _ ih => amB MT ih) n
theorem am_s (MT : Nat → Option MR) (n : Nat) : am MT (n + 1) = amB MT (am MT n) := rfl
/-! cells only come -/
theorem slo_set {h : AH} {a : Nat} {c d : AC} (hc : h[a]? = some c) (hd : d.2.2.length = c.2.2.length) : slo (h.set a d) = slo h := by
  unfold slo
  congr 1
  apply List.ext_getElem?
  intro i
  simp only [List.getElem?_map, List.getElem?_set]
  by_cases hi : a = i
  · subst hi
    obtain ⟨hlt, he⟩ := List.getElem?_eq_some_iff.mp hc
    simp [hlt, hd, he]
  · simp [hi]
theorem stpW_len {F : MR} {i : Instr} {pc pc' : Nat} {st st' : List Value} {h h' : AH} (hst : stpW F i pc st h = some (pc', st', h')) : h'.length = h.length ∧ slo h' = slo h := by
  cases i with
  | putfield z =>
    change sVR _ _ = some _ at hst
    obtain ⟨v, a, r, rfl, h1⟩ := sVR_inv hst
    obtain ⟨e0, he0, h4⟩ := oB_inv h1
    obtain ⟨cc, hc, h5⟩ := oB_inv h4
    obtain ⟨h3, h2⟩ := oC_inv h5
    simp only [Option.some.injEq, Prod.mk.injEq] at h2
    obtain ⟨rfl, rfl, rfl⟩ := h2
    exact ⟨List.length_set, slo_set hc (by simp)⟩
  | iastore =>
    change sVIR _ _ = some _ at hst
    obtain ⟨v, j, a, r, rfl, h1⟩ := sVIR_inv hst
    obtain ⟨cc, hc, h4⟩ := oB_inv h1
    obtain ⟨h3, h2⟩ := oC_inv h4
    simp only [Option.some.injEq, Prod.mk.injEq] at h2
    obtain ⟨rfl, rfl, rfl⟩ := h2
    exact ⟨List.length_set, slo_set hc (by simp)⟩
  | bastore =>
    change sVIR _ _ = some _ at hst
    obtain ⟨v, j, a, r, rfl, h1⟩ := sVIR_inv hst
    obtain ⟨cc, hc, h4⟩ := oB_inv h1
    obtain ⟨h3, h2⟩ := oC_inv h4
    simp only [Option.some.injEq, Prod.mk.injEq] at h2
    obtain ⟨rfl, rfl, rfl⟩ := h2
    exact ⟨List.length_set, slo_set hc (by simp)⟩
  | lastore =>
    change sVIR _ _ = some _ at hst
    obtain ⟨v, j, a, r, rfl, h1⟩ := sVIR_inv hst
    obtain ⟨cc, hc, h4⟩ := oB_inv h1
    obtain ⟨h3, h2⟩ := oC_inv h4
    simp only [Option.some.injEq, Prod.mk.injEq] at h2
    obtain ⟨rfl, rfl, rfl⟩ := h2
    exact ⟨List.length_set, slo_set hc (by simp)⟩
  | aastore =>
    change sVIR _ _ = some _ at hst
    obtain ⟨v, j, a, r, rfl, h1⟩ := sVIR_inv hst
    split at h1
    · obtain ⟨dd, hdd, h1⟩ := oB_inv h1
      obtain ⟨cc, hc, h4⟩ := oB_inv h1
      obtain ⟨h3, h2⟩ := oC_inv h4
      simp only [Option.some.injEq, Prod.mk.injEq] at h2
      obtain ⟨rfl, rfl, rfl⟩ := h2
      exact ⟨List.length_set, slo_set hc (by simp)⟩
    · cases h1
  | _ => exact absurd hst (by intro z; cases z)
theorem stpN_len {F : MR} {i : Instr} {pc pc' : Nat} {st st' : List Value} {h h' : AH} (hst : stpN F i pc st h = some (pc', st', h')) : h.length ≤ h'.length ∧ slo h ≤ slo h' := by
  cases i with
  | new z =>
    change oB _ _ = some _ at hst
    obtain ⟨e0, he0, h2⟩ := oB_inv hst
    simp only [Option.some.injEq, Prod.mk.injEq] at h2
    obtain ⟨rfl, rfl, rfl⟩ := h2
    exact ⟨by simp, by rw [slo_push]; omega⟩
  | newarray t =>
    change oB _ _ = some _ at hst
    obtain ⟨q0, hq0, h1⟩ := oB_inv hst
    obtain ⟨n, r, rfl, h4⟩ := sI_inv h1
    obtain ⟨h3, h2⟩ := oC_inv h4
    simp only [Option.some.injEq, Prod.mk.injEq] at h2
    obtain ⟨rfl, rfl, rfl⟩ := h2
    exact ⟨by simp, by rw [slo_push]; omega⟩
  | anewarray z =>
    change oB _ _ = some _ at hst
    obtain ⟨e0, he0, h1⟩ := oB_inv hst
    obtain ⟨n, r, rfl, h4⟩ := sI_inv h1
    obtain ⟨h3, h2⟩ := oC_inv h4
    simp only [Option.some.injEq, Prod.mk.injEq] at h2
    obtain ⟨rfl, rfl, rfl⟩ := h2
    exact ⟨by simp, by rw [slo_push]; omega⟩
  | _ => exact absurd hst (by intro z; cases z)
theorem acopy_inv {st r : List Value} {h h' : AH} (hst : acopy st h = some (r, h')) : ∃ (n dp sp : Int32) (a0 a1 : Nat) (c0 c1 : AC), st = .int n :: .int dp :: .ref a1 :: .int sp :: .ref a0 :: r ∧ h[a0]? = some c0 ∧ h[a1]? = some c1 ∧ ¬ sp < 0 ∧ ¬ dp < 0 ∧ ¬ n < 0 ∧ c0.1 = c1.1 ∧ c0.2.1 = c1.2.1 ∧ (c0.1 = 1 ∧ c0.2.1 = 0 ∨ c0.1 = 2 ∧ c0.2.1 = 1) ∧ sp.toNatClampNeg + n.toNatClampNeg ≤ c0.2.2.length ∧ dp.toNatClampNeg + n.toNatClampNeg ≤ c1.2.2.length ∧ h' = h.set a1 (c1.1, c1.2.1, cpyl c0.2.2 c1.2.2 sp.toNatClampNeg dp.toNatClampNeg n.toNatClampNeg) := by
  unfold acopy at hst
  split at hst
  · rename_i n dp a1 sp a0 r
    obtain ⟨c0, hc0, h1⟩ := oB_inv hst
    obtain ⟨c1, hc1, h2⟩ := oB_inv h1
    obtain ⟨h3, h4⟩ := oC_inv h2
    simp only [Option.some.injEq, Prod.mk.injEq] at h4
    obtain ⟨rfl, rfl⟩ := h4
    simp only [Bool.and_eq_true, Bool.or_eq_true, beq_iff_eq, decide_eq_true_eq] at h3
    obtain ⟨⟨⟨⟨⟨⟨⟨g1, g2⟩, g3⟩, g4⟩, g5⟩, g6⟩, g7⟩, g8⟩ := h3
    exact ⟨n, dp, sp, a0, a1, c0, c1, rfl, hc0, hc1, g1, g2, g3, g4, g5, g6, g7, g8, rfl⟩
  · cases hst
theorem cpyl_len (l0 l1 : List Value) (sp dp n : Nat) : (cpyl l0 l1 sp dp n).length = l1.length := by unfold cpyl; simp
theorem doRet_h {F : MR} {i : Instr} {st : List Value} {h h' : AH} {v : Option Value} (hst : doRet F i st h = some (v, h')) : h' = h := by
  unfold doRet at hst
  split at hst
  · split at hst
    · cases hst; rfl
    · obtain ⟨-, h2⟩ := oC_inv hst; cases h2; rfl
    · obtain ⟨-, h2⟩ := oC_inv hst; cases h2; rfl
    · obtain ⟨-, h2⟩ := oC_inv hst; cases h2; rfl
    · cases hst
  · split at hst
    · cases hst; rfl
    · cases hst
  · split at hst
    · cases hst; rfl
    · cases hst
  · split at hst
    · cases hst; rfl
    · cases hst
  · cases hst
theorem am_len (MT : Nat → Option MR) : ∀ (n fr lo : Nat) (scr : AS) (F : MR) (pc : Nat) (lv : ALv) (st : List Value) (h h' : AH) (v : Option Value), am MT n fr lo scr F pc lv st h = some (v, h') → h.length ≤ h'.length ∧ slo h ≤ slo h' := by
  intro n
  induction n with
  | zero => intro fr lo scr F pc lv st h h' v hh; cases hh
  | succ n ih =>
    intro fr lo scr F pc lv st h h' v hh
    rw [am_s] at hh
    unfold amB at hh
    obtain ⟨q, hq, h1⟩ := oB_inv hh
    split at h1
    · obtain ⟨x, hx, h2⟩ := oB_inv h1
      exact ih _ _ _ _ _ _ _ _ _ _ h2
    · obtain ⟨x, hx, h2⟩ := oB_inv h1
      have z := ih _ _ _ _ _ _ _ _ _ _ h2
      have y := stpW_len (pc' := x.1) (st' := x.2.1) (h' := x.2.2) hx
      omega
    · obtain ⟨x, hx, h2⟩ := oB_inv h1
      have z := ih _ _ _ _ _ _ _ _ _ _ h2
      have y := stpN_len (pc' := x.1) (st' := x.2.1) (h' := x.2.2) hx
      omega
    · obtain ⟨e, he, h2⟩ := oB_inv h1
      obtain ⟨hk, h3⟩ := oC_inv h2
      unfold amC at h3
      split at h3
      · obtain ⟨x, hx, h4⟩ := oB_inv h3
        obtain ⟨-, h5⟩ := oC_inv h4
        obtain ⟨n0, dp, sp, a0, a1, c0, c1, -, -, hc1, -, -, -, -, -, -, -, -, e9⟩ := acopy_inv (r := x.1) (h' := x.2) hx
        have z := ih _ _ _ _ _ _ _ _ _ _ h5
        have y := slo_set hc1 (d := (c1.1, c1.2.1, cpyl c0.2.2 c1.2.2 sp.toNatClampNeg dp.toNatClampNeg n0.toNatClampNeg)) (cpyl_len _ _ _ _ _)
        rw [e9, y, List.length_set] at z
        exact z
      · obtain ⟨a, r, rfl, h4⟩ := sR_inv h3
        obtain ⟨-, h5⟩ := oC_inv h4
        exact ih _ _ _ _ _ _ _ _ _ _ h5
      · obtain ⟨G, hG, h4⟩ := oB_inv h3
        obtain ⟨-, h5⟩ := oC_inv h4
        obtain ⟨x, hx, h6⟩ := oB_inv h5
        have z := ih _ _ _ _ _ _ _ _ _ _ h6
        have y := ih _ _ _ _ _ _ _ _ x.2 x.1 hx
        omega
    · rw [doRet_h h1]
      exact ⟨Nat.le_refl _, Nat.le_refl _⟩
end
/-! 08.sound -/
section
/-! THE MACHINE IS RIGHT -/
theorem rcv6 {ci : Nat} {vs : List Value} {h : AH} (hb : rcv 6 ci vs h = true) : ∃ a vt, vs = .retAddr a :: vt ∧ a % 2 = 1 ∧ a / 2 < NSTR := by
  cases vs with
  | nil => exact Bool.noConfusion (show false = true from hb)
  | cons v t =>
    cases v with
    | retAddr a =>
      have hb2 : (a % 2 == 1 && decide (a / 2 < NSTR)) = true := hb
      simp only [Bool.and_eq_true, beq_iff_eq, decide_eq_true_eq] at hb2
      exact ⟨a, t, rfl, hb2⟩
    | _ => exact Bool.noConfusion (show false = true from hb)
theorem am_call {p : Program} {l : Launch} {e : Env} {R : Room} {s : State} {m : MethodId} {args : Array Value} {below : List Frame} {meth : Method} {c : Code} {H : Heap} {locs : List Loc} {cells slots mc ms : Nat} {Q : State → Prop} {pc : Nat} {ls : Array Slot} {st0 rest : List Value} {Qa : State → Outcome → State → Prop} {free : Addr → Prop}
    (hr : va_Run p l e R s m args below meth c H locs cells slots mc ms (F0 m pc ls st0) rest Qa free)
    (kk : ∀ (v : Option Value) (st₀ t : State) (L : List Loc), st₀.heap = H → Qa st₀ (.returned v) t → (∀ q ∈ L, free q.base) → W p l e R s m args below meth c t.heap (locs ++ L) (cells + mc) (slots + ms) Q (F0 m (pc + 3) ls (v.toList ++ rest))) : W p l e R s m args below meth c H locs cells slots Q (F0 m pc ls st0) := by
  intro T hT X
  obtain ⟨v, st₀, t, T', L, h0, X', hL, e1, e2, hq, st⟩ := hr T hT X
  obtain ⟨t2, a1, b1⟩ := kk v st₀ t L h0 hq hL T' e1 X'
  exact ⟨t2, st t2 a1, b1⟩
theorem goodTBL {ws : List Cond} (h : ∀ w ∈ ws, w ∈ TBL) : GoodIn TBL ws := fun w hw => ⟨h w hw, TBL_good (h w hw)⟩
def wsOf (G : MR) : List Cond := .code (my G) (mcc G) (mml G) (mret G) :: TBL
theorem wsOf_in {G : MR} (hG : GOK G) : ∀ w ∈ wsOf G, w ∈ TBL := fun w hw => (List.mem_cons.mp hw).elim (fun e => e ▸ hG.1) id
theorem gL_args (b : Nat → Nat) (base : Nat) (vs : List Value) : ∀ k, gL b base (lv_args k vs) = lv_args k (vs.map (gV b base)) := by
  induction vs with
  | nil => intro k; rfl
  | cons v t ih =>
    intro k
    unfold lv_args
    simp only [gL, List.map_cons, gV_cat]
    congr 1
    exact ih _
theorem sl_len (vs : List Value) : (lg_sl vs).length = cats vs := by
  induction vs with
  | nil => rfl
  | cons v t ih =>
    have e : lg_sl (v :: t) = (if v.category = 2 then [.val v, .second] else [.val v]) ++ lg_sl t := rfl
    have e2 : cats (v :: t) = v.category + cats t := by unfold cats; simp
    rw [e, List.length_append, ih, e2]
    rcases lv_cat v with h | h <;> simp [h]
theorem cats_map (b : Nat → Nat) (base : Nat) (vs : List Value) : cats (vs.map (gV b base)) = cats vs := cats_g b base vs
/-- what a call leaves -/
def PQ (D : va_G) (tyc : Nat → ClassId) (b : Nat → Nat) (base : Nat) (v : Option Value) (h' : AH) : Array Value → State → Outcome → State → Prop := fun _ st o t => o = .returned (v.map (gV b base)) ∧ Wd D tyc b base h' t.heap ∧ va_F (fun q => base ≤ q) st t
def PP (D : va_G) (tyc : Nat → ClassId) (b : Nat → Nat) (base : Nat) (vs : List Value) (h : AH) : Array Value → State → Prop := va_Pc (vs.map (gV b base)) (fun U => Wd D tyc b base h U.heap ∧ KX D tyc U ∧ KS b base U)
def SW (MT : Nat → Option MR) (fr lo : Nat) (scr : AS) (F : MR) (pc : Nat) (lv : ALv) (st : List Value) (h : AH) (v : Option Value) (h' : AH) : Prop :=
  ∀ {p : Program} {l : Launch} {e : Env} {R : Room} {s : State} {m : MethodId} {args : Array Value} {below : List Frame} {meth : Method} {c : Code} {H : Heap} {locs : List Loc} {cells slots S0 : Nat} {Q : State → Prop} {D : va_G} {tyc : Nat → ClassId} {b : Nat → Nat} {base : Nat} {ls : Array Slot},
    Ctx p s m args meth c F → KX D tyc s → Wd D tyc b base h H → va_S (fun q => base ≤ q) s.heap H locs → base ≤ s.heap.size → base + h.length = s.heap.size + cells → slo h = S0 + slots → base + h'.length ≤ s.heap.size + R.cells → slo h' ≤ S0 + R.slots → fr ≤ R.frames → lo ≤ R.locals → lv_has ls (mml F) (gL b base lv) → SC scr b base s →
    (∀ (pc' : Nat) (i : Instr) (len tgt : Nat) (st' : List Value) (H' : Heap) (locs' : List Loc) (cells' slots' : Nat) (ls' : Array Slot), fc F pc' = some (i, len, tgt) → doRet F i st' h' = some (v, h') → Wd D tyc b base h' H' → va_S (fun q => base ≤ q) s.heap H' locs' → base + h'.length = s.heap.size + cells' → slo h' = S0 + slots' → W p l e R s m args below meth c H' locs' cells' slots' Q (F0 m pc' ls' (st'.map (gV b base)))) →
    W p l e R s m args below meth c H locs cells slots Q (F0 m pc ls (st.map (gV b base)))
set_option maxHeartbeats 4000000 in
/-- a run of a method is a contract of it -/
theorem met_of {MT : Nat → Option MR} {fr lo : Nat} {G : MR} {vs : List Value} {h h' : AH} {v : Option Value} (hF : FOK MT G) (hG : GOK G) (hlen : h.length ≤ h'.length ∧ slo h ≤ slo h') (hent : cats vs ≤ mml G) (hsw : SW MT fr lo none G 0 (lv_args 0 vs) [] h v h') (l : Launch) (D : va_G) (tyc : Nat → ClassId) (b : Nat → Nat) (base : Nat) :
    Met l (my G) (wsOf G) { frames := fr, cells := h'.length - h.length, slots := slo h' - slo h, locals := lo } (PP D tyc b base vs h) (PQ D tyc b base v h') (h'.length - h.length) (slo h' - slo h) (fun q => base ≤ q) := by
  refine va_MetF (cc := mcc G) (maxL := mml G) (ret := mret G) hG.2.2.1 rfl ?_
  intro p e s m args below meth c s₁ B hml hv
  obtain ⟨rfl, hW, hK, hks⟩ := hv
  have hts0 := atoms_spec (ws := wsOf G) B.pre
  have hts : ∀ w ∈ TBL, w.before (vs.map (gV b base)).toArray s = true := fun w hw => hts0 w (List.mem_cons_of_mem _ hw)
  have C : Ctx p s m (vs.map (gV b base)).toArray meth c G := ⟨B.exec, B.bytes, B.returns, hml, findClass_of_methodNamed B.named, B.notSynchronized, hts, fun z => ((name_of_methodNamed B.named B.method).1).trans z, fun w hw => hw.elim (hts w) (fun h9 => va_Nw.use (NST_on h9) (hK.2.2.2.2 w h9))⟩
  have hl := lv_entry (vs.map (gV b base)) (n := mml G) (by rw [sl_len, cats_map]; exact hent)
  rw [lg_entry_eq]
  generalize (lg_sl (vs.map (gV b base)) ++ List.replicate (mml G - (lg_sl (vs.map (gV b base))).length) Slot.unset).toArray = ls at hl ⊢
  rw [← gL_args] at hl
  have hsz := hW.1
  refine hsw (ls := ls) (H := s.heap) (locs := []) (cells := 0) (slots := 0) (S0 := slo h) C hK hW va_S.rf (by omega) (by omega) (by omega) ?_ ?_ (Nat.le_refl _) (Nat.le_refl _) hl ⟨(fun q hq => by cases hq), hks⟩ ?_
  · show base + h'.length ≤ s.heap.size + (h'.length - h.length)
    omega
  · show slo h' ≤ slo h + (slo h' - slo h)
    omega
  · intro pc' i len tgt st' H' locs' cells' slots' ls' hf hret hW' hS' hN' hM'
    obtain ⟨hx, hb, hr, hml', hown, hlocks, -, -, -⟩ := C
    obtain ⟨hD, hlen2, -⟩ := hF.1 _ (fc_mem hf)
    dsimp only at hD hlen2
    have hd : ∀ n, ilen i = n → n ≠ 0 → decode (mcc G) pc' = .ok (i, n) := by
      intro n h1 h2
      rcases hlen2 with h3 | h3
      · omega
      · rw [← h1, h3]; exact hD
    have e1 : cells' = h'.length - h.length := by omega
    have e2 : slots' = slo h' - slo h := by omega
    subst e1
    subst e2
    have hq : ∀ t : State, t.heap = H' → s.WarmedH t.vm → PQ D tyc b base v h' (vs.map (gV b base)).toArray s (.returned (v.map (gV b base))) t := fun t ht hW9 => ⟨rfl, by rw [ht]; exact hW', hS'.F ht⟩
    unfold doRet at hret
    split at hret
    · split at hret
      · rename_i x hm
        simp only [Option.some.injEq, Prod.mk.injEq] at hret
        obtain ⟨rfl, -⟩ := hret
        exact W.iret (v := x) hx hb (hr.trans hm) hq hS'.2.2 (hd 1 rfl (by decide)) hlocks
      · rename_i x hm
        obtain ⟨h3, h4⟩ := oC_inv hret
        simp only [Option.some.injEq, Prod.mk.injEq] at h4
        obtain ⟨rfl, -⟩ := h4
        exact W.zret (v := x) hx hb (hr.trans hm) (by show Value.int (x &&& 1) = Value.int x; rw [eq_of_beq h3]) hq hS'.2.2 (hd 1 rfl (by decide)) hlocks
      · rename_i x hm
        obtain ⟨h3, h4⟩ := oC_inv hret
        simp only [Option.some.injEq, Prod.mk.injEq] at h4
        obtain ⟨rfl, -⟩ := h4
        exact W.zret (v := x) hx hb (hr.trans hm) (by rw [← eq_of_beq h3]; exact pk_nb _) hq hS'.2.2 (hd 1 rfl (by decide)) hlocks
      · rename_i x hm
        obtain ⟨h3, h4⟩ := oC_inv hret
        simp only [Option.some.injEq, Prod.mk.injEq] at h4
        obtain ⟨rfl, -⟩ := h4
        exact W.zret (v := x) hx hb (hr.trans hm) (by rw [← eq_of_beq h3]; exact pk_nc _) hq hS'.2.2 (hd 1 rfl (by decide)) hlocks
      · cases hret
    · split at hret
      · rename_i x hm
        simp only [Option.some.injEq, Prod.mk.injEq] at hret
        obtain ⟨rfl, -⟩ := hret
        exact W.lret (v := x) hx hb (hr.trans hm) hq hS'.2.2 (hd 1 rfl (by decide)) hlocks
      · cases hret
    · split at hret
      · rename_i n a hm
        simp only [Option.some.injEq, Prod.mk.injEq] at hret
        obtain ⟨rfl, -⟩ := hret
        exact W.aret (v := .ref (base + a)) hx hb (hr.trans hm) (Or.inl ⟨_, rfl⟩) (Or.inr ⟨_, rfl⟩) hq hS'.2.2 (hd 1 rfl (by decide)) hlocks
      · cases hret
    · split at hret
      · rename_i hm
        simp only [Option.some.injEq, Prod.mk.injEq] at hret
        obtain ⟨rfl, -⟩ := hret
        exact W.vret hx hb (hr.trans hm) hq hS'.2.2 (hd 1 rfl (by decide)) hlocks
      · cases hret
    · cases hret
theorem cpyI (l0 l1 : List Value) (sp dp n : Nat) (h1 : dp + n ≤ l1.length) : (va_cpy (fun j => asI (l0.getD j .null)) (fun j => asI (l1.getD j .null)) sp dp n) = fun j => asI ((cpyl l0 l1 sp dp n).getD j .null) := by
  funext k
  unfold va_cpy cpyl
  simp only [List.getD_eq_getElem?_getD, List.getElem?_map]
  by_cases hk : k < l1.length
  · rw [List.getElem?_range hk]
    by_cases hz : dp ≤ k ∧ k < dp + n <;> simp [hz]
  · have e1 : (List.range l1.length)[k]? = none := List.getElem?_eq_none (by simp; omega)
    have e2 : l1[k]? = none := List.getElem?_eq_none (by omega)
    rw [e1, e2, if_neg (by omega)]
    rfl
theorem cpyL (l0 l1 : List Value) (sp dp n : Nat) (h1 : dp + n ≤ l1.length) : (va_cpy (fun j => asL (l0.getD j .null)) (fun j => asL (l1.getD j .null)) sp dp n) = fun j => asL ((cpyl l0 l1 sp dp n).getD j .null) := by
  funext k
  unfold va_cpy cpyl
  simp only [List.getD_eq_getElem?_getD, List.getElem?_map]
  by_cases hk : k < l1.length
  · rw [List.getElem?_range hk]
    by_cases hz : dp ≤ k ∧ k < dp + n <;> simp [hz]
  · have e1 : (List.range l1.length)[k]? = none := List.getElem?_eq_none (by simp; omega)
    have e2 : l1[k]? = none := List.getElem?_eq_none (by omega)
    rw [e1, e2, if_neg (by omega)]
    rfl
set_option maxHeartbeats 4000000 in
theorem acopy_ok {p : Program} {l : Launch} {e : Env} {R : Room} {s : State} {m : MethodId} {args : Array Value} {below : List Frame} {meth : Method} {c : Code} {H : Heap} {locs : List Loc} {cells slots idx fr lo : Nat} {Q : State → Prop} {F : MR} {pc : Nat} {st r : List Value} {h h' : AH} {D : va_G} {tyc : Nat → ClassId} {b : Nat → Nat} {base : Nat} {ls : Array Slot}
    (C : Ctx p s m args meth c F) (hK : va_K D vwCl (TYS tyc) s) (hW : Wd D tyc b base h H) (hS : va_S (fun q => base ≤ q) s.heap H locs) (hN : base + h.length = s.heap.size + cells) (hls : ls.size = mml F) (hfr : fr ≤ R.frames) (hlo : lo ≤ R.locals) (h1 : 1 ≤ fr) (h2 : cats r + 40 ≤ lo)
    (hlk : .methodLink (my F).cls idx arraycopyName ∈ TBL) (hdg : decode (mcc F) pc = .ok (.invokestatic idx, 3)) (hst : acopy st h = some (r, h'))
    (k : ∀ H' locs', Wd D tyc b base h' H' → va_S (fun q => base ≤ q) s.heap H' locs' → W p l e R s m args below meth c H' locs' cells slots Q (F0 m (pc + 3) ls (r.map (gV b base)))) :
    W p l e R s m args below meth c H locs cells slots Q (F0 m pc ls (st.map (gV b base))) := by
  obtain ⟨hx, hb, hr, hml, hown, hlocks, hts, hin0, hal⟩ := C
  obtain ⟨n, dp, sp, a0, a1, c0, c1, rfl, hc0, hc1, g1, g2, g3, g4, g5, g6, g7, g8, rfl⟩ := acopy_inv hst
  have he0 := gW_at (b := b) (base := base) (tyc := tyc) hc0
  have he1 := gW_at (b := b) (base := base) (tyc := tyc) hc1
  have hloc : ((r.map (gV b base)).map fun v => v.category).sum + (nativeFrameWords "java/lang/System" "arraycopy" 5 + 11) ≤ R.locals := by
    rw [cats_g]
    have : nativeFrameWords "java/lang/System" "arraycopy" 5 ≤ 29 := by decide +kernel
    omega
  rcases g6 with ⟨z1, z2⟩ | ⟨z1, z2⟩
  · rw [gE_i z1, z2] at he0
    rw [gE_i (g4 ▸ z1), ← g5, z2] at he1
    refine va_copyi hx hb (hml.trans hls.symm) hown (hts _ hlk) (hts _ ACN_native) (hts _ ACN_static) (hts _ ACN_init) hK hW.2 (gW_D b base tyc h) (vS_self hS) a0 a1 0 0 he0 he1 rfl rfl rfl g1 g2 g3 g7 g8 (fun _ _ => rfl) (Nat.le_trans h1 hfr) hloc hdg (fun H1 locs1 hP1 _ hS1 => W_sz (fun hub => k H1 locs1 (Wd_set hW ?_ hS1.1 hN hub) (vS_comp hS hS1)))
    rw [cpyI _ _ _ _ _ g8] at hP1
    rw [gE_i (g4 ▸ z1)]
    dsimp only
    rw [cpyl_len, ← g5, z2]
    exact hP1
  · rw [gE_l z1, z2] at he0
    rw [gE_l (g4 ▸ z1), ← g5, z2] at he1
    refine va_copyl hx hb (hml.trans hls.symm) hown (hts _ hlk) (hts _ ACN_native) (hts _ ACN_static) (hts _ ACN_init) hK hW.2 (gW_D b base tyc h) (vS_self hS) a0 a1 1 1 he0 he1 rfl rfl rfl g1 g2 g3 g7 g8 (fun _ _ => rfl) (Nat.le_trans h1 hfr) hloc hdg (fun H1 locs1 hP1 _ hS1 => W_sz (fun hub => k H1 locs1 (Wd_set hW ?_ hS1.1 hN hub) (vS_comp hS hS1)))
    rw [cpyL _ _ _ _ _ g8] at hP1
    rw [gE_l (g4 ▸ z1)]
    dsimp only
    rw [cpyl_len, ← g5, z2]
    exact hP1
set_option maxHeartbeats 8000000 in
/-- THE MACHINE IS RIGHT -/
theorem am_ok {MT : Nat → Option MR} (hMT : ∀ j G, MT j = some G → FOK MT G ∧ GOK G) : ∀ (n fr lo : Nat) (scr : AS) (F : MR) (pc : Nat) (lv : ALv) (st : List Value) (h h' : AH) (v : Option Value), FOK MT F → am MT n fr lo scr F pc lv st h = some (v, h') → SW MT fr lo scr F pc lv st h v h' := by
  intro n
  induction n with
  | zero => intro fr lo scr F pc lv st h h' v hF hh; cases hh
  | succ n ih =>
    intro fr lo scr F pc lv st h h' v hF hh
    rw [am_s] at hh
    unfold amB at hh
    obtain ⟨⟨i, len, tgt⟩, hq, h1⟩ := oB_inv hh
    dsimp only at h1
    intro p l e R s m args below meth c H locs cells slots S0 Q D tyc b base ls C hK hW hS hbs hN hM hRc hRs hfr hlo hl hsc kret
    split at h1
    · obtain ⟨⟨pc', lv', st'⟩, hx, h2⟩ := oB_inv h1
      rcases stpA_inv hx with hx | ⟨-, hx⟩
      · exact stpP_ok hF C hK.1 hW hS hl hsc hq hx (fun ls' hl' => ih _ _ _ _ _ _ _ _ _ _ hF h2 C hK hW hS hbs hN hM hRc hRs hfr hlo hl' hsc kret)
      · exact stpX_ok hF C hS hl hsc.2 hq hx (fun ls' hl' => ih _ _ _ _ _ _ _ _ _ _ hF h2 C hK hW hS hbs hN hM hRc hRs hfr hlo hl' hsc kret)
    · obtain ⟨⟨pc', st', h2'⟩, hx, h2⟩ := oB_inv h1
      have y := stpW_len hx
      exact stpW_ok (ls := ls) hF C hK.1 hW hS hN hq hx (fun H' locs' hW' hS' => ih _ _ _ _ _ _ _ _ _ _ hF h2 C hK hW' hS' hbs (by dsimp only; omega) (by dsimp only; omega) hRc hRs hfr hlo hl hsc kret)
    · obtain ⟨⟨pc', st', h2'⟩, hx, h2⟩ := oB_inv h1
      have y := am_len MT _ _ _ _ _ _ _ _ _ _ _ h2
      dsimp only at y
      exact stpN_ok (ls := ls) hF C hK hW hS hbs hN hM (by omega) (by omega) hq hx (fun H' locs' cells' slots' hW' hS' hN' hM' => ih _ _ _ _ _ _ _ _ _ _ hF h2 C hK hW' hS' hbs hN' hM' hRc hRs hfr hlo hl hsc kret)
    · obtain ⟨e0, he0, h2⟩ := oB_inv h1
      obtain ⟨hkd, h3⟩ := oC_inv h2
      have hck := hF.2.2.1 _ (fnd_mem he0)
      unfold CKok at hck
      dsimp only at hck
      obtain ⟨hD, hlen, -⟩ := hF.1 _ (fc_mem hq)
      dsimp only at hD hlen
      have hd : ∀ n, ilen i = n → n ≠ 0 → decode (mcc F) pc = .ok (i, n) := by
        intro n h1 h2
        rcases hlen with h3 | h3
        · omega
        · rw [← h1, h3]; exact hD
      unfold amC at h3
      split at h3
      · rename_i hk8
        obtain ⟨⟨r, h2'⟩, hx, h4⟩ := oB_inv h3
        obtain ⟨hb2, h5⟩ := oC_inv h4
        simp only [Bool.and_eq_true, decide_eq_true_eq] at hb2
        have hi : ∃ idx, i = .invokestatic idx := by
          cases i <;> first | exact ⟨_, rfl⟩ | (rw [hk8] at hkd; cases hkd)
        obtain ⟨idx, rfl⟩ := hi
        have hlk := hck.1 hk8
        obtain ⟨n0, dp, sp, a0, a1, c0, c1, -, -, hc1, -, -, -, -, -, -, -, -, e9⟩ := acopy_inv hx
        have y := slo_set hc1 (d := (c1.1, c1.2.1, cpyl c0.2.2 c1.2.2 sp.toNatClampNeg dp.toNatClampNeg n0.toNatClampNeg)) (cpyl_len _ _ _ _ _)
        have y2 : h2'.length = h.length := by rw [e9, List.length_set]
        rw [← e9] at y
        exact acopy_ok (ls := ls) C hK.1 hW hS hN hl.1 hfr hlo hb2.1 hb2.2 hlk (hd 3 rfl (by decide)) hx (fun H' locs' hW' hS' => ih _ _ _ _ _ _ _ _ _ _ hF h5 C hK hW' hS' hbs (by dsimp only; omega) (by dsimp only; omega) hRc hRs hfr hlo hl hsc kret)
      · rename_i hk9
        obtain ⟨a, r, rfl, h4⟩ := sR_inv h3
        obtain ⟨hb2, h5⟩ := oC_inv h4
        simp only [Bool.and_eq_true, decide_eq_true_eq] at hb2
        have hi : ∃ idx, i = .invokespecial idx := by
          cases i <;> first | exact ⟨_, rfl⟩ | (rw [hk9] at hkd; cases hkd)
        obtain ⟨idx, rfl⟩ := hi
        have hlk := hck.2.1 hk9
        obtain ⟨hx, hb, hr, hml, hown, hlocks, hts, hin0, hal⟩ := id C
        refine W.objInit (g := F0 m pc ls (.ref (base + a) :: r.map (gV b base))) hx hb hown (hts _ hlk) (hts _ OBJ_inst) (hts _ OBJ_code) rfl (hl.1.trans hml.symm) rfl (hd 3 rfl (by decide)) (by omega) ?_ ?_
        · have z := lv_room (m := m) (pc := pc) (ls := ls) (rest := .ref (base + a) :: r.map (gV b base)) (st := []) (Nat.zero_le _)
          have z2 : (F0 m pc ls (.ref (base + a) :: r.map (gV b base))).monitorRoom = 0 := rfl
          rw [z2, cats_g]
          omega
        · exact ih _ _ _ _ _ _ _ _ _ _ hF h5 C hK hW hS hbs hN hM hRc hRs hfr hlo hl hsc kret
      · rename_i hn8 hn9
        have hn8' : ¬ e0.1 = 8 := hn8
        have hn9' : ¬ e0.1 = 9 := hn9
        obtain ⟨G, hG, h4⟩ := oB_inv h3
        obtain ⟨hb2, h5⟩ := oC_inv h4
        obtain ⟨⟨v1, h1'⟩, hx, h6⟩ := oB_inv h5
        simp only [Bool.and_eq_true, decide_eq_true_eq] at hb2
        obtain ⟨⟨⟨⟨⟨b1, b2⟩, b3⟩, b4⟩, b5⟩, b6⟩ := hb2
        obtain ⟨hFG, hGG⟩ := hMT _ _ hG
        have hlt8 : e0.1 < 8 := by
          unfold callKd at hkd
          split at hkd
          · simp only [Bool.or_eq_true, beq_iff_eq] at hkd; omega
          · simp only [Bool.or_eq_true, beq_iff_eq] at hkd; omega
          · simp only [Bool.or_eq_true, beq_iff_eq] at hkd; omega
          · cases hkd
        obtain ⟨hw, hwV, hwS, hwI, hwX⟩ := hck.2.2 hlt8 G hG
        have y := am_len MT _ _ _ _ _ _ _ _ _ _ _ hx
        have y2 := am_len MT _ _ _ _ _ _ _ _ _ _ _ h6
        dsimp only at y2
        have hent : cats (st.take (nArg e0.1 G)).reverse ≤ mml G := by
          have e9 : cats (st.take (nArg e0.1 G)).reverse = cats (st.take (nArg e0.1 G)) := by
            unfold cats
            rw [List.map_reverse, List.sum_reverse]
          omega
        have hM2 := met_of hFG hGG y hent (ih _ _ _ _ _ _ _ _ _ _ hFG hx) l D tyc b base
        generalize hvs : (st.take (nArg e0.1 G)).reverse = vs at hM2 b6 hent
        generalize hrs : st.drop (nArg e0.1 G) = r at b4 h6
        have hst : st = vs.reverse ++ r := by rw [← hvs, ← hrs, List.reverse_reverse, List.take_append_drop]
        have hvl : vs.length = nArg e0.1 G := by rw [← hvs, List.length_reverse, List.length_take]; omega
        obtain ⟨hx0, hb0, hr0, hml0, hown, hlocks, hts, hin0, hal⟩ := id C
        have hfix : CallFix p m c (mcc F) (mml F) s args TBL (my F).cls := ⟨hx0, hb0, hml0, hown, hts⟩
        have hgd : GoodIn TBL (wsOf G) := goodTBL (wsOf_in hGG)
        have hroom : fr - 1 + 1 ≤ R.frames ∧ 8 + (mml G + 11) + (lo - (mml G + 19)) ≤ R.locals := by omega
        have hdsc : (my G).cls ≠ "java/lang/invoke/MethodHandle" ∧ (my G).cls ≠ "java/lang/invoke/VarHandle" ∧ (parseMethodDescriptor (my G).desc).map (fun d => d.parameters.length) = some (mnp G) := ⟨hGG.2.2.2.1, hGG.2.2.2.2.1, hGG.2.2.2.2.2⟩
        have hblind : FrameBlind (PP D tyc b base vs h) := fun a U g mk q => by
          obtain ⟨q0, q1, q2, q3⟩ := q
          exact ⟨q0, q1, KX_call q2, KS_call q3⟩
        have hpre : ∀ U : State, U.heap = H → s.WarmedH U.vm → PP D tyc b base vs h (vs.map (gV b base)).toArray U := fun U hU hW9 => ⟨rfl, by rw [hU]; exact hW, KX_warm hW9 hK, KS_to hsc.2 hW9 (by rw [hU]; exact hS)⟩
        have hrm : 2 * (F0 m pc ls (st.map (gV b base))).monitorRoom + ((r.map (gV b base)).map fun v => v.category).sum ≤ 8 := lv_room (by rw [cats_g]; exact b4)
        have hcs : cells + (h1'.length - h.length) ≤ R.cells ∧ slots + (slo h1' - slo h) ≤ R.slots := by omega
        have fin : ∀ (hr : va_Run p l e R s m args below meth c H locs cells slots (h1'.length - h.length) (slo h1' - slo h) (F0 m pc ls (st.map (gV b base))) (r.map (gV b base)) (PQ D tyc b base v1 h1' (vs.map (gV b base)).toArray) (fun q => base ≤ q)), W p l e R s m args below meth c H locs cells slots Q (F0 m pc ls (st.map (gV b base))) := by
          intro hr
          refine am_call hr (fun v2 st₀ t L hh0 hQ hL => ?_)
          obtain ⟨e1, hW1, hF1⟩ := hQ
          cases e1
          have e3 : ((v1.map (gV b base)).toList ++ r.map (gV b base)) = (v1.toList ++ r).map (gV b base) := by cases v1 <;> rfl
          rw [e3]
          refine ih _ _ _ _ _ _ _ _ _ _ hF h6 C hK hW1 ⟨?_, fun q hq1 hq2 => ?_, fun q hq1 => ?_⟩ hbs (by dsimp only; omega) (by dsimp only; omega) hRc hRs hfr hlo hl hsc kret
          · have := hF1.1
            rw [hh0] at this
            exact Nat.le_trans hS.1 this
          · have z := hF1.2 q (by rw [hh0]; exact Nat.lt_of_lt_of_le hq1 hS.1) hq2
            rw [hh0] at z
            exact z.trans (hS.2.1 q hq1 hq2)
          · rcases List.mem_append.mp hq1 with z | z
            · exact hS.2.2 q z
            · exact hL q z
        have hcls0 : Cond.initialized (my G).cls ∈ TBL := hGG.2.1
        have wl : ∀ {w : Cond}, InW w → w.onTables = true → va_Nw w s := fun hw9 ho => va_Nw.of ho (hal _ hw9)
        unfold callKd at hkd
        split at hkd
        · rename_i idx
          simp only [Bool.or_eq_true, beq_iff_eq] at hkd
          by_cases hk6 : e0.1 = 6
          · obtain ⟨wi, wse, wcl⟩ := hwX hk6
            have hna : nArg e0.1 G = mnp G + 1 := by unfold nArg; rw [if_neg (by omega)]
            have hrec : ∃ a vt, vs = .retAddr a :: vt ∧ a % 2 = 1 ∧ a / 2 < NSTR := by
              rw [hk6] at b6
              exact rcv6 b6
            obtain ⟨a, vt, rfl, ha1, ha2⟩ := hrec
            have hrc := vk_recv (H := H) hsc.2.1 ha2 hS
            try dsimp only at hrc
            rw [show 2 * (a / 2) + 1 = a by omega, ← wcl] at hrc
            have hstk : st.map (gV b base) = (vt.map (gV b base)).reverse ++ .ref (b a) :: r.map (gV b base) := by
              rw [hst]
              simp [gV]
            have hvn : (vt.map (gV b base)).length = mnp G := by
              rw [List.length_map]
              rw [hna] at hvl
              simpa using hvl
            rw [if_neg (by omega)] at hw
            exact fin (va_runV (As := vt.map (gV b base)) hfix hM2 ⟨callB_of (mnp G) hts hgd rfl rfl rfl (hts _ hcls0) (hal _ hw) hdsc hroom, hts _ wi, hts _ wse⟩ ⟨hblind, hrc, hpre⟩ rfl hvn hl.1 hstk hrm (hd 3 rfl (by decide)) hcs)
          have hkd : e0.1 = 0 ∨ e0.1 = 1 := by omega
          obtain ⟨wi, wse, wcl⟩ := hwV hkd
          have hna : nArg e0.1 G = mnp G + 1 := by unfold nArg; rw [if_neg (by omega)]
          have hrec : ∃ a vt cc, vs = .ref a :: vt ∧ h[a]? = some cc ∧ cc.1 = 0 ∧ cc.2.1 = mci G := by
            unfold rcv at b6
            split at b6 <;> first | omega | skip
            split at b6
            · rename_i a vt
              split at b6
              · rename_i cc hcc
                simp only [Bool.and_eq_true, beq_iff_eq] at b6
                exact ⟨a, vt, cc, rfl, hcc, b6.1, b6.2⟩
              · cases b6
            · cases b6
          obtain ⟨a, vt, cc, rfl, hcc, hcc1, hcc2⟩ := hrec
          obtain ⟨r0, hr9, hr8⟩ := Option.map_eq_some_iff.mp wcl
          have he := gW_at (b := b) (base := base) (tyc := tyc) hcc
          rw [gE_o hcc1, hcc2] at he
          have hrc := va_recv hK.1 hW.2 hr9 he
          rw [hr8] at hrc
          have hstk : st.map (gV b base) = (vt.map (gV b base)).reverse ++ .ref (base + a) :: r.map (gV b base) := by
            rw [hst]
            simp [gV]
          have hvn : (vt.map (gV b base)).length = mnp G := by
            rw [List.length_map]
            rw [hna] at hvl
            simpa using hvl
          rcases hkd with hk0 | hk0
          · rw [if_neg (by omega)] at hw
            exact fin (va_runV (As := vt.map (gV b base)) hfix hM2 ⟨callB_of (mnp G) hts hgd rfl rfl rfl (hts _ hcls0) (hal _ hw) hdsc hroom, hts _ wi, hts _ wse⟩ ⟨hblind, hrc, hpre⟩ rfl hvn hl.1 hstk hrm (hd 3 rfl (by decide)) hcs)
          · rw [if_pos (by omega)] at hw
            exact fin (va_runVN (As := vt.map (gV b base)) hfix hM2 ⟨va_cnB (mnp G) hts hgd rfl rfl rfl (wl hw rfl) (hts _ hcls0) hdsc hroom, hts _ wi, hts _ wse⟩ ⟨hblind, hrc, hpre⟩ rfl hvn hl.1 hstk hrm (hd 3 rfl (by decide)) hcs)
        · rename_i idx
          simp only [Bool.or_eq_true, beq_iff_eq] at hkd
          have hkd2 : e0.1 = 2 ∨ e0.1 = 3 := by omega
          have ws := hwS hkd2
          have hna : nArg e0.1 G = mnp G := by unfold nArg; rw [if_pos hkd2]
          have hstk : st.map (gV b base) = (vs.map (gV b base)).reverse ++ r.map (gV b base) := by
            rw [hst]
            simp
          have hvn : (vs.map (gV b base)).length = mnp G := by rw [List.length_map, hvl, hna]
          rcases hkd2 with hk0 | hk0
          · rw [if_neg (by omega)] at hw
            exact fin (va_runS (As := vs.map (gV b base)) hfix hM2 ⟨callB_of (mnp G) hts hgd rfl rfl rfl (hts _ hcls0) (hal _ hw) hdsc hroom, hts _ ws⟩ ⟨hblind, hpre⟩ rfl hvn hl.1 hstk hrm (hd 3 rfl (by decide)) hcs)
          · rw [if_pos (by omega)] at hw
            exact fin (va_runSN (As := vs.map (gV b base)) hfix hM2 ⟨va_cnB (mnp G) hts hgd rfl rfl rfl (wl hw rfl) (hts _ hcls0) hdsc hroom, hts _ ws, trivial⟩ ⟨hblind, hpre⟩ rfl hvn hl.1 hstk hrm (hd 3 rfl (by decide)) hcs)
        · rename_i idx
          simp only [Bool.or_eq_true, beq_iff_eq] at hkd
          have hkd2 : e0.1 = 4 ∨ e0.1 = 5 := by omega
          obtain ⟨wi, wnm, wrt⟩ := hwI hkd2
          have hna : nArg e0.1 G = mnp G + 1 := by unfold nArg; rw [if_neg (by omega)]
          have hrec : ∃ a vt, vs = .ref a :: vt := by
            unfold rcv at b6
            split at b6 <;> first | omega | skip
            all_goals
              split at b6
              · rename_i a vt
                exact ⟨a, vt, rfl⟩
              · cases b6
          obtain ⟨a, vt, rfl⟩ := hrec
          have hstk : st.map (gV b base) = (vt.map (gV b base)).reverse ++ .ref (base + a) :: r.map (gV b base) := by
            rw [hst]
            simp [gV]
          have hvn : (vt.map (gV b base)).length = mnp G := by
            rw [List.length_map]
            rw [hna] at hvl
            simpa using hvl
          have hwsr : wsOf G = Cond.code (my G) (mcc G) (mml G) none :: TBL := by unfold wsOf; rw [wrt]
          rcases hkd2 with hk0 | hk0
          · rw [if_neg (by omega)] at hw
            exact fin (va_runI (As := vt.map (gV b base)) hfix hM2 (cwI (mnp G) hts hgd hwsr rfl rfl (hts _ hcls0) (hal _ hw) (hts _ wi) wnm hdsc hroom) ⟨hblind, hpre⟩ rfl hvn hl.1 hstk hrm (hd 3 rfl (by decide)) hcs)
          · rw [if_pos (by omega)] at hw
            exact fin (va_runIN (As := vt.map (gV b base)) hfix hM2 ⟨va_cnB (mnp G) hts hgd hwsr rfl rfl (wl hw rfl) (hts _ hcls0) hdsc hroom, wnm, hts _ wi⟩ ⟨hblind, hpre⟩ rfl hvn hl.1 hstk hrm (hd 3 rfl (by decide)) hcs)
        · cases hkd
    · have e9 := doRet_h h1
      subst e9
      exact kret pc i len tgt st H locs cells slots ls hq h1 hW hS hN hM
end
/-! 08.z.kst -/
section
section KST
/-- the start's conditions, one by one -/
abbrev FLT : List Jvm.Cond := flatC (Jvm.Cond.and given_1 narrow_1)
def ENR : List Nat := [79, 74, 40, 54, 193, 69, 49, 197, 150, 64, 95, 195, 152, 97, 116, 187, 105, 59]
def ENM : List Nat := [226, 224, 212, 216, 181, 222, 214, 185, 177, 220, 241, 183, 179, 243, 187, 240, 245, 218]
def tmR (i : Nat) : Term := .string "DoorSchool$Reader" (ENR.getD i 0)
def tmM (i : Nat) : Term := .string "DoorSchoolModel" (ENM.getD i 0)
def vlR (i : Nat) : Term := .field (tmR i) "java/lang/String" "value" "[B"
def pEX : List Nat := [204, 185, 76, 151, 84, 176, 125, 105, 135, 167, 45, 93, 143, 55, 116, 195, 64, 159]
def pCO : List Nat := [205, 186, 77, 152, 85, 177, 126, 106, 136, 168, 46, 94, 144, 56, 117, 196, 65, 160]
def pAR : List Nat := [206, 187, 78, 153, 86, 178, 127, 107, 137, 169, 47, 95, 145, 57, 118, 197, 66, 161]
def pLE : List Nat := [207, 188, 79, 154, 87, 179, 128, 108, 138, 170, 48, 96, 146, 58, 119, 198, 67, 162]
def pEQ : List Nat := [325, 315, 255, 275, 335, 304, 266, 360, 379, 294, 223, 348, 388, 233, 370, 398, 246, 284]
def pEL : List (List Nat) := [[208, 209, 210, 211, 212], [189, 190, 191, 192, 193, 194], [80, 81, 82, 83], [155, 156, 157, 158], [88, 89, 90, 91, 92], [180, 181, 182, 183, 184], [129, 130, 131, 132, 133, 134], [109, 110, 111, 112, 113, 114, 115], [139, 140, 141, 142], [171, 172, 173, 174, 175], [49, 50, 51, 52, 53, 54], [97, 98, 99, 100, 101, 102, 103, 104], [147, 148, 149, 150], [59, 60, 61, 62, 63], [120, 121, 122, 123, 124], [199, 200, 201, 202, 203], [68, 69, 70, 71, 72, 73, 74, 75], [163, 164, 165, 166]]
theorem k_ex : ∀ i : Fin 18, FLT[pEX.getD i.val 0]? = some (Cond.exactly (tmR i.val) "java/lang/String") := by decide +kernel
theorem k_co : ∀ i : Fin 18, FLT[pCO.getD i.val 0]? = some (Cond.eq (.field (tmR i.val) "java/lang/String" "coder" "B") (.int 0)) := by decide +kernel
theorem k_ar : ∀ i : Fin 18, FLT[pAR.getD i.val 0]? = some (Cond.arrayOf (vlR i.val) .byte) := by decide +kernel
theorem k_le : ∀ i : Fin 18, FLT[pLE.getD i.val 0]? = some (Cond.eq (.length (vlR i.val)) (.int (Int32.ofNat (LENS.getD i.val 0)))) := by decide +kernel
theorem k_eq : ∀ i : Fin 18, FLT[pEQ.getD i.val 0]? = some (Cond.eq (tmR i.val) (tmM i.val)) := by decide +kernel
theorem k_el : ∀ i : Fin 18, ∀ j : Fin 9, j.val < LENS.getD i.val 0 → FLT[(pEL.getD i.val []).getD j.val 0]? = some (Cond.eq (.elem (vlR i.val) (.int (Int32.ofNat j.val))) (.int ((BYT.getD i.val []).getD j.val 0))) := by decide +kernel
theorem k_ln : ∀ i : Fin 18, LENS.getD i.val 0 < 9 + 1 := by decide +kernel
theorem k_df : ∀ i j : Fin 18, i ≠ j → LENS.getD i.val 0 = LENS.getD j.val 0 → ∃ k : Fin 9, k.val < LENS.getD i.val 0 ∧ (BYT.getD i.val []).getD k.val 0 ≠ (BYT.getD j.val []).getD k.val 0 := by decide +kernel
theorem k_cs : FLT[4]? = some (Cond.eq (.static "java/lang/String" "COMPACT_STRINGS" "Z") (.int 1)) := by decide +kernel
theorem k_si : FLT[5]? = some (Cond.isRef (.static "jdk/internal/util/Preconditions" "SIOOBE_FORMATTER" "Ljava/util/function/BiFunction;")) := by decide +kernel
def pSR : List (Nat × Nat) := [(3, 84), (3, 78), (3, 10), (3, 50), (3, 19), (3, 73), (3, 27), (3, 21), (3, 40), (3, 64), (2, 179), (3, 20), (3, 41), (3, 0), (3, 22), (3, 83), (3, 9), (3, 55)]
def pSM : List (Nat × Nat) := [(6, 148), (6, 147), (6, 141), (6, 143), (6, 153), (6, 146), (6, 142), (6, 155), (6, 173), (6, 145), (6, 108), (6, 154), (6, 174), (6, 127), (6, 156), (6, 194), (6, 136), (6, 144)]
theorem k_sr : ∀ i : Fin 18, (chunk (pSR.getD i.val (0, 0)).1)[(pSR.getD i.val (0, 0)).2]? = some (Cond.stringRef "DoorSchool$Reader" (ENR.getD i.val 0) (TXT.getD i.val "")) := by decide +kernel
theorem k_sm : ∀ i : Fin 18, (chunk (pSM.getD i.val (0, 0)).1)[(pSM.getD i.val (0, 0)).2]? = some (Cond.stringRef "DoorSchoolModel" (ENM.getD i.val 0) (TXT.getD i.val "")) := by decide +kernel
theorem k_st : ∀ t ∈ STRTAB, (t.1 = "DoorSchool$Reader" ∧ t.2.2 < 18 ∧ t.2.1 = ENR.getD t.2.2 0) ∨ (t.1 = "DoorSchoolModel" ∧ t.2.2 < 18 ∧ t.2.1 = ENM.getD t.2.2 0) := by decide +kernel
theorem w_csl : Cond.laysStatic "java/lang/String" "COMPACT_STRINGS" "Z" ∈ lw_tbl := (chunk_in (List.mem_of_getElem? (l := chunk 2) (i := 193) (by decide +kernel)))
theorem w_csi : Cond.initialized "java/lang/String" ∈ lw_tbl := (chunk_in (List.mem_of_getElem? (l := chunk 1) (i := 16) (by decide +kernel)))
theorem w_sil : Cond.laysStatic "jdk/internal/util/Preconditions" "SIOOBE_FORMATTER" "Ljava/util/function/BiFunction;" ∈ lw_tbl := (chunk_in (List.mem_of_getElem? (l := chunk 2) (i := 209) (by decide +kernel)))
theorem w_sii : Cond.initialized "jdk/internal/util/Preconditions" ∈ lw_tbl := (chunk_in (List.mem_of_getElem? (l := chunk 1) (i := 18) (by decide +kernel)))
theorem OF_uniq {o n d : String} {v v' : Value} {a : Nat} {A A' : Nat → Prop} {U : State} {H : Heap} (h : va_OF o n d v a A U H) (h' : va_OF o n d v' a A' U H) : v = v' := by
  obtain ⟨cf, k, i, f, cell, h1, -, h3, -, h5, -⟩ := h
  obtain ⟨cf', k', i', f', cell', k1, -, k3, -, k5, -⟩ := h'
  rw [h1] at k1
  simp only [Option.some.injEq, Prod.mk.injEq] at k1
  obtain ⟨-, -, -, rfl⟩ := k1
  rw [h3] at k3
  cases k3
  rw [h5] at k5
  cases k5; rfl
theorem T_uniq {ty : FieldType} {t N N' : Nat} {f f' : Nat → Value} {A A' : Nat → Prop} {U : State} {H : Heap} (hN : N < 100) (hN' : N' < 100) (h : va_T ty t N f A U H) (h' : va_T ty t N' f' A' U H) : N = N' ∧ ∀ j, j < N → f j = f' j := by
  obtain ⟨cell, h1, -, -, -, h5, h6, -⟩ := h
  obtain ⟨cell', k1, -, -, -, k5, k6, -⟩ := h'
  rw [h1] at k1
  cases k1
  rw [h5] at k5
  have e : N = N' := by
    have a : (Int32.ofNat N).toInt = N := Int32.toInt_ofNat_of_lt (by omega)
    have b : (Int32.ofNat N').toInt = N' := Int32.toInt_ofNat_of_lt (by omega)
    rw [k5] at a; omega
  subst e
  refine ⟨rfl, fun j hj => ?_⟩
  have a := h6 j hj
  rw [k6 j hj] at a
  exact (Option.some.inj a).symm
theorem KS_start {s : State} {A : Array Value} (b0 : Nat) (hts : ∀ w ∈ lw_tbl, w.before A s = true) (hg : (Jvm.Cond.and given_1 narrow_1).before A s = true) : ∃ b : Nat → Nat, b 0 = b0 ∧ KS b s.heap.size s := by
  have hs := flat_of_before _ hg
  have hf : ∀ {q : Nat} {c : Jvm.Cond}, FLT[q]? = some c → c.before A s = true := fun h => hs _ (List.mem_of_getElem? h)
  have hA : ∀ a : Nat, a < s.heap.size → ¬ s.heap.size ≤ a := fun a h => by omega
  have h1 : ∀ i : Nat, ∃ q : Nat × Nat, i < 18 → (tmR i).eval A s none [] s = some (.ref q.1) ∧ va_O "java/lang/String" q.1 (fun q => s.heap.size ≤ q) s s.heap ∧ va_OF "java/lang/String" "coder" "B" (.int 0) q.1 (fun q => s.heap.size ≤ q) s s.heap ∧ va_OF "java/lang/String" "value" "[B" (.ref q.2) q.1 (fun q => s.heap.size ≤ q) s s.heap ∧ va_T .byte q.2 (LENS.getD i 0) (fun j => .int ((BYT.getD i []).getD j 0)) (fun q => s.heap.size ≤ q) s s.heap := by
    intro i
    by_cases hi : i < 18
    · have ln := k_ln ⟨i, hi⟩
      simp only at ln
      obtain ⟨k, v, ⟨hS, -⟩, he⟩ := vk_Sof (N := 1) (tm := fun _ => tmR i) (len := [LENS.getD i 0]) (byt := [BYT.getD i []]) (A := fun q => s.heap.size ≤ q) (args := A) (s := s)
        (fun j hj => by rw [show j = 0 by omega]; show LENS.getD i 0 < _; omega)
        (fun j _ => hf (k_ex ⟨i, hi⟩)) (fun j _ => hf (k_co ⟨i, hi⟩)) (fun j _ => hf (k_ar ⟨i, hi⟩))
        (fun j hj => by rw [show j = 0 by omega]; exact hf (k_le ⟨i, hi⟩))
        (fun j hj q hq => by
          rw [show j = 0 by omega] at hq ⊢
          have hq : q < LENS.getD i 0 := hq
          exact hf (k_el ⟨i, hi⟩ ⟨q, by omega⟩ hq))
        (fun j j' hj hj' hn => absurd (show j = j' by omega) hn) hA
      exact ⟨(k 0, v 0), fun _ => ⟨he 0 (by omega), hS 0 (by omega)⟩⟩
    · exact ⟨(0, 0), fun h => absurd h hi⟩
  obtain ⟨ad, had⟩ := Classical.axiomOfChoice h1
  have hZ := va_Zqof (A := fun q => s.heap.size ≤ q) (hts _ w_sil) (hts _ w_sii) (hf k_si) hA
  have hZ2 : ∃ y : Nat × Nat, va_Z "jdk/internal/util/Preconditions" "SIOOBE_FORMATTER" "Ljava/util/function/BiFunction;" (if y.2 = 0 then .ref y.1 else .null) (fun q => s.heap.size ≤ q) s s.heap := by
    rcases hZ with h | ⟨t, h⟩
    · exact ⟨(0, 1), h⟩
    · exact ⟨(t, 0), h⟩
  obtain ⟨y, hy⟩ := hZ2
  refine ⟨fun n => if n = 0 then b0 else if n = 1000 then y.1 else if n = 1001 then y.2 else if n % 2 = 1 then (ad (n / 2)).1 else (ad (n / 2 - 1)).2, rfl, ?_⟩
  have eK : ∀ i : Nat, i < 18 → (fun n => if n = 0 then b0 else if n = 1000 then y.1 else if n = 1001 then y.2 else if n % 2 = 1 then (ad (n / 2)).1 else (ad (n / 2 - 1)).2) (2 * i + 1) = (ad i).1 := fun i hi => by
    show (if 2 * i + 1 = 0 then b0 else if 2 * i + 1 = 1000 then y.1 else if 2 * i + 1 = 1001 then y.2 else if (2 * i + 1) % 2 = 1 then (ad ((2 * i + 1) / 2)).1 else (ad ((2 * i + 1) / 2 - 1)).2) = _
    rw [if_neg (by omega), if_neg (by omega), if_neg (by omega), if_pos (by omega), show (2 * i + 1) / 2 = i by omega]
  have eV : ∀ i : Nat, i < 18 → (fun n => if n = 0 then b0 else if n = 1000 then y.1 else if n = 1001 then y.2 else if n % 2 = 1 then (ad (n / 2)).1 else (ad (n / 2 - 1)).2) (2 * i + 2) = (ad i).2 := fun i hi => by
    show (if 2 * i + 2 = 0 then b0 else if 2 * i + 2 = 1000 then y.1 else if 2 * i + 2 = 1001 then y.2 else if (2 * i + 2) % 2 = 1 then (ad ((2 * i + 2) / 2)).1 else (ad ((2 * i + 2) / 2 - 1)).2) = _
    rw [if_neg (by omega), if_neg (by omega), if_neg (by omega), if_neg (by omega), show (2 * i + 2) / 2 - 1 = i by omega]
  have e0 : (fun n => if n = 0 then b0 else if n = 1000 then y.1 else if n = 1001 then y.2 else if n % 2 = 1 then (ad (n / 2)).1 else (ad (n / 2 - 1)).2) 1000 = y.1 := rfl
  have e1 : (fun n => if n = 0 then b0 else if n = 1000 then y.1 else if n = 1001 then y.2 else if n % 2 = 1 then (ad (n / 2)).1 else (ad (n / 2 - 1)).2) 1001 = y.2 := rfl
  generalize (fun n => if n = 0 then b0 else if n = 1000 then y.1 else if n = 1001 then y.2 else if n % 2 = 1 then (ad (n / 2)).1 else (ad (n / 2 - 1)).2) = bb at eK eV e0 e1 ⊢
  refine ⟨⟨fun i hi => ?_, fun i j hi hj e => ?_⟩, fun t ht => ?_, va_Zof (hts _ w_csl) (hts _ w_csi) (va_eqt (hf k_cs)) hA, ?_⟩
  · obtain ⟨-, h2, h3, h4, h5⟩ := had i hi
    show va_O "java/lang/String" (bb (2 * i + 1)) (fun q => s.heap.size ≤ q) s s.heap ∧ va_OF "java/lang/String" "coder" "B" (.int 0) (bb (2 * i + 1)) (fun q => s.heap.size ≤ q) s s.heap ∧ va_OF "java/lang/String" "value" "[B" (.ref (bb (2 * i + 2))) (bb (2 * i + 1)) (fun q => s.heap.size ≤ q) s s.heap ∧ va_T .byte (bb (2 * i + 2)) (LENS.getD i 0) (fun j => .int ((BYT.getD i []).getD j 0)) (fun q => s.heap.size ≤ q) s s.heap
    rw [eK i hi, eV i hi]; exact ⟨h2, h3, h4, h5⟩
  · have e : (ad i).1 = (ad j).1 := by rw [← eK i hi, ← eK j hj]; exact e
    by_cases hij : i = j
    · exact hij
    · exfalso
      obtain ⟨-, -, -, a4, a5⟩ := had i hi
      obtain ⟨-, -, -, b4, b5⟩ := had j hj
      rw [e] at a4
      have ev : (ad i).2 = (ad j).2 := Value.ref.inj (OF_uniq a4 b4)
      rw [ev] at a5
      have l1 := k_ln ⟨i, hi⟩
      have l2 := k_ln ⟨j, hj⟩
      simp only at l1 l2
      obtain ⟨eN, eF⟩ := T_uniq (by omega) (by omega) a5 b5
      obtain ⟨k, k1, k2⟩ := k_df ⟨i, hi⟩ ⟨j, hj⟩ (fun h => hij (congrArg Fin.val h)) eN
      exact k2 (Value.int.inj (eF k.val k1))
  · rcases k_st t ht with ⟨z1, z2, z3⟩ | ⟨z1, z2, z3⟩
    · rw [z1, z3, eK _ z2]; exact vk_R.of (A := A) (hts _ (chunk_in (List.mem_of_getElem? (k_sr ⟨_, z2⟩)))) (had _ z2).1
    · rw [z1, z3, eK _ z2]; exact vk_R.of (A := A) (hts _ (chunk_in (List.mem_of_getElem? (k_sm ⟨_, z2⟩)))) (va_eqR (hf (k_eq ⟨_, z2⟩)) (had _ z2).1)
  · show va_Z "jdk/internal/util/Preconditions" "SIOOBE_FORMATTER" "Ljava/util/function/BiFunction;" (fV bb) (fun q => s.heap.size ≤ q) s s.heap
    unfold fV
    rw [e0, e1]; exact hy
end KST
end
