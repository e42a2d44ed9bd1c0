/-! the tables' entries by reduction -/
section RFW
variable {F G : MR} {MT : Nat → Option MR} {i j sl ci v : Nat} {C : String} {T : u_T} {N : Nat}
theorem AL_n {α : Type} {P : α → Prop} : ∀ q ∈ ([] : List α), P q := fun _ h => absurd h List.not_mem_nil
theorem AL_c {α : Type} {P : α → Prop} {a : α} {l : List α} (h : P a) (t : ∀ q ∈ l, P q) : ∀ q ∈ a :: l, P q := List.forall_mem_cons.mpr ⟨h, t⟩
theorem mI {l : List Cond} (i : Nat) {w : Cond} (h : l[i]? = some w) : w ∈ l := List.mem_of_getElem? h
theorem W_r {e : Nat} {w : Cond} (h : w ∈ chunk e) (g : goodWord w = true) : w ∈ TBL := List.mem_filter.mpr ⟨chunk_in h, g⟩
theorem N_r {e : Nat} {w : Cond} (h : w ∈ chunk e) (g : isNest w = true) : InW w := Or.inr (List.mem_filter.mpr ⟨chunk_in h, g⟩)
theorem FL_0 {a b e : Nat} (h1 : vwCl[ci]? = some (C, T, N)) (h2 : Nat.blt sl N = true) (h3 : (Cond.fieldLink (my F).cls i (T sl).1 (T sl).2.1 (T sl).2.2.1 : Cond) ∈ chunk e) (h4 : (T sl).2.2.2 = false) : FLok F (i, ci, sl, 0, a, b) :=
  ⟨(C, T, N), h1, Nat.blt_eq.mp h2, Or.inl (W_r h3 rfl), fun _ => h4, fun z => absurd (show 0 = 2 from z) (by decide)⟩
theorem FL_1 {a b e : Nat} (h1 : vwCl[ci]? = some (C, T, N)) (h2 : Nat.blt sl N = true) (h3 : (Cond.fieldLinkNest (my F).cls i (T sl).1 (T sl).2.1 (T sl).2.2.1 HOST : Cond) ∈ chunk e) (h4 : (T sl).2.2.2 = false) : FLok F (i, ci, sl, 1, a, b) :=
  ⟨(C, T, N), h1, Nat.blt_eq.mp h2, N_r h3 rfl, fun _ => h4, fun z => absurd (show 1 = 2 from z) (by decide)⟩
theorem FL_2 {a b e : Nat} (h1 : vwCl[ci]? = some (C, T, N)) (h2 : Nat.blt sl N = true) (h3 : (Cond.fieldLink (my F).cls i (T sl).1 (T sl).2.1 (T sl).2.2.1 : Cond) ∈ chunk e) (h4 : (T sl).2.2.2 = true) (h5 : (T sl).1 = (my F).cls) (h6 : (my F).name = "<init>") : FLok F (i, ci, sl, 2, a, b) :=
  ⟨(C, T, N), h1, Nat.blt_eq.mp h2, Or.inl (W_r h3 rfl), fun z => absurd (show 2 = 0 ∨ 2 = 1 from z) (by decide), fun _ => ⟨h4, h5, h6⟩⟩
theorem FL_3 {a b e : Nat} (h1 : vwCl[ci]? = some (C, T, N)) (h2 : Nat.blt sl N = true) (h3 : (Cond.fieldLink (my F).cls i (T sl).1 (T sl).2.1 (T sl).2.2.1 : Cond) ∈ chunk e) : FLok F (i, ci, sl, 3, a, b) :=
  ⟨(C, T, N), h1, Nat.blt_eq.mp h2, Or.inl (W_r h3 rfl), fun z => absurd (show 3 = 0 ∨ 3 = 1 from z) (by decide), fun z => absurd (show 3 = 2 from z) (by decide)⟩
theorem FL_4 {a b e : Nat} (h1 : vwCl[ci]? = some (C, T, N)) (h2 : Nat.blt sl N = true) (h3 : (Cond.fieldLinkNest (my F).cls i (T sl).1 (T sl).2.1 (T sl).2.2.1 HOST : Cond) ∈ chunk e) : FLok F (i, ci, sl, 4, a, b) :=
  ⟨(C, T, N), h1, Nat.blt_eq.mp h2, N_r h3 rfl, fun z => absurd (show 4 = 0 ∨ 4 = 1 from z) (by decide), fun z => absurd (show 4 = 2 from z) (by decide)⟩
def MFv (G : MR) : Prop := .instanceMethod (my G) ∈ TBL ∧ .selects (my G).cls (my G) (my G) ∈ TBL ∧ vwCl[mci G]?.map (fun r => r.1) = some (my G).cls
def MFj (G : MR) : Prop := .instanceMethod (my G) ∈ TBL ∧ .selects (my G).cls (my G) (my G) ∈ TBL ∧ (my G).cls = "java/lang/String"
def MFi (G : MR) : Prop := .instanceMethod (my G) ∈ TBL ∧ (my G).name = "<init>" ∧ mret G = none
theorem MFv_r (h1 : .instanceMethod (my G) ∈ TBL) (h2 : .selects (my G).cls (my G) (my G) ∈ TBL) (h3 : vwCl[mci G]?.map (fun r => r.1) = some (my G).cls) : MFv G := ⟨h1, h2, h3⟩
theorem MFj_r (h1 : .instanceMethod (my G) ∈ TBL) (h2 : .selects (my G).cls (my G) (my G) ∈ TBL) (h3 : (my G).cls = "java/lang/String") : MFj G := ⟨h1, h2, h3⟩
theorem MFi_r (h1 : .instanceMethod (my G) ∈ TBL) (h2 : (my G).name = "<init>") (h3 : mret G = none) : MFi G := ⟨h1, h2, h3⟩
theorem CK_8 {a b e : Nat} (h : (Cond.methodLink (my F).cls i arraycopyName : Cond) ∈ chunk e) : CKok MT F (i, 8, j, a, b) := ⟨fun _ => W_r h rfl, fun z => absurd (show 8 = 9 from z) (by decide), fun z => absurd (show 8 < 8 from z) (by decide)⟩
theorem CK_9 {a b e : Nat} (h : (Cond.methodLink (my F).cls i objectInit : Cond) ∈ chunk e) : CKok MT F (i, 9, j, a, b) := ⟨fun z => absurd (show 9 = 8 from z) (by decide), fun _ => W_r h rfl, fun z => absurd (show 9 < 8 from z) (by decide)⟩

theorem CK_0 {a b e : Nat} (hM : MT j = some G) (h : (Cond.methodLink (my F).cls i (my G) : Cond) ∈ chunk e) (m : MFv G) : CKok MT F (i, 0, j, a, b) := by
  refine ⟨fun z => absurd (show 0 = 8 from z) (by decide), fun z => absurd (show 0 = 9 from z) (by decide), fun _ G' hG => ?_⟩
  have e : some G = some G' := hM.symm.trans hG
  cases e
  have l : InW (Cond.methodLink (my F).cls i (my G)) := Or.inl (W_r h rfl)
  refine ⟨?_, fun _ => m, fun z => absurd (show 0 = 2 ∨ 0 = 3 from z) (by decide), fun z => absurd (show 0 = 4 ∨ 0 = 5 from z) (by decide), fun z => absurd (show 0 = 6 from z) (by decide)⟩
  rw [if_neg (by decide : ¬ ((0 : Nat) = 1 ∨ (0 : Nat) = 3 ∨ (0 : Nat) = 5))]
  exact l

theorem CK_1 {a b e : Nat} (hM : MT j = some G) (h : (Cond.methodLinkNest (my F).cls i (my G) HOST : Cond) ∈ chunk e) (m : MFv G) : CKok MT F (i, 1, j, a, b) := by
  refine ⟨fun z => absurd (show 1 = 8 from z) (by decide), fun z => absurd (show 1 = 9 from z) (by decide), fun _ G' hG => ?_⟩
  have e : some G = some G' := hM.symm.trans hG
  cases e
  have l : InW (Cond.methodLinkNest (my F).cls i (my G) HOST) := N_r h rfl
  refine ⟨?_, fun _ => m, fun z => absurd (show 1 = 2 ∨ 1 = 3 from z) (by decide), fun z => absurd (show 1 = 4 ∨ 1 = 5 from z) (by decide), fun z => absurd (show 1 = 6 from z) (by decide)⟩
  rw [if_pos (by decide : ((1 : Nat) = 1 ∨ (1 : Nat) = 3 ∨ (1 : Nat) = 5))]
  exact l

theorem CK_2 {a b e : Nat} (hM : MT j = some G) (h : (Cond.methodLink (my F).cls i (my G) : Cond) ∈ chunk e) (m : Cond.static (my G) ∈ TBL) : CKok MT F (i, 2, j, a, b) := by
  refine ⟨fun z => absurd (show 2 = 8 from z) (by decide), fun z => absurd (show 2 = 9 from z) (by decide), fun _ G' hG => ?_⟩
  have e : some G = some G' := hM.symm.trans hG
  cases e
  have l : InW (Cond.methodLink (my F).cls i (my G)) := Or.inl (W_r h rfl)
  refine ⟨?_, fun z => absurd (show 2 = 0 ∨ 2 = 1 from z) (by decide), fun _ => m, fun z => absurd (show 2 = 4 ∨ 2 = 5 from z) (by decide), fun z => absurd (show 2 = 6 from z) (by decide)⟩
  rw [if_neg (by decide : ¬ ((2 : Nat) = 1 ∨ (2 : Nat) = 3 ∨ (2 : Nat) = 5))]
  exact l

theorem CK_3 {a b e : Nat} (hM : MT j = some G) (h : (Cond.methodLinkNest (my F).cls i (my G) HOST : Cond) ∈ chunk e) (m : Cond.static (my G) ∈ TBL) : CKok MT F (i, 3, j, a, b) := by
  refine ⟨fun z => absurd (show 3 = 8 from z) (by decide), fun z => absurd (show 3 = 9 from z) (by decide), fun _ G' hG => ?_⟩
  have e : some G = some G' := hM.symm.trans hG
  cases e
  have l : InW (Cond.methodLinkNest (my F).cls i (my G) HOST) := N_r h rfl
  refine ⟨?_, fun z => absurd (show 3 = 0 ∨ 3 = 1 from z) (by decide), fun _ => m, fun z => absurd (show 3 = 4 ∨ 3 = 5 from z) (by decide), fun z => absurd (show 3 = 6 from z) (by decide)⟩
  rw [if_pos (by decide : ((3 : Nat) = 1 ∨ (3 : Nat) = 3 ∨ (3 : Nat) = 5))]
  exact l

theorem CK_4 {a b e : Nat} (hM : MT j = some G) (h : (Cond.methodLink (my F).cls i (my G) : Cond) ∈ chunk e) (m : MFi G) : CKok MT F (i, 4, j, a, b) := by
  refine ⟨fun z => absurd (show 4 = 8 from z) (by decide), fun z => absurd (show 4 = 9 from z) (by decide), fun _ G' hG => ?_⟩
  have e : some G = some G' := hM.symm.trans hG
  cases e
  have l : InW (Cond.methodLink (my F).cls i (my G)) := Or.inl (W_r h rfl)
  refine ⟨?_, fun z => absurd (show 4 = 0 ∨ 4 = 1 from z) (by decide), fun z => absurd (show 4 = 2 ∨ 4 = 3 from z) (by decide), fun _ => m, fun z => absurd (show 4 = 6 from z) (by decide)⟩
  rw [if_neg (by decide : ¬ ((4 : Nat) = 1 ∨ (4 : Nat) = 3 ∨ (4 : Nat) = 5))]
  exact l

theorem CK_5 {a b e : Nat} (hM : MT j = some G) (h : (Cond.methodLinkNest (my F).cls i (my G) HOST : Cond) ∈ chunk e) (m : MFi G) : CKok MT F (i, 5, j, a, b) := by
  refine ⟨fun z => absurd (show 5 = 8 from z) (by decide), fun z => absurd (show 5 = 9 from z) (by decide), fun _ G' hG => ?_⟩
  have e : some G = some G' := hM.symm.trans hG
  cases e
  have l : InW (Cond.methodLinkNest (my F).cls i (my G) HOST) := N_r h rfl
  refine ⟨?_, fun z => absurd (show 5 = 0 ∨ 5 = 1 from z) (by decide), fun z => absurd (show 5 = 2 ∨ 5 = 3 from z) (by decide), fun _ => m, fun z => absurd (show 5 = 6 from z) (by decide)⟩
  rw [if_pos (by decide : ((5 : Nat) = 1 ∨ (5 : Nat) = 3 ∨ (5 : Nat) = 5))]
  exact l

theorem CK_6 {a b e : Nat} (hM : MT j = some G) (h : (Cond.methodLink (my F).cls i (my G) : Cond) ∈ chunk e) (m : MFj G) : CKok MT F (i, 6, j, a, b) := by
  refine ⟨fun z => absurd (show 6 = 8 from z) (by decide), fun z => absurd (show 6 = 9 from z) (by decide), fun _ G' hG => ?_⟩
  have e : some G = some G' := hM.symm.trans hG
  cases e
  have l : InW (Cond.methodLink (my F).cls i (my G)) := Or.inl (W_r h rfl)
  refine ⟨?_, fun z => absurd (show 6 = 0 ∨ 6 = 1 from z) (by decide), fun z => absurd (show 6 = 2 ∨ 6 = 3 from z) (by decide), fun z => absurd (show 6 = 4 ∨ 6 = 5 from z) (by decide), fun _ => m⟩
  rw [if_neg (by decide : ¬ ((6 : Nat) = 1 ∨ (6 : Nat) = 3 ∨ (6 : Nat) = 5))]
  exact l

theorem KC_r {a b e : Nat} (h1 : vwCl[ci]? = some (C, T, N)) (h : (Cond.classLink (my F).cls i C : Cond) ∈ chunk e) : KCok F (i, ci, a, b) := ⟨(C, T, N), h1, W_r h rfl⟩
theorem XS_0 (n : Nat) {a b : Nat} (h : STRTAB[n]? = some ((my F).cls, i, v)) : XOK F (i, 0, v, a, b) := ⟨fun _ => List.mem_of_getElem? h, fun z => absurd (show 0 = 1 from z) (by decide), fun z => absurd (show 0 = 2 from z) (by decide), fun z => absurd (show 0 = 3 from z) (by decide), fun z => absurd (show 0 = 4 from z) (by decide)⟩
theorem XS_1 {a b e : Nat} (h : (Cond.fieldLink (my F).cls i "java/lang/String" "value" "[B" : Cond) ∈ chunk e) : XOK F (i, 1, v, a, b) := ⟨fun z => absurd (show 1 = 0 from z) (by decide), fun _ => W_r h rfl, fun z => absurd (show 1 = 2 from z) (by decide), fun z => absurd (show 1 = 3 from z) (by decide), fun z => absurd (show 1 = 4 from z) (by decide)⟩
theorem XS_2 {a b e : Nat} (h : (Cond.fieldLink (my F).cls i "java/lang/String" "coder" "B" : Cond) ∈ chunk e) : XOK F (i, 2, v, a, b) := ⟨fun z => absurd (show 2 = 0 from z) (by decide), fun z => absurd (show 2 = 1 from z) (by decide), fun _ => W_r h rfl, fun z => absurd (show 2 = 3 from z) (by decide), fun z => absurd (show 2 = 4 from z) (by decide)⟩
theorem XS_3 {a b e : Nat} (h : (Cond.fieldLink (my F).cls i "java/lang/String" "COMPACT_STRINGS" "Z" : Cond) ∈ chunk e) : XOK F (i, 3, v, a, b) := ⟨fun z => absurd (show 3 = 0 from z) (by decide), fun z => absurd (show 3 = 1 from z) (by decide), fun z => absurd (show 3 = 2 from z) (by decide), fun _ => W_r h rfl, fun z => absurd (show 3 = 4 from z) (by decide)⟩
theorem XS_4 {a b e : Nat} (h : (Cond.fieldLink (my F).cls i "jdk/internal/util/Preconditions" "SIOOBE_FORMATTER" "Ljava/util/function/BiFunction;" : Cond) ∈ chunk e) : XOK F (i, 4, v, a, b) := ⟨fun z => absurd (show 4 = 0 from z) (by decide), fun z => absurd (show 4 = 1 from z) (by decide), fun z => absurd (show 4 = 2 from z) (by decide), fun z => absurd (show 4 = 3 from z) (by decide), fun _ => W_r h rfl⟩
theorem GK_r {e : Nat} (h1 : (Cond.code (my G) (mcc G) (mml G) (mret G) : Cond) ∈ chunk e) (h2 : .initialized (my G).cls ∈ TBL) (h3 : plainFor (my G) = true) (h4 : (my G).cls ≠ "java/lang/invoke/MethodHandle" ∧ (my G).cls ≠ "java/lang/invoke/VarHandle") (h6 : (parseMethodDescriptor (my G).desc).map (fun d => d.parameters.length) = some (mnp G)) : GOK G := ⟨W_r h1 rfl, h2, h3, h4.1, h4.2, h6⟩
theorem FK_r (h1 : ∀ q ∈ mcode F, IOK F q) (h2 : ∀ q ∈ mfl F, FLok F q) (h3 : ∀ q ∈ mcl F, CKok MT F q) (h4 : ∀ q ∈ mki F, .constant (my F).cls q.1 q.2.1 ∈ TBL) (h5 : ∀ q ∈ mkl F, .constantLong (my F).cls q.1 q.2.1 ∈ TBL) (h6 : ∀ q ∈ mkc F, KCok F q) (h7 : ∀ q ∈ mks F, XOK F q) : FOK MT F := ⟨h1, h2, h3, h4, h5, h6, h7⟩
theorem FW_r (h1 : walf (mcode F) 0 ((mcc F).data.toList.drop 0) = true) (h2 : (mcode F).all (fun q => !isSw q.2.1 || chkI F q) = true) : ∀ q ∈ mcode F, IOK F q := WLF 0 h1 h2
theorem plain_of {x : MethodName} (h : plainName x.cls = true) : plainFor x = true := by unfold plainFor; rw [h]; rfl
end RFW
