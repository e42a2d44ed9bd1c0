section KST
/-- the start's conditions, one by one -/
abbrev FLT : List Jvm.Cond := flatC (Jvm.Cond.and given_1 narrow_1)
def ENR : List Nat := [79, 74, 40, 54, 193, 69, 49, 197, 150, 64, 95, 195, 152, 97, 116, 187, 105, 59]
def ENM : List Nat := [226, 224, 212, 216, 181, 222, 214, 185, 177, 220, 241, 183, 179, 243, 187, 240, 245, 218]
def tmR (i : Nat) : Term := .string "DoorSchool$Reader" (ENR.getD i 0)
def tmM (i : Nat) : Term := .string "DoorSchoolModel" (ENM.getD i 0)
def vlR (i : Nat) : Term := .field (tmR i) "java/lang/String" "value" "[B"
def pEX : List Nat := [204, 185, 76, 151, 84, 176, 125, 105, 135, 167, 45, 93, 143, 55, 116, 195, 64, 159]
def pCO : List Nat := [205, 186, 77, 152, 85, 177, 126, 106, 136, 168, 46, 94, 144, 56, 117, 196, 65, 160]
def pAR : List Nat := [206, 187, 78, 153, 86, 178, 127, 107, 137, 169, 47, 95, 145, 57, 118, 197, 66, 161]
def pLE : List Nat := [207, 188, 79, 154, 87, 179, 128, 108, 138, 170, 48, 96, 146, 58, 119, 198, 67, 162]
def pEQ : List Nat := [325, 315, 255, 275, 335, 304, 266, 360, 379, 294, 223, 348, 388, 233, 370, 398, 246, 284]
def pEL : List (List Nat) := [[208, 209, 210, 211, 212], [189, 190, 191, 192, 193, 194], [80, 81, 82, 83], [155, 156, 157, 158], [88, 89, 90, 91, 92], [180, 181, 182, 183, 184], [129, 130, 131, 132, 133, 134], [109, 110, 111, 112, 113, 114, 115], [139, 140, 141, 142], [171, 172, 173, 174, 175], [49, 50, 51, 52, 53, 54], [97, 98, 99, 100, 101, 102, 103, 104], [147, 148, 149, 150], [59, 60, 61, 62, 63], [120, 121, 122, 123, 124], [199, 200, 201, 202, 203], [68, 69, 70, 71, 72, 73, 74, 75], [163, 164, 165, 166]]
theorem k_ex : ∀ i : Fin 18, FLT[pEX.getD i.val 0]? = some (Cond.exactly (tmR i.val) "java/lang/String") := by decide +kernel
theorem k_co : ∀ i : Fin 18, FLT[pCO.getD i.val 0]? = some (Cond.eq (.field (tmR i.val) "java/lang/String" "coder" "B") (.int 0)) := by decide +kernel
theorem k_ar : ∀ i : Fin 18, FLT[pAR.getD i.val 0]? = some (Cond.arrayOf (vlR i.val) .byte) := by decide +kernel
theorem k_le : ∀ i : Fin 18, FLT[pLE.getD i.val 0]? = some (Cond.eq (.length (vlR i.val)) (.int (Int32.ofNat (LENS.getD i.val 0)))) := by decide +kernel
theorem k_eq : ∀ i : Fin 18, FLT[pEQ.getD i.val 0]? = some (Cond.eq (tmR i.val) (tmM i.val)) := by decide +kernel
theorem k_el : ∀ i : Fin 18, ∀ j : Fin 9, j.val < LENS.getD i.val 0 → FLT[(pEL.getD i.val []).getD j.val 0]? = some (Cond.eq (.elem (vlR i.val) (.int (Int32.ofNat j.val))) (.int ((BYT.getD i.val []).getD j.val 0))) := by decide +kernel
theorem k_ln : ∀ i : Fin 18, LENS.getD i.val 0 < 9 + 1 := by decide +kernel
theorem k_df : ∀ i j : Fin 18, i ≠ j → LENS.getD i.val 0 = LENS.getD j.val 0 → ∃ k : Fin 9, k.val < LENS.getD i.val 0 ∧ (BYT.getD i.val []).getD k.val 0 ≠ (BYT.getD j.val []).getD k.val 0 := by decide +kernel
theorem k_cs : FLT[4]? = some (Cond.eq (.static "java/lang/String" "COMPACT_STRINGS" "Z") (.int 1)) := by decide +kernel
theorem k_si : FLT[5]? = some (Cond.isRef (.static "jdk/internal/util/Preconditions" "SIOOBE_FORMATTER" "Ljava/util/function/BiFunction;")) := by decide +kernel
def pSR : List (Nat × Nat) := [(3, 84), (3, 78), (3, 10), (3, 50), (3, 19), (3, 73), (3, 27), (3, 21), (3, 40), (3, 64), (2, 179), (3, 20), (3, 41), (3, 0), (3, 22), (3, 83), (3, 9), (3, 55)]
def pSM : List (Nat × Nat) := [(6, 148), (6, 147), (6, 141), (6, 143), (6, 153), (6, 146), (6, 142), (6, 155), (6, 173), (6, 145), (6, 108), (6, 154), (6, 174), (6, 127), (6, 156), (6, 194), (6, 136), (6, 144)]
theorem k_sr : ∀ i : Fin 18, (chunk (pSR.getD i.val (0, 0)).1)[(pSR.getD i.val (0, 0)).2]? = some (Cond.stringRef "DoorSchool$Reader" (ENR.getD i.val 0) (TXT.getD i.val "")) := by decide +kernel
theorem k_sm : ∀ i : Fin 18, (chunk (pSM.getD i.val (0, 0)).1)[(pSM.getD i.val (0, 0)).2]? = some (Cond.stringRef "DoorSchoolModel" (ENM.getD i.val 0) (TXT.getD i.val "")) := by decide +kernel
theorem k_st : ∀ t ∈ STRTAB, (t.1 = "DoorSchool$Reader" ∧ t.2.2 < 18 ∧ t.2.1 = ENR.getD t.2.2 0) ∨ (t.1 = "DoorSchoolModel" ∧ t.2.2 < 18 ∧ t.2.1 = ENM.getD t.2.2 0) := by decide +kernel
theorem w_csl : Cond.laysStatic "java/lang/String" "COMPACT_STRINGS" "Z" ∈ lw_tbl := (chunk_in (List.mem_of_getElem? (l := chunk 2) (i := 193) (by decide +kernel)))
theorem w_csi : Cond.initialized "java/lang/String" ∈ lw_tbl := (chunk_in (List.mem_of_getElem? (l := chunk 1) (i := 16) (by decide +kernel)))
theorem w_sil : Cond.laysStatic "jdk/internal/util/Preconditions" "SIOOBE_FORMATTER" "Ljava/util/function/BiFunction;" ∈ lw_tbl := (chunk_in (List.mem_of_getElem? (l := chunk 2) (i := 209) (by decide +kernel)))
theorem w_sii : Cond.initialized "jdk/internal/util/Preconditions" ∈ lw_tbl := (chunk_in (List.mem_of_getElem? (l := chunk 1) (i := 18) (by decide +kernel)))
theorem OF_uniq {o n d : String} {v v' : Value} {a : Nat} {A A' : Nat → Prop} {U : State} {H : Heap} (h : va_OF o n d v a A U H) (h' : va_OF o n d v' a A' U H) : v = v' := by
  obtain ⟨cf, k, i, f, cell, h1, -, h3, -, h5, -⟩ := h
  obtain ⟨cf', k', i', f', cell', k1, -, k3, -, k5, -⟩ := h'
  rw [h1] at k1
  simp only [Option.some.injEq, Prod.mk.injEq] at k1
  obtain ⟨-, -, -, rfl⟩ := k1
  rw [h3] at k3
  cases k3
  rw [h5] at k5
  cases k5; rfl
theorem T_uniq {ty : FieldType} {t N N' : Nat} {f f' : Nat → Value} {A A' : Nat → Prop} {U : State} {H : Heap} (hN : N < 100) (hN' : N' < 100) (h : va_T ty t N f A U H) (h' : va_T ty t N' f' A' U H) : N = N' ∧ ∀ j, j < N → f j = f' j := by
  obtain ⟨cell, h1, -, -, -, h5, h6, -⟩ := h
  obtain ⟨cell', k1, -, -, -, k5, k6, -⟩ := h'
  rw [h1] at k1
  cases k1
  rw [h5] at k5
  have e : N = N' := by
    have a : (Int32.ofNat N).toInt = N := Int32.toInt_ofNat_of_lt (by omega)
    have b : (Int32.ofNat N').toInt = N' := Int32.toInt_ofNat_of_lt (by omega)
    rw [k5] at a; omega
  subst e
  refine ⟨rfl, fun j hj => ?_⟩
  have a := h6 j hj
  rw [k6 j hj] at a
  exact (Option.some.inj a).symm
theorem KS_start {s : State} {A : Array Value} (b0 : Nat) (hts : ∀ w ∈ lw_tbl, w.before A s = true) (hg : (Jvm.Cond.and given_1 narrow_1).before A s = true) : ∃ b : Nat → Nat, b 0 = b0 ∧ KS b s.heap.size s := by
  have hs := flat_of_before _ hg
  have hf : ∀ {q : Nat} {c : Jvm.Cond}, FLT[q]? = some c → c.before A s = true := fun h => hs _ (List.mem_of_getElem? h)
  have hA : ∀ a : Nat, a < s.heap.size → ¬ s.heap.size ≤ a := fun a h => by omega
  have h1 : ∀ i : Nat, ∃ q : Nat × Nat, i < 18 → (tmR i).eval A s none [] s = some (.ref q.1) ∧ va_O "java/lang/String" q.1 (fun q => s.heap.size ≤ q) s s.heap ∧ va_OF "java/lang/String" "coder" "B" (.int 0) q.1 (fun q => s.heap.size ≤ q) s s.heap ∧ va_OF "java/lang/String" "value" "[B" (.ref q.2) q.1 (fun q => s.heap.size ≤ q) s s.heap ∧ va_T .byte q.2 (LENS.getD i 0) (fun j => .int ((BYT.getD i []).getD j 0)) (fun q => s.heap.size ≤ q) s s.heap := by
    intro i
    by_cases hi : i < 18
    · have ln := k_ln ⟨i, hi⟩
      simp only at ln
      obtain ⟨k, v, ⟨hS, -⟩, he⟩ := vk_Sof (N := 1) (tm := fun _ => tmR i) (len := [LENS.getD i 0]) (byt := [BYT.getD i []]) (A := fun q => s.heap.size ≤ q) (args := A) (s := s)
        (fun j hj => by rw [show j = 0 by omega]; show LENS.getD i 0 < _; omega)
        (fun j _ => hf (k_ex ⟨i, hi⟩)) (fun j _ => hf (k_co ⟨i, hi⟩)) (fun j _ => hf (k_ar ⟨i, hi⟩))
        (fun j hj => by rw [show j = 0 by omega]; exact hf (k_le ⟨i, hi⟩))
        (fun j hj q hq => by
          rw [show j = 0 by omega] at hq ⊢
          have hq : q < LENS.getD i 0 := hq
          exact hf (k_el ⟨i, hi⟩ ⟨q, by omega⟩ hq))
        (fun j j' hj hj' hn => absurd (show j = j' by omega) hn) hA
      exact ⟨(k 0, v 0), fun _ => ⟨he 0 (by omega), hS 0 (by omega)⟩⟩
    · exact ⟨(0, 0), fun h => absurd h hi⟩
  obtain ⟨ad, had⟩ := Classical.axiomOfChoice h1
  have hZ := va_Zqof (A := fun q => s.heap.size ≤ q) (hts _ w_sil) (hts _ w_sii) (hf k_si) hA
  have hZ2 : ∃ y : Nat × Nat, va_Z "jdk/internal/util/Preconditions" "SIOOBE_FORMATTER" "Ljava/util/function/BiFunction;" (if y.2 = 0 then .ref y.1 else .null) (fun q => s.heap.size ≤ q) s s.heap := by
    rcases hZ with h | ⟨t, h⟩
    · exact ⟨(0, 1), h⟩
    · exact ⟨(t, 0), h⟩
  obtain ⟨y, hy⟩ := hZ2
  refine ⟨fun n => if n = 0 then b0 else if n = 1000 then y.1 else if n = 1001 then y.2 else if n % 2 = 1 then (ad (n / 2)).1 else (ad (n / 2 - 1)).2, rfl, ?_⟩
  have eK : ∀ i : Nat, i < 18 → (fun n => if n = 0 then b0 else if n = 1000 then y.1 else if n = 1001 then y.2 else if n % 2 = 1 then (ad (n / 2)).1 else (ad (n / 2 - 1)).2) (2 * i + 1) = (ad i).1 := fun i hi => by
    show (if 2 * i + 1 = 0 then b0 else if 2 * i + 1 = 1000 then y.1 else if 2 * i + 1 = 1001 then y.2 else if (2 * i + 1) % 2 = 1 then (ad ((2 * i + 1) / 2)).1 else (ad ((2 * i + 1) / 2 - 1)).2) = _
    rw [if_neg (by omega), if_neg (by omega), if_neg (by omega), if_pos (by omega), show (2 * i + 1) / 2 = i by omega]
  have eV : ∀ i : Nat, i < 18 → (fun n => if n = 0 then b0 else if n = 1000 then y.1 else if n = 1001 then y.2 else if n % 2 = 1 then (ad (n / 2)).1 else (ad (n / 2 - 1)).2) (2 * i + 2) = (ad i).2 := fun i hi => by
    show (if 2 * i + 2 = 0 then b0 else if 2 * i + 2 = 1000 then y.1 else if 2 * i + 2 = 1001 then y.2 else if (2 * i + 2) % 2 = 1 then (ad ((2 * i + 2) / 2)).1 else (ad ((2 * i + 2) / 2 - 1)).2) = _
    rw [if_neg (by omega), if_neg (by omega), if_neg (by omega), if_neg (by omega), show (2 * i + 2) / 2 - 1 = i by omega]
  have e0 : (fun n => if n = 0 then b0 else if n = 1000 then y.1 else if n = 1001 then y.2 else if n % 2 = 1 then (ad (n / 2)).1 else (ad (n / 2 - 1)).2) 1000 = y.1 := rfl
  have e1 : (fun n => if n = 0 then b0 else if n = 1000 then y.1 else if n = 1001 then y.2 else if n % 2 = 1 then (ad (n / 2)).1 else (ad (n / 2 - 1)).2) 1001 = y.2 := rfl
  generalize (fun n => if n = 0 then b0 else if n = 1000 then y.1 else if n = 1001 then y.2 else if n % 2 = 1 then (ad (n / 2)).1 else (ad (n / 2 - 1)).2) = bb at eK eV e0 e1 ⊢
  refine ⟨⟨fun i hi => ?_, fun i j hi hj e => ?_⟩, fun t ht => ?_, va_Zof (hts _ w_csl) (hts _ w_csi) (va_eqt (hf k_cs)) hA, ?_⟩
  · obtain ⟨-, h2, h3, h4, h5⟩ := had i hi
    show va_O "java/lang/String" (bb (2 * i + 1)) (fun q => s.heap.size ≤ q) s s.heap ∧ va_OF "java/lang/String" "coder" "B" (.int 0) (bb (2 * i + 1)) (fun q => s.heap.size ≤ q) s s.heap ∧ va_OF "java/lang/String" "value" "[B" (.ref (bb (2 * i + 2))) (bb (2 * i + 1)) (fun q => s.heap.size ≤ q) s s.heap ∧ va_T .byte (bb (2 * i + 2)) (LENS.getD i 0) (fun j => .int ((BYT.getD i []).getD j 0)) (fun q => s.heap.size ≤ q) s s.heap
    rw [eK i hi, eV i hi]; exact ⟨h2, h3, h4, h5⟩
  · have e : (ad i).1 = (ad j).1 := by rw [← eK i hi, ← eK j hj]; exact e
    by_cases hij : i = j
    · exact hij
    · exfalso
      obtain ⟨-, -, -, a4, a5⟩ := had i hi
      obtain ⟨-, -, -, b4, b5⟩ := had j hj
      rw [e] at a4
      have ev : (ad i).2 = (ad j).2 := Value.ref.inj (OF_uniq a4 b4)
      rw [ev] at a5
      have l1 := k_ln ⟨i, hi⟩
      have l2 := k_ln ⟨j, hj⟩
      simp only at l1 l2
      obtain ⟨eN, eF⟩ := T_uniq (by omega) (by omega) a5 b5
      obtain ⟨k, k1, k2⟩ := k_df ⟨i, hi⟩ ⟨j, hj⟩ (fun h => hij (congrArg Fin.val h)) eN
      exact k2 (Value.int.inj (eF k.val k1))
  · rcases k_st t ht with ⟨z1, z2, z3⟩ | ⟨z1, z2, z3⟩
    · rw [z1, z3, eK _ z2]; exact vk_R.of (A := A) (hts _ (chunk_in (List.mem_of_getElem? (k_sr ⟨_, z2⟩)))) (had _ z2).1
    · rw [z1, z3, eK _ z2]; exact vk_R.of (A := A) (hts _ (chunk_in (List.mem_of_getElem? (k_sm ⟨_, z2⟩)))) (va_eqR (hf (k_eq ⟨_, z2⟩)) (had _ z2).1)
  · show va_Z "jdk/internal/util/Preconditions" "SIOOBE_FORMATTER" "Ljava/util/function/BiFunction;" (fV bb) (fun q => s.heap.size ≤ q) s s.heap
    unfold fV
    rw [e0, e1]; exact hy
end KST
