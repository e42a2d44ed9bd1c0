/-! the fresh heap is of its types -/
def sg0 : SG := fun a => match h0[a]? with
  | some c => c.2.2
  | none => []
theorem h0_HP : h0 = HP sg0 := by rw [HP_eq]; exact hpQ_ok (by decide +kernel)
def vOKb (t : Nat × Int × Int) (v : Value) : Bool := match v with
  | .int x => t.1 == 0 && decide (t.2.1 ≤ x.toInt) && decide (x.toInt ≤ t.2.2)
  | .long x => t.1 == 1 && decide (t.2.1 ≤ x.toInt) && decide (x.toInt ≤ t.2.2)
  | .ref a => t.1 == 2 && decide ((TG a : Int) = t.2.1)
  | _ => false
theorem vOKb_ok {t : Nat × Int × Int} {v : Value} (h : vOKb t v = true) : vOK t v := by
  cases v with
  | int x => simp only [vOKb, Bool.and_eq_true, beq_iff_eq, decide_eq_true_eq] at h; exact ⟨h.1.1, h.1.2, h.2⟩
  | long x => simp only [vOKb, Bool.and_eq_true, beq_iff_eq, decide_eq_true_eq] at h; exact ⟨h.1.1, h.1.2, h.2⟩
  | ref a => simp only [vOKb, Bool.and_eq_true, beq_iff_eq, decide_eq_true_eq] at h; exact ⟨h.1, h.2⟩
  | _ => cases h
/-- values beside their types, one step a value -/
def zipB : List (Nat × Int × Int) → List Value → Bool
  | _, [] => true
  | t :: l, v :: vs => vOKb t v && zipB l vs
  | [], _ :: _ => false
theorem zipB_at {l : List (Nat × Int × Int)} {vs : List Value} {j : Nat} {v : Value} (h : zipB l vs = true) (hv : vs[j]? = some v) : vOKb (l.getD j (9, 0, 0)) v = true := by
  induction vs generalizing l j with
  | nil => cases hv
  | cons w r ih =>
    cases l with
    | nil => exact absurd h (by unfold zipB; exact Bool.false_ne_true)
    | cons t l =>
      unfold zipB at h
      rw [Bool.and_eq_true] at h
      cases j with
      | zero => cases hv; rw [List.getD_cons_zero]; exact h.1
      | succ j =>
        rw [List.getElem?_cons_succ] at hv
        rw [List.getD_cons_succ]
        exact ih h.2 hv
def okRow (k : Nat) (l : List (Nat × Int × Int)) (vs : List Value) : Bool := match k, l with
  | 0, l => zipB l vs
  | _, [t] => vs.all (fun v => vOKb t v)
  | _, l => zipB l vs
theorem okRow_at {k : Nat} {l : List (Nat × Int × Int)} {vs : List Value} {j : Nat} {v : Value} (h : okRow k l vs = true) (hv : vs[j]? = some v) : vOKb (pick k l j) v = true := by
  cases k with
  | zero => exact zipB_at (l := l) h hv
  | succ k =>
    exact match l, h with
    | [], h => zipB_at (l := []) h hv
    | [t], h => List.all_eq_true.mp h v (List.mem_of_getElem? hv)
    | a :: b :: r, h => zipB_at (l := a :: b :: r) h hv
def okWT : Bool := (List.range NCEL).all (fun a => decide ((sg0 a).length = LN (TG a)) && okRow (KD (TG a)) (TY (TG a)).2.2.2 (sg0 a))
theorem okWT_ok : okWT = true := by decide +kernel
theorem WT0 : WT sg0 := by
  intro a ha
  have h := List.all_eq_true.mp okWT_ok a (List.mem_range.mpr ha)
  rw [Bool.and_eq_true, decide_eq_true_eq] at h
  exact ⟨h.1, fun j v hv => vOKb_ok (okRow_at h.2 hv)⟩
theorem slo_HP {σ : SG} (hσ : WT σ) : slo (HP σ) ≤ 100000 := by
  have e : (HP σ).map (fun c => c.2.2.length) = (List.range NCEL).map (fun a => LN (TG a)) := by
    apply List.ext_getElem?
    intro i
    rw [List.getElem?_map, HP_at, List.getElem?_map]
    rcases Nat.lt_or_ge i NCEL with z | z
    · have h1 := of_decide_eq_true (List.all_eq_true.mp okSh_ok i (List.mem_range.mpr z))
      rw [h1, List.getElem?_range z]
      simp [(hσ i z).1]
    · have hn : SHP.length = NCEL := by decide +kernel
      rw [List.getElem?_eq_none (by omega), List.getElem?_eq_none (by simp; omega)]
      rfl
  unfold slo
  rw [e]
  decide +kernel
theorem len_HP {σ : SG} : (HP σ).length ≤ 1000 := by
  rw [HP_len]
  decide +kernel

