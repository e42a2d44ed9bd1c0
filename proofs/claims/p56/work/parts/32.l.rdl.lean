section RDL
variable {By : Int → Int} {Nb : Int} {σ σ1 σ2 : SG} {W W' : List (Nat × Nat)}
/-- the two tapes, the two faults, and the plans' own rows -/
def RDL (σ : SG) : Prop := ∃ t : Int32, (σ 1)[1]? = some (.int t) ∧ (σ 159)[5]? = some (.int t) ∧ TAPb σ t.toInt ∧ ci σ 3 5 = ci σ 159 12 ∧ ci σ 3 6 = ci σ 159 13 ∧ FXP σ 18 ∧ FXP σ 44
def RDF (W : List (Nat × Nat)) : Bool := !W.contains (3, 5) && !W.contains (3, 6) && !W.contains (35, 12) && !W.contains (35, 13) && FXW W
def RDW (W : List (Nat × Nat)) : Bool := !W.contains (1, 1) && !W.contains (2, 0) && !W.contains (35, 5) && !W.contains (39, 0) && RDF W
theorem kept {a g j : Nat} {v : Value} (h : Fr W σ σ1) (ha : TG a = g) (hw : W.contains (g, SL g j) = false) (k : (σ a)[j]? = some v) : (σ1 a)[j]? = some v := (h _ _ (inW ha hw)).trans k
theorem RDF_ok (h : Fr W σ σ1) (hw : RDF W = true) : ci σ1 3 5 = ci σ 3 5 ∧ ci σ1 3 6 = ci σ 3 6 ∧ ci σ1 159 12 = ci σ 159 12 ∧ ci σ1 159 13 = ci σ 159 13 ∧ (FXP σ 18 → FXP σ1 18) ∧ (FXP σ 44 → FXP σ1 44) := by
  unfold RDF at hw
  simp only [Bool.and_eq_true] at hw
  exact ⟨f3 (j := 5) h (by omega) (nq _ hw.1.1.1.1), f3 (j := 6) h (by omega) (nq _ hw.1.1.1.2), f159 (j := 12) h (by omega) (nq _ hw.1.1.2), f159 (j := 13) h (by omega) (nq _ hw.1.2), fun x => FXP_fr (Or.inl rfl) x h hw.2, fun x => FXP_fr (Or.inr rfl) x h hw.2⟩
theorem RDL_fr (H : RDL σ) (h : Fr W σ σ1) (h' : Fr W' σ1 σ2) (hw : RDW W = true) (hw' : RDW W' = true) : RDL σ2 := by
  unfold RDW at hw hw'
  simp only [Bool.and_eq_true] at hw hw'
  obtain ⟨t, t1, t2, b, f5, f6, x1, x2⟩ := H
  have a := RDF_ok h hw.2
  have c := RDF_ok h' hw'.2
  refine ⟨t, kept h' tgz_1 (nq _ hw'.1.1.1.1) (kept h tgz_1 (nq _ hw.1.1.1.1) t1), kept h' tgz_159 (nq _ hw'.1.1.2) (kept h tgz_159 (nq _ hw.1.1.2) t2), fun i i0 i1 => ?_, ?_, ?_, c.2.2.2.2.1 (a.2.2.2.2.1 x1), c.2.2.2.2.2 (a.2.2.2.2.2 x2)⟩
  · have e1 : ∀ {V : List (Nat × Nat)} {τ τ' : SG}, Fr V τ τ' → (!V.contains (2, 0)) = true → ci τ' 2 i = ci τ 2 i := fun h hw => ci_fr h tgz_2 (by rw [Bool.and_eq_true]; exact ⟨by decide +kernel, hw⟩) i
    have e2 : ∀ {V : List (Nat × Nat)} {τ τ' : SG}, Fr V τ τ' → (!V.contains (39, 0)) = true → ci τ' 163 i = ci τ 163 i := fun h hw => ci_fr h tgz_163 (by rw [Bool.and_eq_true]; exact ⟨by decide +kernel, hw⟩) i
    rw [e1 h' hw'.1.1.1.2, e1 h hw.1.1.1.2, e2 h' hw'.1.2, e2 h hw.1.2]; exact b i i0 i1
  · rw [c.1, a.1, c.2.2.1, a.2.2.1]; exact f5
  · rw [c.2.1, a.2.1, c.2.2.2.1, a.2.2.2.1]; exact f6
def RDB (W : List (Nat × Nat)) : Bool := !W.contains (2, 0) && !W.contains (39, 0) && RDF W
/-- the tape is cut -/
theorem RDL_end {t v1 v2 : Int32} (H : RDL σ) (h : Fr W σ σ1) (h' : Fr W' σ1 σ2) (hw : RDB W = true) (hw' : RDB W' = true) (t1 : (σ 1)[1]? = some (.int t)) (p1 : (σ2 1)[1]? = some (.int v1)) (p2 : (σ2 159)[5]? = some (.int v2)) (e : v2.toInt = v1.toInt) (le : v1.toInt ≤ t.toInt) : RDL σ2 := by
  unfold RDB at hw hw'
  simp only [Bool.and_eq_true] at hw hw'
  obtain ⟨t', t1', t2, b, f5, f6, x1, x2⟩ := H
  rw [t1] at t1'
  injection t1' with t1'; injection t1' with t1'; subst t1'
  have e := Int32.toInt_inj.mp e
  subst e
  have a := RDF_ok h hw.2
  have c := RDF_ok h' hw'.2
  refine ⟨v2, p1, p2, fun i i0 i1 => ?_, ?_, ?_, c.2.2.2.2.1 (a.2.2.2.2.1 x1), c.2.2.2.2.2 (a.2.2.2.2.2 x2)⟩
  · have e1 : ∀ {V : List (Nat × Nat)} {τ τ' : SG}, Fr V τ τ' → (!V.contains (2, 0)) = true → ci τ' 2 i = ci τ 2 i := fun h hw => ci_fr h tgz_2 (by rw [Bool.and_eq_true]; exact ⟨by decide +kernel, hw⟩) i
    have e2 : ∀ {V : List (Nat × Nat)} {τ τ' : SG}, Fr V τ τ' → (!V.contains (39, 0)) = true → ci τ' 163 i = ci τ 163 i := fun h hw => ci_fr h tgz_163 (by rw [Bool.and_eq_true]; exact ⟨by decide +kernel, hw⟩) i
    rw [e1 h' hw'.1.1, e1 h hw.1.1, e2 h' hw'.1.2, e2 h hw.1.2]; exact b i i0 (by omega)
  · rw [c.1, a.1, c.2.2.1, a.2.2.1]; exact f5
  · rw [c.2.1, a.2.1, c.2.2.2.1, a.2.2.2.1]; exact f6
def RDE (W : List (Nat × Nat)) : Bool := !W.contains (39, 0) && RDF W
def RDE' (W : List (Nat × Nat)) : Bool := !W.contains (2, 0) && RDF W
/-- twenty bytes more -/
theorem RDL_feed {t v1 v2 a b c d e a' b' c' d' e' : Int32} (H : RDL σ) (h : Fr W σ σ1) (h' : Fr W' σ1 σ2) (hw : RDE W = true) (hw' : RDE' W' = true) (t1 : (σ 1)[1]? = some (.int t)) (t0 : 0 ≤ t.toInt) (p1 : (σ2 1)[1]? = some (.int v1)) (p2 : (σ2 159)[5]? = some (.int v2)) (ev : v2.toInt = v1.toInt) (hv : (t.toInt ≤ 1580 → v1.toInt = t.toInt + 20) ∧ (1580 < t.toInt → v1.toInt = t.toInt)) (Ec : (t.toInt ≤ 1580 → FDP σ σ1 2 t.toInt 20 a b c d e) ∧ (1580 < t.toInt → ∀ i : Int, ci σ1 2 i = ci σ 2 i)) (Em : (t.toInt ≤ 1580 → FDP σ1 σ2 163 t.toInt 20 a' b' c' d' e') ∧ (1580 < t.toInt → ∀ i : Int, ci σ2 163 i = ci σ1 163 i)) (ea : a'.toInt = a.toInt) (eb : b'.toInt = b.toInt) (ec : c'.toInt = c.toInt) (ed : d'.toInt = d.toInt) (ee : e'.toInt = e.toInt) : RDL σ2 := by
  unfold RDE at hw
  unfold RDE' at hw'
  rw [Bool.and_eq_true] at hw hw'
  obtain ⟨t', t1', t2, bb, f5, f6, x1, x2⟩ := H
  rw [t1] at t1'
  injection t1' with t1'; injection t1' with t1'; subst t1'
  obtain rfl := Int32.toInt_inj.mp ev
  obtain rfl := Int32.toInt_inj.mp ea
  obtain rfl := Int32.toInt_inj.mp eb
  obtain rfl := Int32.toInt_inj.mp ec
  obtain rfl := Int32.toInt_inj.mp ed
  obtain rfl := Int32.toInt_inj.mp ee
  have q := RDF_ok h hw.2
  have r := RDF_ok h' hw'.2
  have g1 (i : Int) : ci σ1 163 i = ci σ 163 i := ci_fr h tgz_163 (by rw [Bool.and_eq_true]; exact ⟨by decide +kernel, hw.1⟩) i
  have g2 (i : Int) : ci σ2 2 i = ci σ1 2 i := ci_fr h' tgz_2 (by rw [Bool.and_eq_true]; exact ⟨by decide +kernel, hw'.1⟩) i
  refine ⟨v2, p1, p2, fun i i0 i1 => ?_, ?_, ?_, r.2.2.2.2.1 (q.2.2.2.2.1 x1), r.2.2.2.2.2 (q.2.2.2.2.2 x2)⟩
  · rw [g2]
    by_cases z : t.toInt ≤ 1580
    · have F := Ec.1 z
      have G := Em.1 z
      have := hv.1 z
      by_cases y : i < t.toInt
      · rw [F.2 i i0 y, G.2 i i0 y, g1]; exact bb i i0 y
      · have k1 := F.1 (i - t.toInt) (by omega) (by omega)
        have k2 := G.1 (i - t.toInt) (by omega) (by omega)
        rw [show t.toInt + (i - t.toInt) = i by omega] at k1 k2
        rw [k1, k2]
    · have := hv.2 (by omega)
      rw [Ec.2 (by omega), Em.2 (by omega), g1]; exact bb i i0 (by omega)
  · rw [r.1, q.1, r.2.2.1, q.2.2.1]; exact f5
  · rw [r.2.1, q.2.1, r.2.2.2.1, q.2.2.2.1]; exact f6
theorem PLA_of {p : Nat} (h : TG p = 18) : PLA p := by
  have k : ∀ q : Fin 181, TG q.val = 18 → q.val = 18 ∨ q.val = 44 := by decide +kernel
  by_cases z : p < 181
  · exact k ⟨p, z⟩ h
  · exfalso
    have : TG p = 999 := by
      have l : TAGS.length = 181 := by decide +kernel
      unfold TG; rw [List.getD_eq_getElem?_getD, List.getElem?_eq_none (by omega)]; rfl
    omega
theorem FXP_p {p : Nat} (H : RDL σ) (h : TG p = 18) : FXP σ p := by
  obtain ⟨t, -, -, -, -, -, x1, x2⟩ := H
  rcases PLA_of h with e | e <;> subst e
  · exact x1
  · exact x2
theorem by_ty {i : Int} (hσ : WT σ) (i0 : 0 ≤ i) (i1 : i < 1600) : -128 ≤ ci σ 2 i ∧ ci σ 2 i ≤ 127 := by
  obtain ⟨y, h, h1, h2⟩ := WT_peekJ (J := i) (l := -128) (u := 127) hσ tgz_2 (by decide +kernel) i0 (lnI (by decide +kernel : LN _ = 1600) (by omega)) (FTsgl (by decide +kernel))
  have : ci σ 2 i = y.toInt := ci_at h rfl
  omega
theorem TPc_R {t : Int32} (hσ : WT σ) (t0 : 0 ≤ t.toInt) (t1 : t.toInt ≤ 1600) (h : (σ 1)[1]? = some (.int t)) : TPc (ci σ 2) t.toInt σ := ⟨t0, t1, ci_at (j := 1) h rfl, fun i i0 i1 => ⟨rfl, by_ty hσ i0 (by omega)⟩⟩
theorem TBm_R {t : Int32} (H : RDL σ) (hσ : WT σ) (t0 : 0 ≤ t.toInt) (t1 : t.toInt ≤ 1600) (k1 : (σ 1)[1]? = some (.int t)) (h : Fr W σ σ1) (hw : (!W.contains (35, 5) && !W.contains (39, 0)) = true) : TBm (ci σ 2) t.toInt σ1 := by
  rw [Bool.and_eq_true] at hw
  obtain ⟨t', t1', t2, b, -⟩ := H
  rw [k1] at t1'
  injection t1' with t1'; injection t1' with t1'; subst t1'
  refine ⟨t0, t1, ?_, fun i i0 i1 => ⟨?_, by_ty hσ i0 (by omega)⟩⟩
  · exact ci_at (j := 5) (kept h tgz_159 (nq _ hw.1) t2) rfl
  · rw [ci_fr h tgz_163 (by rw [Bool.and_eq_true]; exact ⟨by decide +kernel, hw.2⟩)]; exact (b i i0 i1).symm
/-- both have read -/
theorem RDL_sch {t v1 v2 : Int32} {r r' : Int} (H : RDL σ) (h : Fr W σ σ1) (h' : Fr W' σ1 σ2) (hw : FXW W = true) (hw' : (RDF W' || (FXW W' && !W'.contains (3, 5) && !W'.contains (3, 6))) = true) (p1 : (σ2 1)[1]? = some (.int v1)) (p2 : (σ2 159)[5]? = some (.int v2)) (e1 : v1.toInt = 0) (e2 : v2.toInt = 0) (Ec : SCC By Nb σ1 r) (Em : MSC By Nb σ1 σ2 r') : RDL σ2 := by
  obtain ⟨t', t1', t2, b, -, -, x1, x2⟩ := H
  have ev : v2 = v1 := Int32.toInt_inj.mp (by omega)
  subst ev
  have hz : FXW W' = true ∧ W'.contains (3, 5) = false ∧ W'.contains (3, 6) = false := by
    rw [Bool.or_eq_true] at hw'
    rcases hw' with k | k
    · unfold RDF at k; simp only [Bool.and_eq_true] at k; exact ⟨k.2, nq _ k.1.1.1.1, nq _ k.1.1.1.2⟩
    · simp only [Bool.and_eq_true] at k; exact ⟨k.1.1, nq _ k.1.2, nq _ k.2⟩
  refine ⟨v2, p1, p2, fun i i0 i1 => by omega, ?_, ?_, FXP_fr (Or.inl rfl) (FXP_fr (Or.inl rfl) x1 h hw) h' hz.1, FXP_fr (Or.inr rfl) (FXP_fr (Or.inr rfl) x2 h hw) h' hz.1⟩
  · rw [show ci σ2 3 5 = ci σ1 3 5 from f3 (j := 5) h' (by omega) hz.2.1, Ec.1, Em.1]
  · rw [show ci σ2 3 6 = ci σ1 3 6 from f3 (j := 6) h' (by omega) hz.2.2, Ec.2.1, Em.2.1]
theorem SC_eq {r r' : Int} (Ec : SCC By Nb σ1 r) (Em : MSC By Nb σ1 σ2 r') : r' = r := by
  by_cases z : (fRead By Nb 1601 S00).1 = 0
  · rw [Ec.2.2.2 z, (Em.2.2.2 z).1]
  · rw [Ec.2.2.1 z, (Em.2.2.1 z).1]
end RDL
