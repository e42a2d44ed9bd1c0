/-! the steps that write and make -/
theorem vS_self {A : Nat → Prop} {H0 H : Heap} {locs : List Loc} (h : va_S A H0 H locs) : va_S A H H locs := ⟨Nat.le_refl _, fun _ _ _ => rfl, h.2.2⟩
theorem vS_comp {A : Nat → Prop} {H0 H H1 : Heap} {locs locs1 : List Loc} (h1 : va_S A H0 H locs) (h2 : va_S A H H1 locs1) : va_S A H0 H1 locs1 :=
  ⟨Nat.le_trans h1.1 h2.1, fun q hq hA => (h2.2.1 q (Nat.lt_of_lt_of_le hq h1.1) hA).trans (h1.2.1 q hq hA), h2.2.2⟩
/-- a frame has no more cells than are booked -/
theorem W_sz {p : Program} {l : Launch} {e : Env} {R : Room} {s : State} {m : MethodId} {args : Array Value} {below : List Frame} {meth : Method} {c : Code} {H : Heap} {locs : List Loc} {cells slots : Nat} {Q : State → Prop} {g : JFrame}
    (k : H.size ≤ s.heap.size + cells → W p l e R s m args below meth c H locs cells slots Q g) : W p l e R s m args below meth c H locs cells slots Q g := fun T hT X => k (by
  have h := X.same.2.2.1
  rw [← hT]
  exact h) T hT X
theorem Wd_set {D : va_G} {tyc : Nat → ClassId} {b : Nat → Nat} {base : Nat} {h : AH} {H H1 : Heap} {a n : Nat} {c : AC} (hW : Wd D tyc b base h H) (hP : va_P D vwCl ((gW b base tyc h).set a (base + a, gE b base tyc c)) H1) (hle : H.size ≤ H1.size) (hN : base + h.length = n) (hub : H1.size ≤ n) : Wd D tyc b base (h.set a c) H1 := by
  refine ⟨?_, by rw [← gW_set]; exact hP⟩
  have h1 := hW.1
  rw [List.length_set]
  omega
theorem Wd_push {D : va_G} {tyc : Nat → ClassId} {b : Nat → Nat} {base : Nat} {h : AH} {H H1 : Heap} {q n : Nat} {c : AC} (hW : Wd D tyc b base h H) (hP : va_P D vwCl (gW b base tyc h ++ [(q, gE b base tyc c)]) H1) (hD : va_D (fun q => base ≤ q) (gW b base tyc h ++ [(q, gE b base tyc c)])) (hN : base + h.length = n) (hub : H1.size ≤ n + 1) : Wd D tyc b base (h ++ [c]) H1 ∧ q = base + h.length := by
  have hk : (gW b base tyc h ++ [(q, gE b base tyc c)])[h.length]? = some (q, gE b base tyc c) := by
    rw [List.getElem?_append_right (by rw [gW_len]; exact Nat.le_refl _), gW_len]; simp
  have hq1 : base ≤ q := hD.2 _ _ hk
  have hq2 : q < H1.size := (hP _ _ hk).lt
  have hq3 : base + h.length ≤ q := by
    rcases Nat.lt_or_ge q (base + h.length) with z | z
    · exfalso
      have hi : q - base < h.length := by omega
      have h2 : (gW b base tyc h ++ [(q, gE b base tyc c)])[q - base]? = some (base + (q - base), gE b base tyc h[q - base]) := by
        rw [List.getElem?_append_left (by rw [gW_len]; exact hi)]
        exact gW_at (List.getElem?_eq_getElem hi)
      have h3 := hD.1 _ _ _ _ h2 hk (by dsimp only; omega)
      omega
    · exact z
  have e : q = base + h.length := by omega
  subst e
  exact ⟨⟨by rw [List.length_append]; simp only [List.length_cons, List.length_nil]; omega, by rw [gW_push]; exact hP⟩, rfl⟩
theorem updI_list {vs : List Value} {j : Nat} (hj : j < vs.length) (x : Int32) : upd (fun k => asI (vs.getD k .null)) j x = fun k => asI ((vs.set j (.int x)).getD k .null) := by
  funext k
  unfold upd
  simp only [List.getD_eq_getElem?_getD, List.getElem?_set]
  by_cases hk : k = j
  · subst hk; simp [hj, asI]
  · rw [if_neg hk, if_neg (fun z => hk z.symm)]
theorem updL_list {vs : List Value} {j : Nat} (hj : j < vs.length) (x : Int64) : vp_updL (fun k => asL (vs.getD k .null)) j x = fun k => asL ((vs.set j (.long x)).getD k .null) := by
  funext k
  unfold vp_updL
  simp only [List.getD_eq_getElem?_getD, List.getElem?_set]
  by_cases hk : k = j
  · subst hk; simp [hj, asL]
  · rw [if_neg hk, if_neg (fun z => hk z.symm)]
theorem updR_list {base : Nat} {vs : List Value} {j : Nat} (hj : j < vs.length) (a : Nat) : va_up (fun k => asR base (vs.getD k .null)) j (some (base + a)) = fun k => asR base ((vs.set j (.ref a)).getD k .null) := by
  funext k
  unfold va_up
  simp only [List.getD_eq_getElem?_getD, List.getElem?_set]
  by_cases hk : k = j
  · subst hk; simp [hj, asR]
  · rw [if_neg hk, if_neg (fun z => hk z.symm)]
def sVR {α : Type} (st : List Value) (f : Value → Nat → List Value → Option α) : Option α := match st with
  | v :: .ref a :: r => f v a r
  | _ => none
def sVIR {α : Type} (st : List Value) (f : Value → Int32 → Nat → List Value → Option α) : Option α := match st with
  | v :: .int j :: .ref a :: r => f v j a r
  | _ => none
theorem sVR_inv {α : Type} {st : List Value} {f : Value → Nat → List Value → Option α} {a : α} (h : sVR st f = some a) : ∃ v x r, st = v :: .ref x :: r ∧ f v x r = some a := by
  unfold sVR at h; split at h
  · exact ⟨_, _, _, rfl, h⟩
  · cases h
theorem sVIR_inv {α : Type} {st : List Value} {f : Value → Int32 → Nat → List Value → Option α} {a : α} (h : sVIR st f = some a) : ∃ v j x r, st = v :: .int j :: .ref x :: r ∧ f v j x r = some a := by
  unfold sVIR at h; split at h
  · exact ⟨_, _, _, _, rfl, h⟩
  · cases h
/-- the type of the rows that hold a class's objects -/
def ciTy (ci : Nat) : Nat := if ci = 0 then 4 else if ci = 4 then 5 else if ci = 7 then 6 else 99
def stpW (F : MR) (i : Instr) (pc : Nat) (st : List Value) (h : AH) : Option (Nat × List Value × AH) :=
  match i with
  | .putfield k => sVR st (fun v a r => oB (fnd (mfl F) k) (fun e => oB h[a]? (fun c => oC (c.1 == 0 && c.2.1 == e.1 && decide (e.2.2.1 < 3) && decide (e.2.1 < c.2.2.length) && okFit (TYF e.1 e.2.1) v) (some (pc + 3, r, h.set a (0, c.2.1, c.2.2.set e.2.1 v))))))
  | .iastore => sVIR st (fun v j a r => oB h[a]? (fun c => oC (isI v && c.1 == 1 && c.2.1 == 0 && decide (¬ j < 0) && decide (j.toNatClampNeg < c.2.2.length)) (some (pc + 1, r, h.set a (1, c.2.1, c.2.2.set j.toNatClampNeg v)))))
  | .bastore => sVIR st (fun v j a r => oB h[a]? (fun c => oC (isI v && c.1 == 1 && (c.2.1 == 2 || c.2.1 == 3) && decide (¬ j < 0) && decide (j.toNatClampNeg < c.2.2.length)) (some (pc + 1, r, h.set a (1, c.2.1, c.2.2.set j.toNatClampNeg (.int (vp_nar (if c.2.1 = 2 then .byte else .boolean) (asI v))))))))
  | .lastore => sVIR st (fun v j a r => oB h[a]? (fun c => oC (isL v && c.1 == 2 && c.2.1 == 1 && decide (¬ j < 0) && decide (j.toNatClampNeg < c.2.2.length)) (some (pc + 1, r, h.set a (2, c.2.1, c.2.2.set j.toNatClampNeg v)))))
  | .aastore => sVIR st (fun v j a r => match v with
    | .ref x => oB h[x]? (fun d => oB h[a]? (fun c => oC (d.1 == 0 && c.1 == 3 && c.2.1 == ciTy d.2.1 && decide (c.2.1 < 7) && decide (¬ j < 0) && decide (j.toNatClampNeg < c.2.2.length)) (some (pc + 1, r, h.set a (3, c.2.1, c.2.2.set j.toNatClampNeg (.ref x))))))
    | _ => none)
  | _ => none

set_option maxHeartbeats 4000000 in
set_option maxRecDepth 100000 in
theorem stpW_ok {MT : Nat → Option MR} {p : Program} {l : Launch} {e : Env} {R : Room} {s : State} {m : MethodId} {args : Array Value} {below : List Frame} {meth : Method} {c : Code} {H : Heap} {locs : List Loc} {cells slots : Nat} {Q : State → Prop} {F : MR} {i : Instr} {len tgt pc pc' : Nat} {st st' : List Value} {h h' : AH} {D : va_G} {tyc : Nat → ClassId} {b : Nat → Nat} {base : Nat} {ls : Array Slot}
    (hF : FOK MT F) (C : Ctx p s m args meth c F) (hK : va_K D vwCl (TYS tyc) s) (hW : Wd D tyc b base h H) (hS : va_S (fun q => base ≤ q) s.heap H locs) (hN : base + h.length = s.heap.size + cells)
    (hf : fc F pc = some (i, len, tgt)) (hst : stpW F i pc st h = some (pc', st', h'))
    (k : ∀ H' locs', Wd D tyc b base h' H' → va_S (fun q => base ≤ q) s.heap H' locs' → W p l e R s m args below meth c H' locs' cells slots Q (F0 m pc' ls (st'.map (gV b base)))) :
    W p l e R s m args below meth c H locs cells slots Q (F0 m pc ls (st.map (gV b base))) := by
  obtain ⟨hx, hb, hr, hml, hown, hlocks, hts, hin0, hal⟩ := C
  obtain ⟨hD, hlen, hoff⟩ := hF.1 _ (fc_mem hf)
  dsimp only at hD hlen hoff
  have hd : ∀ n, ilen i = n → n ≠ 0 → decode (mcc F) pc = .ok (i, n) := by
    intro n h1 h2
    rcases hlen with h3 | h3
    · omega
    · rw [← h1, h3]; exact hD
  cases i with
  | putfield z =>
    change sVR _ _ = some _ at hst
    obtain ⟨v, a, r, rfl, h1⟩ := sVR_inv hst
    obtain ⟨e0, he0, h4⟩ := oB_inv h1
    obtain ⟨cc, hc, h5⟩ := oB_inv h4
    obtain ⟨h3, h2⟩ := oC_inv h5
    simp only [Option.some.injEq, Prod.mk.injEq] at h2
    obtain ⟨rfl, rfl, rfl⟩ := h2
    simp only [Bool.and_eq_true, beq_iff_eq, decide_eq_true_eq] at h3
    obtain ⟨⟨⟨⟨hk1, hk2⟩, hcd⟩, hlt⟩, hfit⟩ := h3
    obtain ⟨⟨C0, T0, N0⟩, hr0, hk0, hw0, hnf, hfn⟩ := hF.2.1 _ (fnd_mem he0)
    dsimp only at hr0 hk0 hw0 hnf hfn
    obtain ⟨hty, hnm⟩ := CLS_ty hr0
    have he := gW_at (b := b) (base := base) (tyc := tyc) hc
    rw [gE_o hk1, hk2] at he
    obtain ⟨hn1, hn2⟩ := okFit_spec b base hfit
    have hlt2 : e0.2.1 < (cc.2.2.map (gV b base)).length := by rw [List.length_map]; exact hlt
    have fin : ∀ (H1 : Heap) (locs1 : List Loc), va_P D vwCl ((gW b base tyc h).set a (base + a, .inr (e0.1, (cc.2.2.map (gV b base)).set e0.2.1 (gV b base v)))) H1 → va_S (fun q => base ≤ q) H H1 locs1 → W p l e R s m args below meth c H1 locs1 cells slots Q (F0 m (pc + 3) ls (r.map (gV b base))) := by
      intro H1 locs1 hP1 hS1
      refine W_sz (fun hub => k H1 locs1 (Wd_set hW ?_ hS1.1 hN hub) (vS_comp hS hS1))
      rw [gE_o rfl]
      dsimp only
      rw [List.map_set, hk2]
      exact hP1
    unfold fldW at hw0
    by_cases hfi : (T0 e0.2.1).2.2.2 = true
    · have hcd2 : e0.2.2.1 = 2 := by
        rcases (show e0.2.2.1 = 0 ∨ e0.2.2.1 = 1 ∨ e0.2.2.1 = 2 by omega) with z | z | z
        · rw [hnf (Or.inl z)] at hfi; cases hfi
        · rw [hnf (Or.inr z)] at hfi; cases hfi
        · exact z
      obtain ⟨g1, g2, g3⟩ := hfn hcd2
      rw [if_neg (by omega)] at hw0
      exact va_putF hx hb hts (CLS_in hr0) (TYF e0.1) hty hnm hown hK hW.2 (gW_D b base tyc h) (vS_self hS) a he hr0 e0.2.1 hk0 (hal _ hw0) (fun _ h9 => h9) g1 (hin0 g3) g2 (hty _ hk0) hn1 hn2 hlt2 (hd 3 rfl (by decide)) (fun H1 locs1 hP1 _ hS1 => fin H1 locs1 hP1 hS1)
    · have hfi2 : (T0 e0.2.1).2.2.2 = false := by simpa using hfi
      split at hw0
      · exact va_putN hx hb hts (CLS_in hr0) (TYF e0.1) hty hnm hown hK hW.2 (gW_D b base tyc h) (vS_self hS) a he hr0 e0.2.1 hk0 (hal _ hw0) (fun _ h9 => h9) hfi2 (hty _ hk0) hn1 hn2 hlt2 (hd 3 rfl (by decide)) (fun H1 locs1 hP1 _ hS1 => fin H1 locs1 hP1 hS1)
      · exact va_put hx hb hts (CLS_in hr0) (TYF e0.1) hty hnm hown hK hW.2 (gW_D b base tyc h) (vS_self hS) a he hr0 e0.2.1 hk0 (hal _ hw0) (fun _ h9 => h9) hfi2 (hty _ hk0) hn1 hn2 hlt2 (hd 3 rfl (by decide)) (fun H1 locs1 hP1 _ hS1 => fin H1 locs1 hP1 hS1)
  | iastore =>
    change sVIR _ _ = some _ at hst
    obtain ⟨v, j, a, r, rfl, h1⟩ := sVIR_inv hst
    obtain ⟨cc, hc, h4⟩ := oB_inv h1
    obtain ⟨h3, h2⟩ := oC_inv h4
    simp only [Option.some.injEq, Prod.mk.injEq] at h2
    obtain ⟨rfl, rfl, rfl⟩ := h2
    simp only [Bool.and_eq_true, Bool.or_eq_true, beq_iff_eq, decide_eq_true_eq] at h3
    obtain ⟨⟨⟨⟨hv, hk1⟩, hk2⟩, hj⟩, hlt⟩ := h3
    obtain ⟨x, rfl⟩ := isI_inv hv
    have he := gW_at (b := b) (base := base) (tyc := tyc) hc
    rw [gE_i hk1] at he
    have hin : vp_in j cc.2.2.length := fun z => z.elim hj (fun z => by omega)
    rw [hk2] at he
    refine va_iast hx hb hK hW.2 (gW_D b base tyc h) (vS_self hS) a 0 he rfl hin (hd 1 rfl (by decide)) (fun H1 locs1 hP1 _ hS1 => W_sz (fun hub => k H1 locs1 (Wd_set hW ?_ hS1.1 hN hub) (vS_comp hS hS1)))
    rw [updI_list hlt] at hP1
    rw [gE_i rfl]
    dsimp only
    rw [hk2, List.length_set]
    exact hP1
  | bastore =>
    change sVIR _ _ = some _ at hst
    obtain ⟨v, j, a, r, rfl, h1⟩ := sVIR_inv hst
    obtain ⟨cc, hc, h4⟩ := oB_inv h1
    obtain ⟨h3, h2⟩ := oC_inv h4
    simp only [Option.some.injEq, Prod.mk.injEq] at h2
    obtain ⟨rfl, rfl, rfl⟩ := h2
    simp only [Bool.and_eq_true, Bool.or_eq_true, beq_iff_eq, decide_eq_true_eq] at h3
    obtain ⟨⟨⟨⟨hv, hk1⟩, hk2⟩, hj⟩, hlt⟩ := h3
    obtain ⟨x, rfl⟩ := isI_inv hv
    have he := gW_at (b := b) (base := base) (tyc := tyc) hc
    rw [gE_i hk1] at he
    have hin : vp_in j cc.2.2.length := fun z => z.elim hj (fun z => by omega)
    rcases hk2 with hk2 | hk2
    · rw [hk2] at he
      refine va_bast hx hb hK hW.2 (gW_D b base tyc h) (vS_self hS) a 2 he rfl hin (hd 1 rfl (by decide)) (fun H1 locs1 hP1 _ hS1 => W_sz (fun hub => k H1 locs1 (Wd_set hW ?_ hS1.1 hN hub) (vS_comp hS hS1)))
      rw [updI_list hlt] at hP1
      rw [gE_i rfl]
      dsimp only
      rw [hk2, List.length_set]
      first | rw [if_pos rfl] | rw [if_neg (by decide)]
      exact hP1
    · rw [hk2] at he
      refine va_zast hx hb hK hW.2 (gW_D b base tyc h) (vS_self hS) a 3 he rfl hin (hd 1 rfl (by decide)) (fun H1 locs1 hP1 _ hS1 => W_sz (fun hub => k H1 locs1 (Wd_set hW ?_ hS1.1 hN hub) (vS_comp hS hS1)))
      rw [updI_list hlt] at hP1
      rw [gE_i rfl]
      dsimp only
      rw [hk2, List.length_set]
      first | rw [if_pos rfl] | rw [if_neg (by decide)]
      exact hP1
  | lastore =>
    change sVIR _ _ = some _ at hst
    obtain ⟨v, j, a, r, rfl, h1⟩ := sVIR_inv hst
    obtain ⟨cc, hc, h4⟩ := oB_inv h1
    obtain ⟨h3, h2⟩ := oC_inv h4
    simp only [Option.some.injEq, Prod.mk.injEq] at h2
    obtain ⟨rfl, rfl, rfl⟩ := h2
    simp only [Bool.and_eq_true, Bool.or_eq_true, beq_iff_eq, decide_eq_true_eq] at h3
    obtain ⟨⟨⟨⟨hv, hk1⟩, hk2⟩, hj⟩, hlt⟩ := h3
    obtain ⟨x, rfl⟩ := isL_inv hv
    have he := gW_at (b := b) (base := base) (tyc := tyc) hc
    rw [gE_l hk1] at he
    have hin : vp_in j cc.2.2.length := fun z => z.elim hj (fun z => by omega)
    rw [hk2] at he
    refine va_last hx hb hK hW.2 (gW_D b base tyc h) (vS_self hS) a 1 he rfl hin (hd 1 rfl (by decide)) (fun H1 locs1 hP1 _ hS1 => W_sz (fun hub => k H1 locs1 (Wd_set hW ?_ hS1.1 hN hub) (vS_comp hS hS1)))
    rw [updL_list hlt] at hP1
    rw [gE_l rfl]
    dsimp only
    rw [hk2, List.length_set]
    exact hP1
  | aastore =>
    change sVIR _ _ = some _ at hst
    obtain ⟨v, j, a, r, rfl, h1⟩ := sVIR_inv hst
    split at h1
    · rename_i x
      obtain ⟨dd, hdd, h1⟩ := oB_inv h1
      obtain ⟨cc, hc, h4⟩ := oB_inv h1
      obtain ⟨h3, h2⟩ := oC_inv h4
      simp only [Option.some.injEq, Prod.mk.injEq] at h2
      obtain ⟨rfl, rfl, rfl⟩ := h2
      simp only [Bool.and_eq_true, Bool.or_eq_true, beq_iff_eq, decide_eq_true_eq] at h3
      obtain ⟨⟨⟨⟨⟨hd1, hk1⟩, hk2⟩, hk7⟩, hj⟩, hlt⟩ := h3
      have he := gW_at (b := b) (base := base) (tyc := tyc) hc
      rw [gE_r hk1] at he
      have hv := gW_at (b := b) (base := base) (tyc := tyc) hdd
      rw [gE_o hd1] at hv
      have hin : vp_in j cc.2.2.length := fun z => z.elim hj (fun z => by omega)
      have fin : ∀ (H1 : Heap) (locs1 : List Loc), va_P D vwCl ((gW b base tyc h).set a (base + a, .inl (tyc cc.2.1, cc.2.2.length, .inr (.inr (.inr (.inr (va_up (fun k => asR base (cc.2.2.getD k .null)) j.toNatClampNeg (some (base + x))))))))) H1 → va_S (fun q => base ≤ q) H H1 locs1 → W p l e R s m args below meth c H1 locs1 cells slots Q (F0 m (pc + 1) ls (r.map (gV b base))) := by
        intro H1 locs1 hP1 hS1
        refine W_sz (fun hub => k H1 locs1 (Wd_set hW ?_ hS1.1 hN hub) (vS_comp hS hS1))
        rw [updR_list hlt] at hP1
        rw [gE_r rfl]
        simpa only [List.length_set] using hP1
      have hty3 : (dd.2.1 = 0 ∧ cc.2.1 = 4) ∨ (dd.2.1 = 4 ∧ cc.2.1 = 5) ∨ (dd.2.1 = 7 ∧ cc.2.1 = 6) := by
        unfold ciTy at hk2
        split at hk2
        · exact Or.inl ⟨by assumption, hk2⟩
        · split at hk2
          · exact Or.inr (Or.inl ⟨by assumption, hk2⟩)
          · split at hk2
            · exact Or.inr (Or.inr ⟨by assumption, hk2⟩)
            · omega
      rcases hty3 with ⟨z1, z2⟩ | ⟨z1, z2⟩ | ⟨z1, z2⟩
      · rw [z2] at he fin
        rw [z1] at hv
        exact va_astq hx hb hK hW.2 (gW_D b base tyc h) (vS_self hS) a 4 x 0 he rfl hv rfl hin (hd 1 rfl (by decide)) (fun H1 locs1 hP1 _ hS1 => fin H1 locs1 hP1 hS1)
      · rw [z2] at he fin
        rw [z1] at hv
        exact va_astq hx hb hK hW.2 (gW_D b base tyc h) (vS_self hS) a 5 x 4 he rfl hv rfl hin (hd 1 rfl (by decide)) (fun H1 locs1 hP1 _ hS1 => fin H1 locs1 hP1 hS1)
      · rw [z2] at he fin
        rw [z1] at hv
        exact va_astq hx hb hK hW.2 (gW_D b base tyc h) (vS_self hS) a 6 x 7 he rfl hv rfl hin (hd 1 rfl (by decide)) (fun H1 locs1 hP1 _ hS1 => fin H1 locs1 hP1 hS1)
    · cases h1
  | _ => exact absurd hst (by intro z; cases z)
/-! cells that come -/
def aty (t : ArrayType) : Option (Nat × Nat × Value) := match t with
  | .int => some (1, 0, .int 0)
  | .long => some (2, 1, .long 0)
  | .byte => some (1, 2, .int 0)
  | .boolean => some (1, 3, .int 0)
  | _ => none
/-- the classes, the rows' types, and that rows of objects may be made -/
def KX (D : va_G) (tyc : Nat → ClassId) (s : State) : Prop := va_K D vwCl (TYS tyc) s ∧ va_AO RX0 s ∧ va_AO RX4 s ∧ va_AO RX7 s ∧ ∀ w ∈ NST, va_Nw w s
theorem KX_warm {D : va_G} {tyc : Nat → ClassId} {u U : State} (hW : u.WarmedH U.vm) (h : KX D tyc u) : KX D tyc U := ⟨va_K.moved hW.alike h.1, va_AO.moved hW.alike h.2.1, va_AO.moved hW.alike h.2.2.1, va_AO.moved hW.alike h.2.2.2.1, fun w hw => NST_warm hw hW (h.2.2.2.2 w hw)⟩
theorem KX_call {D : va_G} {tyc : Nat → ClassId} {U : State} {g : JFrame} {mk : MethodId} {a : Array Value} (h : KX D tyc U) : KX D tyc (U.calling g mk a) := ⟨va_K.moved (u := U) (U := U.calling g mk a) (Vm.Alike.refl U.vm) h.1, va_AO.moved (u := U) (U := U.calling g mk a) (Vm.Alike.refl U.vm) h.2.1, va_AO.moved (u := U) (U := U.calling g mk a) (Vm.Alike.refl U.vm) h.2.2.1, va_AO.moved (u := U) (U := U.calling g mk a) (Vm.Alike.refl U.vm) h.2.2.2.1, fun w hw => va_Nw.same (NST_on hw) (u := U) (U := U.calling g mk a) rfl (h.2.2.2.2 w hw)⟩
def stpN (F : MR) (i : Instr) (pc : Nat) (st : List Value) (h : AH) : Option (Nat × List Value × AH) :=
  match i with
  | .new k => oB (fnd (mkc F) k) (fun e => some (pc + 3, .ref h.length :: st, h ++ [(0, e.1, DFL e.1)]))
  | .newarray t => oB (aty t) (fun q => sI st (fun n r => oC (decide (¬ n < 0) && decide (n.toNatClampNeg ≤ 100000)) (some (pc + 2, .ref h.length :: r, h ++ [(q.1, q.2.1, List.replicate n.toNatClampNeg q.2.2)]))))
  | .anewarray k => oB (fnd (mkc F) k) (fun e => sI st (fun n r => oC (decide (¬ n < 0) && decide (n.toNatClampNeg ≤ 100000) && decide (ciTy e.1 < 7)) (some (pc + 3, .ref h.length :: r, h ++ [(3, ciTy e.1, List.replicate n.toNatClampNeg .null)]))))
  | _ => none
theorem slo_push (h : AH) (c : AC) : slo (h ++ [c]) = slo h + c.2.2.length := by unfold slo; simp
theorem rep_I (n : Nat) : (fun j => asI ((List.replicate n (Value.int 0)).getD j .null)) = fun _ => (0 : Int32) := by
  funext j
  rw [List.getD_eq_getElem?_getD, List.getElem?_replicate]
  by_cases h : j < n <;> simp [h, asI]
theorem rep_L (n : Nat) : (fun j => asL ((List.replicate n (Value.long 0)).getD j .null)) = fun _ => (0 : Int64) := by
  funext j
  rw [List.getD_eq_getElem?_getD, List.getElem?_replicate]
  by_cases h : j < n <;> simp [h, asL]
theorem rep_R (base n : Nat) : (fun j => asR base ((List.replicate n Value.null).getD j .null)) = fun _ => (none : Option Nat) := by
  funext j
  rw [List.getD_eq_getElem?_getD, List.getElem?_replicate]
  by_cases h : j < n <;> simp [h, asR]
theorem TY_same {D : va_G} {tyc : Nat → ClassId} {s : State} {cA : ClassId} {ty : FieldType} {i : Nat} (hK : va_K D vwCl (TYS tyc ++ [(cA, ty)]) s) (hi : (TYS tyc)[i]? = some (tyc i, ty)) : cA = tyc i := by
  have hl : i < (TYS tyc).length := (List.getElem?_eq_some_iff.mp hi).1
  have h1 := (hK.2 i (tyc i, ty) (by rw [List.getElem?_append_left hl]; exact hi)).2
  have h2 := (hK.2 (TYS tyc).length (cA, ty) (by rw [List.getElem?_append_right (Nat.le_refl _)]; simp)).2
  unfold va_RA at h1 h2
  cases ty with
  | object C =>
    obtain ⟨_, _, _, _, _, e1⟩ := h1
    obtain ⟨_, _, _, _, _, e2⟩ := h2
    exact Option.some.inj (e2.symm.trans e1)
  | _ => exact Option.some.inj (h2.symm.trans h1)
set_option maxHeartbeats 4000000 in
set_option maxRecDepth 100000 in
theorem stpN_ok {MT : Nat → Option MR} {p : Program} {l : Launch} {e : Env} {R : Room} {s : State} {m : MethodId} {args : Array Value} {below : List Frame} {meth : Method} {c : Code} {H : Heap} {locs : List Loc} {cells slots S0 : Nat} {Q : State → Prop} {F : MR} {i : Instr} {len tgt pc pc' : Nat} {st st' : List Value} {h h' : AH} {D : va_G} {tyc : Nat → ClassId} {b : Nat → Nat} {base : Nat} {ls : Array Slot}
    (hF : FOK MT F) (C : Ctx p s m args meth c F) (hKX : KX D tyc s) (hW : Wd D tyc b base h H) (hS : va_S (fun q => base ≤ q) s.heap H locs) (hbs : base ≤ s.heap.size) (hN : base + h.length = s.heap.size + cells) (hM : slo h = S0 + slots) (hRc : base + h'.length ≤ s.heap.size + R.cells) (hRs : slo h' ≤ S0 + R.slots)
    (hf : fc F pc = some (i, len, tgt)) (hst : stpN F i pc st h = some (pc', st', h'))
    (k : ∀ H' locs' cells' slots', Wd D tyc b base h' H' → va_S (fun q => base ≤ q) s.heap H' locs' → base + h'.length = s.heap.size + cells' → slo h' = S0 + slots' → W p l e R s m args below meth c H' locs' cells' slots' Q (F0 m pc' ls (st'.map (gV b base)))) :
    W p l e R s m args below meth c H locs cells slots Q (F0 m pc ls (st.map (gV b base))) := by
  obtain ⟨hx, hb, hr, hml, hown, hlocks, hts, hin0, hal⟩ := C
  obtain ⟨hD, hlen, hoff⟩ := hF.1 _ (fc_mem hf)
  dsimp only at hD hlen hoff
  have hd : ∀ n, ilen i = n → n ≠ 0 → decode (mcc F) pc = .ok (i, n) := by
    intro n h1 h2
    rcases hlen with h3 | h3
    · omega
    · rw [← h1, h3]; exact hD
  have hK := hKX.1
  have hsz := hW.1
  have hA : ∀ q, H.size ≤ q → (fun q => base ≤ q) q := fun q hq => by dsimp only; omega
  cases i with
  | new z =>
    change oB _ _ = some _ at hst
    obtain ⟨e0, he0, h2⟩ := oB_inv hst
    simp only [Option.some.injEq, Prod.mk.injEq] at h2
    obtain ⟨rfl, rfl, rfl⟩ := h2
    obtain ⟨⟨C0, T0, N0⟩, hr0, hw0⟩ := hF.2.2.2.2.2.1 _ (fnd_mem he0)
    dsimp only at hr0 hw0
    obtain ⟨hty, hnm⟩ := CLS_ty hr0
    obtain ⟨hi1, hi2, hdl, hdv⟩ := CLS_new hr0
    rw [slo_push] at hRs k
    rw [List.length_append] at hRc k
    dsimp only [List.length_cons, List.length_nil] at hRc hRs k
    refine va_new hx hb hts (CLS_in hr0) (TYF e0.1) hty hown (hts _ hw0) (hts _ hi1) (hts _ hi2) hK hW.2 (gW_D b base tyc h) (vS_self hS) hA hr0 (fs := (DFL e0.1).map (gV b base)) (hdv b base) (by omega) (by omega) (hd 3 rfl (by decide)) (fun q H1 hP1 hD1 hS1 => W_sz (fun hub => ?_))
    have e9 : (Sum.inr (e0.1, (DFL e0.1).map (gV b base)) : va_E) = gE b base tyc (0, e0.1, DFL e0.1) := (gE_o (c := (0, e0.1, DFL e0.1)) rfl).symm
    rw [e9] at hP1 hD1
    obtain ⟨hW1, rfl⟩ := Wd_push hW hP1 hD1 hN hub
    exact k H1 locs (cells + 1) (slots + N0) hW1 (vS_comp hS hS1) (by omega) (by omega)
  | newarray t =>
    change oB _ _ = some _ at hst
    obtain ⟨q0, hq0, h1⟩ := oB_inv hst
    obtain ⟨n, r, rfl, h4⟩ := sI_inv h1
    obtain ⟨h3, h2⟩ := oC_inv h4
    simp only [Option.some.injEq, Prod.mk.injEq] at h2
    obtain ⟨rfl, rfl, rfl⟩ := h2
    simp only [Bool.and_eq_true, decide_eq_true_eq] at h3
    obtain ⟨hn, hn5⟩ := h3
    rw [slo_push] at hRs k
    rw [List.length_append] at hRc k
    dsimp only [List.length_cons, List.length_nil] at hRc hRs k
    rw [List.length_replicate] at hRs k
    cases t with

    | int =>
      cases (show some (1, 0, Value.int 0) = some q0 from hq0)
      have hbytes : n.toNatClampNeg * componentBytes .int ≤ 536870912 := Nat.le_trans (Nat.mul_le_mul hn5 (show componentBytes .int ≤ 8 by decide)) (by decide)
      refine va_newa (atype := .int) (ty := .int) (a0 := (n.toNatClampNeg, .inl (fun _ => 0))) hx hb (hts _ ARR_int) rfl hK hW.2 (gW_D b base tyc h) (vS_self hS) hA (fun cA => rfl) hn rfl hbytes (by omega) (by omega) (hd 2 rfl (by decide)) (fun q cA H1 hK1 hP1 hD1 hS1 => W_sz (fun hub => ?_))
      have e8 := TY_same (i := 0) hK1 rfl
      subst e8
      have e9 : (Sum.inl (tyc 0, n.toNatClampNeg, .inl (fun _ => 0)) : va_E) = gE b base tyc (1, 0, List.replicate n.toNatClampNeg (.int 0)) := by
        rw [gE_i rfl]
        dsimp only
        rw [List.length_replicate, rep_I]
      rw [e9] at hP1 hD1
      obtain ⟨hW1, rfl⟩ := Wd_push hW hP1 hD1 hN hub
      exact k H1 locs (cells + 1) (slots + n.toNatClampNeg) hW1 (vS_comp hS hS1) (by omega) (by omega)
    | long =>
      cases (show some (2, 1, Value.long 0) = some q0 from hq0)
      have hbytes : n.toNatClampNeg * componentBytes .long ≤ 536870912 := Nat.le_trans (Nat.mul_le_mul hn5 (show componentBytes .long ≤ 8 by decide)) (by decide)
      refine va_newa (atype := .long) (ty := .long) (a0 := (n.toNatClampNeg, .inr (.inl (fun _ => 0)))) hx hb (hts _ ARR_long) rfl hK hW.2 (gW_D b base tyc h) (vS_self hS) hA (fun cA => rfl) hn rfl hbytes (by omega) (by omega) (hd 2 rfl (by decide)) (fun q cA H1 hK1 hP1 hD1 hS1 => W_sz (fun hub => ?_))
      have e8 := TY_same (i := 1) hK1 rfl
      subst e8
      have e9 : (Sum.inl (tyc 1, n.toNatClampNeg, .inr (.inl (fun _ => 0))) : va_E) = gE b base tyc (2, 1, List.replicate n.toNatClampNeg (.long 0)) := by
        rw [gE_l rfl]
        dsimp only
        rw [List.length_replicate, rep_L]
      rw [e9] at hP1 hD1
      obtain ⟨hW1, rfl⟩ := Wd_push hW hP1 hD1 hN hub
      exact k H1 locs (cells + 1) (slots + n.toNatClampNeg) hW1 (vS_comp hS hS1) (by omega) (by omega)
    | byte =>
      cases (show some (1, 2, Value.int 0) = some q0 from hq0)
      have hbytes : n.toNatClampNeg * componentBytes .byte ≤ 536870912 := Nat.le_trans (Nat.mul_le_mul hn5 (show componentBytes .byte ≤ 8 by decide)) (by decide)
      refine va_newa (atype := .byte) (ty := .byte) (a0 := (n.toNatClampNeg, .inl (fun _ => 0))) hx hb (hts _ ARR_byte) rfl hK hW.2 (gW_D b base tyc h) (vS_self hS) hA (fun cA => rfl) hn rfl hbytes (by omega) (by omega) (hd 2 rfl (by decide)) (fun q cA H1 hK1 hP1 hD1 hS1 => W_sz (fun hub => ?_))
      have e8 := TY_same (i := 2) hK1 rfl
      subst e8
      have e9 : (Sum.inl (tyc 2, n.toNatClampNeg, .inl (fun _ => 0)) : va_E) = gE b base tyc (1, 2, List.replicate n.toNatClampNeg (.int 0)) := by
        rw [gE_i rfl]
        dsimp only
        rw [List.length_replicate, rep_I]
      rw [e9] at hP1 hD1
      obtain ⟨hW1, rfl⟩ := Wd_push hW hP1 hD1 hN hub
      exact k H1 locs (cells + 1) (slots + n.toNatClampNeg) hW1 (vS_comp hS hS1) (by omega) (by omega)
    | boolean =>
      cases (show some (1, 3, Value.int 0) = some q0 from hq0)
      have hbytes : n.toNatClampNeg * componentBytes .boolean ≤ 536870912 := Nat.le_trans (Nat.mul_le_mul hn5 (show componentBytes .boolean ≤ 8 by decide)) (by decide)
      refine va_newa (atype := .boolean) (ty := .boolean) (a0 := (n.toNatClampNeg, .inl (fun _ => 0))) hx hb (hts _ ARR_boolean) rfl hK hW.2 (gW_D b base tyc h) (vS_self hS) hA (fun cA => rfl) hn rfl hbytes (by omega) (by omega) (hd 2 rfl (by decide)) (fun q cA H1 hK1 hP1 hD1 hS1 => W_sz (fun hub => ?_))
      have e8 := TY_same (i := 3) hK1 rfl
      subst e8
      have e9 : (Sum.inl (tyc 3, n.toNatClampNeg, .inl (fun _ => 0)) : va_E) = gE b base tyc (1, 3, List.replicate n.toNatClampNeg (.int 0)) := by
        rw [gE_i rfl]
        dsimp only
        rw [List.length_replicate, rep_I]
      rw [e9] at hP1 hD1
      obtain ⟨hW1, rfl⟩ := Wd_push hW hP1 hD1 hN hub
      exact k H1 locs (cells + 1) (slots + n.toNatClampNeg) hW1 (vS_comp hS hS1) (by omega) (by omega)
    | _ => exact absurd hq0 (by intro z; cases z)
  | anewarray z =>
    change oB _ _ = some _ at hst
    obtain ⟨e0, he0, h1⟩ := oB_inv hst
    obtain ⟨n, r, rfl, h4⟩ := sI_inv h1
    obtain ⟨h3, h2⟩ := oC_inv h4
    simp only [Option.some.injEq, Prod.mk.injEq] at h2
    obtain ⟨rfl, rfl, rfl⟩ := h2
    simp only [Bool.and_eq_true, decide_eq_true_eq] at h3
    obtain ⟨⟨hn, hn5⟩, hci⟩ := h3
    rw [slo_push] at hRs k
    rw [List.length_append] at hRc k
    dsimp only [List.length_cons, List.length_nil] at hRc hRs k
    rw [List.length_replicate] at hRs k
    obtain ⟨⟨C0, T0, N0⟩, hr0, hw0⟩ := hF.2.2.2.2.2.1 _ (fnd_mem he0)
    dsimp only at hr0 hw0
    have hty3 : (e0.1 = 0 ∧ ciTy e0.1 = 4) ∨ (e0.1 = 4 ∧ ciTy e0.1 = 5) ∨ (e0.1 = 7 ∧ ciTy e0.1 = 6) := by
      unfold ciTy at hci ⊢
      split
      · exact Or.inl ⟨by assumption, rfl⟩
      · split
        · exact Or.inr (Or.inl ⟨by assumption, rfl⟩)
        · split
          · exact Or.inr (Or.inr ⟨by assumption, rfl⟩)
          · rename_i g1 g2 g3
            rw [if_neg g1, if_neg g2, if_neg g3] at hci
            omega
    rcases hty3 with ⟨z1, z2⟩ | ⟨z1, z2⟩ | ⟨z1, z2⟩
    · rw [z1] at hr0
      cases (show some (RX0, TX0, 4) = some (C0, T0, N0) from hr0)
      refine va_newq hx hb hown (hts _ hw0) hKX.2.1 hK hW.2 (gW_D b base tyc h) (vS_self hS) hA (N' := n.toNatClampNeg) hn rfl (by omega) (by omega) (by omega) (hd 3 rfl (by decide)) (fun q cA H1 hK1 hP1 hD1 hS1 => W_sz (fun hub => ?_))
      have e8 := TY_same (i := 4) hK1 rfl
      subst e8
      have e9 : (Sum.inl (tyc 4, n.toNatClampNeg, .inr (.inr (.inr (.inr (fun _ => none))))) : va_E) = gE b base tyc (3, ciTy e0.1, List.replicate n.toNatClampNeg .null) := by
        rw [gE_r rfl, z2]
        dsimp only
        rw [List.length_replicate, rep_R]
      rw [e9] at hP1 hD1
      obtain ⟨hW1, rfl⟩ := Wd_push hW hP1 hD1 hN hub
      exact k H1 locs (cells + 1) (slots + n.toNatClampNeg) hW1 (vS_comp hS hS1) (by omega) (by omega)
    · rw [z1] at hr0
      cases (show some (RX4, TX4, 16) = some (C0, T0, N0) from hr0)
      refine va_newq hx hb hown (hts _ hw0) hKX.2.2.1 hK hW.2 (gW_D b base tyc h) (vS_self hS) hA (N' := n.toNatClampNeg) hn rfl (by omega) (by omega) (by omega) (hd 3 rfl (by decide)) (fun q cA H1 hK1 hP1 hD1 hS1 => W_sz (fun hub => ?_))
      have e8 := TY_same (i := 5) hK1 rfl
      subst e8
      have e9 : (Sum.inl (tyc 5, n.toNatClampNeg, .inr (.inr (.inr (.inr (fun _ => none))))) : va_E) = gE b base tyc (3, ciTy e0.1, List.replicate n.toNatClampNeg .null) := by
        rw [gE_r rfl, z2]
        dsimp only
        rw [List.length_replicate, rep_R]
      rw [e9] at hP1 hD1
      obtain ⟨hW1, rfl⟩ := Wd_push hW hP1 hD1 hN hub
      exact k H1 locs (cells + 1) (slots + n.toNatClampNeg) hW1 (vS_comp hS hS1) (by omega) (by omega)
    · rw [z1] at hr0
      cases (show some (RX7, TX7, 4) = some (C0, T0, N0) from hr0)
      refine va_newq hx hb hown (hts _ hw0) hKX.2.2.2.1 hK hW.2 (gW_D b base tyc h) (vS_self hS) hA (N' := n.toNatClampNeg) hn rfl (by omega) (by omega) (by omega) (hd 3 rfl (by decide)) (fun q cA H1 hK1 hP1 hD1 hS1 => W_sz (fun hub => ?_))
      have e8 := TY_same (i := 6) hK1 rfl
      subst e8
      have e9 : (Sum.inl (tyc 6, n.toNatClampNeg, .inr (.inr (.inr (.inr (fun _ => none))))) : va_E) = gE b base tyc (3, ciTy e0.1, List.replicate n.toNatClampNeg .null) := by
        rw [gE_r rfl, z2]
        dsimp only
        rw [List.length_replicate, rep_R]
      rw [e9] at hP1 hD1
      obtain ⟨hW1, rfl⟩ := Wd_push hW hP1 hD1 hN hub
      exact k H1 locs (cells + 1) (slots + n.toNatClampNeg) hW1 (vS_comp hS hS1) (by omega) (by omega)
  | _ => exact absurd hst (by intro z; cases z)

