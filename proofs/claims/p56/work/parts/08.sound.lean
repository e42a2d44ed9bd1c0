/-! THE MACHINE IS RIGHT -/
theorem rcv6 {ci : Nat} {vs : List Value} {h : AH} (hb : rcv 6 ci vs h = true) : ∃ a vt, vs = .retAddr a :: vt ∧ a % 2 = 1 ∧ a / 2 < NSTR := by
  cases vs with
  | nil => exact Bool.noConfusion (show false = true from hb)
  | cons v t =>
    cases v with
    | retAddr a =>
      have hb2 : (a % 2 == 1 && decide (a / 2 < NSTR)) = true := hb
      simp only [Bool.and_eq_true, beq_iff_eq, decide_eq_true_eq] at hb2
      exact ⟨a, t, rfl, hb2⟩
    | _ => exact Bool.noConfusion (show false = true from hb)
theorem am_call {p : Program} {l : Launch} {e : Env} {R : Room} {s : State} {m : MethodId} {args : Array Value} {below : List Frame} {meth : Method} {c : Code} {H : Heap} {locs : List Loc} {cells slots mc ms : Nat} {Q : State → Prop} {pc : Nat} {ls : Array Slot} {st0 rest : List Value} {Qa : State → Outcome → State → Prop} {free : Addr → Prop}
    (hr : va_Run p l e R s m args below meth c H locs cells slots mc ms (F0 m pc ls st0) rest Qa free)
    (kk : ∀ (v : Option Value) (st₀ t : State) (L : List Loc), st₀.heap = H → Qa st₀ (.returned v) t → (∀ q ∈ L, free q.base) → W p l e R s m args below meth c t.heap (locs ++ L) (cells + mc) (slots + ms) Q (F0 m (pc + 3) ls (v.toList ++ rest))) : W p l e R s m args below meth c H locs cells slots Q (F0 m pc ls st0) := by
  intro T hT X
  obtain ⟨v, st₀, t, T', L, h0, X', hL, e1, e2, hq, st⟩ := hr T hT X
  obtain ⟨t2, a1, b1⟩ := kk v st₀ t L h0 hq hL T' e1 X'
  exact ⟨t2, st t2 a1, b1⟩
theorem goodTBL {ws : List Cond} (h : ∀ w ∈ ws, w ∈ TBL) : GoodIn TBL ws := fun w hw => ⟨h w hw, TBL_good (h w hw)⟩
def wsOf (G : MR) : List Cond := .code (my G) (mcc G) (mml G) (mret G) :: TBL
theorem wsOf_in {G : MR} (hG : GOK G) : ∀ w ∈ wsOf G, w ∈ TBL := fun w hw => (List.mem_cons.mp hw).elim (fun e => e ▸ hG.1) id
theorem gL_args (b : Nat → Nat) (base : Nat) (vs : List Value) : ∀ k, gL b base (lv_args k vs) = lv_args k (vs.map (gV b base)) := by
  induction vs with
  | nil => intro k; rfl
  | cons v t ih =>
    intro k
    unfold lv_args
    simp only [gL, List.map_cons, gV_cat]
    congr 1
    exact ih _
theorem sl_len (vs : List Value) : (lg_sl vs).length = cats vs := by
  induction vs with
  | nil => rfl
  | cons v t ih =>
    have e : lg_sl (v :: t) = (if v.category = 2 then [.val v, .second] else [.val v]) ++ lg_sl t := rfl
    have e2 : cats (v :: t) = v.category + cats t := by unfold cats; simp
    rw [e, List.length_append, ih, e2]
    rcases lv_cat v with h | h <;> simp [h]
theorem cats_map (b : Nat → Nat) (base : Nat) (vs : List Value) : cats (vs.map (gV b base)) = cats vs := cats_g b base vs
/-- what a call leaves -/
def PQ (D : va_G) (tyc : Nat → ClassId) (b : Nat → Nat) (base : Nat) (v : Option Value) (h' : AH) : Array Value → State → Outcome → State → Prop := fun _ st o t => o = .returned (v.map (gV b base)) ∧ Wd D tyc b base h' t.heap ∧ va_F (fun q => base ≤ q) st t
def PP (D : va_G) (tyc : Nat → ClassId) (b : Nat → Nat) (base : Nat) (vs : List Value) (h : AH) : Array Value → State → Prop := va_Pc (vs.map (gV b base)) (fun U => Wd D tyc b base h U.heap ∧ KX D tyc U ∧ KS b base U)
def SW (MT : Nat → Option MR) (fr lo : Nat) (scr : AS) (F : MR) (pc : Nat) (lv : ALv) (st : List Value) (h : AH) (v : Option Value) (h' : AH) : Prop :=
  ∀ {p : Program} {l : Launch} {e : Env} {R : Room} {s : State} {m : MethodId} {args : Array Value} {below : List Frame} {meth : Method} {c : Code} {H : Heap} {locs : List Loc} {cells slots S0 : Nat} {Q : State → Prop} {D : va_G} {tyc : Nat → ClassId} {b : Nat → Nat} {base : Nat} {ls : Array Slot},
    Ctx p s m args meth c F → KX D tyc s → Wd D tyc b base h H → va_S (fun q => base ≤ q) s.heap H locs → base ≤ s.heap.size → base + h.length = s.heap.size + cells → slo h = S0 + slots → base + h'.length ≤ s.heap.size + R.cells → slo h' ≤ S0 + R.slots → fr ≤ R.frames → lo ≤ R.locals → lv_has ls (mml F) (gL b base lv) → SC scr b base s →
    (∀ (pc' : Nat) (i : Instr) (len tgt : Nat) (st' : List Value) (H' : Heap) (locs' : List Loc) (cells' slots' : Nat) (ls' : Array Slot), fc F pc' = some (i, len, tgt) → doRet F i st' h' = some (v, h') → Wd D tyc b base h' H' → va_S (fun q => base ≤ q) s.heap H' locs' → base + h'.length = s.heap.size + cells' → slo h' = S0 + slots' → W p l e R s m args below meth c H' locs' cells' slots' Q (F0 m pc' ls' (st'.map (gV b base)))) →
    W p l e R s m args below meth c H locs cells slots Q (F0 m pc ls (st.map (gV b base)))
set_option maxHeartbeats 4000000 in
/-- a run of a method is a contract of it -/
theorem met_of {MT : Nat → Option MR} {fr lo : Nat} {G : MR} {vs : List Value} {h h' : AH} {v : Option Value} (hF : FOK MT G) (hG : GOK G) (hlen : h.length ≤ h'.length ∧ slo h ≤ slo h') (hent : cats vs ≤ mml G) (hsw : SW MT fr lo none G 0 (lv_args 0 vs) [] h v h') (l : Launch) (D : va_G) (tyc : Nat → ClassId) (b : Nat → Nat) (base : Nat) :
    Met l (my G) (wsOf G) { frames := fr, cells := h'.length - h.length, slots := slo h' - slo h, locals := lo } (PP D tyc b base vs h) (PQ D tyc b base v h') (h'.length - h.length) (slo h' - slo h) (fun q => base ≤ q) := by
  refine va_MetF (cc := mcc G) (maxL := mml G) (ret := mret G) hG.2.2.1 rfl ?_
  intro p e s m args below meth c s₁ B hml hv
  obtain ⟨rfl, hW, hK, hks⟩ := hv
  have hts0 := atoms_spec (ws := wsOf G) B.pre
  have hts : ∀ w ∈ TBL, w.before (vs.map (gV b base)).toArray s = true := fun w hw => hts0 w (List.mem_cons_of_mem _ hw)
  have C : Ctx p s m (vs.map (gV b base)).toArray meth c G := ⟨B.exec, B.bytes, B.returns, hml, findClass_of_methodNamed B.named, B.notSynchronized, hts, fun z => ((name_of_methodNamed B.named B.method).1).trans z, fun w hw => hw.elim (hts w) (fun h9 => va_Nw.use (NST_on h9) (hK.2.2.2.2 w h9))⟩
  have hl := lv_entry (vs.map (gV b base)) (n := mml G) (by rw [sl_len, cats_map]; exact hent)
  rw [lg_entry_eq]
  generalize (lg_sl (vs.map (gV b base)) ++ List.replicate (mml G - (lg_sl (vs.map (gV b base))).length) Slot.unset).toArray = ls at hl ⊢
  rw [← gL_args] at hl
  have hsz := hW.1
  refine hsw (ls := ls) (H := s.heap) (locs := []) (cells := 0) (slots := 0) (S0 := slo h) C hK hW va_S.rf (by omega) (by omega) (by omega) ?_ ?_ (Nat.le_refl _) (Nat.le_refl _) hl ⟨(fun q hq => by cases hq), hks⟩ ?_
  · show base + h'.length ≤ s.heap.size + (h'.length - h.length)
    omega
  · show slo h' ≤ slo h + (slo h' - slo h)
    omega
  · intro pc' i len tgt st' H' locs' cells' slots' ls' hf hret hW' hS' hN' hM'
    obtain ⟨hx, hb, hr, hml', hown, hlocks, -, -, -⟩ := C
    obtain ⟨hD, hlen2, -⟩ := hF.1 _ (fc_mem hf)
    dsimp only at hD hlen2
    have hd : ∀ n, ilen i = n → n ≠ 0 → decode (mcc G) pc' = .ok (i, n) := by
      intro n h1 h2
      rcases hlen2 with h3 | h3
      · omega
      · rw [← h1, h3]; exact hD
    have e1 : cells' = h'.length - h.length := by omega
    have e2 : slots' = slo h' - slo h := by omega
    subst e1
    subst e2
    have hq : ∀ t : State, t.heap = H' → s.WarmedH t.vm → PQ D tyc b base v h' (vs.map (gV b base)).toArray s (.returned (v.map (gV b base))) t := fun t ht hW9 => ⟨rfl, by rw [ht]; exact hW', hS'.F ht⟩
    unfold doRet at hret
    split at hret
    · split at hret
      · rename_i x hm
        simp only [Option.some.injEq, Prod.mk.injEq] at hret
        obtain ⟨rfl, -⟩ := hret
        exact W.iret (v := x) hx hb (hr.trans hm) hq hS'.2.2 (hd 1 rfl (by decide)) hlocks
      · rename_i x hm
        obtain ⟨h3, h4⟩ := oC_inv hret
        simp only [Option.some.injEq, Prod.mk.injEq] at h4
        obtain ⟨rfl, -⟩ := h4
        exact W.zret (v := x) hx hb (hr.trans hm) (by show Value.int (x &&& 1) = Value.int x; rw [eq_of_beq h3]) hq hS'.2.2 (hd 1 rfl (by decide)) hlocks
      · rename_i x hm
        obtain ⟨h3, h4⟩ := oC_inv hret
        simp only [Option.some.injEq, Prod.mk.injEq] at h4
        obtain ⟨rfl, -⟩ := h4
        exact W.zret (v := x) hx hb (hr.trans hm) (by rw [← eq_of_beq h3]; exact pk_nb _) hq hS'.2.2 (hd 1 rfl (by decide)) hlocks
      · rename_i x hm
        obtain ⟨h3, h4⟩ := oC_inv hret
        simp only [Option.some.injEq, Prod.mk.injEq] at h4
        obtain ⟨rfl, -⟩ := h4
        exact W.zret (v := x) hx hb (hr.trans hm) (by rw [← eq_of_beq h3]; exact pk_nc _) hq hS'.2.2 (hd 1 rfl (by decide)) hlocks
      · cases hret
    · split at hret
      · rename_i x hm
        simp only [Option.some.injEq, Prod.mk.injEq] at hret
        obtain ⟨rfl, -⟩ := hret
        exact W.lret (v := x) hx hb (hr.trans hm) hq hS'.2.2 (hd 1 rfl (by decide)) hlocks
      · cases hret
    · split at hret
      · rename_i n a hm
        simp only [Option.some.injEq, Prod.mk.injEq] at hret
        obtain ⟨rfl, -⟩ := hret
        exact W.aret (v := .ref (base + a)) hx hb (hr.trans hm) (Or.inl ⟨_, rfl⟩) (Or.inr ⟨_, rfl⟩) hq hS'.2.2 (hd 1 rfl (by decide)) hlocks
      · cases hret
    · split at hret
      · rename_i hm
        simp only [Option.some.injEq, Prod.mk.injEq] at hret
        obtain ⟨rfl, -⟩ := hret
        exact W.vret hx hb (hr.trans hm) hq hS'.2.2 (hd 1 rfl (by decide)) hlocks
      · cases hret
    · cases hret
theorem cpyI (l0 l1 : List Value) (sp dp n : Nat) (h1 : dp + n ≤ l1.length) : (va_cpy (fun j => asI (l0.getD j .null)) (fun j => asI (l1.getD j .null)) sp dp n) = fun j => asI ((cpyl l0 l1 sp dp n).getD j .null) := by
  funext k
  unfold va_cpy cpyl
  simp only [List.getD_eq_getElem?_getD, List.getElem?_map]
  by_cases hk : k < l1.length
  · rw [List.getElem?_range hk]
    by_cases hz : dp ≤ k ∧ k < dp + n <;> simp [hz]
  · have e1 : (List.range l1.length)[k]? = none := List.getElem?_eq_none (by simp; omega)
    have e2 : l1[k]? = none := List.getElem?_eq_none (by omega)
    rw [e1, e2, if_neg (by omega)]
    rfl
theorem cpyL (l0 l1 : List Value) (sp dp n : Nat) (h1 : dp + n ≤ l1.length) : (va_cpy (fun j => asL (l0.getD j .null)) (fun j => asL (l1.getD j .null)) sp dp n) = fun j => asL ((cpyl l0 l1 sp dp n).getD j .null) := by
  funext k
  unfold va_cpy cpyl
  simp only [List.getD_eq_getElem?_getD, List.getElem?_map]
  by_cases hk : k < l1.length
  · rw [List.getElem?_range hk]
    by_cases hz : dp ≤ k ∧ k < dp + n <;> simp [hz]
  · have e1 : (List.range l1.length)[k]? = none := List.getElem?_eq_none (by simp; omega)
    have e2 : l1[k]? = none := List.getElem?_eq_none (by omega)
    rw [e1, e2, if_neg (by omega)]
    rfl
set_option maxHeartbeats 4000000 in
theorem acopy_ok {p : Program} {l : Launch} {e : Env} {R : Room} {s : State} {m : MethodId} {args : Array Value} {below : List Frame} {meth : Method} {c : Code} {H : Heap} {locs : List Loc} {cells slots idx fr lo : Nat} {Q : State → Prop} {F : MR} {pc : Nat} {st r : List Value} {h h' : AH} {D : va_G} {tyc : Nat → ClassId} {b : Nat → Nat} {base : Nat} {ls : Array Slot}
    (C : Ctx p s m args meth c F) (hK : va_K D vwCl (TYS tyc) s) (hW : Wd D tyc b base h H) (hS : va_S (fun q => base ≤ q) s.heap H locs) (hN : base + h.length = s.heap.size + cells) (hls : ls.size = mml F) (hfr : fr ≤ R.frames) (hlo : lo ≤ R.locals) (h1 : 1 ≤ fr) (h2 : cats r + 40 ≤ lo)
    (hlk : .methodLink (my F).cls idx arraycopyName ∈ TBL) (hdg : decode (mcc F) pc = .ok (.invokestatic idx, 3)) (hst : acopy st h = some (r, h'))
    (k : ∀ H' locs', Wd D tyc b base h' H' → va_S (fun q => base ≤ q) s.heap H' locs' → W p l e R s m args below meth c H' locs' cells slots Q (F0 m (pc + 3) ls (r.map (gV b base)))) :
    W p l e R s m args below meth c H locs cells slots Q (F0 m pc ls (st.map (gV b base))) := by
  obtain ⟨hx, hb, hr, hml, hown, hlocks, hts, hin0, hal⟩ := C
  obtain ⟨n, dp, sp, a0, a1, c0, c1, rfl, hc0, hc1, g1, g2, g3, g4, g5, g6, g7, g8, rfl⟩ := acopy_inv hst
  have he0 := gW_at (b := b) (base := base) (tyc := tyc) hc0
  have he1 := gW_at (b := b) (base := base) (tyc := tyc) hc1
  have hloc : ((r.map (gV b base)).map fun v => v.category).sum + (nativeFrameWords "java/lang/System" "arraycopy" 5 + 11) ≤ R.locals := by
    rw [cats_g]
    have : nativeFrameWords "java/lang/System" "arraycopy" 5 ≤ 29 := by decide +kernel
    omega
  rcases g6 with ⟨z1, z2⟩ | ⟨z1, z2⟩
  · rw [gE_i z1, z2] at he0
    rw [gE_i (g4 ▸ z1), ← g5, z2] at he1
    refine va_copyi hx hb (hml.trans hls.symm) hown (hts _ hlk) (hts _ ACN_native) (hts _ ACN_static) (hts _ ACN_init) hK hW.2 (gW_D b base tyc h) (vS_self hS) a0 a1 0 0 he0 he1 rfl rfl rfl g1 g2 g3 g7 g8 (fun _ _ => rfl) (Nat.le_trans h1 hfr) hloc hdg (fun H1 locs1 hP1 _ hS1 => W_sz (fun hub => k H1 locs1 (Wd_set hW ?_ hS1.1 hN hub) (vS_comp hS hS1)))
    rw [cpyI _ _ _ _ _ g8] at hP1
    rw [gE_i (g4 ▸ z1)]
    dsimp only
    rw [cpyl_len, ← g5, z2]
    exact hP1
  · rw [gE_l z1, z2] at he0
    rw [gE_l (g4 ▸ z1), ← g5, z2] at he1
    refine va_copyl hx hb (hml.trans hls.symm) hown (hts _ hlk) (hts _ ACN_native) (hts _ ACN_static) (hts _ ACN_init) hK hW.2 (gW_D b base tyc h) (vS_self hS) a0 a1 1 1 he0 he1 rfl rfl rfl g1 g2 g3 g7 g8 (fun _ _ => rfl) (Nat.le_trans h1 hfr) hloc hdg (fun H1 locs1 hP1 _ hS1 => W_sz (fun hub => k H1 locs1 (Wd_set hW ?_ hS1.1 hN hub) (vS_comp hS hS1)))
    rw [cpyL _ _ _ _ _ g8] at hP1
    rw [gE_l (g4 ▸ z1)]
    dsimp only
    rw [cpyl_len, ← g5, z2]
    exact hP1
set_option maxHeartbeats 8000000 in
/-- THE MACHINE IS RIGHT -/
theorem am_ok {MT : Nat → Option MR} (hMT : ∀ j G, MT j = some G → FOK MT G ∧ GOK G) : ∀ (n fr lo : Nat) (scr : AS) (F : MR) (pc : Nat) (lv : ALv) (st : List Value) (h h' : AH) (v : Option Value), FOK MT F → am MT n fr lo scr F pc lv st h = some (v, h') → SW MT fr lo scr F pc lv st h v h' := by
  intro n
  induction n with
  | zero => intro fr lo scr F pc lv st h h' v hF hh; cases hh
  | succ n ih =>
    intro fr lo scr F pc lv st h h' v hF hh
    rw [am_s] at hh
    unfold amB at hh
    obtain ⟨⟨i, len, tgt⟩, hq, h1⟩ := oB_inv hh
    dsimp only at h1
    intro p l e R s m args below meth c H locs cells slots S0 Q D tyc b base ls C hK hW hS hbs hN hM hRc hRs hfr hlo hl hsc kret
    split at h1
    · obtain ⟨⟨pc', lv', st'⟩, hx, h2⟩ := oB_inv h1
      rcases stpA_inv hx with hx | ⟨-, hx⟩
      · exact stpP_ok hF C hK.1 hW hS hl hsc hq hx (fun ls' hl' => ih _ _ _ _ _ _ _ _ _ _ hF h2 C hK hW hS hbs hN hM hRc hRs hfr hlo hl' hsc kret)
      · exact stpX_ok hF C hS hl hsc.2 hq hx (fun ls' hl' => ih _ _ _ _ _ _ _ _ _ _ hF h2 C hK hW hS hbs hN hM hRc hRs hfr hlo hl' hsc kret)
    · obtain ⟨⟨pc', st', h2'⟩, hx, h2⟩ := oB_inv h1
      have y := stpW_len hx
      exact stpW_ok (ls := ls) hF C hK.1 hW hS hN hq hx (fun H' locs' hW' hS' => ih _ _ _ _ _ _ _ _ _ _ hF h2 C hK hW' hS' hbs (by dsimp only; omega) (by dsimp only; omega) hRc hRs hfr hlo hl hsc kret)
    · obtain ⟨⟨pc', st', h2'⟩, hx, h2⟩ := oB_inv h1
      have y := am_len MT _ _ _ _ _ _ _ _ _ _ _ h2
      dsimp only at y
      exact stpN_ok (ls := ls) hF C hK hW hS hbs hN hM (by omega) (by omega) hq hx (fun H' locs' cells' slots' hW' hS' hN' hM' => ih _ _ _ _ _ _ _ _ _ _ hF h2 C hK hW' hS' hbs hN' hM' hRc hRs hfr hlo hl hsc kret)
    · obtain ⟨e0, he0, h2⟩ := oB_inv h1
      obtain ⟨hkd, h3⟩ := oC_inv h2
      have hck := hF.2.2.1 _ (fnd_mem he0)
      unfold CKok at hck
      dsimp only at hck
      obtain ⟨hD, hlen, -⟩ := hF.1 _ (fc_mem hq)
      dsimp only at hD hlen
      have hd : ∀ n, ilen i = n → n ≠ 0 → decode (mcc F) pc = .ok (i, n) := by
        intro n h1 h2
        rcases hlen with h3 | h3
        · omega
        · rw [← h1, h3]; exact hD
      unfold amC at h3
      split at h3
      · rename_i hk8
        obtain ⟨⟨r, h2'⟩, hx, h4⟩ := oB_inv h3
        obtain ⟨hb2, h5⟩ := oC_inv h4
        simp only [Bool.and_eq_true, decide_eq_true_eq] at hb2
        have hi : ∃ idx, i = .invokestatic idx := by
          cases i <;> first | exact ⟨_, rfl⟩ | (rw [hk8] at hkd; cases hkd)
        obtain ⟨idx, rfl⟩ := hi
        have hlk := hck.1 hk8
        obtain ⟨n0, dp, sp, a0, a1, c0, c1, -, -, hc1, -, -, -, -, -, -, -, -, e9⟩ := acopy_inv hx
        have y := slo_set hc1 (d := (c1.1, c1.2.1, cpyl c0.2.2 c1.2.2 sp.toNatClampNeg dp.toNatClampNeg n0.toNatClampNeg)) (cpyl_len _ _ _ _ _)
        have y2 : h2'.length = h.length := by rw [e9, List.length_set]
        rw [← e9] at y
        exact acopy_ok (ls := ls) C hK.1 hW hS hN hl.1 hfr hlo hb2.1 hb2.2 hlk (hd 3 rfl (by decide)) hx (fun H' locs' hW' hS' => ih _ _ _ _ _ _ _ _ _ _ hF h5 C hK hW' hS' hbs (by dsimp only; omega) (by dsimp only; omega) hRc hRs hfr hlo hl hsc kret)
      · rename_i hk9
        obtain ⟨a, r, rfl, h4⟩ := sR_inv h3
        obtain ⟨hb2, h5⟩ := oC_inv h4
        simp only [Bool.and_eq_true, decide_eq_true_eq] at hb2
        have hi : ∃ idx, i = .invokespecial idx := by
          cases i <;> first | exact ⟨_, rfl⟩ | (rw [hk9] at hkd; cases hkd)
        obtain ⟨idx, rfl⟩ := hi
        have hlk := hck.2.1 hk9
        obtain ⟨hx, hb, hr, hml, hown, hlocks, hts, hin0, hal⟩ := id C
        refine W.objInit (g := F0 m pc ls (.ref (base + a) :: r.map (gV b base))) hx hb hown (hts _ hlk) (hts _ OBJ_inst) (hts _ OBJ_code) rfl (hl.1.trans hml.symm) rfl (hd 3 rfl (by decide)) (by omega) ?_ ?_
        · have z := lv_room (m := m) (pc := pc) (ls := ls) (rest := .ref (base + a) :: r.map (gV b base)) (st := []) (Nat.zero_le _)
          have z2 : (F0 m pc ls (.ref (base + a) :: r.map (gV b base))).monitorRoom = 0 := rfl
          rw [z2, cats_g]
          omega
        · exact ih _ _ _ _ _ _ _ _ _ _ hF h5 C hK hW hS hbs hN hM hRc hRs hfr hlo hl hsc kret
      · rename_i hn8 hn9
        have hn8' : ¬ e0.1 = 8 := hn8
        have hn9' : ¬ e0.1 = 9 := hn9
        obtain ⟨G, hG, h4⟩ := oB_inv h3
        obtain ⟨hb2, h5⟩ := oC_inv h4
        obtain ⟨⟨v1, h1'⟩, hx, h6⟩ := oB_inv h5
        simp only [Bool.and_eq_true, decide_eq_true_eq] at hb2
        obtain ⟨⟨⟨⟨⟨b1, b2⟩, b3⟩, b4⟩, b5⟩, b6⟩ := hb2
        obtain ⟨hFG, hGG⟩ := hMT _ _ hG
        have hlt8 : e0.1 < 8 := by
          unfold callKd at hkd
          split at hkd
          · simp only [Bool.or_eq_true, beq_iff_eq] at hkd; omega
          · simp only [Bool.or_eq_true, beq_iff_eq] at hkd; omega
          · simp only [Bool.or_eq_true, beq_iff_eq] at hkd; omega
          · cases hkd
        obtain ⟨hw, hwV, hwS, hwI, hwX⟩ := hck.2.2 hlt8 G hG
        have y := am_len MT _ _ _ _ _ _ _ _ _ _ _ hx
        have y2 := am_len MT _ _ _ _ _ _ _ _ _ _ _ h6
        dsimp only at y2
        have hent : cats (st.take (nArg e0.1 G)).reverse ≤ mml G := by
          have e9 : cats (st.take (nArg e0.1 G)).reverse = cats (st.take (nArg e0.1 G)) := by
            unfold cats
            rw [List.map_reverse, List.sum_reverse]
          omega
        have hM2 := met_of hFG hGG y hent (ih _ _ _ _ _ _ _ _ _ _ hFG hx) l D tyc b base
        generalize hvs : (st.take (nArg e0.1 G)).reverse = vs at hM2 b6 hent
        generalize hrs : st.drop (nArg e0.1 G) = r at b4 h6
        have hst : st = vs.reverse ++ r := by rw [← hvs, ← hrs, List.reverse_reverse, List.take_append_drop]
        have hvl : vs.length = nArg e0.1 G := by rw [← hvs, List.length_reverse, List.length_take]; omega
        obtain ⟨hx0, hb0, hr0, hml0, hown, hlocks, hts, hin0, hal⟩ := id C
        have hfix : CallFix p m c (mcc F) (mml F) s args TBL (my F).cls := ⟨hx0, hb0, hml0, hown, hts⟩
        have hgd : GoodIn TBL (wsOf G) := goodTBL (wsOf_in hGG)
        have hroom : fr - 1 + 1 ≤ R.frames ∧ 8 + (mml G + 11) + (lo - (mml G + 19)) ≤ R.locals := by omega
        have hdsc : (my G).cls ≠ "java/lang/invoke/MethodHandle" ∧ (my G).cls ≠ "java/lang/invoke/VarHandle" ∧ (parseMethodDescriptor (my G).desc).map (fun d => d.parameters.length) = some (mnp G) := ⟨hGG.2.2.2.1, hGG.2.2.2.2.1, hGG.2.2.2.2.2⟩
        have hblind : FrameBlind (PP D tyc b base vs h) := fun a U g mk q => by
          obtain ⟨q0, q1, q2, q3⟩ := q
          exact ⟨q0, q1, KX_call q2, KS_call q3⟩
        have hpre : ∀ U : State, U.heap = H → s.WarmedH U.vm → PP D tyc b base vs h (vs.map (gV b base)).toArray U := fun U hU hW9 => ⟨rfl, by rw [hU]; exact hW, KX_warm hW9 hK, KS_to hsc.2 hW9 (by rw [hU]; exact hS)⟩
        have hrm : 2 * (F0 m pc ls (st.map (gV b base))).monitorRoom + ((r.map (gV b base)).map fun v => v.category).sum ≤ 8 := lv_room (by rw [cats_g]; exact b4)
        have hcs : cells + (h1'.length - h.length) ≤ R.cells ∧ slots + (slo h1' - slo h) ≤ R.slots := by omega
        have fin : ∀ (hr : va_Run p l e R s m args below meth c H locs cells slots (h1'.length - h.length) (slo h1' - slo h) (F0 m pc ls (st.map (gV b base))) (r.map (gV b base)) (PQ D tyc b base v1 h1' (vs.map (gV b base)).toArray) (fun q => base ≤ q)), W p l e R s m args below meth c H locs cells slots Q (F0 m pc ls (st.map (gV b base))) := by
          intro hr
          refine am_call hr (fun v2 st₀ t L hh0 hQ hL => ?_)
          obtain ⟨e1, hW1, hF1⟩ := hQ
          cases e1
          have e3 : ((v1.map (gV b base)).toList ++ r.map (gV b base)) = (v1.toList ++ r).map (gV b base) := by cases v1 <;> rfl
          rw [e3]
          refine ih _ _ _ _ _ _ _ _ _ _ hF h6 C hK hW1 ⟨?_, fun q hq1 hq2 => ?_, fun q hq1 => ?_⟩ hbs (by dsimp only; omega) (by dsimp only; omega) hRc hRs hfr hlo hl hsc kret
          · have := hF1.1
            rw [hh0] at this
            exact Nat.le_trans hS.1 this
          · have z := hF1.2 q (by rw [hh0]; exact Nat.lt_of_lt_of_le hq1 hS.1) hq2
            rw [hh0] at z
            exact z.trans (hS.2.1 q hq1 hq2)
          · rcases List.mem_append.mp hq1 with z | z
            · exact hS.2.2 q z
            · exact hL q z
        have hcls0 : Cond.initialized (my G).cls ∈ TBL := hGG.2.1
        have wl : ∀ {w : Cond}, InW w → w.onTables = true → va_Nw w s := fun hw9 ho => va_Nw.of ho (hal _ hw9)
        unfold callKd at hkd
        split at hkd
        · rename_i idx
          simp only [Bool.or_eq_true, beq_iff_eq] at hkd
          by_cases hk6 : e0.1 = 6
          · obtain ⟨wi, wse, wcl⟩ := hwX hk6
            have hna : nArg e0.1 G = mnp G + 1 := by unfold nArg; rw [if_neg (by omega)]
            have hrec : ∃ a vt, vs = .retAddr a :: vt ∧ a % 2 = 1 ∧ a / 2 < NSTR := by
              rw [hk6] at b6
              exact rcv6 b6
            obtain ⟨a, vt, rfl, ha1, ha2⟩ := hrec
            have hrc := vk_recv (H := H) hsc.2.1 ha2 hS
            try dsimp only at hrc
            rw [show 2 * (a / 2) + 1 = a by omega, ← wcl] at hrc
            have hstk : st.map (gV b base) = (vt.map (gV b base)).reverse ++ .ref (b a) :: r.map (gV b base) := by
              rw [hst]
              simp [gV]
            have hvn : (vt.map (gV b base)).length = mnp G := by
              rw [List.length_map]
              rw [hna] at hvl
              simpa using hvl
            rw [if_neg (by omega)] at hw
            exact fin (va_runV (As := vt.map (gV b base)) hfix hM2 ⟨callB_of (mnp G) hts hgd rfl rfl rfl (hts _ hcls0) (hal _ hw) hdsc hroom, hts _ wi, hts _ wse⟩ ⟨hblind, hrc, hpre⟩ rfl hvn hl.1 hstk hrm (hd 3 rfl (by decide)) hcs)
          have hkd : e0.1 = 0 ∨ e0.1 = 1 := by omega
          obtain ⟨wi, wse, wcl⟩ := hwV hkd
          have hna : nArg e0.1 G = mnp G + 1 := by unfold nArg; rw [if_neg (by omega)]
          have hrec : ∃ a vt cc, vs = .ref a :: vt ∧ h[a]? = some cc ∧ cc.1 = 0 ∧ cc.2.1 = mci G := by
            unfold rcv at b6
            split at b6 <;> first | omega | skip
            split at b6
            · rename_i a vt
              split at b6
              · rename_i cc hcc
                simp only [Bool.and_eq_true, beq_iff_eq] at b6
                exact ⟨a, vt, cc, rfl, hcc, b6.1, b6.2⟩
              · cases b6
            · cases b6
          obtain ⟨a, vt, cc, rfl, hcc, hcc1, hcc2⟩ := hrec
          obtain ⟨r0, hr9, hr8⟩ := Option.map_eq_some_iff.mp wcl
          have he := gW_at (b := b) (base := base) (tyc := tyc) hcc
          rw [gE_o hcc1, hcc2] at he
          have hrc := va_recv hK.1 hW.2 hr9 he
          rw [hr8] at hrc
          have hstk : st.map (gV b base) = (vt.map (gV b base)).reverse ++ .ref (base + a) :: r.map (gV b base) := by
            rw [hst]
            simp [gV]
          have hvn : (vt.map (gV b base)).length = mnp G := by
            rw [List.length_map]
            rw [hna] at hvl
            simpa using hvl
          rcases hkd with hk0 | hk0
          · rw [if_neg (by omega)] at hw
            exact fin (va_runV (As := vt.map (gV b base)) hfix hM2 ⟨callB_of (mnp G) hts hgd rfl rfl rfl (hts _ hcls0) (hal _ hw) hdsc hroom, hts _ wi, hts _ wse⟩ ⟨hblind, hrc, hpre⟩ rfl hvn hl.1 hstk hrm (hd 3 rfl (by decide)) hcs)
          · rw [if_pos (by omega)] at hw
            exact fin (va_runVN (As := vt.map (gV b base)) hfix hM2 ⟨va_cnB (mnp G) hts hgd rfl rfl rfl (wl hw rfl) (hts _ hcls0) hdsc hroom, hts _ wi, hts _ wse⟩ ⟨hblind, hrc, hpre⟩ rfl hvn hl.1 hstk hrm (hd 3 rfl (by decide)) hcs)
        · rename_i idx
          simp only [Bool.or_eq_true, beq_iff_eq] at hkd
          have hkd2 : e0.1 = 2 ∨ e0.1 = 3 := by omega
          have ws := hwS hkd2
          have hna : nArg e0.1 G = mnp G := by unfold nArg; rw [if_pos hkd2]
          have hstk : st.map (gV b base) = (vs.map (gV b base)).reverse ++ r.map (gV b base) := by
            rw [hst]
            simp
          have hvn : (vs.map (gV b base)).length = mnp G := by rw [List.length_map, hvl, hna]
          rcases hkd2 with hk0 | hk0
          · rw [if_neg (by omega)] at hw
            exact fin (va_runS (As := vs.map (gV b base)) hfix hM2 ⟨callB_of (mnp G) hts hgd rfl rfl rfl (hts _ hcls0) (hal _ hw) hdsc hroom, hts _ ws⟩ ⟨hblind, hpre⟩ rfl hvn hl.1 hstk hrm (hd 3 rfl (by decide)) hcs)
          · rw [if_pos (by omega)] at hw
            exact fin (va_runSN (As := vs.map (gV b base)) hfix hM2 ⟨va_cnB (mnp G) hts hgd rfl rfl rfl (wl hw rfl) (hts _ hcls0) hdsc hroom, hts _ ws, trivial⟩ ⟨hblind, hpre⟩ rfl hvn hl.1 hstk hrm (hd 3 rfl (by decide)) hcs)
        · rename_i idx
          simp only [Bool.or_eq_true, beq_iff_eq] at hkd
          have hkd2 : e0.1 = 4 ∨ e0.1 = 5 := by omega
          obtain ⟨wi, wnm, wrt⟩ := hwI hkd2
          have hna : nArg e0.1 G = mnp G + 1 := by unfold nArg; rw [if_neg (by omega)]
          have hrec : ∃ a vt, vs = .ref a :: vt := by
            unfold rcv at b6
            split at b6 <;> first | omega | skip
            all_goals
              split at b6
              · rename_i a vt
                exact ⟨a, vt, rfl⟩
              · cases b6
          obtain ⟨a, vt, rfl⟩ := hrec
          have hstk : st.map (gV b base) = (vt.map (gV b base)).reverse ++ .ref (base + a) :: r.map (gV b base) := by
            rw [hst]
            simp [gV]
          have hvn : (vt.map (gV b base)).length = mnp G := by
            rw [List.length_map]
            rw [hna] at hvl
            simpa using hvl
          have hwsr : wsOf G = Cond.code (my G) (mcc G) (mml G) none :: TBL := by unfold wsOf; rw [wrt]
          rcases hkd2 with hk0 | hk0
          · rw [if_neg (by omega)] at hw
            exact fin (va_runI (As := vt.map (gV b base)) hfix hM2 (cwI (mnp G) hts hgd hwsr rfl rfl (hts _ hcls0) (hal _ hw) (hts _ wi) wnm hdsc hroom) ⟨hblind, hpre⟩ rfl hvn hl.1 hstk hrm (hd 3 rfl (by decide)) hcs)
          · rw [if_pos (by omega)] at hw
            exact fin (va_runIN (As := vt.map (gV b base)) hfix hM2 ⟨va_cnB (mnp G) hts hgd hwsr rfl rfl (wl hw rfl) (hts _ hcls0) hdsc hroom, wnm, hts _ wi⟩ ⟨hblind, hpre⟩ rfl hvn hl.1 hstk hrm (hd 3 rfl (by decide)) hcs)
        · cases hkd
    · have e9 := doRet_h h1
      subst e9
      exact kret pc i len tgt st H locs cells slots ls hq h1 hW hS hN hM

