section TIM
/-! cells as numbers -/
def ci (σ : SG) (a : Nat) (i : Int) : Int := match (σ a)[i.toNat]? with | some (.int y) => y.toInt | _ => 0
theorem ci_at {σ : SG} {a : Nat} {i j : Int} {y : Int32} (h : (σ a)[j.toNat]? = some (.int y)) (e : i = j) : ci σ a i = y.toInt := by
  subst e; unfold ci; rw [h]
theorem ci_eq {σ σ' : SG} {a : Nat} {i : Int} (h : (σ' a)[i.toNat]? = (σ a)[i.toNat]?) : ci σ' a i = ci σ a i := by unfold ci; rw [h]
theorem ci_st {σ σ' : SG} {a : Nat} {J : Int} {y : Int32} (h1 : (σ' a)[J.toNat]? = some (.int y)) (h2 : ∀ b i, (b ≠ a ∨ i ≠ J.toNat) → (σ' b)[i]? = (σ b)[i]?) (hJ : 0 ≤ J) (i : Int) (hi : 0 ≤ i) : ci σ' a i = if i = J then y.toInt else ci σ a i := by
  by_cases h : i = J
  · rw [if_pos h]; exact ci_at h1 h
  · rw [if_neg h]; exact ci_eq (h2 a _ (Or.inr (by omega)))
theorem ci_ne {σ σ' : SG} {a b : Nat} {n : Nat} (h2 : ∀ b i, (b ≠ a ∨ i ≠ n) → (σ' b)[i]? = (σ b)[i]?) (hb : b ≠ a) (i : Int) : ci σ' b i = ci σ b i := ci_eq (h2 b _ (Or.inl hb))
theorem ci_fr {W : List (Nat × Nat)} {σ σ' : SG} {b g : Nat} (h : Fr W σ σ') (hb : TG b = g) (hw : (decide (KD g ≠ 0) && !W.contains (g, 0)) = true) (i : Int) : ci σ' b i = ci σ b i := ci_eq (h b _ (inWa hb hw))
theorem Fr_nil {σ σ' : SG} (h : Fr [] σ σ') : σ = σ' := by
  funext a
  apply List.ext_getElem?
  intro i
  exact (h a i rfl).symm
/-! one table of hours -/
def frees (bz : Nat → Nat) (T d t : Nat) : Prop := ∀ h, t ≤ h → h < t + d → bz h < T
def addB (bz : Nat → Nat) (t d : Nat) : Nat → Nat := fun h => bz h + (if t ≤ h ∧ h < t + d then 1 else 0)
def updN (f : Nat → Nat) (c t : Nat) : Nat → Nat := fun x => if x = c then t else f x
def Rdy (ah : Nat → Nat) (th c : Nat) : Prop := ∀ a, a < c → (ah c).testBit a = true → th.testBit a = true
def Aft (tk ah bg : Nat → Nat) (c f : Nat) : Prop := (∀ a, a < c → (ah c).testBit a = true → bg a + tk a ≤ f) ∧ (f = 0 ∨ ∃ a, a < c ∧ (ah c).testBit a = true ∧ f = bg a + tk a)
def First (bz : Nat → Nat) (T d f t : Nat) : Prop := f ≤ t ∧ frees bz T d t ∧ ∀ u, f ≤ u → u < t → ¬ frees bz T d u
def FARN : Nat := 1000000
def Run (tk ah : Nat → Nat) (T : Nat) : List Nat → (Nat → Nat) → (Nat → Nat) → Nat → Nat → Nat → Prop
  | [], _, _, _, la, r => r = la
  | c :: cs, bz, bg, th, la, r => (¬ Rdy ah th c ∧ r = FARN) ∨ (Rdy ah th c ∧ ∃ f t, Aft tk ah bg c f ∧ First bz T (tk c) f t ∧ Run tk ah T cs (addB bz t (tk c)) (updN bg c t) (th ||| 2 ^ c) (max la (t + tk c)) r)
theorem tb_or (th c a : Nat) : (th ||| 2 ^ c).testBit a = (th.testBit a || decide (c = a)) := by
  rw [Nat.testBit_or, Nat.testBit_two_pow]
theorem addB_le (bz : Nat → Nat) (t d h : Nat) : bz h ≤ addB bz t d h := by unfold addB; omega
theorem frees_of_add {bz : Nat → Nat} {T d t t' d' : Nat} (h : frees (addB bz t' d') T d t) : frees bz T d t := by
  intro x h1 h2; have := h x h1 h2; have := addB_le bz t' d' x; omega
theorem addB_comm (bz : Nat → Nat) (t d t' d' : Nat) : addB (addB bz t d) t' d' = addB (addB bz t' d') t d := by
  funext h; unfold addB; omega
theorem updN_comm (f : Nat → Nat) {c c' : Nat} (t t' : Nat) (h : c ≠ c') : updN (updN f c t) c' t' = updN (updN f c' t') c t := by
  funext x; unfold updN
  by_cases h1 : x = c'
  · by_cases h2 : x = c
    · omega
    · rw [if_pos h1, if_neg h2, if_pos h1]
  · rw [if_neg h1, if_neg h1]
theorem Aft_uniq {tk ah bg bg' : Nat → Nat} {c f f' : Nat} (h : Aft tk ah bg c f) (h' : Aft tk ah bg' c f') (e : ∀ a, a < c → (ah c).testBit a = true → bg a = bg' a) : f = f' := by
  obtain ⟨h1, h2⟩ := h
  obtain ⟨h3, h4⟩ := h'
  have a1 : f ≤ f' := by
    rcases h2 with h2 | ⟨a, k1, k2, k3⟩
    · omega
    · have := h3 a k1 k2; have := e a k1 k2; omega
  have a2 : f' ≤ f := by
    rcases h4 with h4 | ⟨a, k1, k2, k3⟩
    · omega
    · have := h1 a k1 k2; have := e a k1 k2; omega
  omega
theorem First_uniq {bz : Nat → Nat} {T d f t t' : Nat} (h : First bz T d f t) (h' : First bz T d f t') : t = t' := by
  obtain ⟨h1, h2, h3⟩ := h
  obtain ⟨k1, k2, k3⟩ := h'
  rcases Nat.lt_trichotomy t t' with z | z | z
  · exact absurd h2 (k3 t h1 z)
  · exact z
  · exact absurd k2 (h3 t' k1 z)
theorem Run_uniq {tk ah : Nat → Nat} {T : Nat} : ∀ (l : List Nat) (bz bg bg' : Nat → Nat) (th la r r' : Nat), (∀ a, th.testBit a = true → bg a = bg' a) → Run tk ah T l bz bg th la r → Run tk ah T l bz bg' th la r' → r = r' := by
  intro l
  induction l with
  | nil => intro bz bg bg' th la r r' e h h'; unfold Run at h h'; omega
  | cons c cs ih =>
    intro bz bg bg' th la r r' e h h'
    unfold Run at h h'
    rcases h with ⟨h1, h2⟩ | ⟨h1, f, t, h2, h3, h4⟩
    · rcases h' with ⟨k1, k2⟩ | ⟨k1, k2⟩
      · omega
      · exact absurd k1 h1
    · rcases h' with ⟨k1, k2⟩ | ⟨k1, f', t', k2, k3, k4⟩
      · exact absurd h1 k1
      · have e1 := Aft_uniq h2 k2 (fun a ha hb => e a (h1 a ha hb))
        subst e1
        have e2 := First_uniq h3 k3
        subst e2
        refine ih _ _ _ _ _ _ _ ?_ h4 k4
        intro a ha
        unfold updN
        by_cases z : a = c
        · rw [if_pos z, if_pos z]
        · rw [if_neg z, if_neg z]
          rw [tb_or] at ha
          refine e a ?_
          rcases Bool.or_eq_true_iff.mp ha with q | q
          · exact q
          · exact absurd (of_decide_eq_true q).symm z
theorem Run_ge {tk ah : Nat → Nat} {T : Nat} : ∀ (l : List Nat) (bz bg : Nat → Nat) (th la r : Nat), Run tk ah T l bz bg th la r → r = FARN ∨ la ≤ r := by
  intro l
  induction l with
  | nil => intro bz bg th la r h; unfold Run at h; omega
  | cons c cs ih =>
    intro bz bg th la r h
    unfold Run at h
    rcases h with ⟨h1, h2⟩ | ⟨h1, f, t, h2, h3, h4⟩
    · exact Or.inl h2
    · rcases ih _ _ _ _ _ h4 with z | z
      · exact Or.inl z
      · exact Or.inr (by omega)
/-- nobody is at work behind the last hour, and what is placed is over by then -/
def Okb (tk bz bg : Nat → Nat) (th la : Nat) : Prop := (∀ h, la ≤ h → bz h = 0) ∧ ∀ a, th.testBit a = true → bg a + tk a ≤ la
theorem Okb_put {tk bz bg : Nat → Nat} {th la c t : Nat} (h : Okb tk bz bg th la) : Okb tk (addB bz t (tk c)) (updN bg c t) (th ||| 2 ^ c) (max la (t + tk c)) := by
  refine ⟨fun x hx => ?_, fun a ha => ?_⟩
  · have := h.1 x (by omega)
    unfold addB
    rw [if_neg (by omega)]; omega
  · unfold updN
    by_cases z : a = c
    · rw [if_pos z]; subst z; omega
    · rw [if_neg z]
      rw [tb_or] at ha
      rcases Bool.or_eq_true_iff.mp ha with q | q
      · have := h.2 a q; omega
      · exact absurd (of_decide_eq_true q).symm z
theorem Aft_le {tk ah bg bz : Nat → Nat} {th la c f : Nat} (h : Okb tk bz bg th la) (hr : Rdy ah th c) (hf : Aft tk ah bg c f) : f ≤ la := by
  rcases hf.2 with z | ⟨a, h1, h2, h3⟩
  · omega
  · have := h.2 a (hr a h1 h2); omega
theorem free_la {tk bg bz : Nat → Nat} {th la T d t : Nat} (h : Okb tk bz bg th la) (hT : 1 ≤ T) (ht : la ≤ t) : frees bz T d t := by
  intro x h1 h2; rw [h.1 x (by omega)]; omega
theorem First_le {tk bg bz : Nat → Nat} {th la T d f t : Nat} (h : Okb tk bz bg th la) (hT : 1 ≤ T) (hf : f ≤ la) (ht : First bz T d f t) : t ≤ la := by
  rcases Nat.lt_or_ge la t with z | z
  · exact absurd (free_la (d := d) h hT (Nat.le_refl la)) (ht.2.2 la hf z)
  · exact z
theorem Run_id {tk ah : Nat → Nat} {T : Nat} (hT : 1 ≤ T) (htk : ∀ c, tk c ≤ 9) : ∀ (n c : Nat) (bz bg : Nat → Nat) (th la r : Nat), (∀ a, a < c → th.testBit a = true) → Okb tk bz bg th la → Run tk ah T (List.range' c n) bz bg th la r → r ≤ la + 9 * n := by
  intro n
  induction n with
  | zero => intro c bz bg th la r hth ho h; unfold List.range' Run at h; omega
  | succ n ih =>
    intro c bz bg th la r hth ho h
    rw [List.range'_succ] at h
    unfold Run at h
    rcases h with ⟨h1, h2⟩ | ⟨h1, f, t, h2, h3, h4⟩
    · exact absurd (fun a ha _ => hth a ha) h1
    · have h5 := Aft_le ho h1 h2
      have h6 := First_le ho hT h5 h3
      have h7 := htk c
      have := ih _ _ _ _ _ _ (fun a ha => by
        rw [tb_or]
        by_cases z : c = a
        · rw [decide_eq_true z, Bool.or_true]
        · rw [hth a (by omega), Bool.true_or]) (Okb_put ho) h4
      omega
/-- a course k of the order is put ahead of all: all is over at the same hour -/
theorem Run_move {tk ah : Nat → Nat} {T k : Nat} : ∀ (pre suf : List Nat) (bz bg : Nat → Nat) (th la r : Nat), (∀ c ∈ pre, k < c) → th.testBit k = false → r < FARN → Run tk ah T (pre ++ k :: suf) bz bg th la r →
    ∃ t, t + tk k ≤ r ∧ frees bz T (tk k) t ∧ (∃ f, Aft tk ah bg k f ∧ f ≤ t) ∧ Run tk ah T (pre ++ suf) (addB bz t (tk k)) (updN bg k t) (th ||| 2 ^ k) (max la (t + tk k)) r := by
  intro pre
  induction pre with
  | nil =>
    intro suf bz bg th la r hp hk hr h
    rw [List.nil_append] at h
    unfold Run at h
    rcases h with ⟨h1, h2⟩ | ⟨h1, f, t, h2, h3, h4⟩
    · omega
    · refine ⟨t, ?_, h3.2.1, ⟨f, h2, h3.1⟩, h4⟩
      rcases Run_ge _ _ _ _ _ _ h4 with z | z
      · omega
      · omega
  | cons c pre ih =>
    intro suf bz bg th la r hp hk hr h
    rw [List.cons_append] at h
    unfold Run at h
    have hkc : k < c := hp c (List.mem_cons_self ..)
    rcases h with ⟨h1, h2⟩ | ⟨h1, f, t, h2, h3, h4⟩
    · omega
    · obtain ⟨s, i1, i2, ⟨f', i3, i4⟩, i5⟩ := ih suf _ _ _ _ _ (fun x hx => hp x (List.mem_cons_of_mem _ hx)) (by rw [tb_or, hk, decide_eq_false (by omega)]; rfl) hr h4
      refine ⟨s, i1, frees_of_add i2, ⟨f', ?_, i4⟩, ?_⟩
      · have e : ∀ a, a < k → updN bg c t a = bg a := fun a ha => by unfold updN; rw [if_neg (by omega)]
        refine ⟨fun a ha hb => by rw [← e a ha]; exact i3.1 a ha hb, ?_⟩
        rcases i3.2 with z | ⟨a, z1, z2, z3⟩
        · exact Or.inl z
        · exact Or.inr ⟨a, z1, z2, by rw [← e a z1]; exact z3⟩
      · rw [List.cons_append]
        unfold Run
        refine Or.inr ⟨fun a ha hb => by rw [tb_or, h1 a ha hb, Bool.true_or], f, t, ?_, ?_, ?_⟩
        · have e : ∀ a, a < c → (ah c).testBit a = true → updN bg k s a = bg a := fun a ha hb => by
            unfold updN
            have := h1 a ha hb
            rw [if_neg (fun z => by rw [z, hk] at this; cases this)]
          refine ⟨fun a ha hb => by rw [e a ha hb]; exact h2.1 a ha hb, ?_⟩
          rcases h2.2 with z | ⟨a, z1, z2, z3⟩
          · exact Or.inl z
          · exact Or.inr ⟨a, z1, z2, by rw [e a z1 z2]; exact z3⟩
        · refine ⟨h3.1, fun x hx hy => ?_, fun u hu hv => fun z => h3.2.2 u hu hv (frees_of_add z)⟩
          have b1 := h3.2.1 x hx hy
          by_cases z : s ≤ x ∧ x < s + tk k
          · have b2 := i2 x z.1 z.2
            unfold addB at b2 ⊢
            rw [if_pos ⟨hx, hy⟩] at b2
            rw [if_pos z]; exact b2
          · unfold addB; rw [if_neg z]; omega
        · rw [addB_comm, updN_comm _ _ _ (by omega : k ≠ c), show (th ||| 2 ^ k) ||| 2 ^ c = (th ||| 2 ^ c) ||| 2 ^ k by rw [Nat.or_assoc, Nat.or_comm (2 ^ k), ← Nat.or_assoc], show max (max la (s + tk k)) (t + tk c) = max (max la (t + tk c)) (s + tk k) by omega]
          exact i5
/-! the orders, by their numbers -/
def fct : Nat → Nat
  | 0 => 1
  | n + 1 => (n + 1) * fct n
def dec : Nat → Nat → List Nat → List Nat
  | 0, _, _ => []
  | n + 1, q, rl => match rl[q % (n + 1)]? with
    | some c => c :: dec n (q / (n + 1)) (rl.eraseIdx (q % (n + 1)))
    | none => []
theorem dec_at {n q c : Nat} {rl : List Nat} (h : rl[q % (n + 1)]? = some c) : dec (n + 1) q rl = c :: dec n (q / (n + 1)) (rl.eraseIdx (q % (n + 1))) := by
  show (match rl[q % (n + 1)]? with | some c => c :: dec n (q / (n + 1)) (rl.eraseIdx (q % (n + 1))) | none => []) = _
  rw [h]
theorem fct_pos : ∀ n, 1 ≤ fct n := by
  intro n
  induction n with
  | zero => exact Nat.le_refl 1
  | succ n ih => unfold fct; exact Nat.mul_pos (Nat.succ_pos n) ih
theorem dec_mem : ∀ (n q : Nat) (rl : List Nat) (x : Nat), x ∈ dec n q rl → x ∈ rl := by
  intro n
  induction n with
  | zero => intro q rl x h; unfold dec at h; cases h
  | succ n ih =>
    intro q rl x h
    unfold dec at h
    split at h
    · rename_i c hc
      rcases List.mem_cons.mp h with z | z
      · subst z; exact List.mem_of_getElem? hc
      · exact List.mem_of_mem_eraseIdx (ih _ _ _ z)
    · cases h
theorem dec_id : ∀ (n : Nat) (rl : List Nat), rl.length = n → dec n 0 rl = rl := by
  intro n
  induction n with
  | zero => intro rl h; unfold dec; exact (List.length_eq_zero_iff.mp h).symm
  | succ n ih =>
    intro rl h
    match rl, h with
    | c :: cs, h =>
      unfold dec
      rw [Nat.zero_mod, Nat.zero_div]
      show c :: dec n 0 cs = c :: cs
      rw [ih cs (by simpa using h)]
theorem dec_cut : ∀ (n q k : Nat) (rl : List Nat), rl.length = n → q < fct (n + 1) → ∃ pre suf q', dec (n + 1) q (k :: rl) = pre ++ k :: suf ∧ dec n q' rl = pre ++ suf ∧ q' < fct n := by
  intro n
  induction n with
  | zero =>
    intro q k rl h hq
    have e : rl = [] := List.length_eq_zero_iff.mp h
    subst e
    refine ⟨[], [], 0, ?_, rfl, by decide⟩
    unfold dec
    rw [Nat.mod_one]
    rfl
  | succ n ih =>
    intro q k rl h hq
    have hq2 : q / (n + 1 + 1) < fct (n + 1) := Nat.div_lt_of_lt_mul (by unfold fct at hq; exact hq)
    have hm : q % (n + 1 + 1) < n + 1 + 1 := Nat.mod_lt _ (by omega)
    rcases hi : q % (n + 1 + 1) with _ | i
    · refine ⟨[], dec (n + 1) (q / (n + 1 + 1)) rl, q / (n + 1 + 1), ?_, rfl, hq2⟩
      rw [dec_at (c := k) (by rw [hi]; rfl), hi]; rfl
    · have hi2 : i < rl.length := by omega
      have hc : rl[i]? = some rl[i] := List.getElem?_eq_getElem hi2
      obtain ⟨pre, suf, q', h1, h2, h3⟩ := ih (q / (n + 1 + 1)) k (rl.eraseIdx i) (by rw [List.length_eraseIdx_of_lt hi2]; omega) hq2
      refine ⟨rl[i] :: pre, suf, i + (n + 1) * q', ?_, ?_, ?_⟩
      · rw [dec_at (c := rl[i]) (by rw [hi, List.getElem?_cons_succ]; exact hc), hi, List.eraseIdx_cons_succ, h1]; rfl
      · have e1 : (i + (n + 1) * q') % (n + 1) = i := by rw [Nat.add_mul_mod_self_left]; exact Nat.mod_eq_of_lt (by omega)
        have e2 : (i + (n + 1) * q') / (n + 1) = q' := by rw [Nat.add_mul_div_left _ _ (by omega), Nat.div_eq_of_lt (by omega)]; omega
        rw [dec_at (c := rl[i]) (by rw [e1]; exact hc), e1, e2, h2]; rfl
      · have : (n + 1) * (q' + 1) ≤ (n + 1) * fct n := Nat.mul_le_mul_left _ (by omega)
        unfold fct
        rw [Nat.mul_add] at this
        omega
/-! the first courses, fixed -/
def bzP (tk fx : Nat → Nat) : Nat → Nat → Nat
  | 0 => fun _ => 0
  | k + 1 => addB (bzP tk fx k) (fx k) (tk k)
def bgP (fx : Nat → Nat) : Nat → Nat → Nat
  | 0 => fun _ => 0
  | k + 1 => updN (bgP fx k) k (fx k)
def thP : Nat → Nat
  | 0 => 0
  | k + 1 => thP k ||| 2 ^ k
def laP (tk fx : Nat → Nat) : Nat → Nat
  | 0 => 0
  | k + 1 => max (laP tk fx k) (fx k + tk k)
theorem thP_bit : ∀ k a, (thP k).testBit a = decide (a < k) := by
  intro k
  induction k with
  | zero => intro a; unfold thP; rw [Nat.zero_testBit]; exact (decide_eq_false (by omega)).symm
  | succ k ih =>
    intro a; unfold thP
    rw [tb_or, ih]
    by_cases h1 : a < k
    · rw [decide_eq_true h1, decide_eq_true (by omega : a < k + 1)]; rfl
    · by_cases h2 : k = a
      · rw [decide_eq_false h1, decide_eq_true h2, decide_eq_true (by omega : a < k + 1)]; rfl
      · rw [decide_eq_false h1, decide_eq_false h2, decide_eq_false (by omega : ¬ a < k + 1)]; rfl
theorem OkbP (tk fx : Nat → Nat) : ∀ k, Okb tk (bzP tk fx k) (bgP fx k) (thP k) (laP tk fx k) := by
  intro k
  induction k with
  | zero => exact ⟨fun _ _ => rfl, fun a ha => by unfold thP at ha; rw [Nat.zero_testBit] at ha; cases ha⟩
  | succ k ih => exact Okb_put ih
theorem bzP_congr {tk fx fx' : Nat → Nat} : ∀ k, (∀ a, a < k → fx a = fx' a) → bzP tk fx k = bzP tk fx' k ∧ bgP fx k = bgP fx' k ∧ laP tk fx k = laP tk fx' k := by
  intro k
  induction k with
  | zero => intro _; exact ⟨rfl, rfl, rfl⟩
  | succ k ih =>
    intro h
    obtain ⟨a, b, c⟩ := ih (fun x hx => h x (by omega))
    unfold bzP bgP laP
    rw [a, b, c, h k (by omega)]
    exact ⟨rfl, rfl, rfl⟩
theorem bzP_le (tk fx : Nat → Nat) (h : Nat) : ∀ k, bzP tk fx k h ≤ k := by
  intro k
  induction k with
  | zero => exact Nat.le_refl 0
  | succ k ih => unfold bzP addB; split <;> omega
theorem laP_le {tk fx : Nat → Nat} (h9 : ∀ c, tk c ≤ 9) : ∀ k, (∀ a, a < k → fx a ≤ 54) → laP tk fx k ≤ 63 ∧ (k = 0 → laP tk fx k = 0) := by
  intro k
  induction k with
  | zero => intro _; exact ⟨by unfold laP; omega, fun _ => rfl⟩
  | succ k ih =>
    intro h
    have := (ih (fun a ha => h a (by omega))).1
    have := h k (by omega)
    have := h9 k
    unfold laP
    exact ⟨by omega, by omega⟩
def OVER (tk ah fx : Nat → Nat) (N T fm q r : Nat) : Prop := Run tk ah T (dec (N - fm) q (List.range' fm (N - fm))) (bzP tk fx fm) (bgP fx fm) (thP fm) (laP tk fx fm) r
theorem OVER_congr {tk ah fx fx' : Nat → Nat} {N T fm q r : Nat} (h : OVER tk ah fx N T fm q r) (e : ∀ a, a < fm → fx a = fx' a) : OVER tk ah fx' N T fm q r := by
  obtain ⟨a, b, c⟩ := bzP_congr (tk := tk) fm e
  unfold OVER at h ⊢
  rw [← a, ← b, ← c]; exact h
theorem OVER_uniq {tk ah fx : Nat → Nat} {N T fm q r r' : Nat} (h : OVER tk ah fx N T fm q r) (h' : OVER tk ah fx N T fm q r') : r = r' := Run_uniq _ _ _ _ _ _ _ _ (fun _ _ => rfl) h h'
def MAY (tk ah fx : Nat → Nat) (T k t : Nat) : Prop := frees (bzP tk fx k) T (tk k) t ∧ ∃ f, Aft tk ah (bgP fx k) k f ∧ f ≤ t
/-- what the search of the hour of a course finds at last -/
theorem OVER_next {tk ah fx : Nat → Nat} {N T k q r : Nat} (hk : k < N) (hq : q < fct (N - k)) (hr : r < FARN) (h : OVER tk ah fx N T k q r) : ∃ t q', t + tk k ≤ r ∧ MAY tk ah fx T k t ∧ q' < fct (N - (k + 1)) ∧ OVER tk ah (updN fx k t) N T (k + 1) q' r := by
  unfold OVER at h
  have e : N - k = (N - (k + 1)) + 1 := by omega
  rw [e] at hq h
  rw [List.range'_succ] at h
  obtain ⟨pre, suf, q', h1, h2, h3⟩ := dec_cut (N - (k + 1)) q k (List.range' (k + 1) (N - (k + 1))) (List.length_range' ..) hq
  rw [h1] at h
  have hp : ∀ c ∈ pre, k < c := by
    intro c hc
    have : c ∈ dec (N - (k + 1)) q' (List.range' (k + 1) (N - (k + 1))) := by rw [h2]; exact List.mem_append_left _ hc
    have := List.mem_range'_1.mp (dec_mem _ _ _ _ this)
    omega
  obtain ⟨t, i1, i2, i3, i4⟩ := Run_move pre suf _ _ _ _ _ hp (by rw [thP_bit, decide_eq_false (by omega)]) hr h
  refine ⟨t, q', i1, ⟨i2, i3⟩, h3, ?_⟩
  obtain ⟨c1, c2, c3⟩ := bzP_congr (tk := tk) (fx := updN fx k t) (fx' := fx) k (fun a ha => by unfold updN; rw [if_neg (by omega)])
  have hu : updN fx k t k = t := by unfold updN; rw [if_pos rfl]
  unfold OVER
  rw [h2]
  unfold bzP bgP thP laP
  rw [c1, c2, c3, hu]
  exact i4
theorem OVER_id {tk ah fx : Nat → Nat} {N T r : Nat} (hT : 1 ≤ T) (h9 : ∀ c, tk c ≤ 9) (h : OVER tk ah fx N T 0 0 r) : r ≤ 9 * N := by
  unfold OVER at h
  rw [dec_id _ _ (List.length_range' ..)] at h
  have := Run_id hT h9 _ _ _ _ _ _ _ (fun a ha => absurd ha (by omega)) (OkbP tk fx 0) h
  unfold laP at this
  omega
def LEAST (tk ah fx : Nat → Nat) (N T fm r : Nat) : Prop := (∀ q, q < fct (N - fm) → ∃ r', OVER tk ah fx N T fm q r' ∧ r ≤ r') ∧ (r = FARN ∨ ∃ q, q < fct (N - fm) ∧ OVER tk ah fx N T fm q r)
/-- the aim of the search: an hour not behind us at which it ends -/
def AIM (tk ah fx : Nat → Nat) (N T k all : Nat) : Prop := ∃ t q r, fx k ≤ t ∧ t ≤ 54 ∧ MAY tk ah fx T k t ∧ q < fct (N - (k + 1)) ∧ OVER tk ah (updN fx k t) N T (k + 1) q r ∧ r ≤ all
end TIM
