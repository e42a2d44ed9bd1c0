/-! what comes of lessons: by heart, by the shortest rule, by what is nearest -/
section LRN
variable {k k' o o' D D' : Int → Int} {σ σ1 σ2 : SG} {W W' : List (Nat × Nat)}
theorem tn_s {i I : Int} (h : 0 ≤ i) (e : I = i + 1) : I.toNat = i.toNat + 1 := by omega
theorem tn_c {i : Int} (h : 0 ≤ i) : ((i.toNat : Nat) : Int) = i := by omega
/-! deeds of a rule -/
def DOf (m v : Int) : Nat → Int
  | 0 => 0
  | n + 1 => if aN (n : Int) m = v then oN (DOf m v n) (pI (n : Int)) else DOf m v n
theorem DOf_0 {m v x i : Int} (hx : x = 0) (hi : i = 0) : x = DOf m v i.toNat := by subst hx hi; rfl
theorem DOf_y {m v x q X i I : Int} (i0 : 0 ≤ i) (h : x = DOf m v i.toNat) (e : aN i m = v) (hq : q = pI i) (hX : X = oN x q) (hI : I = i + 1) : X = DOf m v I.toNat := by
  rw [tn_s i0 hI]
  show _ = if aN ((i.toNat : Nat) : Int) m = v then oN (DOf m v i.toNat) (pI ((i.toNat : Nat) : Int)) else DOf m v i.toNat
  rw [tn_c i0, if_pos e, ← h, ← hq]; exact hX
theorem DOf_n {m v x X i I : Int} (i0 : 0 ≤ i) (h : x = DOf m v i.toNat) (e : aN i m ≠ v) (hX : X = x) (hI : I = i + 1) : X = DOf m v I.toNat := by
  rw [tn_s i0 hI]
  show _ = if aN ((i.toNat : Nat) : Int) m = v then oN (DOf m v i.toNat) (pI ((i.toNat : Nat) : Int)) else DOf m v i.toNat
  rw [tn_c i0, if_neg e, ← h]; exact hX
theorem DOf_z {m v x q X i I : Int} (i0 : 0 ≤ i) (h : x = DOf m v i.toNat) (e : aN i m ≠ v) (hq : q = 0) (x0 : 0 ≤ x) (hX : X = oN x q) (hI : I = i + 1) : X = DOf m v I.toNat := by
  subst hq
  rw [oN_0 x0] at hX
  exact DOf_n i0 h e hX hI
theorem or16 {x q : Int} (x0 : 0 ≤ x) (x1 : x < 65536) (q0 : 0 ≤ q) (q1 : q < 65536) : 0 ≤ oN x q ∧ oN x q < 65536 := by
  have h := oN_lt (X := x) (Y := q) 16 x0 q0 (Int.lt_of_lt_of_le x1 (by decide)) (Int.lt_of_lt_of_le q1 (by decide))
  have e : ((2 ^ 16 : Nat) : Int) = 65536 := by decide
  omega
theorem pI16 {x : Int} (h : x < 16) : 1 ≤ pI x ∧ pI x < 65536 := by
  have a := pI_pos x
  have b := pI_mono (X := x) (Y := 15) (by omega)
  have c : pI 15 = 32768 := by decide
  omega
theorem DOf_rg (m v : Int) : ∀ n : Nat, n ≤ 16 → 0 ≤ DOf m v n ∧ DOf m v n < 65536 := by
  intro n
  induction n with
  | zero => intro _; exact ⟨Int.le_refl 0, by show (0 : Int) < 65536; omega⟩
  | succ n ih =>
    intro h
    have z := ih (by omega)
    show 0 ≤ (if aN (n : Int) m = v then oN (DOf m v n) (pI (n : Int)) else DOf m v n) ∧ (if aN (n : Int) m = v then oN (DOf m v n) (pI (n : Int)) else DOf m v n) < 65536
    have p := pI16 (x := (n : Int)) (by omega)
    split
    · exact or16 z.1 z.2 (by omega) p.2
    · exact z
/-! the row of rules of so many knocks, in order -/
def RLS (K : Nat) : List (Nat × Nat) := ((List.range 5).map fun n => (((List.range K).filter fun m => bcN m == n).map fun m => ((List.range (m + 1)).filter fun v => sbN v m).map fun v => (m, v)).flatten).flatten
def ruM (K i : Int) : Int := (((RLS K.toNat).getD i.toNat (0, 0)).1 : Int)
def ruV (K i : Int) : Int := (((RLS K.toNat).getD i.toNat (0, 0)).2 : Int)
def ruD (K i : Int) : Int := DOf (ruM K i) (ruV K i) K.toNat
theorem ruD_rg {K i : Int} (h : K ≤ 16) : 0 ≤ ruD K i ∧ ruD K i < 65536 := DOf_rg _ _ _ (by omega)
theorem RLS_all : ∀ s : Fin 5, ∀ m v : Fin 16, m.val < 2 ^ s.val → v.val ≤ m.val → sbN v.val m.val = true → (RLS (2 ^ s.val))[GN (2 ^ s.val) (bcN m.val) m.val v.val]? = some (m.val, v.val) := by decide +kernel
theorem GN_end : ∀ s : Fin 5, GN (2 ^ s.val) (s.val + 1) 0 0 = 3 ^ s.val := by decide +kernel
/-- how many rules there are -/
def nR (s : Int) : Int := ((3 ^ s.toNat : Nat) : Int)
theorem nR_rg {s : Int} (h0 : 0 ≤ s) (h1 : s ≤ 4) : 1 ≤ nR s ∧ nR s ≤ 81 := by
  rcases (show s = 0 ∨ s = 1 ∨ s = 2 ∨ s = 3 ∨ s = 4 by omega) with h | h | h | h | h <;> subst h <;> decide
/-- the first rows show the rules -/
def TB (σ : SG) (a b c : Nat) (K r : Int) : Prop := ∀ i : Int, 0 ≤ i → i < r → ci σ a i = ruM K i ∧ ci σ b i = ruV K i ∧ ci σ c i = ruD K i
theorem TB_0 {a b c : Nat} {K r : Int} (h : r = 0) : TB σ a b c K r := fun i i0 i1 => by omega
theorem TB_eq {a b c : Nat} {K r R : Int} (H : TB σ a b c K r) (h : R = r) : TB σ a b c K R := by subst h; exact H
theorem TB_fr {a b c ga gb gc : Nat} {K r : Int} (H : TB σ a b c K r) (h : Fr W σ σ1) (ta : TG a = ga) (tb : TG b = gb) (tc : TG c = gc) (hw : (decide (KD ga ≠ 0) && !W.contains (ga, 0) && (decide (KD gb ≠ 0) && !W.contains (gb, 0)) && (decide (KD gc ≠ 0) && !W.contains (gc, 0))) = true) : TB σ1 a b c K r := fun i i0 i1 => by
  rw [Bool.and_eq_true, Bool.and_eq_true] at hw
  rw [ci_fr h ta hw.1.1, ci_fr h tb hw.1.2, ci_fr h tc hw.2]; exact H i i0 i1
theorem TB_ne {a b c x n : Nat} {K r : Int} (H : TB σ a b c K r) (h : ∀ b' i', (b' ≠ x ∨ i' ≠ n) → (σ1 b')[i']? = (σ b')[i']?) (ha : a ≠ x) (hb : b ≠ x) (hc : c ≠ x) : TB σ1 a b c K r := fun i i0 i1 => by
  rw [ci_ne h ha, ci_ne h hb, ci_ne h hc]; exact H i i0 i1
/-- a place in the order of rules is a power of two's number of knocks -/
def P2 (K : Int) : Prop := ∃ s : Nat, s ≤ 4 ∧ K = ((2 ^ s : Nat) : Int)
theorem P2_pI {s : Int} (h0 : 0 ≤ s) (h1 : s ≤ 4) : P2 (pI s) := ⟨s.toNat, by omega, rfl⟩
theorem RV_ent {K n m v r : Int} (hK : P2 K) (h : RV K n m v r) (hv : v ≤ m) (hs : sbI v m = 1) : ruM K r = m ∧ ruV K r = v := by
  obtain ⟨s, hs4, eK⟩ := hK
  obtain ⟨K', N, M, V, e1, e2, e3, e5, h1, h2, h3, hb, h4, e4⟩ := h
  have eq : K' = 2 ^ s := by
    have : (K' : Int) = ((2 ^ s : Nat) : Int) := by rw [← e1]; exact eK
    exact Int.ofNat.inj this
  subst e3 e5
  unfold sbI at hs
  rw [Int.toNat_natCast, Int.toNat_natCast] at hs
  have hsb : sbN V M = true := by
    by_cases z : sbN V M = true
    · exact z
    · rw [if_neg z] at hs; omega
  have g := RLS_all ⟨s, by omega⟩ ⟨M, by omega⟩ ⟨V, by omega⟩ (by show M < 2 ^ s; rw [← eq]; exact h3) (by show V ≤ M; omega) hsb
  have g : (RLS (2 ^ s))[GN (2 ^ s) (bcN M) M V]? = some (M, V) := g
  have er : r.toNat = GN (2 ^ s) (bcN M) M V := by rw [e4, Int.toNat_natCast, hb, eq]
  have eKn : K.toNat = 2 ^ s := by rw [eK, Int.toNat_natCast]
  unfold ruM ruV
  rw [eKn, er, List.getD_eq_getElem?_getD, g]
  exact ⟨rfl, rfl⟩
/-- a rule more -/
theorem TB_put {σ3 : SG} {a b c : Nat} {K n m v r R J1 J2 J3 : Int} {y1 y2 y3 : Int32} (H : TB σ a b c K r) (hK : P2 K) (h : RV K n m v r) (hv : v ≤ m) (hs : sbI v m = 1)
    (p1 : (σ1 a)[J1.toNat]? = some (.int y1)) (f1 : ∀ b' i', (b' ≠ a ∨ i' ≠ J1.toNat) → (σ1 b')[i']? = (σ b')[i']?)
    (p2 : (σ2 b)[J2.toNat]? = some (.int y2)) (f2 : ∀ b' i', (b' ≠ b ∨ i' ≠ J2.toNat) → (σ2 b')[i']? = (σ1 b')[i']?)
    (p3 : (σ3 c)[J3.toNat]? = some (.int y3)) (f3 : ∀ b' i', (b' ≠ c ∨ i' ≠ J3.toNat) → (σ3 b')[i']? = (σ2 b')[i']?)
    (ab : a ≠ b) (ac : a ≠ c) (bc : b ≠ c) (r0 : 0 ≤ r) (j1 : J1 = r) (j2 : J2 = r) (j3 : J3 = r) (w1 : y1.toInt = m) (w2 : y2.toInt = v) (w3 : y3.toInt = DOf m v K.toNat) (hR : R = r + 1) : TB σ3 a b c K R := fun i i0 i1 => by
  have e := RV_ent hK h hv hs
  subst j1 j2 j3
  have ca : ci σ3 a i = if i = J3 then y1.toInt else ci σ a i := by
    rw [ci_ne f3 ac, ci_ne f2 ab, ci_st p1 f1 r0 i i0]
  have cb : ci σ3 b i = if i = J3 then y2.toInt else ci σ b i := by
    rw [ci_ne f3 bc, ci_st p2 f2 r0 i i0, ci_ne f1 (Ne.symm ab)]
  have cc : ci σ3 c i = if i = J3 then y3.toInt else ci σ c i := by
    rw [ci_st p3 f3 r0 i i0, ci_ne f2 (Ne.symm bc), ci_ne f1 (Ne.symm ac)]
  rw [ca, cb, cc]
  by_cases z : i = J3
  · rw [if_pos z, if_pos z, if_pos z, z]
    unfold ruD
    rw [e.1, e.2]
    exact ⟨w1, w2, w3⟩
  · rw [if_neg z, if_neg z, if_neg z]
    exact H i i0 (by omega)
theorem RN_end {K n m r s : Int} (h0 : 0 ≤ s) (h1 : s ≤ 4) (eK : K = pI s) (h : RN K n m r) (hn : n = s + 1) (hm : m = 0) : r = nR s := by
  obtain ⟨K', N, M, e1, e2, e3, g1, g2, g3, e4⟩ := h
  have k := GN_end ⟨s.toNat, by omega⟩
  have k : GN (2 ^ s.toNat) (s.toNat + 1) 0 0 = 3 ^ s.toNat := k
  have eq : K' = 2 ^ s.toNat := by
    have : (K' : Int) = ((2 ^ s.toNat : Nat) : Int) := by rw [← e1]; exact eK
    exact Int.ofNat.inj this
  have eN : N = s.toNat + 1 := by omega
  have eM : M = 0 := by omega
  rw [e4, eq, eN, eM, k]
  rfl
/-! what lessons say, as bits -/
def SAI (k o : Int → Int) (v : Int) : Nat → Int
  | 0 => 0
  | n + 1 => if o (n : Int) = v then oN (SAI k o v n) (pI (k (n : Int))) else SAI k o v n
theorem SAI_0 {v x i : Int} (hx : x = 0) (hi : i = 0) : x = SAI k o v i.toNat := by subst hx hi; rfl
theorem SAI_y {v x p q X i I : Int} (i0 : 0 ≤ i) (h : x = SAI k o v i.toNat) (e : o i = v) (hk : k i = p) (hq : q = pI p) (hX : X = oN x q) (hI : I = i + 1) : X = SAI k o v I.toNat := by
  rw [tn_s i0 hI]
  show _ = if o ((i.toNat : Nat) : Int) = v then oN (SAI k o v i.toNat) (pI (k ((i.toNat : Nat) : Int))) else SAI k o v i.toNat
  rw [tn_c i0, if_pos e, ← h, hk, ← hq]; exact hX
theorem SAI_n {v x X i I : Int} (i0 : 0 ≤ i) (h : x = SAI k o v i.toNat) (e : o i ≠ v) (hX : X = x) (hI : I = i + 1) : X = SAI k o v I.toNat := by
  rw [tn_s i0 hI]
  show _ = if o ((i.toNat : Nat) : Int) = v then oN (SAI k o v i.toNat) (pI (k ((i.toNat : Nat) : Int))) else SAI k o v i.toNat
  rw [tn_c i0, if_neg e, ← h]; exact hX
theorem SAI_bit (v : Int) : ∀ n : Nat, (∀ i : Nat, i < n → 0 ≤ k (i : Int)) → 0 ≤ SAI k o v n ∧ ∀ j : Nat, ((SAI k o v n).toNat.testBit j = true ↔ ∃ i : Nat, i < n ∧ o (i : Int) = v ∧ (k (i : Int)).toNat = j) := by
  intro n
  induction n with
  | zero =>
    intro _
    refine ⟨Int.le_refl 0, fun j => ⟨fun h => ?_, fun ⟨i, h, _⟩ => by omega⟩⟩
    have h : (0 : Nat).testBit j = true := h
    rw [Nat.zero_testBit] at h
    cases h
  | succ n ih =>
    intro hk
    obtain ⟨a, b⟩ := ih (fun i hi => hk i (by omega))
    by_cases z : o (n : Int) = v
    · have e : SAI k o v (n + 1) = oN (SAI k o v n) (pI (k (n : Int))) := if_pos z
      rw [e]
      unfold oN pI
      refine ⟨by omega, fun j => ?_⟩
      rw [Int.toNat_natCast, Int.toNat_natCast, Nat.testBit_or, Bool.or_eq_true, b j, Nat.testBit_two_pow, decide_eq_true_eq]
      constructor
      · rintro (⟨i, h1, h2⟩ | h)
        · exact ⟨i, by omega, h2⟩
        · exact ⟨n, by omega, z, h⟩
      · rintro ⟨i, h1, h2, h3⟩
        by_cases y : i = n
        · subst y; exact Or.inr h3
        · exact Or.inl ⟨i, by omega, h2, h3⟩
    · have e : SAI k o v (n + 1) = SAI k o v n := if_neg z
      rw [e]
      refine ⟨a, fun j => (b j).trans ⟨fun ⟨i, h1, h2⟩ => ⟨i, by omega, h2⟩, fun ⟨i, h1, h2, h3⟩ => ?_⟩⟩
      by_cases y : i = n
      · subst y; exact absurd h2 z
      · exact ⟨i, by omega, h2, h3⟩
/-! a rule does as the lessons say: by bits, and one by one -/
def AGP (D O S : Int) : Prop := O - aN O D = 0 ∧ aN S D = 0
def ASP (d : Int) (k o : Int → Int) (n : Int) : Prop := ∀ i : Int, 0 ≤ i → i < n → btI d (k i) = o i
theorem btI_tb {A I : Int} (h : 0 ≤ A) : btI A I = if A.toNat.testBit I.toNat = true then 1 else 0 := by
  rw [Nat.testBit_eq_decide_div_mod_eq]
  unfold btI pI
  have e : A / ((2 ^ I.toNat : Nat) : Int) = ((A.toNat / 2 ^ I.toNat : Nat) : Int) := by
    rw [Int.natCast_ediv, tn_c h]
  rw [e]
  by_cases z : A.toNat / 2 ^ I.toNat % 2 = 1
  · rw [if_pos (by rw [decide_eq_true_eq]; exact z)]; omega
  · rw [if_neg (by rw [decide_eq_true_eq]; exact z)]; omega
theorem sub_tb {O D : Int} (h : 0 ≤ O) (h2 : 0 ≤ D) : O - aN O D = 0 ↔ ∀ j : Nat, O.toNat.testBit j = true → D.toNat.testBit j = true := by
  have l : O.toNat &&& D.toNat ≤ O.toNat := Nat.and_le_left
  unfold aN
  constructor
  · intro e j hj
    have q : O.toNat &&& D.toNat = O.toNat := by omega
    rw [← q, Nat.testBit_and, Bool.and_eq_true] at hj
    exact hj.2
  · intro e
    have q : O.toNat &&& D.toNat = O.toNat := by
      apply Nat.eq_of_testBit_eq
      intro j
      rw [Nat.testBit_and]
      cases z : O.toNat.testBit j with
      | false => rfl
      | true => rw [e j z]; rfl
    omega
theorem dis_tb {S D : Int} : aN S D = 0 ↔ ∀ j : Nat, S.toNat.testBit j = true → D.toNat.testBit j = false := by
  unfold aN
  constructor
  · intro e j hj
    have q : S.toNat &&& D.toNat = 0 := by omega
    have w : (S.toNat &&& D.toNat).testBit j = false := by rw [q, Nat.zero_testBit]
    rw [Nat.testBit_and, hj] at w
    simpa using w
  · intro e
    have q : S.toNat &&& D.toNat = 0 := by
      apply Nat.eq_of_testBit_eq
      intro j
      rw [Nat.testBit_and, Nat.zero_testBit]
      cases z : S.toNat.testBit j with
      | false => rfl
      | true => rw [e j z]; rfl
    omega
theorem AG_AS {d n : Int} (d0 : 0 ≤ d) (n0 : 0 ≤ n) (hk : ∀ i : Int, 0 ≤ i → i < n → 0 ≤ k i) (ho : ∀ i : Int, 0 ≤ i → i < n → 0 ≤ o i ∧ o i ≤ 1) : AGP d (SAI k o 1 n.toNat) (SAI k o 0 n.toNat) ↔ ASP d k o n := by
  have hk' : ∀ i : Nat, i < n.toNat → 0 ≤ k (i : Int) := fun i hi => hk i (by omega) (by omega)
  obtain ⟨a0, a⟩ := SAI_bit (k := k) (o := o) 1 n.toNat hk'
  obtain ⟨b0, b⟩ := SAI_bit (k := k) (o := o) 0 n.toNat hk'
  unfold AGP
  rw [sub_tb a0 d0, dis_tb]
  constructor
  · rintro ⟨h1, h2⟩ i i0 i1
    have c := ho i i0 i1
    rw [btI_tb d0]
    rcases (show o i = 1 ∨ o i = 0 by omega) with e | e
    · rw [h1 (k i).toNat ((a _).mpr ⟨i.toNat, by omega, by rw [tn_c i0]; exact e, by rw [tn_c i0]⟩), if_pos rfl, e]
    · rw [h2 (k i).toNat ((b _).mpr ⟨i.toNat, by omega, by rw [tn_c i0]; exact e, by rw [tn_c i0]⟩), if_neg (by decide), e]
  · intro h
    constructor
    · intro j hj
      obtain ⟨i, i1, e, ek⟩ := (a j).mp hj
      have c := h (i : Int) (by omega) (by omega)
      rw [btI_tb d0, ek, e] at c
      by_cases z : d.toNat.testBit j = true
      · exact z
      · rw [if_neg z] at c; omega
    · intro j hj
      obtain ⟨i, i1, e, ek⟩ := (b j).mp hj
      have c := h (i : Int) (by omega) (by omega)
      rw [btI_tb d0, ek, e] at c
      by_cases z : d.toNat.testBit j = true
      · rw [if_pos z] at c; omega
      · simpa using z
theorem ASP_cg {d d' n n' : Int} (hd : d' = d) (hn : n' = n) (hk : ∀ i : Int, 0 ≤ i → i < n → k' i = k i) (ho : ∀ i : Int, 0 ≤ i → i < n → o' i = o i) : ASP d' k' o' n' ↔ ASP d k o n := by
  subst hd hn
  constructor
  · intro h i i0 i1; rw [← hk i i0 i1, ← ho i i0 i1]; exact h i i0 i1
  · intro h i i0 i1; rw [hk i i0 i1, ho i i0 i1]; exact h i i0 i1
/-- as far as so many lessons -/
theorem ASP_0 {d n : Int} (h : n = 0) : ASP d k o n := fun i i0 i1 => by omega
theorem ASP_s {d n N : Int} (H : ASP d k o n) (e : btI d (k n) = o n) (hN : N = n + 1) : ASP d k o N := fun i i0 i1 => by
  by_cases z : i = n
  · rw [z]; exact e
  · exact H i i0 (by omega)
theorem ASP_no {d n i : Int} (i0 : 0 ≤ i) (i1 : i < n) (e : btI d (k i) ≠ o i) : ¬ ASP d k o n := fun h => e (h i i0 i1)
/-! the first that is so -/
noncomputable def FIR (P : Int → Prop) : Nat → Int
  | 0 => -1
  | n + 1 => if FIR P n ≠ -1 then FIR P n else @ite _ (P (n : Int)) (Classical.propDecidable _) (n : Int) (-1)
/-! the latest lesson of a knock -/
def LAT (k : Int → Int) (x : Int) : Nat → Int
  | 0 => -1
  | n + 1 => if k (n : Int) = x then (n : Int) else LAT k x n
/-! the nearest lesson -/
def NEf (k : Int → Int) (x f : Int) : Int := if f = -1 then 5 else bcI (xN (k f) x)
def NER (k : Int → Int) (x : Int) : Nat → Int
  | 0 => -1
  | n + 1 => if bcI (xN (k (n : Int)) x) < NEf k x (NER k x n) then (n : Int) else NER k x n
/-! what a way brings -/
def BYL (way : Int) (k : Int → Int) (n x : Int) : Int := if way = 0 then LAT k x n.toNat else NER k x n.toNat
def LBT (way : Int) (k o : Int → Int) (n : Int) : Nat → Int
  | 0 => 0
  | x + 1 => if BYL way k n (x : Int) ≠ -1 ∧ o (BYL way k n (x : Int)) = 1 then oN (LBT way k o n x) (pI (x : Int)) else LBT way k o n x
noncomputable def LRN (way K z n : Int) (k o D : Int → Int) : Int := if way = 1 then (if FIR (fun i => ASP (D i) k o n) z.toNat = -1 then 0 else D (FIR (fun i => ASP (D i) k o n) z.toNat)) else LBT way k o n K.toNat
/-! by a world's numbers -/
def lkW (w : Int → Int) (d i : Int) : Int := w (26 + 24 * d + 2 * i)
def loW (w : Int → Int) (d i : Int) : Int := w (26 + 24 * d + 2 * i + 1)
end LRN
