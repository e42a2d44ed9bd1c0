/-! what comes of lessons: by heart, by the shortest rule, by what is nearest -/
section LRN
variable {k k' o o' D D' : Int → Int} {σ σ1 σ2 : SG} {W W' : List (Nat × Nat)}
theorem tn_s {i I : Int} (h : 0 ≤ i) (e : I = i + 1) : I.toNat = i.toNat + 1 := by omega
theorem tn_c {i : Int} (h : 0 ≤ i) : ((i.toNat : Nat) : Int) = i := by omega
/-! deeds of a rule -/
def DOf (m v : Int) : Nat → Int
  | 0 => 0
  | n + 1 => if aN (n : Int) m = v then oN (DOf m v n) (pI (n : Int)) else DOf m v n
theorem DOf_0 {m v x i : Int} (hx : x = 0) (hi : i = 0) : x = DOf m v i.toNat := by subst hx hi; rfl
theorem DOf_y {m v x q X i I : Int} (i0 : 0 ≤ i) (h : x = DOf m v i.toNat) (e : aN i m = v) (hq : q = pI i) (hX : X = oN x q) (hI : I = i + 1) : X = DOf m v I.toNat := by
  rw [tn_s i0 hI]
  show _ = if aN ((i.toNat : Nat) : Int) m = v then oN (DOf m v i.toNat) (pI ((i.toNat : Nat) : Int)) else DOf m v i.toNat
  rw [tn_c i0, if_pos e, ← h, ← hq]; exact hX
theorem DOf_n {m v x X i I : Int} (i0 : 0 ≤ i) (h : x = DOf m v i.toNat) (e : aN i m ≠ v) (hX : X = x) (hI : I = i + 1) : X = DOf m v I.toNat := by
  rw [tn_s i0 hI]
  show _ = if aN ((i.toNat : Nat) : Int) m = v then oN (DOf m v i.toNat) (pI ((i.toNat : Nat) : Int)) else DOf m v i.toNat
  rw [tn_c i0, if_neg e, ← h]; exact hX
theorem DOf_z {m v x q X i I : Int} (i0 : 0 ≤ i) (h : x = DOf m v i.toNat) (e : aN i m ≠ v) (hq : q = 0) (x0 : 0 ≤ x) (hX : X = oN x q) (hI : I = i + 1) : X = DOf m v I.toNat := by
  subst hq
  rw [oN_0 x0] at hX
  exact DOf_n i0 h e hX hI
/-! the row of rules of so many knocks, in order -/
def RLS (K : Nat) : List (Nat × Nat) := ((List.range 5).map fun n => (((List.range K).filter fun m => bcN m == n).map fun m => ((List.range (m + 1)).filter fun v => sbN v m).map fun v => (m, v)).flatten).flatten
def ruM (K i : Int) : Int := (((RLS K.toNat).getD i.toNat (0, 0)).1 : Int)
def ruV (K i : Int) : Int := (((RLS K.toNat).getD i.toNat (0, 0)).2 : Int)
def ruD (K i : Int) : Int := DOf (ruM K i) (ruV K i) K.toNat
theorem RLS_all : ∀ s : Fin 5, ∀ m v : Fin 16, m.val < 2 ^ s.val → v.val ≤ m.val → sbN v.val m.val = true → (RLS (2 ^ s.val))[GN (2 ^ s.val) (bcN m.val) m.val v.val]? = some (m.val, v.val) := by decide +kernel
theorem GN_end : ∀ s : Fin 5, GN (2 ^ s.val) (s.val + 1) 0 0 = 3 ^ s.val := by decide +kernel
/-- how many rules there are -/
def nR (s : Int) : Int := ((3 ^ s.toNat : Nat) : Int)
/-- the first rows show the rules -/
def TB (σ : SG) (a b c : Nat) (K r : Int) : Prop := ∀ i : Int, 0 ≤ i → i < r → ci σ a i = ruM K i ∧ ci σ b i = ruV K i ∧ ci σ c i = ruD K i
theorem TB_0 {a b c : Nat} {K r : Int} (h : r = 0) : TB σ a b c K r := fun i i0 i1 => by omega
theorem TB_eq {a b c : Nat} {K r R : Int} (H : TB σ a b c K r) (h : R = r) : TB σ a b c K R := by subst h; exact H
theorem TB_ne {a b c x n : Nat} {K r : Int} (H : TB σ a b c K r) (h : ∀ b' i', (b' ≠ x ∨ i' ≠ n) → (σ1 b')[i']? = (σ b')[i']?) (ha : a ≠ x) (hb : b ≠ x) (hc : c ≠ x) : TB σ1 a b c K r := fun i i0 i1 => by
  rw [ci_ne h ha, ci_ne h hb, ci_ne h hc]; exact H i i0 i1
/-- a place in the order of rules is a power of two's number of knocks -/
def P2 (K : Int) : Prop := ∃ s : Nat, s ≤ 4 ∧ K = ((2 ^ s : Nat) : Int)
theorem P2_pI {s : Int} (h0 : 0 ≤ s) (h1 : s ≤ 4) : P2 (pI s) := ⟨s.toNat, by omega, rfl⟩
theorem RV_ent {K n m v r : Int} (hK : P2 K) (h : RV K n m v r) (hv : v ≤ m) (hs : sbI v m = 1) : ruM K r = m ∧ ruV K r = v := by
  obtain ⟨s, hs4, eK⟩ := hK
  obtain ⟨K', N, M, V, e1, e2, e3, e5, h1, h2, h3, hb, h4, e4⟩ := h
  have eq : K' = 2 ^ s := by
    have : (K' : Int) = ((2 ^ s : Nat) : Int) := by rw [← e1]; exact eK
    exact Int.ofNat.inj this
  subst e3 e5
  unfold sbI at hs
  rw [Int.toNat_natCast, Int.toNat_natCast] at hs
  have hsb : sbN V M = true := by
    by_cases z : sbN V M = true
    · exact z
    · rw [if_neg z] at hs; omega
  have g := RLS_all ⟨s, by omega⟩ ⟨M, by omega⟩ ⟨V, by omega⟩ (by show M < 2 ^ s; rw [← eq]; exact h3) (by show V ≤ M; omega) hsb
  have g : (RLS (2 ^ s))[GN (2 ^ s) (bcN M) M V]? = some (M, V) := g
  have er : r.toNat = GN (2 ^ s) (bcN M) M V := by rw [e4, Int.toNat_natCast, hb, eq]
  have eKn : K.toNat = 2 ^ s := by rw [eK, Int.toNat_natCast]
  unfold ruM ruV
  rw [eKn, er, List.getD_eq_getElem?_getD, g]
  exact ⟨rfl, rfl⟩
/-- a rule more -/
theorem TB_put {σ3 : SG} {a b c : Nat} {K n m v r R J1 J2 J3 : Int} {y1 y2 y3 : Int32} (H : TB σ a b c K r) (hK : P2 K) (h : RV K n m v r) (hv : v ≤ m) (hs : sbI v m = 1)
    (p1 : (σ1 a)[J1.toNat]? = some (.int y1)) (f1 : ∀ b' i', (b' ≠ a ∨ i' ≠ J1.toNat) → (σ1 b')[i']? = (σ b')[i']?)
    (p2 : (σ2 b)[J2.toNat]? = some (.int y2)) (f2 : ∀ b' i', (b' ≠ b ∨ i' ≠ J2.toNat) → (σ2 b')[i']? = (σ1 b')[i']?)
    (p3 : (σ3 c)[J3.toNat]? = some (.int y3)) (f3 : ∀ b' i', (b' ≠ c ∨ i' ≠ J3.toNat) → (σ3 b')[i']? = (σ2 b')[i']?)
    (ab : a ≠ b) (ac : a ≠ c) (bc : b ≠ c) (r0 : 0 ≤ r) (j1 : J1 = r) (j2 : J2 = r) (j3 : J3 = r) (w1 : y1.toInt = m) (w2 : y2.toInt = v) (w3 : y3.toInt = DOf m v K.toNat) (hR : R = r + 1) : TB σ3 a b c K R := fun i i0 i1 => by
  have e := RV_ent hK h hv hs
  subst j1 j2 j3
  have ca : ci σ3 a i = if i = J3 then y1.toInt else ci σ a i := by
    rw [ci_ne f3 ac, ci_ne f2 ab, ci_st p1 f1 r0 i i0]
  have cb : ci σ3 b i = if i = J3 then y2.toInt else ci σ b i := by
    rw [ci_ne f3 bc, ci_st p2 f2 r0 i i0, ci_ne f1 (Ne.symm ab)]
  have cc : ci σ3 c i = if i = J3 then y3.toInt else ci σ c i := by
    rw [ci_st p3 f3 r0 i i0, ci_ne f2 (Ne.symm bc), ci_ne f1 (Ne.symm ac)]
  rw [ca, cb, cc]
  by_cases z : i = J3
  · rw [if_pos z, if_pos z, if_pos z, z]
    unfold ruD
    rw [e.1, e.2]
    exact ⟨w1, w2, w3⟩
  · rw [if_neg z, if_neg z, if_neg z]
    exact H i i0 (by omega)
theorem RN_end {K n m r s : Int} (h0 : 0 ≤ s) (h1 : s ≤ 4) (eK : K = pI s) (h : RN K n m r) (hn : n = s + 1) (hm : m = 0) : r = nR s := by
  obtain ⟨K', N, M, e1, e2, e3, g1, g2, g3, e4⟩ := h
  have k := GN_end ⟨s.toNat, by omega⟩
  have k : GN (2 ^ s.toNat) (s.toNat + 1) 0 0 = 3 ^ s.toNat := k
  have eq : K' = 2 ^ s.toNat := by
    have : (K' : Int) = ((2 ^ s.toNat : Nat) : Int) := by rw [← e1]; exact eK
    exact Int.ofNat.inj this
  have eN : N = s.toNat + 1 := by omega
  have eM : M = 0 := by omega
  rw [e4, eq, eN, eM, k]
  rfl
/-! what lessons say, as bits -/
/-! a rule does as the lessons say: by bits, and one by one -/
def ASP (d : Int) (k o : Int → Int) (n : Int) : Prop := ∀ i : Int, 0 ≤ i → i < n → btI d (k i) = o i
/-! the first that is so -/
noncomputable def FIR (P : Int → Prop) : Nat → Int
  | 0 => -1
  | n + 1 => if FIR P n ≠ -1 then FIR P n else @ite _ (P (n : Int)) (Classical.propDecidable _) (n : Int) (-1)
/-! the latest lesson of a knock -/
def LAT (k : Int → Int) (x : Int) : Nat → Int
  | 0 => -1
  | n + 1 => if k (n : Int) = x then (n : Int) else LAT k x n
/-! the nearest lesson -/
def NEf (k : Int → Int) (x f : Int) : Int := if f = -1 then 5 else bcI (xN (k f) x)
def NER (k : Int → Int) (x : Int) : Nat → Int
  | 0 => -1
  | n + 1 => if bcI (xN (k (n : Int)) x) < NEf k x (NER k x n) then (n : Int) else NER k x n
/-! what a way brings -/
def BYL (way : Int) (k : Int → Int) (n x : Int) : Int := if way = 0 then LAT k x n.toNat else NER k x n.toNat
def LBT (way : Int) (k o : Int → Int) (n : Int) : Nat → Int
  | 0 => 0
  | x + 1 => if BYL way k n (x : Int) ≠ -1 ∧ o (BYL way k n (x : Int)) = 1 then oN (LBT way k o n x) (pI (x : Int)) else LBT way k o n x
noncomputable def LRN (way K z n : Int) (k o D : Int → Int) : Int := if way = 1 then (if FIR (fun i => ASP (D i) k o n) z.toNat = -1 then 0 else D (FIR (fun i => ASP (D i) k o n) z.toNat)) else LBT way k o n K.toNat
/-! by a world's numbers -/
def lkW (w : Int → Int) (d i : Int) : Int := w (26 + 24 * d + 2 * i)
def loW (w : Int → Int) (d i : Int) : Int := w (26 + 24 * d + 2 * i + 1)
end LRN
