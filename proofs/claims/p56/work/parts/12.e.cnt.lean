section CNT
/-- how many of four bits are set -/
def bcN (m : Nat) : Nat := m % 2 + m / 2 % 2 + m / 4 % 2 + m / 8 % 2
def bcI (m : Int) : Int := (bcN m.toNat : Int)
def sbN (v m : Nat) : Bool := v &&& m == v
def sbI (v m : Int) : Int := if sbN v.toNat m.toNat then 1 else 0
/-- the rules laid before the place n, m, v -/
def GN (k n m v : Nat) : Nat := ((List.range n).map fun n' => ((List.range k).filter fun m' => bcN m' == n').length * 2 ^ n').sum + ((List.range m).filter fun m' => bcN m' == n).length * 2 ^ n + ((List.range v).filter fun v' => sbN v' m).length
def pI (s : Int) : Int := ((2 ^ s.toNat : Nat) : Int)
def kI (c s : Int) : Int := if c ≤ 0 then 0 else pI s
theorem kI_val (c s : Int) : (c ≤ 0 → kI c s = 0) ∧ (1 ≤ c → kI c s = pI s) := by
  constructor
  · intro h; unfold kI; rw [if_pos h]
  · intro h; unfold kI; rw [if_neg (by omega)]
theorem pI_rng {s : Int} (h0 : 0 ≤ s) (h1 : s ≤ 4) : 1 ≤ pI s ∧ pI s ≤ 16 := by
  have : s = 0 ∨ s = 1 ∨ s = 2 ∨ s = 3 ∨ s = 4 := by omega
  rcases this with h | h | h | h | h <;> subst h <;> decide
theorem kI_rng (c : Int) {s : Int} (h0 : 0 ≤ s) (h1 : s ≤ 4) : 0 ≤ kI c s ∧ kI c s ≤ 16 := by
  have a := kI_val c s; have b := pI_rng h0 h1
  rcases Int.lt_or_le 0 c with h | h
  · rw [a.2 (by omega)]; omega
  · rw [a.1 h]; omega
theorem GN_v (k n m v : Nat) : GN k n m (v + 1) = GN k n m v + (if sbN v m then 1 else 0) := by
  unfold GN; rw [List.range_succ, List.filter_append, List.length_append]
  by_cases h : sbN v m = true <;> simp [h] <;> omega
theorem GN_m (k n m : Nat) : GN k n (m + 1) 0 = GN k n m 0 + (if bcN m == n then 2 ^ n else 0) := by
  unfold GN; rw [List.range_succ, List.filter_append, List.length_append]
  by_cases h : (bcN m == n) = true
  · simp only [h, if_true, List.filter_cons_of_pos, List.filter_nil, List.length_cons, List.length_nil, List.range_zero]
    rw [Nat.add_mul]; omega
  · simp only [h, List.filter_nil, List.length_nil, List.range_zero, Nat.add_zero]
    simp [h]
theorem GN_n (k n : Nat) : GN k (n + 1) 0 0 = GN k n k 0 := by
  unfold GN; rw [List.range_succ, List.map_append, List.sum_append]; simp
theorem GN_0 (k : Nat) : GN k 0 0 0 = 0 := by unfold GN; simp
theorem sb_all : ∀ m : Fin 16, ((List.range (m.val + 1)).filter fun v' => sbN v' m.val).length = 2 ^ bcN m.val := by decide +kernel
theorem GN_x {k n m : Nat} (hm : m < 16) (hb : bcN m = n) : GN k n m (m + 1) = GN k n (m + 1) 0 := by
  have h := sb_all ⟨m, hm⟩
  have h2 := GN_m k n m
  subst hb
  rw [h2]; simp only [BEq.rfl, if_true]
  unfold GN; simp only at h; rw [h]; simp
theorem GN_le0 : ∀ k : Fin 17, ∀ n : Fin 6, ∀ m : Fin 16, m.val < k.val → bcN m.val = n.val → GN k.val n.val m.val m.val ≤ 80 := by decide +kernel
theorem GN_mono (k n m v d : Nat) : GN k n m v ≤ GN k n m (v + d) := by
  induction d with
  | zero => exact Nat.le_refl _
  | succ d ih => have := GN_v k n m (v + d); rw [Nat.add_assoc] at this; rw [this]; omega
theorem GN_le {k n m v : Nat} (hk : k ≤ 16) (hn : n ≤ 5) (hm : m < k) (hb : bcN m = n) (hv : v ≤ m) : GN k n m v ≤ 80 := by
  have h := GN_le0 ⟨k, by omega⟩ ⟨n, by omega⟩ ⟨m, by omega⟩ hm hb
  have := GN_mono k n m v (m - v); rw [show v + (m - v) = m by omega] at this
  simp only at h; omega
/-- where the count stands at the heads of the outer loops, and of the inmost -/
def RN (k n m r : Int) : Prop := ∃ K N M : Nat, k = K ∧ n = N ∧ m = M ∧ K ≤ 16 ∧ N ≤ 5 ∧ M ≤ K ∧ r = (GN K N M 0 : Int)
def RV (k n m v r : Int) : Prop := ∃ K N M V : Nat, k = K ∧ n = N ∧ m = M ∧ v = V ∧ K ≤ 16 ∧ N ≤ 5 ∧ M < K ∧ bcN M = N ∧ V ≤ M + 1 ∧ r = (GN K N M V : Int)
theorem RN_0 {k n m r : Int} (h0 : 0 ≤ k ∧ k ≤ 16) (hn : n = 0) (hm : m = 0) (hr : r = 0) : RN k n m r :=
  ⟨k.toNat, 0, 0, by omega, hn, hm, by omega, by omega, by omega, by rw [GN_0]; exact hr⟩
theorem RN_eq {k n m r n' m' r' : Int} (h : RN k n m r) (hn : n' = n) (hm : m' = m) (hr : r' = r) : RN k n' m' r' := by subst hn hm hr; exact h
theorem RN_skip {k n m r n' m' r' : Int} (h : RN k n m r) (hk : m < k) (hb : bcI m ≠ n) (hn : n' = n) (hm : m' = m + 1) (hr : r' = r) : RN k n' m' r' := by
  obtain ⟨K, N, M, e1, e2, e3, h1, h2, h3, e4⟩ := h
  refine ⟨K, N, M + 1, e1, by omega, by omega, h1, h2, by omega, ?_⟩
  rw [GN_m, hr, e4]; subst e2 e3
  have : (bcN M == N) = false := by
    apply Bool.eq_false_iff.mpr; intro z; apply hb; unfold bcI; rw [Int.toNat_natCast]; exact congrArg _ (eq_of_beq z)
  rw [this]; simp
theorem RV_in {k n m r n' m' v' r' : Int} (h : RN k n m r) (hk : m < k) (hb : bcI m = n) (hn : n' = n) (hm : m' = m) (hv : v' = 0) (hr : r' = r) : RV k n' m' v' r' := by
  obtain ⟨K, N, M, e1, e2, e3, h1, h2, h3, e4⟩ := h
  refine ⟨K, N, M, 0, e1, by omega, by omega, hv, h1, h2, by omega, ?_, by omega, by rw [hr, e4]⟩
  subst e2 e3; unfold bcI at hb; rw [Int.toNat_natCast] at hb; omega
theorem RV_le {k n m v r : Int} (h : RV k n m v r) (hv : v ≤ m) : r ≤ 80 ∧ 0 ≤ r := by
  obtain ⟨K, N, M, V, e1, e2, e3, e5, h1, h2, h3, hb, h4, e4⟩ := h
  have := GN_le (v := V) h1 h2 h3 hb (by omega); omega
theorem RV_put {k n m v r n' m' v' r' : Int} (h : RV k n m v r) (hv : v ≤ m) (hs : sbI v m = 1) (hn : n' = n) (hm : m' = m) (hv' : v' = v + 1) (hr : r' = r + 1) : RV k n' m' v' r' := by
  obtain ⟨K, N, M, V, e1, e2, e3, e5, h1, h2, h3, hb, h4, e4⟩ := h
  refine ⟨K, N, M, V + 1, e1, by omega, by omega, by omega, h1, h2, h3, hb, by omega, ?_⟩
  subst e3 e5; unfold sbI at hs; rw [Int.toNat_natCast, Int.toNat_natCast] at hs
  have : sbN V M = true := by by_cases z : sbN V M = true; exact z; rw [if_neg z] at hs; omega
  rw [GN_v, this, hr, e4]; simp
theorem RV_not {k n m v r n' m' v' r' : Int} (h : RV k n m v r) (hv : v ≤ m) (hs : sbI v m = 0) (hn : n' = n) (hm : m' = m) (hv' : v' = v + 1) (hr : r' = r) : RV k n' m' v' r' := by
  obtain ⟨K, N, M, V, e1, e2, e3, e5, h1, h2, h3, hb, h4, e4⟩ := h
  refine ⟨K, N, M, V + 1, e1, by omega, by omega, by omega, h1, h2, h3, hb, by omega, ?_⟩
  subst e3 e5; unfold sbI at hs; rw [Int.toNat_natCast, Int.toNat_natCast] at hs
  have : sbN V M = false := by by_cases z : sbN V M = true; rw [if_pos z] at hs; omega; exact Bool.eq_false_iff.mpr z
  rw [GN_v, this, hr, e4]; simp
theorem RN_x {k n m v r n' m' r' : Int} (h : RV k n m v r) (hv : m < v) (hn : n' = n) (hm : m' = m + 1) (hr : r' = r) : RN k n' m' r' := by
  obtain ⟨K, N, M, V, e1, e2, e3, e5, h1, h2, h3, hb, h4, e4⟩ := h
  refine ⟨K, N, M + 1, e1, by omega, by omega, h1, h2, by omega, ?_⟩
  have : V = M + 1 := by omega
  subst this; rw [← GN_x (by omega) hb, hr, e4]
theorem RN_n {k n m r n' m' r' : Int} (h : RN k n m r) (hm : k ≤ m) (h4 : n ≤ 4) (hn : n' = n + 1) (hm' : m' = 0) (hr : r' = r) : RN k n' m' r' := by
  obtain ⟨K, N, M, e1, e2, e3, h1, h2, h3, e4⟩ := h
  refine ⟨K, N + 1, 0, e1, by omega, hm', h1, by omega, by omega, ?_⟩
  have : M = K := by omega
  subst this; rw [GN_n, hr, e4]
theorem ofNat_of {x : Int32} {n : Nat} (h : x.toInt = n) : x = Int32.ofInt n := by
  rw [← h]; exact (Int32.ofInt_toInt x).symm
theorem bits_small {z a : Int32} (e : Int32 → Int32) (hz : z = e a) (he : ∀ i : Fin 16, (e (Int32.ofInt (i.val : Int))).toInt = (bcN i.val : Int)) (h0 : 0 ≤ a.toInt) (h1 : a.toInt ≤ 15) : z.toInt = bcI a.toInt := by
  have h : a = Int32.ofInt ((a.toInt.toNat : Nat) : Int) := ofNat_of (by omega)
  have h2 := he ⟨a.toInt.toNat, by omega⟩
  simp only at h2; rw [← h] at h2; rw [hz, h2]; rfl
theorem bcI_rng (a : Int) : 0 ≤ bcI a ∧ bcI a ≤ 4 := by unfold bcI bcN; omega
theorem sub_all : ∀ i j : Fin 16, ((Int32.ofInt (i.val : Int)) &&& ((Int32.ofInt (j.val : Int)) ^^^ (Int32.ofInt (-1)))).toInt = 0 ↔ sbN i.val j.val = true := by decide +kernel
theorem sub_sb {z w x y : Int32} {X Y : Int} (hz : z = x &&& w) (hw : w = y ^^^ (Int32.ofInt (-1))) (hX : x.toInt = X) (hY : y.toInt = Y) (h0 : 0 ≤ X) (h1 : X ≤ 15) (h2 : 0 ≤ Y) (h3 : Y ≤ 15) : (z.toInt = 0 → sbI X Y = 1) ∧ (z.toInt ≠ 0 → sbI X Y = 0) := by
  have a : x = Int32.ofInt ((X.toNat : Nat) : Int) := ofNat_of (by omega)
  have b : y = Int32.ofInt ((Y.toNat : Nat) : Int) := ofNat_of (by omega)
  have c := sub_all ⟨X.toNat, by omega⟩ ⟨Y.toNat, by omega⟩
  simp only at c; rw [← a, ← b, ← hw, ← hz] at c
  constructor
  · intro h; unfold sbI; rw [if_pos (c.mp h)]
  · intro h; unfold sbI; rw [if_neg (fun q => h (c.mpr q))]
theorem shl1_all : ∀ i : Fin 5, ((Int32.ofInt 1) <<< ((Int32.ofInt (i.val : Int)) &&& 31)).toInt = ((2 ^ i.val : Nat) : Int) := by decide +kernel
theorem shl1_v {y : Int32} {Y : Int} (hY : y.toInt = Y) (h0 : 0 ≤ Y) (h1 : Y ≤ 4) : ((Int32.ofInt 1) <<< (y &&& 31)).toInt = pI Y := by
  have a : y = Int32.ofInt ((Y.toNat : Nat) : Int) := ofNat_of (by omega)
  have c := shl1_all ⟨Y.toNat, by omega⟩
  simp only at c; rw [← a] at c; exact c
theorem WT_peekJ {σ : SG} {a g : Nat} {J l u : Int} (hσ : WT σ) (ha : TG a = g) (hg : g < 900) (h0 : 0 ≤ J) (h1 : J < (LN g : Int)) (ht : FT g J.toNat = (0, l, u)) : ∃ y : Int32, (σ a)[J.toNat]? = some (.int y) ∧ l ≤ y.toInt ∧ y.toInt ≤ u := by
  obtain ⟨v, hv, hk⟩ := WT_at (j := J.toNat) hσ ha hg (by omega)
  rw [ht] at hk
  obtain ⟨y, rfl, h2, h3⟩ := vOK_int hk
  exact ⟨y, hv, h2, h3⟩
end CNT
