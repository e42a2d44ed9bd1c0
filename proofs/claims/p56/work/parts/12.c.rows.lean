/-! FURTHER ROWS of typed runs -/
theorem neTG {a b g g' : Nat} (ha : TG a = g) (hb : TG b = g') (h : g ≠ g') : a ≠ b := fun e => h (by rw [← ha, ← hb, e])
theorem inW {W : List (Nat × Nat)} {b g i : Nat} (hb : TG b = g) (h : W.contains (g, SL g i) = false) : W.contains (TG b, SL (TG b) i) = false := by rw [hb]; exact h
theorem inWa {W : List (Nat × Nat)} {b g i : Nat} (hb : TG b = g) (h : (decide (KD g ≠ 0) && !W.contains (g, 0)) = true) : W.contains (TG b, SL (TG b) i) = false := by
  simp only [Bool.and_eq_true, decide_eq_true_eq, Bool.not_eq_true'] at h
  rw [hb]
  unfold SL
  rw [if_neg h.1]
  exact h.2
theorem vI {g j : Nat} {l u : Int} {y : Int32} {Y : Int} (ht : FT g j = (0, l, u)) (hY : y.toInt = Y) (h1 : l ≤ Y) (h2 : Y ≤ u) : vOK (FT g j) (.int y) := by
  rw [ht]; exact ⟨rfl, by dsimp only; omega, by dsimp only; omega⟩
theorem vR {g j g' a : Nat} {u : Int} (ht : FT g j = (2, (g' : Int), u)) (h : TG a = g') : vOK (FT g j) (.ref a) := by
  rw [ht]; exact ⟨rfl, by dsimp only; omega⟩
theorem fullI (y : Int32) : (-2147483648 : Int) ≤ y.toInt ∧ y.toInt ≤ 2147483647 := by
  have h1 := Int32.le_toInt y
  have h2 := Int32.toInt_lt y
  omega
theorem vF {g j : Nat} {y : Int32} (ht : FT g j = (0, -2147483648, 2147483647)) : vOK (FT g j) (.int y) := by
  rw [ht]; exact ⟨rfl, fullI y⟩
theorem WT_peekI {σ : SG} {a g j : Nat} {l u : Int} (hσ : WT σ) (ha : TG a = g) (ht : FT g j = (0, l, u)) (hg : (decide (g < 900) && decide (j < LN g)) = true) : ∃ y : Int32, (σ a)[j]? = some (.int y) ∧ l ≤ y.toInt ∧ y.toInt ≤ u := by
  simp only [Bool.and_eq_true, decide_eq_true_eq] at hg
  obtain ⟨v, hv, hk⟩ := WT_at hσ ha hg.1 hg.2
  rw [ht] at hk
  obtain ⟨y, rfl, h2, h3⟩ := vOK_int hk
  exact ⟨y, hv, h2, h3⟩
theorem WT_peekR {σ : SG} {a g j g' : Nat} {u : Int} (hσ : WT σ) (ha : TG a = g) (ht : FT g j = (2, (g' : Int), u)) (hg : (decide (g < 900) && decide (j < LN g)) = true) : ∃ y : Nat, (σ a)[j]? = some (.ref y) ∧ TG y = g' := by
  simp only [Bool.and_eq_true, decide_eq_true_eq] at hg
  obtain ⟨v, hv, hk⟩ := WT_at hσ ha hg.1 hg.2
  rw [ht] at hk
  obtain ⟨y, rfl, h2⟩ := vOK_ref hk
  exact ⟨y, hv, h2⟩
theorem FTsgl {g j : Nat} {t : Nat × Int × Int} (h : (decide (KD g ≠ 0) && decide ((TY g).2.2.2.length = 1) && decide (FT g 0 = t)) = true) : FT g j = t := by
  simp only [Bool.and_eq_true, decide_eq_true_eq] at h
  rw [FT_one h.1.1 h.1.2]
  exact h.2
theorem FTrow (g j0 step n : Nat) {J : Int} {t : Nat × Int × Int} (h : (decide (0 < step) && (List.range n).all (fun k => decide (FT g (j0 + step * k) = t))) = true) (h1 : (j0 : Int) ≤ J) (h2 : J < (j0 : Int) + (step : Int) * (n : Int)) (h3 : (J - (j0 : Int)) % (step : Int) = 0) : FT g J.toNat = t := by
  rw [Bool.and_eq_true, decide_eq_true_eq] at h
  obtain ⟨hs, hall⟩ := h
  obtain ⟨q, hq⟩ := Int.dvd_of_emod_eq_zero h3
  have hs2 : (0 : Int) < (step : Int) := by omega
  have q0 : 0 ≤ q := by
    rcases Int.lt_or_le q 0 with z | z
    · have := Int.mul_neg_of_pos_of_neg hs2 z
      omega
    · exact z
  have qn : q < n := by
    rcases Int.lt_or_le q n with z | z
    · exact z
    · have := Int.mul_le_mul_of_nonneg_left z (Int.le_of_lt hs2)
      omega
  have e : J = ((j0 + step * q.toNat : Nat) : Int) := by
    rw [Int.natCast_add, Int.natCast_mul, Int.toNat_of_nonneg q0]
    omega
  rw [e, Int.toNat_natCast]
  exact of_decide_eq_true (List.all_eq_true.mp hall q.toNat (List.mem_range.mpr (by omega)))
theorem or_rng {x y : Int32} {X Y : Int} (k : Nat) (hX : x.toInt = X) (hY : y.toInt = Y) (h0 : 0 ≤ X) (h1 : X < ((2 ^ k : Nat) : Int)) (h2 : 0 ≤ Y) (h3 : Y < ((2 ^ k : Nat) : Int)) (hk : k < 31) : 0 ≤ (x ||| y).toInt ∧ (x ||| y).toInt ≤ ((2 ^ k : Nat) : Int) - 1 := by
  have nn : ∀ z : Int32, 0 ≤ z.toInt → z.toInt = (z.toBitVec.toNat : Int) := by
    intro z hz
    show z.toBitVec.toInt = _
    have h : z.toInt = z.toBitVec.toInt := rfl
    rw [h, BitVec.toInt_eq_toNat_cond] at hz
    rw [BitVec.toInt_eq_toNat_cond]
    split at hz
    · rename_i c; rw [if_pos c]
    · exfalso
      have := z.toBitVec.isLt
      omega
  have ex := nn x (by omega)
  have ey := nn y (by omega)
  have hl : (x ||| y).toBitVec.toNat < 2 ^ k := by
    rw [Int32.toBitVec_or, BitVec.toNat_or]
    exact Nat.or_lt_two_pow (by omega) (by omega)
  have hp : 2 ^ k ≤ 2 ^ 30 := Nat.pow_le_pow_right (by decide) (by omega)
  have e : (x ||| y).toInt = ((x ||| y).toBitVec.toNat : Int) := by
    show (x ||| y).toBitVec.toInt = _
    rw [BitVec.toInt_eq_toNat_cond, if_pos (by omega)]
  omega
theorem okZ {y : Int32} {Y : Int} (hY : y.toInt = Y) (h1 : 0 ≤ Y) (h2 : Y ≤ 1) : okFit .boolean (.int y) = true := by
  rcases (show Y = 0 ∨ Y = 1 by omega) with z | z
  · have : y = 0 := Int32.toInt_inj.mp (by rw [hY, z]; decide)
    subst this; decide
  · have : y = 1 := Int32.toInt_inj.mp (by rw [hY, z]; decide)
    subst this; decide
theorem rngI {l u : Int} {y : Int32} {Y : Int} (hY : y.toInt = Y) (h1 : l ≤ Y) (h2 : Y ≤ u) : l ≤ y.toInt ∧ y.toInt ≤ u := by omega
theorem fullL (y : Int64) : (-9223372036854775808 : Int) ≤ y.toInt ∧ y.toInt ≤ 9223372036854775807 := by
  have h1 := Int64.le_toInt y
  have h2 := Int64.toInt_lt y
  omega
theorem geI {l : Int} {y : Int32} {Y : Int} (hY : y.toInt = Y) (h : l ≤ Y) : l ≤ y.toInt := by omega
theorem leI {u : Int} {y : Int32} {Y : Int} (hY : y.toInt = Y) (h : Y ≤ u) : y.toInt ≤ u := by omega
theorem lnI {g n : Nat} {J : Int} (h : LN g = n) (hj : J < (n : Int)) : J < (LN g : Int) := by rw [h]; exact hj
theorem WT_int {σ : SG} {a g j : Nat} {l u : Int} {y : Int32} (hσ : WT σ) (ha : TG a = g) (hg : g < 900) (ht : FT g j = (0, l, u)) (h : (σ a)[j]? = some (.int y)) : l ≤ y.toInt ∧ y.toInt ≤ u := by
  have h1 := (hσ a (TG_lt ha hg)).2 j _ h
  rw [ha, ht] at h1
  exact h1.2
theorem i2lI {x : Int32} {X : Int} (h : x.toInt = X) : x.toInt64.toInt = X := by rw [Int32.toInt_toInt64]; exact h
theorem addL {x y : Int64} {X Y : Int} (hX : x.toInt = X) (hY : y.toInt = Y) (h1 : -9223372036854775808 ≤ X + Y) (h2 : X + Y ≤ 9223372036854775807) : (x + y).toInt = X + Y := by
  rw [Int64.toInt_add, hX, hY]
  exact Int.bmod_eq_of_le (by omega) (by omega)
theorem subL {x y : Int64} {X Y : Int} (hX : x.toInt = X) (hY : y.toInt = Y) (h1 : -9223372036854775808 ≤ X - Y) (h2 : X - Y ≤ 9223372036854775807) : (x - y).toInt = X - Y := by
  rw [Int64.toInt_sub, hX, hY]
  exact Int.bmod_eq_of_le (by omega) (by omega)
theorem mulL {x y : Int64} {X Y Z : Int} (hX : x.toInt = X) (hY : y.toInt = Y) (hZ : X * Y = Z) (h1 : -9223372036854775808 ≤ Z) (h2 : Z ≤ 9223372036854775807) : (x * y).toInt = Z := by
  rw [Int64.toInt_mul, hX, hY, hZ]
  exact Int.bmod_eq_of_le (by omega) (by omega)
theorem and1 {x : Int32} {X : Int} (hX : x.toInt = X) (h0 : 0 ≤ X) (h1 : X ≤ 1) : (x &&& 1 == x) = true := by
  rcases (show X = 0 ∨ X = 1 by omega) with z | z
  · have : x = 0 := Int32.toInt_inj.mp (by rw [hX, z]; decide)
    subst this; decide
  · have : x = 1 := Int32.toInt_inj.mp (by rw [hX, z]; decide)
    subst this; decide
theorem retZ {F : MR} {x : Int32} {X : Int} {h : AH} (hm : mret F = some .boolean) (hX : x.toInt = X) (h0 : 0 ≤ X) (h1 : X ≤ 1) : doRet F .ireturn [.int x] h = some (some (.int x), h) := by
  unfold doRet
  dsimp only
  rw [hm]
  exact oC_mk (and1 hX h0 h1) rfl
theorem narB {y : Int32} {Y : Int} (hY : y.toInt = Y) (h0 : -128 ≤ Y) (h1 : Y ≤ 127) : vp_nar .byte y = y := by
  rw [vp_nar_byte]
  apply Int32.toInt_inj.mp
  rw [Int8.toInt_toInt32, Int32.toInt_toInt8, hY]
  exact Int.bmod_eq_of_le (by omega) (by omega)
theorem narZ {y : Int32} {Y : Int} (hY : y.toInt = Y) (h0 : 0 ≤ Y) (h1 : Y ≤ 1) : vp_nar .boolean y = y := by
  rcases (show Y = 0 ∨ Y = 1 by omega) with z | z
  · have : y = 0 := Int32.toInt_inj.mp (by rw [hY, z]; decide)
    subst this; decide
  · have : y = 1 := Int32.toInt_inj.mp (by rw [hY, z]; decide)
    subst this; decide
theorem i2b_rng (x : Int32) : (-128 : Int) ≤ x.toInt8.toInt32.toInt ∧ x.toInt8.toInt32.toInt ≤ 127 := by
  rw [Int8.toInt_toInt32]
  have h1 := Int8.le_toInt x.toInt8
  have h2 := Int8.toInt_lt x.toInt8
  omega
theorem andN (x m : Int32) {n : Int} (hm : m.toInt = n) (h : 0 ≤ n) : (0 : Int) ≤ (x &&& m).toInt ∧ (x &&& m).toInt ≤ n := by
  have e : m.toInt = (m.toBitVec.toNat : Int) := by
    have h1 : 2 * m.toBitVec.toNat < 2 ^ 32 := by
      rcases Nat.lt_or_ge (2 * m.toBitVec.toNat) (2 ^ 32) with z | z
      · exact z
      · exfalso
        have : m.toInt = m.toBitVec.toInt := rfl
        rw [this, BitVec.toInt_eq_toNat_cond, if_neg (by omega)] at hm
        have := m.toBitVec.isLt
        omega
    show m.toBitVec.toInt = _
    rw [BitVec.toInt_eq_toNat_cond, if_pos h1]
  have h2 : (x &&& m).toBitVec.toNat ≤ m.toBitVec.toNat := by
    rw [Int32.toBitVec_and, BitVec.toNat_and]
    exact Nat.and_le_right
  have h3 : (x &&& m).toInt = ((x &&& m).toBitVec.toNat : Int) := by
    show (x &&& m).toBitVec.toInt = _
    have := m.toBitVec.isLt
    have hlt : (m.toBitVec.toNat : Int) < 2 ^ 31 := by
      have := Int32.toInt_lt m
      omega
    rw [BitVec.toInt_eq_toNat_cond, if_pos (by omega)]
  omega
theorem andR_rng {x m : Int32} {n : Int} (hm : m.toInt = n) (h : 0 ≤ n) : (0 : Int) ≤ (x &&& m).toInt ∧ (x &&& m).toInt ≤ n := andN x m hm h
theorem andL_rng {x m : Int32} {n : Int} (hm : m.toInt = n) (h : 0 ≤ n) : (0 : Int) ≤ (m &&& x).toInt ∧ (m &&& x).toInt ≤ n := by
  rw [Int32.and_comm]; exact andN x m hm h
theorem andx_rng {x y : Int32} {X u : Int} (hX : x.toInt = X) (h : 0 ≤ X) (hu : X ≤ u) : (0 : Int) ≤ (x &&& y).toInt ∧ (x &&& y).toInt ≤ u := by
  have := andL_rng (x := y) hX h
  omega
theorem divI {x y : Int32} {X c : Int} (hX : x.toInt = X) (hY : y.toInt = c) (h0 : 0 ≤ X) (hc : 0 < c) : (x / y).toInt = X / c := by
  have h2 := Int32.toInt_lt x
  have h3 : X / c ≤ X := Int.ediv_le_self c h0
  have h4 : 0 ≤ X / c := Int.ediv_nonneg h0 (by omega)
  rw [Int32.toInt_div, hX, hY, Int.tdiv_eq_ediv_of_nonneg h0]
  exact Int.bmod_eq_of_le (by omega) (by omega)
theorem remI {x y : Int32} {X c : Int} (hX : x.toInt = X) (hY : y.toInt = c) (h0 : 0 ≤ X) (hc : 0 < c) : (x - x / y * y).toInt = X % c := by
  have h2 := Int32.toInt_lt x
  have h3 : X / c ≤ X := Int.ediv_le_self c h0
  have h4 : 0 ≤ X / c := Int.ediv_nonneg h0 (by omega)
  have h5 := Int.emod_nonneg X (show c ≠ 0 by omega)
  have h6 := Int.emod_add_mul_ediv X c
  have h7 : X / c * c = X - X % c := by rw [Int.mul_comm]; omega
  have h8 : 0 ≤ X / c * c := Int.mul_nonneg h4 (by omega)
  have hm : (x / y * y).toInt = X - X % c := mulI (divI hX hY h0 hc) hY h7 (by omega) (by omega)
  have := subI hX hm (by omega) (by omega)
  omega
theorem nz64 {y : Int64} {c : Int} (hY : y.toInt = c) (hc : 0 < c) : ¬ y = 0 := by
  intro z
  subst z
  have : (0 : Int64).toInt = 0 := by decide
  omega
theorem divL {x y : Int64} {X c : Int} (hX : x.toInt = X) (hY : y.toInt = c) (h0 : 0 ≤ X) (hc : 0 < c) : (x / y).toInt = X / c := by
  have h2 := Int64.toInt_lt x
  have h3 : X / c ≤ X := Int.ediv_le_self c h0
  have h4 : 0 ≤ X / c := Int.ediv_nonneg h0 (by omega)
  rw [Int64.toInt_div, hX, hY, Int.tdiv_eq_ediv_of_nonneg h0]
  exact Int.bmod_eq_of_le (by omega) (by omega)
theorem remL {x y : Int64} {X c : Int} (hX : x.toInt = X) (hY : y.toInt = c) (h0 : 0 ≤ X) (hc : 0 < c) : (x - x / y * y).toInt = X % c := by
  have h2 := Int64.toInt_lt x
  have h3 : X / c ≤ X := Int.ediv_le_self c h0
  have h4 : 0 ≤ X / c := Int.ediv_nonneg h0 (by omega)
  have h5 := Int.emod_nonneg X (show c ≠ 0 by omega)
  have h6 := Int.emod_add_mul_ediv X c
  have h7 : X / c * c = X - X % c := by rw [Int.mul_comm]; omega
  have h8 : 0 ≤ X / c * c := Int.mul_nonneg h4 (by omega)
  have hm : (x / y * y).toInt = X - X % c := mulL (divL hX hY h0 hc) hY h7 (by omega) (by omega)
  have := subL hX hm (by omega) (by omega)
  omega
theorem Int32_and_not (x y : Int32) (h : x &&& (y ^^^ (Int32.ofInt (-1))) = 0) : x &&& y = x := by
  apply Int32.toBitVec_inj.mp
  have h2 := congrArg Int32.toBitVec h
  rw [Int32.toBitVec_and, Int32.toBitVec_xor] at h2
  rw [Int32.toBitVec_and]
  apply BitVec.eq_of_getLsbD_eq
  intro i hi
  have h3 := congrArg (fun b => b.getLsbD i) h2
  try dsimp only at h3
  rw [BitVec.getLsbD_and, BitVec.getLsbD_xor] at h3
  have e1 : (Int32.ofInt (-1)).toBitVec.getLsbD i = true := by
    have : (Int32.ofInt (-1)).toBitVec = BitVec.allOnes 32 := by decide
    rw [this, BitVec.getLsbD_allOnes]
    exact decide_eq_true hi
  have e2 : (0 : Int32).toBitVec.getLsbD i = false := by
    have : (0 : Int32).toBitVec = 0#32 := by decide
    rw [this, BitVec.getLsbD_zero]
  rw [e1, e2] at h3
  rw [BitVec.getLsbD_and]
  cases hx : x.toBitVec.getLsbD i <;> cases hy : y.toBitVec.getLsbD i <;> simp_all
theorem andn_zero {z w x y : Int32} {X Y : Int} (hz : z = x &&& w) (hw : w = y ^^^ (Int32.ofInt (-1))) (h : z.toInt = 0) (hX : x.toInt = X) (hY : y.toInt = Y) (h0 : 0 ≤ Y) : 0 ≤ X ∧ X ≤ Y := by
  have e : z = 0 := Int32.toInt_inj.mp (by rw [h]; decide)
  subst hw
  rw [e] at hz
  have := Int32_and_not x y hz.symm
  have h2 := andR_rng (x := x) hY h0
  rw [this, hX] at h2
  exact h2
theorem andn_rng {z w x : Int32} {X u : Int} (hz : z = x &&& w) (hX : x.toInt = X) (h0 : 0 ≤ X) (hu : X ≤ u) : 0 ≤ z.toInt ∧ z.toInt ≤ u := by
  rw [hz]; exact andx_rng hX h0 hu
section EN2
variable {fr lo : Nat} {scr : AS} {F : MR} {P : PO} {pc pc' len tgt : Nat} {i : Instr} {lv lv' : ALv} {st st' r : List Value} {σ σ0 : SG} {W : List (Nat × Nat)}
theorem En_topL {x : Int64} {X : Int} (hX : x.toInt = X) (k : ∀ z : Int64, z.toInt = X → En fr lo scr F P pc lv (.long z :: r) σ) : En fr lo scr F P pc lv (.long x :: r) σ := k x hX
theorem En_lv1 {j : Nat} {x : Int32} {X : Int} {t : ALv} (hX : x.toInt = X) (k : ∀ z : Int32, z.toInt = X → En fr lo scr F P pc ((j, .int z) :: t) st σ) : En fr lo scr F P pc ((j, .int x) :: t) st σ := k x hX
theorem En_lv1h {j : Nat} {x : Int32} {t : ALv} (k : ∀ z : Int32, En fr lo scr F P pc ((j, .int z) :: t) st σ) : En fr lo scr F P pc ((j, .int x) :: t) st σ := k x
theorem En_alenN {a g n : Nat} (hf : fc F pc = some (.arraylength, len, tgt)) (ha : TG a = g) (hg : ((KD g == 1 || KD g == 2 || KD g == 3) && decide (CL g < 7) && decide (g < 900)) = true) (hn : LN g = n) (hσ : WT σ) (k : En fr lo scr F P (pc + 1) lv (.int (Int32.ofNat n) :: r) σ) : En fr lo scr F P pc lv (.ref a :: r) σ := En_alen hf ha hg hσ (by rw [hn]; exact k)
/-- a field that holds the one cell of its tag -/
theorem En_getU {a g j g' u : Nat} {x : Nat} {q : Int} {e : Nat × Nat × Nat × Nat × Nat} (hf : fc F pc = some (.getfield x, len, tgt)) (he : fnd (mfl F) x = some e) (hj : e.2.1 = j) (ha : TG a = g) (hg : (KD g == 0 && CL g == e.1 && decide (e.2.1 < LN g) && decide (g < 900)) = true) (hσ : WT σ) (ht : FT g j = (2, (g' : Int), q)) (hu : (decide (g' < 900) && (List.range NCEL).all (fun b => decide (TG b = g' → b = u))) = true) (k : (σ a)[j]? = some (.ref u) → En fr lo scr F P (pc + 3) lv (.ref u :: r) σ) : En fr lo scr F P pc lv (.ref a :: r) σ := by
  refine En_getR hf he hj ha hg hσ ht (fun y hy hty => ?_)
  rw [Bool.and_eq_true] at hu
  have h1 := List.all_eq_true.mp hu.2 y (List.mem_range.mpr (TG_lt hty (of_decide_eq_true hu.1)))
  have h2 : y = u := of_decide_eq_true h1 hty
  subst h2
  exact k hy
theorem En_lgLt {x y : Int64} {X Y : Int} (o : Int) (hX : x.toInt = X) (hY : y.toInt = Y) (hf : fc F pc = some (.ifCond .lt o, len, tgt)) (k1 : X < Y → En fr lo scr F P tgt lv r σ) (k2 : Y ≤ X → En fr lo scr F P (pc + 3) lv r σ) : En fr lo scr F P pc lv (.int (lg_cmp x y) :: r) σ :=
  En_iLt o rfl hf (fun h => k1 (by rcases Int.lt_or_le X Y with z | z; exact z; exact absurd (Int32.lt_iff_toInt_lt.mpr h) (lgF_lt (by omega)))) (fun h => k2 (by rcases Int.lt_or_le X Y with z | z; exact absurd (Int32.lt_iff_toInt_lt.mp (lgT_lt (by omega : x.toInt < y.toInt))) (by rw [z32]; omega); exact z))
theorem En_lgGe {x y : Int64} {X Y : Int} (o : Int) (hX : x.toInt = X) (hY : y.toInt = Y) (hf : fc F pc = some (.ifCond .ge o, len, tgt)) (k1 : Y ≤ X → En fr lo scr F P tgt lv r σ) (k2 : X < Y → En fr lo scr F P (pc + 3) lv r σ) : En fr lo scr F P pc lv (.int (lg_cmp x y) :: r) σ :=
  En_iGe o rfl hf (fun h => k1 (by rcases Int.lt_or_le X Y with z | z; exact absurd (Int32.lt_iff_toInt_lt.mp (lgT_lt (by omega : x.toInt < y.toInt))) (by rw [z32]; omega); exact z)) (fun h => k2 (by rcases Int.lt_or_le X Y with z | z; exact z; exact absurd (Int32.lt_iff_toInt_lt.mpr h) (lgF_lt (by omega))))
theorem En_lgGt {x y : Int64} {X Y : Int} (o : Int) (hX : x.toInt = X) (hY : y.toInt = Y) (hf : fc F pc = some (.ifCond .gt o, len, tgt)) (k1 : Y < X → En fr lo scr F P tgt lv r σ) (k2 : X ≤ Y → En fr lo scr F P (pc + 3) lv r σ) : En fr lo scr F P pc lv (.int (lg_cmp x y) :: r) σ :=
  En_iGt o rfl hf (fun h => k1 (by rcases Int.lt_or_le Y X with z | z; exact z; exact absurd (show (0 : Int32) < lg_cmp x y from Int32.lt_iff_toInt_lt.mpr (by rw [z32]; exact h)) (lgF_gt (by omega)))) (fun h => k2 (by rcases Int.lt_or_le Y X with z | z; exact absurd (Int32.lt_iff_toInt_lt.mp (lgT_gt (by omega : y.toInt < x.toInt))) (by rw [z32]; omega); exact z))
theorem En_lgLe {x y : Int64} {X Y : Int} (o : Int) (hX : x.toInt = X) (hY : y.toInt = Y) (hf : fc F pc = some (.ifCond .le o, len, tgt)) (k1 : X ≤ Y → En fr lo scr F P tgt lv r σ) (k2 : Y < X → En fr lo scr F P (pc + 3) lv r σ) : En fr lo scr F P pc lv (.int (lg_cmp x y) :: r) σ :=
  En_iLe o rfl hf (fun h => k1 (by rcases Int.lt_or_le Y X with z | z; exact absurd (Int32.lt_iff_toInt_lt.mp (lgT_gt (by omega : y.toInt < x.toInt))) (by rw [z32]; omega); exact z)) (fun h => k2 (by rcases Int.lt_or_le Y X with z | z; exact z; exact absurd (show (0 : Int32) < lg_cmp x y from Int32.lt_iff_toInt_lt.mpr (by rw [z32]; exact h)) (lgF_gt (by omega))))
theorem lg_eq0 {x y : Int64} {X Y : Int} (hX : x.toInt = X) (hY : y.toInt = Y) : (lg_cmp x y).toInt = 0 ↔ X = Y := by
  rcases Int.lt_trichotomy X Y with z | z | z
  · have := Int32.lt_iff_toInt_lt.mp (lgT_lt (by omega : x.toInt < y.toInt)); rw [z32] at this; omega
  · have h1 : ¬ (lg_cmp x y).toInt < 0 := fun h => lgF_lt (by omega : ¬ x.toInt < y.toInt) (Int32.lt_iff_toInt_lt.mpr (by rw [z32]; exact h))
    have h2 : ¬ 0 < (lg_cmp x y).toInt := fun h => lgF_gt (by omega : ¬ y.toInt < x.toInt) (show (0 : Int32) < lg_cmp x y from Int32.lt_iff_toInt_lt.mpr (by rw [z32]; exact h))
    omega
  · have := Int32.lt_iff_toInt_lt.mp (show (0 : Int32) < lg_cmp x y from lgT_gt (by omega : y.toInt < x.toInt)); rw [z32] at this; omega
theorem En_lgNe {x y : Int64} {X Y : Int} (o : Int) (hX : x.toInt = X) (hY : y.toInt = Y) (hf : fc F pc = some (.ifCond .ne o, len, tgt)) (k1 : X ≠ Y → En fr lo scr F P tgt lv r σ) (k2 : X = Y → En fr lo scr F P (pc + 3) lv r σ) : En fr lo scr F P pc lv (.int (lg_cmp x y) :: r) σ :=
  En_iNe o rfl hf (fun h => k1 (fun z => h ((lg_eq0 hX hY).mpr z))) (fun h => k2 ((lg_eq0 hX hY).mp h))
theorem En_lgEq {x y : Int64} {X Y : Int} (o : Int) (hX : x.toInt = X) (hY : y.toInt = Y) (hf : fc F pc = some (.ifCond .eq o, len, tgt)) (k1 : X = Y → En fr lo scr F P tgt lv r σ) (k2 : X ≠ Y → En fr lo scr F P (pc + 3) lv r σ) : En fr lo scr F P pc lv (.int (lg_cmp x y) :: r) σ :=
  En_iEq o rfl hf (fun h => k1 ((lg_eq0 hX hY).mp h)) (fun h => k2 (fun z => h ((lg_eq0 hX hY).mpr z)))
theorem En_idiv {x y : Int32} {X c : Int} (hf : fc F pc = some (.idiv, len, tgt)) (hX : x.toInt = X) (hY : y.toInt = c) (h0 : 0 ≤ X) (hc : 0 < c) (k : ∀ z : Int32, z.toInt = X / c → En fr lo scr F P (pc + 1) lv (.int z :: r) σ) : En fr lo scr F P pc lv (.int y :: .int x :: r) σ :=
  En_P1 hf rfl (pc' := pc + 1) (lv' := lv) (st' := .int (x / y) :: r) (oC_mk (decide_eq_true (fun z => by rw [z, z32] at hY; omega)) rfl) (k _ (divI hX hY h0 hc))
theorem En_irem {x y : Int32} {X c : Int} (hf : fc F pc = some (.irem, len, tgt)) (hX : x.toInt = X) (hY : y.toInt = c) (h0 : 0 ≤ X) (hc : 0 < c) (k : ∀ z : Int32, z.toInt = X % c → En fr lo scr F P (pc + 1) lv (.int z :: r) σ) : En fr lo scr F P pc lv (.int y :: .int x :: r) σ :=
  En_P1 hf rfl (pc' := pc + 1) (lv' := lv) (st' := .int (x - x / y * y) :: r) (oC_mk (decide_eq_true (fun z => by rw [z, z32] at hY; omega)) rfl) (k _ (remI hX hY h0 hc))
theorem En_ldiv {x y : Int64} {X c : Int} (hf : fc F pc = some (.ldiv, len, tgt)) (hX : x.toInt = X) (hY : y.toInt = c) (h0 : 0 ≤ X) (hc : 0 < c) (k : ∀ z : Int64, z.toInt = X / c → En fr lo scr F P (pc + 1) lv (.long z :: r) σ) : En fr lo scr F P pc lv (.long y :: .long x :: r) σ :=
  En_P1 hf rfl (pc' := pc + 1) (lv' := lv) (st' := .long (x / y) :: r) (oC_mk (decide_eq_true (nz64 hY hc)) rfl) (k _ (divL hX hY h0 hc))
theorem En_lrem {x y : Int64} {X c : Int} (hf : fc F pc = some (.lrem, len, tgt)) (hX : x.toInt = X) (hY : y.toInt = c) (h0 : 0 ≤ X) (hc : 0 < c) (k : ∀ z : Int64, z.toInt = X % c → En fr lo scr F P (pc + 1) lv (.long z :: r) σ) : En fr lo scr F P pc lv (.long y :: .long x :: r) σ :=
  En_P1 hf rfl (pc' := pc + 1) (lv' := lv) (st' := .long (x - x / y * y) :: r) (oC_mk (decide_eq_true (nz64 hY hc)) rfl) (k _ (remL hX hY h0 hc))
theorem En_nam {x : Int32} (k : ∀ z : Int32, z = x → En fr lo scr F P pc lv (.int z :: r) σ) : En fr lo scr F P pc lv (.int x :: r) σ := k x rfl
theorem En_lsw {dflt n : Int} {ps : Array (Int × Int)} {v : Int32} {V : Int} {t : Nat} (hV : v.toInt = V) (hn : V = n) (hf : fc F pc = some (.lookupswitch dflt ps, len, tgt)) (ht : ((ps.toList.zip (ps.toList.drop 1)).all (fun (a, next) => a.1 < next.1) && decide ((pc : Int) + Op.lookupswitch.offset ps.toList dflt n = (t : Int))) = true) (k : En fr lo scr F P t lv r σ) : En fr lo scr F P pc lv (.int v :: r) σ := by
  rw [Bool.and_eq_true, decide_eq_true_eq] at ht
  obtain ⟨h1, h2⟩ := ht
  refine En_P1 hf rfl (pc' := t) (lv' := lv) (st' := r) ?_ k
  refine oC_mk ?_ ?_
  · rw [Bool.and_eq_true, decide_eq_true_eq, hV, hn]
    exact ⟨h1, by omega⟩
  · rw [hV, hn, h2]
    rfl
theorem En_iaK {kd t1 t2 a g : Nat} {j : Int32} {J : Int} {v : Value} (hv : (σ a)[J.toNat]? = some v) (hJ : j.toInt = J) (ha : TG a = g) (hg : (KD g == kd && (CL g == t1 || CL g == t2) && decide (g < 900)) = true) (hσ : WT σ) (h0 : 0 ≤ J) (h1 : J < LN g) : ldR scr kd t1 t2 (.int j :: .ref a :: r) (HP σ) = some (v, r) := by
  obtain ⟨w, hw, -, hl⟩ := ldR_ok (scr := scr) (r := r) ha hg hσ hJ h0 h1
  rw [hv] at hw
  cases hw
  exact hl
theorem En_ialdK {a g : Nat} {j y : Int32} {J : Int} (hv : (σ a)[J.toNat]? = some (.int y)) (hf : fc F pc = some (.iaload, len, tgt)) (hJ : j.toInt = J) (ha : TG a = g) (hg : (KD g == 1 && (CL g == 0 || CL g == 0) && decide (g < 900)) = true) (hσ : WT σ) (h0 : 0 ≤ J) (h1 : J < LN g) (k : En fr lo scr F P (pc + 1) lv (.int y :: r) σ) : En fr lo scr F P pc lv (.int j :: .ref a :: r) σ :=
  En_P1 hf rfl (oB_mk (En_iaK hv hJ ha hg hσ h0 h1) rfl) k
theorem En_idivV {x y : Int32} {X Y : Int} (hf : fc F pc = some (.idiv, len, tgt)) (hX : x.toInt = X) (hY : y.toInt = Y) (h0 : 0 ≤ X) (hc : 0 < Y) (k : ∀ z : Int32, 0 ≤ z.toInt → z.toInt ≤ X → En fr lo scr F P (pc + 1) lv (.int z :: r) σ) : En fr lo scr F P pc lv (.int y :: .int x :: r) σ :=
  En_idiv hf hX hY h0 hc (fun z hz => k z (by rw [hz]; exact Int.ediv_nonneg h0 (by omega)) (by rw [hz]; exact Int.ediv_le_self Y h0))
theorem En_iremV {x y : Int32} {X Y : Int} (hf : fc F pc = some (.irem, len, tgt)) (hX : x.toInt = X) (hY : y.toInt = Y) (h0 : 0 ≤ X) (hc : 0 < Y) (k : ∀ z : Int32, 0 ≤ z.toInt → z.toInt < Y → En fr lo scr F P (pc + 1) lv (.int z :: r) σ) : En fr lo scr F P pc lv (.int y :: .int x :: r) σ :=
  En_irem hf hX hY h0 hc (fun z hz => k z (by rw [hz]; exact Int.emod_nonneg X (by omega)) (by rw [hz]; exact Int.emod_lt_of_pos X hc))
theorem En_swO {dflt lo_ hi_ : Int} {offs : Array Int} {v : Int32} {V : Int} {t : Nat} (hV : v.toInt = V) (hc : V < lo_ ∨ hi_ < V) (hf : fc F pc = some (.tableswitch dflt lo_ hi_ offs, len, tgt)) (ht : (pc : Int) + dflt = (t : Int)) (k : En fr lo scr F P t lv r σ) : En fr lo scr F P pc lv (.int v :: r) σ := by
  obtain ⟨w, σ', g, p⟩ := k
  exact ⟨w, σ', Go_swO hf (by rw [hV]; exact hc) ht g, p⟩
theorem En_swI {dflt lo_ hi_ n : Int} {offs : Array Int} {v : Int32} {V : Int} {t : Nat} (hV : v.toInt = V) (hn : V = n) (hf : fc F pc = some (.tableswitch dflt lo_ hi_ offs, len, tgt)) (ht : (decide (lo_ ≤ n ∧ n ≤ hi_) && (match offs[(n - lo_).toNat]? with | some o => decide ((pc : Int) + o = (t : Int)) | none => false)) = true) (k : En fr lo scr F P t lv r σ) : En fr lo scr F P pc lv (.int v :: r) σ := by
  rw [Bool.and_eq_true, decide_eq_true_eq] at ht
  obtain ⟨h1, h2⟩ := ht
  split at h2
  · rename_i o ho
    obtain ⟨w, σ', g, p⟩ := k
    refine ⟨w, σ', Go_swI (o := o) (t := t) hf (by rw [hV, hn]; omega) ?_ (of_decide_eq_true h2) g, p⟩
    rw [hV, hn]
    exact ho
  · cases h2
end EN2
theorem shl1_p {y : Int32} {Y : Int} (b : Nat) (hY : y.toInt = Y) (h0 : 0 ≤ Y) (h1 : Y ≤ b) (hb : b ≤ 16) : (1 : Int) ≤ ((Int32.ofInt 1) <<< (y &&& 31)).toInt ∧ ((Int32.ofInt 1) <<< (y &&& 31)).toInt ≤ ((2 ^ b : Nat) : Int) := by
  have key : ∀ n : Nat, n ≤ 16 → ((Int32.ofInt 1) <<< ((Int32.ofNat n) &&& 31)).toInt = ((2 ^ n : Nat) : Int) := by decide
  obtain ⟨n, rfl⟩ : ∃ n : Nat, Y = n := ⟨Y.toNat, by omega⟩
  have e : y = Int32.ofNat n := Int32.toInt_inj.mp (by
    rw [hY]
    have : ∀ m : Nat, m ≤ 16 → (Int32.ofNat m).toInt = (m : Int) := by decide
    exact (this n (by omega)).symm)
  rw [e, key n (by omega)]
  have h2 : 2 ^ n ≤ 2 ^ b := Nat.pow_le_pow_right (by decide) (by omega)
  have h3 : 1 ≤ 2 ^ n := Nat.one_le_two_pow
  omega
