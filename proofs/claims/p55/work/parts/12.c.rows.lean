/-! 12.c.rows -/
section
/-! FURTHER ROWS of typed runs -/
theorem neTG {a b g g' : Nat} (ha : TG a = g) (hb : TG b = g') (h : g ≠ g') : a ≠ b := fun e => h (by rw [← ha, ← hb, e])
theorem inW {W : List (Nat × Nat)} {b g i : Nat} (hb : TG b = g) (h : W.contains (g, SL g i) = false) : W.contains (TG b, SL (TG b) i) = false := by rw [hb]; exact h
theorem inWa {W : List (Nat × Nat)} {b g i : Nat} (hb : TG b = g) (h : (decide (KD g ≠ 0) && !W.contains (g, 0)) = true) : W.contains (TG b, SL (TG b) i) = false := by
  simp only [Bool.and_eq_true, decide_eq_true_eq, Bool.not_eq_true'] at h
  rw [hb]
  unfold SL
  rw [if_neg h.1]
  exact h.2
theorem vI {g j : Nat} {l u : Int} {y : Int32} {Y : Int} (ht : FT g j = (0, l, u)) (hY : y.toInt = Y) (h1 : l ≤ Y) (h2 : Y ≤ u) : vOK (FT g j) (.int y) := by
  rw [ht]; exact ⟨rfl, by dsimp only; omega, by dsimp only; omega⟩
theorem vR {g j g' a : Nat} {u : Int} (ht : FT g j = (2, (g' : Int), u)) (h : TG a = g') : vOK (FT g j) (.ref a) := by
  rw [ht]; exact ⟨rfl, by dsimp only; omega⟩
theorem fullI (y : Int32) : (-2147483648 : Int) ≤ y.toInt ∧ y.toInt ≤ 2147483647 := by
  have h1 := Int32.le_toInt y
  have h2 := Int32.toInt_lt y
  omega
theorem vF {g j : Nat} {y : Int32} (ht : FT g j = (0, -2147483648, 2147483647)) : vOK (FT g j) (.int y) := by
  rw [ht]; exact ⟨rfl, fullI y⟩
theorem WT_peekI {σ : SG} {a g j : Nat} {l u : Int} (hσ : WT σ) (ha : TG a = g) (ht : FT g j = (0, l, u)) (hg : (decide (g < 900) && decide (j < LN g)) = true) : ∃ y : Int32, (σ a)[j]? = some (Value.int y) ∧ l ≤ y.toInt ∧ y.toInt ≤ u := by
  simp only [Bool.and_eq_true, decide_eq_true_eq] at hg
  obtain ⟨v, hv, hk⟩ := WT_at hσ ha hg.1 hg.2
  rw [ht] at hk
  obtain ⟨y, rfl, h2, h3⟩ := vOK_int hk
  exact ⟨y, hv, h2, h3⟩
theorem WT_peekR {σ : SG} {a g j g' : Nat} {u : Int} (hσ : WT σ) (ha : TG a = g) (ht : FT g j = (2, (g' : Int), u)) (hg : (decide (g < 900) && decide (j < LN g)) = true) : ∃ y : Nat, (σ a)[j]? = some (Value.ref y) ∧ TG y = g' := by
  simp only [Bool.and_eq_true, decide_eq_true_eq] at hg
  obtain ⟨v, hv, hk⟩ := WT_at hσ ha hg.1 hg.2
  rw [ht] at hk
  obtain ⟨y, rfl, h2⟩ := vOK_ref hk
  exact ⟨y, hv, h2⟩
theorem FTsgl {g j : Nat} {t : Nat × Int × Int} (h : (decide (KD g ≠ 0) && decide ((TY g).2.2.2.length = 1) && decide (FT g 0 = t)) = true) : FT g j = t := by
  simp only [Bool.and_eq_true, decide_eq_true_eq] at h
  rw [FT_one h.1.1 h.1.2]
  exact h.2
theorem FTrow (g j0 step n : Nat) {J : Int} {t : Nat × Int × Int} (h : (decide (0 < step) && (List.range n).all (fun k => decide (FT g (j0 + step * k) = t))) = true) (h1 : (j0 : Int) ≤ J) (h2 : J < (j0 : Int) + (step : Int) * (n : Int)) (h3 : (J - (j0 : Int)) % (step : Int) = 0) : FT g J.toNat = t := by
  rw [Bool.and_eq_true, decide_eq_true_eq] at h
  obtain ⟨hs, hall⟩ := h
  obtain ⟨q, hq⟩ := Int.dvd_of_emod_eq_zero h3
  have hs2 : (0 : Int) < (step : Int) := by omega
  have q0 : 0 ≤ q := by
    rcases Int.lt_or_le q 0 with z | z
    · have := Int.mul_neg_of_pos_of_neg hs2 z
      omega
    · exact z
  have qn : q < n := by
    rcases Int.lt_or_le q n with z | z
    · exact z
    · have := Int.mul_le_mul_of_nonneg_left z (Int.le_of_lt hs2)
      omega
  have e : J = ((j0 + step * q.toNat : Nat) : Int) := by
    rw [Int.natCast_add, Int.natCast_mul, Int.toNat_of_nonneg q0]
    omega
  rw [e, Int.toNat_natCast]
  exact of_decide_eq_true (List.all_eq_true.mp hall q.toNat (List.mem_range.mpr (by omega)))
theorem or_rng {x y : Int32} {X Y : Int} (k : Nat) (hX : x.toInt = X) (hY : y.toInt = Y) (h0 : 0 ≤ X) (h1 : X < ((2 ^ k : Nat) : Int)) (h2 : 0 ≤ Y) (h3 : Y < ((2 ^ k : Nat) : Int)) (hk : k < 31) : 0 ≤ (x ||| y).toInt ∧ (x ||| y).toInt ≤ ((2 ^ k : Nat) : Int) - 1 := by
  have nn : ∀ z : Int32, 0 ≤ z.toInt → z.toInt = (z.toBitVec.toNat : Int) := by
    intro z hz
    show z.toBitVec.toInt = _
    have h : z.toInt = z.toBitVec.toInt := rfl
    rw [h, BitVec.toInt_eq_toNat_cond] at hz
    rw [BitVec.toInt_eq_toNat_cond]
    split at hz
    · rename_i c; rw [if_pos c]
    · exfalso
      have := z.toBitVec.isLt
      omega
  have ex := nn x (by omega)
  have ey := nn y (by omega)
  have hl : (x ||| y).toBitVec.toNat < 2 ^ k := by
    rw [Int32.toBitVec_or, BitVec.toNat_or]
    exact Nat.or_lt_two_pow (by omega) (by omega)
  have hp : 2 ^ k ≤ 2 ^ 30 := Nat.pow_le_pow_right (by decide) (by omega)
  have e : (x ||| y).toInt = ((x ||| y).toBitVec.toNat : Int) := by
    show (x ||| y).toBitVec.toInt = _
    rw [BitVec.toInt_eq_toNat_cond, if_pos (by omega)]
  omega
theorem okZ {y : Int32} {Y : Int} (hY : y.toInt = Y) (h1 : 0 ≤ Y) (h2 : Y ≤ 1) : okFit .boolean (.int y) = true := by
  rcases (show Y = 0 ∨ Y = 1 by omega) with z | z
  · have : y = 0 := Int32.toInt_inj.mp (by rw [hY, z]; decide)
    subst this; decide
  · have : y = 1 := Int32.toInt_inj.mp (by rw [hY, z]; decide)
    subst this; decide
theorem rngI {l u : Int} {y : Int32} {Y : Int} (hY : y.toInt = Y) (h1 : l ≤ Y) (h2 : Y ≤ u) : l ≤ y.toInt ∧ y.toInt ≤ u := by omega
theorem fullL (y : Int64) : (-9223372036854775808 : Int) ≤ y.toInt ∧ y.toInt ≤ 9223372036854775807 := by
  have h1 := Int64.le_toInt y
  have h2 := Int64.toInt_lt y
  omega
theorem geI {l : Int} {y : Int32} {Y : Int} (hY : y.toInt = Y) (h : l ≤ Y) : l ≤ y.toInt := by omega
theorem leI {u : Int} {y : Int32} {Y : Int} (hY : y.toInt = Y) (h : Y ≤ u) : y.toInt ≤ u := by omega
theorem lnI {g n : Nat} {J : Int} (h : LN g = n) (hj : J < (n : Int)) : J < (LN g : Int) := by rw [h]; exact hj
theorem WT_int {σ : SG} {a g j : Nat} {l u : Int} {y : Int32} (hσ : WT σ) (ha : TG a = g) (hg : g < 900) (ht : FT g j = (0, l, u)) (h : (σ a)[j]? = some (Value.int y)) : l ≤ y.toInt ∧ y.toInt ≤ u := by
  have h1 := (hσ a (TG_lt ha hg)).2 j _ h
  rw [ha, ht] at h1
  exact h1.2
theorem i2lI {x : Int32} {X : Int} (h : x.toInt = X) : x.toInt64.toInt = X := by rw [Int32.toInt_toInt64]; exact h
theorem addL {x y : Int64} {X Y : Int} (hX : x.toInt = X) (hY : y.toInt = Y) (h1 : -9223372036854775808 ≤ X + Y) (h2 : X + Y ≤ 9223372036854775807) : (x + y).toInt = X + Y := by
  rw [Int64.toInt_add, hX, hY]
  exact Int.bmod_eq_of_le (by omega) (by omega)
theorem subL {x y : Int64} {X Y : Int} (hX : x.toInt = X) (hY : y.toInt = Y) (h1 : -9223372036854775808 ≤ X - Y) (h2 : X - Y ≤ 9223372036854775807) : (x - y).toInt = X - Y := by
  rw [Int64.toInt_sub, hX, hY]
  exact Int.bmod_eq_of_le (by omega) (by omega)
theorem mulL {x y : Int64} {X Y Z : Int} (hX : x.toInt = X) (hY : y.toInt = Y) (hZ : X * Y = Z) (h1 : -9223372036854775808 ≤ Z) (h2 : Z ≤ 9223372036854775807) : (x * y).toInt = Z := by
  rw [Int64.toInt_mul, hX, hY, hZ]
  exact Int.bmod_eq_of_le (by omega) (by omega)
theorem and1 {x : Int32} {X : Int} (hX : x.toInt = X) (h0 : 0 ≤ X) (h1 : X ≤ 1) : (x &&& 1 == x) = true := by
  rcases (show X = 0 ∨ X = 1 by omega) with z | z
  · have : x = 0 := Int32.toInt_inj.mp (by rw [hX, z]; decide)
    subst this; decide
  · have : x = 1 := Int32.toInt_inj.mp (by rw [hX, z]; decide)
    subst this; decide
theorem retZ {F : MR} {x : Int32} {X : Int} {h : AH} (hm : mret F = some .boolean) (hX : x.toInt = X) (h0 : 0 ≤ X) (h1 : X ≤ 1) : doRet F .ireturn [.int x] h = some (some (.int x), h) := by
  unfold doRet
  dsimp only
  rw [hm]
  exact oC_mk (and1 hX h0 h1) rfl
theorem narB {y : Int32} {Y : Int} (hY : y.toInt = Y) (h0 : -128 ≤ Y) (h1 : Y ≤ 127) : vp_nar .byte y = y := by
  rw [vp_nar_byte]
  apply Int32.toInt_inj.mp
  rw [Int8.toInt_toInt32, Int32.toInt_toInt8, hY]
  exact Int.bmod_eq_of_le (by omega) (by omega)
theorem narZ {y : Int32} {Y : Int} (hY : y.toInt = Y) (h0 : 0 ≤ Y) (h1 : Y ≤ 1) : vp_nar .boolean y = y := by
  rcases (show Y = 0 ∨ Y = 1 by omega) with z | z
  · have : y = 0 := Int32.toInt_inj.mp (by rw [hY, z]; decide)
    subst this; decide
  · have : y = 1 := Int32.toInt_inj.mp (by rw [hY, z]; decide)
    subst this; decide
theorem i2b_rng (x : Int32) : (-128 : Int) ≤ x.toInt8.toInt32.toInt ∧ x.toInt8.toInt32.toInt ≤ 127 := by
  rw [Int8.toInt_toInt32]
  have h1 := Int8.le_toInt x.toInt8
  have h2 := Int8.toInt_lt x.toInt8
  omega
theorem andN (x m : Int32) {n : Int} (hm : m.toInt = n) (h : 0 ≤ n) : (0 : Int) ≤ (x &&& m).toInt ∧ (x &&& m).toInt ≤ n := by
  have e : m.toInt = (m.toBitVec.toNat : Int) := by
    have h1 : 2 * m.toBitVec.toNat < 2 ^ 32 := by
      rcases Nat.lt_or_ge (2 * m.toBitVec.toNat) (2 ^ 32) with z | z
      · exact z
      · exfalso
        have : m.toInt = m.toBitVec.toInt := rfl
        rw [this, BitVec.toInt_eq_toNat_cond, if_neg (by omega)] at hm
        have := m.toBitVec.isLt
        omega
    show m.toBitVec.toInt = _
    rw [BitVec.toInt_eq_toNat_cond, if_pos h1]
  have h2 : (x &&& m).toBitVec.toNat ≤ m.toBitVec.toNat := by
    rw [Int32.toBitVec_and, BitVec.toNat_and]
    exact Nat.and_le_right
  have h3 : (x &&& m).toInt = ((x &&& m).toBitVec.toNat : Int) := by
    show (x &&& m).toBitVec.toInt = _
    have := m.toBitVec.isLt
    have hlt : (m.toBitVec.toNat : Int) < 2 ^ 31 := by
      have := Int32.toInt_lt m
      omega
    rw [BitVec.toInt_eq_toNat_cond, if_pos (by omega)]
  omega
theorem andR_rng {x m : Int32} {n : Int} (hm : m.toInt = n) (h : 0 ≤ n) : (0 : Int) ≤ (x &&& m).toInt ∧ (x &&& m).toInt ≤ n := andN x m hm h
theorem andL_rng {x m : Int32} {n : Int} (hm : m.toInt = n) (h : 0 ≤ n) : (0 : Int) ≤ (m &&& x).toInt ∧ (m &&& x).toInt ≤ n := by
  rw [Int32.and_comm]; exact andN x m hm h
theorem andx_rng {x y : Int32} {X u : Int} (hX : x.toInt = X) (h : 0 ≤ X) (hu : X ≤ u) : (0 : Int) ≤ (x &&& y).toInt ∧ (x &&& y).toInt ≤ u := by
  have := andL_rng (x := y) hX h
  omega
theorem divI {x y : Int32} {X c : Int} (hX : x.toInt = X) (hY : y.toInt = c) (h0 : 0 ≤ X) (hc : 0 < c) : (x / y).toInt = X / c := by
  have h2 := Int32.toInt_lt x
  have h3 : X / c ≤ X := Int.ediv_le_self c h0
  have h4 : 0 ≤ X / c := Int.ediv_nonneg h0 (by omega)
  rw [Int32.toInt_div, hX, hY, Int.tdiv_eq_ediv_of_nonneg h0]
  exact Int.bmod_eq_of_le (by omega) (by omega)
theorem remI {x y : Int32} {X c : Int} (hX : x.toInt = X) (hY : y.toInt = c) (h0 : 0 ≤ X) (hc : 0 < c) : (x - x / y * y).toInt = X % c := by
  have h2 := Int32.toInt_lt x
  have h3 : X / c ≤ X := Int.ediv_le_self c h0
  have h4 : 0 ≤ X / c := Int.ediv_nonneg h0 (by omega)
  have h5 := Int.emod_nonneg X (show c ≠ 0 by omega)
  have h6 := Int.emod_add_mul_ediv X c
  have h7 : X / c * c = X - X % c := by rw [Int.mul_comm]; omega
  have h8 : 0 ≤ X / c * c := Int.mul_nonneg h4 (by omega)
  have hm : (x / y * y).toInt = X - X % c := mulI (divI hX hY h0 hc) hY h7 (by omega) (by omega)
  have := subI hX hm (by omega) (by omega)
  omega
theorem nz64 {y : Int64} {c : Int} (hY : y.toInt = c) (hc : 0 < c) : ¬ y = 0 := by
  intro z
  subst z
  have : (0 : Int64).toInt = 0 := by decide
  omega
theorem divL {x y : Int64} {X c : Int} (hX : x.toInt = X) (hY : y.toInt = c) (h0 : 0 ≤ X) (hc : 0 < c) : (x / y).toInt = X / c := by
  have h2 := Int64.toInt_lt x
  have h3 : X / c ≤ X := Int.ediv_le_self c h0
  have h4 : 0 ≤ X / c := Int.ediv_nonneg h0 (by omega)
  rw [Int64.toInt_div, hX, hY, Int.tdiv_eq_ediv_of_nonneg h0]
  exact Int.bmod_eq_of_le (by omega) (by omega)
theorem remL {x y : Int64} {X c : Int} (hX : x.toInt = X) (hY : y.toInt = c) (h0 : 0 ≤ X) (hc : 0 < c) : (x - x / y * y).toInt = X % c := by
  have h2 := Int64.toInt_lt x
  have h3 : X / c ≤ X := Int.ediv_le_self c h0
  have h4 : 0 ≤ X / c := Int.ediv_nonneg h0 (by omega)
  have h5 := Int.emod_nonneg X (show c ≠ 0 by omega)
  have h6 := Int.emod_add_mul_ediv X c
  have h7 : X / c * c = X - X % c := by rw [Int.mul_comm]; omega
  have h8 : 0 ≤ X / c * c := Int.mul_nonneg h4 (by omega)
  have hm : (x / y * y).toInt = X - X % c := mulL (divL hX hY h0 hc) hY h7 (by omega) (by omega)
  have := subL hX hm (by omega) (by omega)
  omega
theorem Int32_and_not (x y : Int32) (h : x &&& (y ^^^ (Int32.ofInt (-1))) = 0) : x &&& y = x := by
  apply Int32.toBitVec_inj.mp
  have h2 := congrArg Int32.toBitVec h
  rw [Int32.toBitVec_and, Int32.toBitVec_xor] at h2
  rw [Int32.toBitVec_and]
  apply BitVec.eq_of_getLsbD_eq
  intro i hi
  have h3 := congrArg (fun b => b.getLsbD i) h2
  try dsimp only at h3
  rw [BitVec.getLsbD_and, BitVec.getLsbD_xor] at h3
  have e1 : (Int32.ofInt (-1)).toBitVec.getLsbD i = true := by
    have : (Int32.ofInt (-1)).toBitVec = BitVec.allOnes 32 := by decide
    rw [this, BitVec.getLsbD_allOnes]
    exact decide_eq_true hi
  have e2 : (0 : Int32).toBitVec.getLsbD i = false := by
    have : (0 : Int32).toBitVec = 0#32 := by decide
    rw [this, BitVec.getLsbD_zero]
  rw [e1, e2] at h3
  rw [BitVec.getLsbD_and]
  cases hx : x.toBitVec.getLsbD i <;> cases hy : y.toBitVec.getLsbD i <;> simp_all
theorem andn_zero {z w x y : Int32} {X Y : Int} (hz : z = x &&& w) (hw : w = y ^^^ (Int32.ofInt (-1))) (h : z.toInt = 0) (hX : x.toInt = X) (hY : y.toInt = Y) (h0 : 0 ≤ Y) : 0 ≤ X ∧ X ≤ Y := by
  have e : z = 0 := Int32.toInt_inj.mp (by rw [h]; decide)
  subst hw
  rw [e] at hz
  have := Int32_and_not x y hz.symm
  have h2 := andR_rng (x := x) hY h0
  rw [this, hX] at h2
  exact h2
theorem andn_rng {z w x : Int32} {X u : Int} (hz : z = x &&& w) (hX : x.toInt = X) (h0 : 0 ≤ X) (hu : X ≤ u) : 0 ≤ z.toInt ∧ z.toInt ≤ u := by
  rw [hz]; exact andx_rng hX h0 hu
section EN2
variable {fr lo : Nat} {scr : AS} {F : MR} {P : PO} {pc pc' len tgt : Nat} {i : Instr} {lv lv' : ALv} {st st' r : List Value} {σ σ0 : SG} {W : List (Nat × Nat)}
theorem En_topL {x : Int64} {X : Int} (hX : x.toInt = X) (k : ∀ z : Int64, z.toInt = X → En fr lo scr F P pc lv (.long z :: r) σ) : En fr lo scr F P pc lv (.long x :: r) σ := k x hX
theorem En_lv1 {j : Nat} {x : Int32} {X : Int} {t : ALv} (hX : x.toInt = X) (k : ∀ z : Int32, z.toInt = X → En fr lo scr F P pc ((j, .int z) :: t) st σ) : En fr lo scr F P pc ((j, .int x) :: t) st σ := k x hX
theorem En_lv1h {j : Nat} {x : Int32} {t : ALv} (k : ∀ z : Int32, En fr lo scr F P pc ((j, .int z) :: t) st σ) : En fr lo scr F P pc ((j, .int x) :: t) st σ := k x
theorem En_alenN {a g n : Nat} (hf : fc F pc = some (.arraylength, len, tgt)) (ha : TG a = g) (hg : ((KD g == 1 || KD g == 2 || KD g == 3) && decide (CL g < 7) && decide (g < 900)) = true) (hn : LN g = n) (hσ : WT σ) (k : En fr lo scr F P (pc + 1) lv (.int (Int32.ofNat n) :: r) σ) : En fr lo scr F P pc lv (.ref a :: r) σ := En_alen hf ha hg hσ (by rw [hn]; exact k)
/-- a field that holds the one cell of its tag -/
theorem En_getU {a g j g' u : Nat} {x : Nat} {q : Int} {e : Nat × Nat × Nat × Nat × Nat} (hf : fc F pc = some (.getfield x, len, tgt)) (he : fnd (mfl F) x = some e) (hj : e.2.1 = j) (ha : TG a = g) (hg : (KD g == 0 && CL g == e.1 && decide (e.2.1 < LN g) && decide (g < 900)) = true) (hσ : WT σ) (ht : FT g j = (2, (g' : Int), q)) (hu : (decide (g' < 900) && (List.range NCEL).all (fun b => decide (TG b = g' → b = u))) = true) (k : (σ a)[j]? = some (Value.ref u) → En fr lo scr F P (pc + 3) lv (.ref u :: r) σ) : En fr lo scr F P pc lv (.ref a :: r) σ := by
  refine En_getR hf he hj ha hg hσ ht (fun y hy hty => ?_)
  rw [Bool.and_eq_true] at hu
  have h1 := List.all_eq_true.mp hu.2 y (List.mem_range.mpr (TG_lt hty (of_decide_eq_true hu.1)))
  have h2 : y = u := of_decide_eq_true h1 hty
  subst h2
  exact k hy
theorem En_lgLt {x y : Int64} {X Y : Int} (o : Int) (hX : x.toInt = X) (hY : y.toInt = Y) (hf : fc F pc = some (.ifCond .lt o, len, tgt)) (k1 : X < Y → En fr lo scr F P tgt lv r σ) (k2 : Y ≤ X → En fr lo scr F P (pc + 3) lv r σ) : En fr lo scr F P pc lv (.int (lg_cmp x y) :: r) σ :=
  En_iLt o rfl hf (fun h => k1 (by rcases Int.lt_or_le X Y with z | z; exact z; exact absurd (Int32.lt_iff_toInt_lt.mpr h) (lgF_lt (by omega)))) (fun h => k2 (by rcases Int.lt_or_le X Y with z | z; exact absurd (Int32.lt_iff_toInt_lt.mp (lgT_lt (by omega : x.toInt < y.toInt))) (by rw [z32]; omega); exact z))
theorem En_lgGe {x y : Int64} {X Y : Int} (o : Int) (hX : x.toInt = X) (hY : y.toInt = Y) (hf : fc F pc = some (.ifCond .ge o, len, tgt)) (k1 : Y ≤ X → En fr lo scr F P tgt lv r σ) (k2 : X < Y → En fr lo scr F P (pc + 3) lv r σ) : En fr lo scr F P pc lv (.int (lg_cmp x y) :: r) σ :=
  En_iGe o rfl hf (fun h => k1 (by rcases Int.lt_or_le X Y with z | z; exact absurd (Int32.lt_iff_toInt_lt.mp (lgT_lt (by omega : x.toInt < y.toInt))) (by rw [z32]; omega); exact z)) (fun h => k2 (by rcases Int.lt_or_le X Y with z | z; exact z; exact absurd (Int32.lt_iff_toInt_lt.mpr h) (lgF_lt (by omega))))
theorem En_lgGt {x y : Int64} {X Y : Int} (o : Int) (hX : x.toInt = X) (hY : y.toInt = Y) (hf : fc F pc = some (.ifCond .gt o, len, tgt)) (k1 : Y < X → En fr lo scr F P tgt lv r σ) (k2 : X ≤ Y → En fr lo scr F P (pc + 3) lv r σ) : En fr lo scr F P pc lv (.int (lg_cmp x y) :: r) σ :=
  En_iGt o rfl hf (fun h => k1 (by rcases Int.lt_or_le Y X with z | z; exact z; exact absurd (show (0 : Int32) < lg_cmp x y from Int32.lt_iff_toInt_lt.mpr (by rw [z32]; exact h)) (lgF_gt (by omega)))) (fun h => k2 (by rcases Int.lt_or_le Y X with z | z; exact absurd (Int32.lt_iff_toInt_lt.mp (lgT_gt (by omega : y.toInt < x.toInt))) (by rw [z32]; omega); exact z))
theorem En_lgLe {x y : Int64} {X Y : Int} (o : Int) (hX : x.toInt = X) (hY : y.toInt = Y) (hf : fc F pc = some (.ifCond .le o, len, tgt)) (k1 : X ≤ Y → En fr lo scr F P tgt lv r σ) (k2 : Y < X → En fr lo scr F P (pc + 3) lv r σ) : En fr lo scr F P pc lv (.int (lg_cmp x y) :: r) σ :=
  En_iLe o rfl hf (fun h => k1 (by rcases Int.lt_or_le Y X with z | z; exact absurd (Int32.lt_iff_toInt_lt.mp (lgT_gt (by omega : y.toInt < x.toInt))) (by rw [z32]; omega); exact z)) (fun h => k2 (by rcases Int.lt_or_le Y X with z | z; exact z; exact absurd (show (0 : Int32) < lg_cmp x y from Int32.lt_iff_toInt_lt.mpr (by rw [z32]; exact h)) (lgF_gt (by omega))))
theorem lg_eq0 {x y : Int64} {X Y : Int} (hX : x.toInt = X) (hY : y.toInt = Y) : (lg_cmp x y).toInt = 0 ↔ X = Y := by
  rcases Int.lt_trichotomy X Y with z | z | z
  · have := Int32.lt_iff_toInt_lt.mp (lgT_lt (by omega : x.toInt < y.toInt)); rw [z32] at this; omega
  · have h1 : ¬ (lg_cmp x y).toInt < 0 := fun h => lgF_lt (by omega : ¬ x.toInt < y.toInt) (Int32.lt_iff_toInt_lt.mpr (by rw [z32]; exact h))
    have h2 : ¬ 0 < (lg_cmp x y).toInt := fun h => lgF_gt (by omega : ¬ y.toInt < x.toInt) (show (0 : Int32) < lg_cmp x y from Int32.lt_iff_toInt_lt.mpr (by rw [z32]; exact h))
    omega
  · have := Int32.lt_iff_toInt_lt.mp (show (0 : Int32) < lg_cmp x y from lgT_gt (by omega : y.toInt < x.toInt)); rw [z32] at this; omega
theorem En_lgNe {x y : Int64} {X Y : Int} (o : Int) (hX : x.toInt = X) (hY : y.toInt = Y) (hf : fc F pc = some (.ifCond .ne o, len, tgt)) (k1 : X ≠ Y → En fr lo scr F P tgt lv r σ) (k2 : X = Y → En fr lo scr F P (pc + 3) lv r σ) : En fr lo scr F P pc lv (.int (lg_cmp x y) :: r) σ :=
  En_iNe o rfl hf (fun h => k1 (fun z => h ((lg_eq0 hX hY).mpr z))) (fun h => k2 ((lg_eq0 hX hY).mp h))
theorem En_lgEq {x y : Int64} {X Y : Int} (o : Int) (hX : x.toInt = X) (hY : y.toInt = Y) (hf : fc F pc = some (.ifCond .eq o, len, tgt)) (k1 : X = Y → En fr lo scr F P tgt lv r σ) (k2 : X ≠ Y → En fr lo scr F P (pc + 3) lv r σ) : En fr lo scr F P pc lv (.int (lg_cmp x y) :: r) σ :=
  En_iEq o rfl hf (fun h => k1 ((lg_eq0 hX hY).mp h)) (fun h => k2 (fun z => h ((lg_eq0 hX hY).mpr z)))
theorem En_idiv {x y : Int32} {X c : Int} (hf : fc F pc = some (.idiv, len, tgt)) (hX : x.toInt = X) (hY : y.toInt = c) (h0 : 0 ≤ X) (hc : 0 < c) (k : ∀ z : Int32, z.toInt = X / c → En fr lo scr F P (pc + 1) lv (.int z :: r) σ) : En fr lo scr F P pc lv (.int y :: .int x :: r) σ :=
  En_P1 hf rfl (pc' := pc + 1) (lv' := lv) (st' := .int (x / y) :: r) (oC_mk (decide_eq_true (fun z => by rw [z, z32] at hY; omega)) rfl) (k _ (divI hX hY h0 hc))
theorem En_irem {x y : Int32} {X c : Int} (hf : fc F pc = some (.irem, len, tgt)) (hX : x.toInt = X) (hY : y.toInt = c) (h0 : 0 ≤ X) (hc : 0 < c) (k : ∀ z : Int32, z.toInt = X % c → En fr lo scr F P (pc + 1) lv (.int z :: r) σ) : En fr lo scr F P pc lv (.int y :: .int x :: r) σ :=
  En_P1 hf rfl (pc' := pc + 1) (lv' := lv) (st' := .int (x - x / y * y) :: r) (oC_mk (decide_eq_true (fun z => by rw [z, z32] at hY; omega)) rfl) (k _ (remI hX hY h0 hc))
theorem En_ldiv {x y : Int64} {X c : Int} (hf : fc F pc = some (.ldiv, len, tgt)) (hX : x.toInt = X) (hY : y.toInt = c) (h0 : 0 ≤ X) (hc : 0 < c) (k : ∀ z : Int64, z.toInt = X / c → En fr lo scr F P (pc + 1) lv (.long z :: r) σ) : En fr lo scr F P pc lv (.long y :: .long x :: r) σ :=
  En_P1 hf rfl (pc' := pc + 1) (lv' := lv) (st' := .long (x / y) :: r) (oC_mk (decide_eq_true (nz64 hY hc)) rfl) (k _ (divL hX hY h0 hc))
theorem En_lrem {x y : Int64} {X c : Int} (hf : fc F pc = some (.lrem, len, tgt)) (hX : x.toInt = X) (hY : y.toInt = c) (h0 : 0 ≤ X) (hc : 0 < c) (k : ∀ z : Int64, z.toInt = X % c → En fr lo scr F P (pc + 1) lv (.long z :: r) σ) : En fr lo scr F P pc lv (.long y :: .long x :: r) σ :=
  En_P1 hf rfl (pc' := pc + 1) (lv' := lv) (st' := .long (x - x / y * y) :: r) (oC_mk (decide_eq_true (nz64 hY hc)) rfl) (k _ (remL hX hY h0 hc))
theorem En_nam {x : Int32} (k : ∀ z : Int32, z = x → En fr lo scr F P pc lv (.int z :: r) σ) : En fr lo scr F P pc lv (.int x :: r) σ := k x rfl
theorem En_lsw {dflt n : Int} {ps : Array (Int × Int)} {v : Int32} {V : Int} {t : Nat} (hV : v.toInt = V) (hn : V = n) (hf : fc F pc = some (.lookupswitch dflt ps, len, tgt)) (ht : ((ps.toList.zip (ps.toList.drop 1)).all (fun (a, next) => a.1 < next.1) && decide ((pc : Int) + Op.lookupswitch.offset ps.toList dflt n = (t : Int))) = true) (k : En fr lo scr F P t lv r σ) : En fr lo scr F P pc lv (.int v :: r) σ := by
  rw [Bool.and_eq_true, decide_eq_true_eq] at ht
  obtain ⟨h1, h2⟩ := ht
  refine En_P1 hf rfl (pc' := t) (lv' := lv) (st' := r) ?_ k
  refine oC_mk ?_ ?_
  · rw [Bool.and_eq_true, decide_eq_true_eq, hV, hn]
    exact ⟨h1, by omega⟩
  · rw [hV, hn, h2]
    rfl
theorem En_iaK {kd t1 t2 a g : Nat} {j : Int32} {J : Int} {v : Value} (hv : (σ a)[J.toNat]? = some v) (hJ : j.toInt = J) (ha : TG a = g) (hg : (KD g == kd && (CL g == t1 || CL g == t2) && decide (g < 900)) = true) (hσ : WT σ) (h0 : 0 ≤ J) (h1 : J < LN g) : ldR scr kd t1 t2 (.int j :: .ref a :: r) (HP σ) = some (v, r) := by
  obtain ⟨w, hw, -, hl⟩ := ldR_ok (scr := scr) (r := r) ha hg hσ hJ h0 h1
  rw [hv] at hw
  cases hw
  exact hl
theorem En_ialdK {a g : Nat} {j y : Int32} {J : Int} (hv : (σ a)[J.toNat]? = some (Value.int y)) (hf : fc F pc = some (.iaload, len, tgt)) (hJ : j.toInt = J) (ha : TG a = g) (hg : (KD g == 1 && (CL g == 0 || CL g == 0) && decide (g < 900)) = true) (hσ : WT σ) (h0 : 0 ≤ J) (h1 : J < LN g) (k : En fr lo scr F P (pc + 1) lv (.int y :: r) σ) : En fr lo scr F P pc lv (.int j :: .ref a :: r) σ :=
  En_P1 hf rfl (oB_mk (En_iaK hv hJ ha hg hσ h0 h1) rfl) k
theorem En_idivV {x y : Int32} {X Y : Int} (hf : fc F pc = some (.idiv, len, tgt)) (hX : x.toInt = X) (hY : y.toInt = Y) (h0 : 0 ≤ X) (hc : 0 < Y) (k : ∀ z : Int32, 0 ≤ z.toInt → z.toInt ≤ X → En fr lo scr F P (pc + 1) lv (.int z :: r) σ) : En fr lo scr F P pc lv (.int y :: .int x :: r) σ :=
  En_idiv hf hX hY h0 hc (fun z hz => k z (by rw [hz]; exact Int.ediv_nonneg h0 (by omega)) (by rw [hz]; exact Int.ediv_le_self Y h0))
theorem En_iremV {x y : Int32} {X Y : Int} (hf : fc F pc = some (.irem, len, tgt)) (hX : x.toInt = X) (hY : y.toInt = Y) (h0 : 0 ≤ X) (hc : 0 < Y) (k : ∀ z : Int32, 0 ≤ z.toInt → z.toInt < Y → En fr lo scr F P (pc + 1) lv (.int z :: r) σ) : En fr lo scr F P pc lv (.int y :: .int x :: r) σ :=
  En_irem hf hX hY h0 hc (fun z hz => k z (by rw [hz]; exact Int.emod_nonneg X (by omega)) (by rw [hz]; exact Int.emod_lt_of_pos X hc))
theorem En_swO {dflt lo_ hi_ : Int} {offs : Array Int} {v : Int32} {V : Int} {t : Nat} (hV : v.toInt = V) (hc : V < lo_ ∨ hi_ < V) (hf : fc F pc = some (.tableswitch dflt lo_ hi_ offs, len, tgt)) (ht : (pc : Int) + dflt = (t : Int)) (k : En fr lo scr F P t lv r σ) : En fr lo scr F P pc lv (.int v :: r) σ := by
  obtain ⟨w, σ', g, p⟩ := k
  exact ⟨w, σ', Go_swO hf (by rw [hV]; exact hc) ht g, p⟩
theorem En_swI {dflt lo_ hi_ n : Int} {offs : Array Int} {v : Int32} {V : Int} {t : Nat} (hV : v.toInt = V) (hn : V = n) (hf : fc F pc = some (.tableswitch dflt lo_ hi_ offs, len, tgt)) (ht : (decide (lo_ ≤ n ∧ n ≤ hi_) && (match offs[(n - lo_).toNat]? with | some o => decide ((pc : Int) + o = (t : Int)) | none => false)) = true) (k : En fr lo scr F P t lv r σ) : En fr lo scr F P pc lv (.int v :: r) σ := by
  rw [Bool.and_eq_true, decide_eq_true_eq] at ht
  obtain ⟨h1, h2⟩ := ht
  split at h2
  · rename_i o ho
    obtain ⟨w, σ', g, p⟩ := k
    refine ⟨w, σ', Go_swI (o := o) (t := t) hf (by rw [hV, hn]; omega) ?_ (of_decide_eq_true h2) g, p⟩
    rw [hV, hn]
    exact ho
  · cases h2
end EN2
theorem shl1_p {y : Int32} {Y : Int} (b : Nat) (hY : y.toInt = Y) (h0 : 0 ≤ Y) (h1 : Y ≤ b) (hb : b ≤ 16) : (1 : Int) ≤ ((Int32.ofInt 1) <<< (y &&& 31)).toInt ∧ ((Int32.ofInt 1) <<< (y &&& 31)).toInt ≤ ((2 ^ b : Nat) : Int) := by
  have key : ∀ n : Nat, n ≤ 16 → ((Int32.ofInt 1) <<< ((Int32.ofNat n) &&& 31)).toInt = ((2 ^ n : Nat) : Int) := by decide
  obtain ⟨n, rfl⟩ : ∃ n : Nat, Y = n := ⟨Y.toNat, by omega⟩
  have e : y = Int32.ofNat n := Int32.toInt_inj.mp (by
    rw [hY]
    have : ∀ m : Nat, m ≤ 16 → (Int32.ofNat m).toInt = (m : Int) := by decide
    exact (this n (by omega)).symm)
  rw [e, key n (by omega)]
  have h2 : 2 ^ n ≤ 2 ^ b := Nat.pow_le_pow_right (by decide) (by omega)
  have h3 : 1 ≤ 2 ^ n := Nat.one_le_two_pow
  omega
end
/-! 12.d.str -/
section
/-! LITERALS: the library's methods on them -/
theorem retB {F : MR} {x : Int32} {h : AH} (hm : mret F = some .byte) (hx : (x.toInt8.toInt32 == x) = true) : doRet F .ireturn [.int x] h = some (some (.int x), h) := by
  unfold doRet
  dsimp only
  rw [hm]
  exact oC_mk hx rfl
theorem retC {F : MR} {x : Int32} {h : AH} (hm : mret F = some .char) (hx : ((x.toUInt32 % 65536).toInt32 == x) = true) : doRet F .ireturn [.int x] h = some (some (.int x), h) := by
  unfold doRet
  dsimp only
  rw [hm]
  exact oC_mk hx rfl
section ENS
variable {fr lo : Nat} {scr : AS} {F : MR} {P : PO} {pc pc' len tgt : Nat} {i : Instr} {lv lv' : ALv} {st st' r : List Value} {σ σ0 : SG} {W : List (Nat × Nat)} {pos : Nat × Nat}
theorem En_X (hf : fc F pc = some (i, len, tgt)) (hk : ikind i = 0) (hp : stpP F scr i tgt pc lv st (HP σ) = none) (hs : stpX F i pc lv st = some (pc', lv', st')) (k : En fr lo scr F P pc' lv' st' σ) : En fr lo scr F P pc lv st σ := by
  obtain ⟨v, σ', g, p⟩ := k
  exact ⟨v, σ', Go_X hf hk hp hs g, p⟩
theorem En_ldcS {i z : Nat} (hf : fc F pc = some (.ldc z, len, tgt)) (hn : fnd (mki F) z = none) (hq : fnd (mks F) z = some (0, i, pos)) (k : En fr lo scr F P (pc + 2) lv (.retAddr (2 * i + 1) :: st) σ) : En fr lo scr F P pc lv st σ := by
  refine En_X hf rfl (pc' := pc + 2) (lv' := lv) (st' := .retAddr (2 * i + 1) :: st) ?_ ?_ k
  · show oB (fnd (mki F) z) _ = _
    rw [hn]; rfl
  · show oB (fnd (mks F) z) _ = _
    exact oB_mk hq rfl
theorem En_sval {i z n : Nat} (hf : fc F pc = some (.getfield z, len, tgt)) (hq : fnd (mks F) z = some (1, n, pos)) (hi : i < NSTR) (k : En fr lo scr F P (pc + 3) lv (.retAddr (2 * i + 2) :: r) σ) : En fr lo scr F P pc lv (.retAddr (2 * i + 1) :: r) σ := by
  have e : (2 * i + 1) / 2 = i := by omega
  refine En_X hf rfl rfl (pc' := pc + 3) (lv' := lv) (st' := .retAddr (2 * i + 2) :: r) ?_ k
  show oB (fnd (mks F) z) _ = _
  refine oB_mk hq (oC_mk (by rw [e, Bool.and_eq_true, beq_iff_eq, decide_eq_true_eq]; exact ⟨by omega, hi⟩) ?_)
  rw [e]; rfl
theorem En_scod {i z n : Nat} (hf : fc F pc = some (.getfield z, len, tgt)) (hq : fnd (mks F) z = some (2, n, pos)) (hi : i < NSTR) (k : En fr lo scr F P (pc + 3) lv (.int 0 :: r) σ) : En fr lo scr F P pc lv (.retAddr (2 * i + 1) :: r) σ := by
  have e : (2 * i + 1) / 2 = i := by omega
  refine En_X hf rfl rfl (pc' := pc + 3) (lv' := lv) (st' := .int 0 :: r) ?_ k
  show oB (fnd (mks F) z) _ = _
  refine oB_mk hq (oC_mk (by rw [e, Bool.and_eq_true, beq_iff_eq, decide_eq_true_eq]; exact ⟨by omega, hi⟩) rfl)
theorem En_gstC {z n : Nat} (hf : fc F pc = some (.getstatic z, len, tgt)) (hq : fnd (mks F) z = some (3, n, pos)) (k : En fr lo scr F P (pc + 3) lv (.int 1 :: st) σ) : En fr lo scr F P pc lv st σ := by
  refine En_X hf rfl rfl (pc' := pc + 3) (lv' := lv) (st' := .int 1 :: st) ?_ k
  show oB (fnd (mks F) z) _ = _
  exact oB_mk hq rfl
theorem En_gstF {z n : Nat} (hf : fc F pc = some (.getstatic z, len, tgt)) (hq : fnd (mks F) z = some (4, n, pos)) (k : En fr lo scr F P (pc + 3) lv (.float 0 :: st) σ) : En fr lo scr F P pc lv st σ := by
  refine En_X hf rfl rfl (pc' := pc + 3) (lv' := lv) (st' := .float 0 :: st) ?_ k
  show oB (fnd (mks F) z) _ = _
  exact oB_mk hq rfl
theorem En_sarl {i n : Nat} (hf : fc F pc = some (.arraylength, len, tgt)) (hi : i < NSTR) (hn : LENS.getD i 0 = n) (k : En fr lo scr F P (pc + 1) lv (.int (Int32.ofNat n) :: r) σ) : En fr lo scr F P pc lv (.retAddr (2 * i + 2) :: r) σ := by
  have e : (2 * i + 2) / 2 - 1 = i := by omega
  refine En_X hf rfl rfl (pc' := pc + 1) (lv' := lv) (st' := .int (Int32.ofNat n) :: r) ?_ k
  show oC _ _ = _
  rw [e, hn]
  exact oC_mk (by simp only [Bool.and_eq_true, beq_iff_eq, decide_eq_true_eq]; exact ⟨⟨by omega, by omega⟩, hi⟩) rfl
theorem En_sbal {i n : Nat} {j : Int32} {J : Int} {y : Int32} (hf : fc F pc = some (.baload, len, tgt)) (hi : i < NSTR) (hn : LENS.getD i 0 = n) (hJ : j.toInt = J) (h0 : 0 ≤ J) (h1 : J < (n : Int)) (hy : (BYT.getD i []).getD J.toNat 0 = y) (k : En fr lo scr F P (pc + 1) lv (.int y :: r) σ) : En fr lo scr F P pc lv (.int j :: .retAddr (2 * i + 2) :: r) σ := by
  have e : (2 * i + 2) / 2 - 1 = i := by omega
  refine En_X hf rfl rfl (pc' := pc + 1) (lv' := lv) (st' := .int y :: r) ?_ k
  show oC _ _ = _
  rw [e, hn, toNat32 hJ, hy]
  exact oC_mk (by simp only [Bool.and_eq_true, beq_iff_eq, decide_eq_true_eq]; exact ⟨⟨⟨⟨by omega, by omega⟩, hi⟩, nonneg32 hJ h0⟩, by omega⟩) rfl
theorem En_call6 {id i : Nat} {G : MR} {Q : PO} {vs : List Value} {fr1 lo1 z : Nat} (hf : fc F pc = some (.invokevirtual z, len, tgt)) (he : fnd (mcl F) z = some (6, id, pos)) (hG : MT id = some G) (hvs : (st.take (mnp G + 1)).reverse = .retAddr (2 * i + 1) :: vs) (hr : st.drop (mnp G + 1) = r) (hi : i < NSTR)
    (hb : (decide (mnp G + 1 ≤ st.length) && decide (1 ≤ fr) && decide (mml G + 19 ≤ lo) && decide (cats r ≤ 8) && decide (cats (st.take (mnp G + 1)) ≤ mml G)) = true) (gc : En fr1 lo1 none G Q 0 (lv_args 0 (.retAddr (2 * i + 1) :: vs)) [] σ) (h1 : fr1 ≤ fr - 1) (h2 : lo1 ≤ lo - (mml G + 19))
    (k : ∀ v σ', Q v σ' → En fr lo scr F P (pc + 3) lv (v.toList ++ r) σ') : En fr lo scr F P pc lv st σ := by
  obtain ⟨v, σ1, g1, q⟩ := gc
  obtain ⟨w, σ2, g2, p⟩ := k v σ1 q
  have en : nArg 6 G = mnp G + 1 := rfl
  refine ⟨w, σ2, Go_call hf rfl he rfl (by omega) hG (by rw [en]; exact hvs) (by rw [en]; exact hr) ?_ (Go_room g1 h1 h2) g2, p⟩
  rw [en]
  simp only [Bool.and_eq_true, decide_eq_true_eq] at hb ⊢
  refine ⟨hb, ?_⟩
  have e : (2 * i + 1) / 2 = i := by omega
  show ((2 * i + 1) % 2 == 1 && decide ((2 * i + 1) / 2 < NSTR)) = true
  rw [e, Bool.and_eq_true, beq_iff_eq, decide_eq_true_eq]
  exact ⟨by omega, hi⟩
end ENS
/-- an answer, nothing changed -/
abbrev PSt (x : Int32) (σ : SG) : PO := fun v σ' => v = some (Value.int x) ∧ σ' = σ
theorem s_coder (σ : SG) (i : Nat) (hi : i < NSTR) : En 0 0 none mr_2 (PSt 0 σ) 0 [(0, .retAddr (2 * i + 1))] [] σ := by
  refine En_gstC rfl rfl ?_
  refine En_iEq _ (by decide : (1 : Int32).toInt = 1) rfl (fun h => by exfalso; omega) (fun _ => ?_)
  refine En_Ps 1 (pc' := 7) (lv' := [(0, .retAddr (2 * i + 1))]) (st' := [.retAddr (2 * i + 1)]) rfl ?_
  refine En_scod rfl rfl hi ?_
  refine En_Ps 1 (pc' := 14) (lv' := [(0, .retAddr (2 * i + 1))]) (st' := [.int 0]) rfl ?_
  exact En_ret (v := some (Value.int 0)) rfl rfl (retB rfl (by decide)) ⟨rfl, rfl⟩
theorem s_latin (σ : SG) (i : Nat) (hi : i < NSTR) : En 0 0 none mr_3 (PSt 1 σ) 0 [(0, .retAddr (2 * i + 1))] [] σ := by
  refine En_gstC rfl rfl ?_
  refine En_iEq _ (by decide : (1 : Int32).toInt = 1) rfl (fun h => by exfalso; omega) (fun _ => ?_)
  refine En_Ps 1 (pc' := 7) (lv' := [(0, .retAddr (2 * i + 1))]) (st' := [.retAddr (2 * i + 1)]) rfl ?_
  refine En_scod rfl rfl hi ?_
  refine En_iNe _ (by decide : (0 : Int32).toInt = 0) rfl (fun h => by exfalso; omega) (fun _ => ?_)
  refine En_Ps 2 (pc' := 18) (lv' := [(0, .retAddr (2 * i + 1))]) (st' := [.int (Int32.ofInt 1)]) rfl ?_
  exact En_ret (v := some (Value.int 1)) rfl rfl (retZ rfl (by decide : (Int32.ofInt 1).toInt = 1) (by omega) (by omega)) ⟨rfl, rfl⟩
theorem shr_len : ∀ i, i < NSTR → (Int32.ofNat (LENS.getD i 0)) >>> ((0 : Int32) &&& 31) = Int32.ofNat (LENS.getD i 0) := by decide
theorem s_length (σ : SG) (i : Nat) (hi : i < NSTR) : En 1 20 none mr_4 (PSt (Int32.ofNat (LENS.getD i 0)) σ) 0 [(0, .retAddr (2 * i + 1))] [] σ := by
  refine En_Ps 1 (pc' := 1) (lv' := [(0, .retAddr (2 * i + 1))]) (st' := [.retAddr (2 * i + 1)]) rfl ?_
  refine En_sval rfl rfl hi ?_
  refine En_sarl rfl hi rfl ?_
  refine En_Ps 1 (pc' := 6) (lv' := [(0, .retAddr (2 * i + 1))]) (st' := [.retAddr (2 * i + 1), .int (Int32.ofNat (LENS.getD i 0))]) rfl ?_
  refine En_call6 (r := [.int (Int32.ofNat (LENS.getD i 0))]) rfl rfl rfl rfl rfl hi rfl (s_coder σ i hi) (by decide) (by decide) (fun v σ' h => ?_)
  obtain ⟨rfl, rfl⟩ := h
  refine En_Ps 1 (pc' := 10) (lv' := [(0, .retAddr (2 * i + 1))]) (st' := [.int ((Int32.ofNat (LENS.getD i 0)) >>> ((0 : Int32) &&& 31))]) rfl ?_
  rw [shr_len i hi]
  exact En_ret (v := some (Value.int (Int32.ofNat (LENS.getD i 0)))) rfl rfl rfl ⟨rfl, rfl⟩
theorem s_pchk (σ : SG) (j n : Int32) (v : Value) (h0 : 0 ≤ j.toInt) (h1 : j.toInt < n.toInt) : En 0 0 none mr_6 (PSt j σ) 0 [(0, .int j), (1, .int n), (2, v)] [] σ := by
  refine En_Ps 1 (pc' := 1) (lv' := [(0, .int j), (1, .int n), (2, v)]) (st' := [.int j]) rfl ?_
  refine En_iLt _ rfl rfl (fun h => by exfalso; omega) (fun _ => ?_)
  refine En_Ps 2 (pc' := 6) (lv' := [(0, .int j), (1, .int n), (2, v)]) (st' := [.int n, .int j]) rfl ?_
  refine En_icLt _ rfl rfl rfl (fun _ => ?_) (fun h => by exfalso; omega)
  refine En_Ps 1 (pc' := 17) (lv' := [(0, .int j), (1, .int n), (2, v)]) (st' := [.int j]) rfl ?_
  exact En_ret (v := some (Value.int j)) rfl rfl rfl ⟨rfl, rfl⟩
theorem s_chk (σ : SG) (j n : Int32) (h0 : 0 ≤ j.toInt) (h1 : j.toInt < n.toInt) : En 1 22 none mr_1 (fun v σ' => v = none ∧ σ' = σ) 0 [(0, .int j), (1, .int n)] [] σ := by
  refine En_Ps 2 (pc' := 2) (lv' := [(0, .int j), (1, .int n)]) (st' := [.int n, .int j]) rfl ?_
  refine En_gstF rfl rfl ?_
  refine En_callS rfl rfl rfl rfl rfl rfl rfl rfl rfl (s_pchk σ j n (.float 0) h0 h1) (by decide) (by decide) (fun v σ' h => ?_)
  obtain ⟨rfl, rfl⟩ := h
  refine En_Ps 1 (pc' := 9) (lv' := [(0, .int j), (1, .int n)]) (st' := []) rfl ?_
  exact En_ret (v := none) rfl rfl rfl ⟨rfl, rfl⟩
/-- the bytes: small letters -/
theorem byt_ok : ∀ i, i < NSTR → ∀ k, k < LENS.getD i 0 → ((((((BYT.getD i []).getD k 0) &&& ((Int16.ofInt 255).toInt32)).toUInt32 % 65536).toInt32 = (BYT.getD i []).getD k 0) ∧ (97 ≤ ((BYT.getD i []).getD k 0).toInt ∧ ((BYT.getD i []).getD k 0).toInt ≤ 122)) ∧ ((((BYT.getD i []).getD k 0).toUInt32 % 65536).toInt32 == (BYT.getD i []).getD k 0) = true := by decide +kernel
theorem len_ok : ∀ i, i < NSTR → (Int32.ofNat (LENS.getD i 0)).toInt = (LENS.getD i 0 : Int) := by decide +kernel
theorem s_lchar (σ : SG) (i : Nat) (j : Int32) (hi : i < NSTR) (h0 : 0 ≤ j.toInt) (h1 : j.toInt < (LENS.getD i 0 : Int)) : En 2 43 none mr_5 (PSt ((BYT.getD i []).getD j.toInt.toNat 0) σ) 0 [(0, .retAddr (2 * i + 2)), (1, .int j)] [] σ := by
  obtain ⟨⟨b1, -⟩, b3⟩ := byt_ok i hi j.toInt.toNat (by omega)
  refine En_Ps 2 (pc' := 2) (lv' := [(0, .retAddr (2 * i + 2)), (1, .int j)]) (st' := [.retAddr (2 * i + 2), .int j]) rfl ?_
  refine En_sarl rfl hi rfl ?_
  refine En_callS (r := []) rfl rfl rfl rfl rfl rfl rfl rfl rfl (s_chk σ j (Int32.ofNat (LENS.getD i 0)) h0 (by rw [len_ok i hi]; exact h1)) (by decide) (by decide) (fun v σ' h => ?_)
  obtain ⟨rfl, rfl⟩ := h
  refine En_Ps 2 (pc' := 8) (lv' := [(0, .retAddr (2 * i + 2)), (1, .int j)]) (st' := [.int j, .retAddr (2 * i + 2)]) rfl ?_
  refine En_sbal rfl hi rfl rfl h0 h1 rfl ?_
  refine En_Ps 2 (pc' := 13) (lv' := [(0, .retAddr (2 * i + 2)), (1, .int j)]) (st' := [.int (((BYT.getD i []).getD j.toInt.toNat 0) &&& ((Int16.ofInt 255).toInt32))]) rfl ?_
  refine En_X rfl rfl rfl (pc' := 14) (lv' := [(0, .retAddr (2 * i + 2)), (1, .int j)]) (st' := [.int ((((BYT.getD i []).getD j.toInt.toNat 0) &&& ((Int16.ofInt 255).toInt32)).toUInt32 % 65536).toInt32]) rfl ?_
  rw [b1]
  exact En_ret (v := some (Value.int ((BYT.getD i []).getD j.toInt.toNat 0))) rfl rfl (retC rfl b3) ⟨rfl, rfl⟩
theorem s_char (σ : SG) (i : Nat) (j : Int32) (hi : i < NSTR) (h0 : 0 ≤ j.toInt) (h1 : j.toInt < (LENS.getD i 0 : Int)) : En 3 64 none mr_0 (PSt ((BYT.getD i []).getD j.toInt.toNat 0) σ) 0 [(0, .retAddr (2 * i + 1)), (1, .int j)] [] σ := by
  obtain ⟨⟨b1, -⟩, b3⟩ := byt_ok i hi j.toInt.toNat (by omega)
  refine En_Ps 1 (pc' := 1) (lv' := [(0, .retAddr (2 * i + 1)), (1, .int j)]) (st' := [.retAddr (2 * i + 1)]) rfl ?_
  refine En_call6 (r := []) rfl rfl rfl rfl rfl hi rfl (s_latin σ i hi) (by decide) (by decide) (fun v σ' h => ?_)
  obtain ⟨rfl, rfl⟩ := h
  refine En_iEq _ (by decide : (1 : Int32).toInt = 1) rfl (fun h => by exfalso; omega) (fun _ => ?_)
  refine En_Ps 1 (pc' := 8) (lv' := [(0, .retAddr (2 * i + 1)), (1, .int j)]) (st' := [.retAddr (2 * i + 1)]) rfl ?_
  refine En_sval rfl rfl hi ?_
  refine En_Ps 1 (pc' := 12) (lv' := [(0, .retAddr (2 * i + 1)), (1, .int j)]) (st' := [.int j, .retAddr (2 * i + 2)]) rfl ?_
  refine En_callS (r := []) rfl rfl rfl rfl rfl rfl rfl rfl rfl (s_lchar σ' i j hi h0 h1) (by decide) (by decide) (fun v σ' h => ?_)
  obtain ⟨rfl, rfl⟩ := h
  exact En_ret (v := some (Value.int ((BYT.getD i []).getD j.toInt.toNat 0))) rfl rfl (retC rfl b3) ⟨rfl, rfl⟩
section ENT
variable {fr lo : Nat} {scr : AS} {F : MR} {P : PO} {pc pc' len tgt : Nat} {lv lv' : ALv} {st st' r : List Value} {σ : SG} {pos : Nat × Nat}
theorem En_slen (i n : Nat) {z : Nat} (hf : fc F pc = some (.invokevirtual z, len, tgt)) (he : fnd (mcl F) z = some (6, 4, pos)) (hn : (decide (i < NSTR) && decide (LENS.getD i 0 = n)) = true) (hb : (decide (2 ≤ fr) && decide (41 ≤ lo) && decide (cats r ≤ 8)) = true) (k : En fr lo scr F P (pc + 3) lv (.int (Int32.ofNat n) :: r) σ) : En fr lo scr F P pc lv (.retAddr (2 * i + 1) :: r) σ := by
  simp only [Bool.and_eq_true, decide_eq_true_eq] at hn hb
  obtain ⟨hi, rfl⟩ := hn
  have m1 : mml mr_4 = 1 := rfl
  refine En_call6 (G := mr_4) (vs := []) (r := r) hf he rfl rfl rfl hi ?_ (s_length σ i hi) (by omega) (by rw [m1]; omega) (fun v σ' h => ?_)
  · rw [m1]
    simp only [Bool.and_eq_true, decide_eq_true_eq]
    exact ⟨⟨⟨⟨Nat.le_add_left _ _, by omega⟩, by omega⟩, hb.2⟩, Nat.le_refl _⟩
  · obtain ⟨rfl, rfl⟩ := h
    exact k
end ENT
end
/-! 12.e.cnt -/
section
section CNT
/-- how many of four bits are set -/
def bcN (m : Nat) : Nat := m % 2 + m / 2 % 2 + m / 4 % 2 + m / 8 % 2
def bcI (m : Int) : Int := (bcN m.toNat : Int)
def sbN (v m : Nat) : Bool := v &&& m == v
def sbI (v m : Int) : Int := if sbN v.toNat m.toNat then 1 else 0
/-- the rules laid before the place n, m, v -/
def GN (k n m v : Nat) : Nat := ((List.range n).map fun n' => ((List.range k).filter fun m' => bcN m' == n').length * 2 ^ n').sum + ((List.range m).filter fun m' => bcN m' == n).length * 2 ^ n + ((List.range v).filter fun v' => sbN v' m).length
def pI (s : Int) : Int := ((2 ^ s.toNat : Nat) : Int)
def kI (c s : Int) : Int := if c ≤ 0 then 0 else pI s
theorem kI_val (c s : Int) : (c ≤ 0 → kI c s = 0) ∧ (1 ≤ c → kI c s = pI s) := by
  constructor
  · intro h; unfold kI; rw [if_pos h]
  · intro h; unfold kI; rw [if_neg (by omega)]
theorem pI_rng {s : Int} (h0 : 0 ≤ s) (h1 : s ≤ 4) : 1 ≤ pI s ∧ pI s ≤ 16 := by
  have : s = 0 ∨ s = 1 ∨ s = 2 ∨ s = 3 ∨ s = 4 := by omega
  rcases this with h | h | h | h | h <;> subst h <;> decide
theorem kI_rng (c : Int) {s : Int} (h0 : 0 ≤ s) (h1 : s ≤ 4) : 0 ≤ kI c s ∧ kI c s ≤ 16 := by
  have a := kI_val c s; have b := pI_rng h0 h1
  rcases Int.lt_or_le 0 c with h | h
  · rw [a.2 (by omega)]; omega
  · rw [a.1 h]; omega
theorem GN_v (k n m v : Nat) : GN k n m (v + 1) = GN k n m v + (if sbN v m then 1 else 0) := by
  unfold GN; rw [List.range_succ, List.filter_append, List.length_append]
  by_cases h : sbN v m = true <;> simp [h] <;> omega
theorem GN_m (k n m : Nat) : GN k n (m + 1) 0 = GN k n m 0 + (if bcN m == n then 2 ^ n else 0) := by
  unfold GN; rw [List.range_succ, List.filter_append, List.length_append]
  by_cases h : (bcN m == n) = true
  · simp only [h, if_true, List.filter_cons_of_pos, List.filter_nil, List.length_cons, List.length_nil, List.range_zero]
    rw [Nat.add_mul]; omega
  · simp only [h, List.filter_nil, List.length_nil, List.range_zero, Nat.add_zero]
    simp [h]
theorem GN_n (k n : Nat) : GN k (n + 1) 0 0 = GN k n k 0 := by
  unfold GN; rw [List.range_succ, List.map_append, List.sum_append]; simp
theorem GN_0 (k : Nat) : GN k 0 0 0 = 0 := by unfold GN; simp
theorem sb_all : ∀ m : Fin 16, ((List.range (m.val + 1)).filter fun v' => sbN v' m.val).length = 2 ^ bcN m.val := by decide +kernel
theorem GN_x {k n m : Nat} (hm : m < 16) (hb : bcN m = n) : GN k n m (m + 1) = GN k n (m + 1) 0 := by
  have h := sb_all ⟨m, hm⟩
  have h2 := GN_m k n m
  subst hb
  rw [h2]; simp only [BEq.rfl, if_true]
  unfold GN; simp only at h; rw [h]; simp
theorem GN_le0 : ∀ k : Fin 17, ∀ n : Fin 6, ∀ m : Fin 16, m.val < k.val → bcN m.val = n.val → GN k.val n.val m.val m.val ≤ 80 := by decide +kernel
theorem GN_mono (k n m v d : Nat) : GN k n m v ≤ GN k n m (v + d) := by
  induction d with
  | zero => exact Nat.le_refl _
  | succ d ih => have := GN_v k n m (v + d); rw [Nat.add_assoc] at this; rw [this]; omega
theorem GN_le {k n m v : Nat} (hk : k ≤ 16) (hn : n ≤ 5) (hm : m < k) (hb : bcN m = n) (hv : v ≤ m) : GN k n m v ≤ 80 := by
  have h := GN_le0 ⟨k, by omega⟩ ⟨n, by omega⟩ ⟨m, by omega⟩ hm hb
  have := GN_mono k n m v (m - v); rw [show v + (m - v) = m by omega] at this
  simp only at h; omega
/-- where the count stands at the heads of the outer loops, and of the inmost -/
def RN (k n m r : Int) : Prop := ∃ K N M : Nat, k = K ∧ n = N ∧ m = M ∧ K ≤ 16 ∧ N ≤ 5 ∧ M ≤ K ∧ r = (GN K N M 0 : Int)
def RV (k n m v r : Int) : Prop := ∃ K N M V : Nat, k = K ∧ n = N ∧ m = M ∧ v = V ∧ K ≤ 16 ∧ N ≤ 5 ∧ M < K ∧ bcN M = N ∧ V ≤ M + 1 ∧ r = (GN K N M V : Int)
theorem RN_0 {k n m r : Int} (h0 : 0 ≤ k ∧ k ≤ 16) (hn : n = 0) (hm : m = 0) (hr : r = 0) : RN k n m r :=
  ⟨k.toNat, 0, 0, by omega, hn, hm, by omega, by omega, by omega, by rw [GN_0]; exact hr⟩
theorem RN_eq {k n m r n' m' r' : Int} (h : RN k n m r) (hn : n' = n) (hm : m' = m) (hr : r' = r) : RN k n' m' r' := by subst hn hm hr; exact h
theorem RN_skip {k n m r n' m' r' : Int} (h : RN k n m r) (hk : m < k) (hb : bcI m ≠ n) (hn : n' = n) (hm : m' = m + 1) (hr : r' = r) : RN k n' m' r' := by
  obtain ⟨K, N, M, e1, e2, e3, h1, h2, h3, e4⟩ := h
  refine ⟨K, N, M + 1, e1, by omega, by omega, h1, h2, by omega, ?_⟩
  rw [GN_m, hr, e4]; subst e2 e3
  have : (bcN M == N) = false := by
    apply Bool.eq_false_iff.mpr; intro z; apply hb; unfold bcI; rw [Int.toNat_natCast]; exact congrArg _ (eq_of_beq z)
  rw [this]; simp
theorem RV_in {k n m r n' m' v' r' : Int} (h : RN k n m r) (hk : m < k) (hb : bcI m = n) (hn : n' = n) (hm : m' = m) (hv : v' = 0) (hr : r' = r) : RV k n' m' v' r' := by
  obtain ⟨K, N, M, e1, e2, e3, h1, h2, h3, e4⟩ := h
  refine ⟨K, N, M, 0, e1, by omega, by omega, hv, h1, h2, by omega, ?_, by omega, by rw [hr, e4]⟩
  subst e2 e3; unfold bcI at hb; rw [Int.toNat_natCast] at hb; omega
theorem RV_le {k n m v r : Int} (h : RV k n m v r) (hv : v ≤ m) : r ≤ 80 ∧ 0 ≤ r := by
  obtain ⟨K, N, M, V, e1, e2, e3, e5, h1, h2, h3, hb, h4, e4⟩ := h
  have := GN_le (v := V) h1 h2 h3 hb (by omega); omega
theorem RV_put {k n m v r n' m' v' r' : Int} (h : RV k n m v r) (hv : v ≤ m) (hs : sbI v m = 1) (hn : n' = n) (hm : m' = m) (hv' : v' = v + 1) (hr : r' = r + 1) : RV k n' m' v' r' := by
  obtain ⟨K, N, M, V, e1, e2, e3, e5, h1, h2, h3, hb, h4, e4⟩ := h
  refine ⟨K, N, M, V + 1, e1, by omega, by omega, by omega, h1, h2, h3, hb, by omega, ?_⟩
  subst e3 e5; unfold sbI at hs; rw [Int.toNat_natCast, Int.toNat_natCast] at hs
  have : sbN V M = true := by by_cases z : sbN V M = true; exact z; rw [if_neg z] at hs; omega
  rw [GN_v, this, hr, e4]; simp
theorem RV_not {k n m v r n' m' v' r' : Int} (h : RV k n m v r) (hv : v ≤ m) (hs : sbI v m = 0) (hn : n' = n) (hm : m' = m) (hv' : v' = v + 1) (hr : r' = r) : RV k n' m' v' r' := by
  obtain ⟨K, N, M, V, e1, e2, e3, e5, h1, h2, h3, hb, h4, e4⟩ := h
  refine ⟨K, N, M, V + 1, e1, by omega, by omega, by omega, h1, h2, h3, hb, by omega, ?_⟩
  subst e3 e5; unfold sbI at hs; rw [Int.toNat_natCast, Int.toNat_natCast] at hs
  have : sbN V M = false := by by_cases z : sbN V M = true; rw [if_pos z] at hs; omega; exact Bool.eq_false_iff.mpr z
  rw [GN_v, this, hr, e4]; simp
theorem RN_x {k n m v r n' m' r' : Int} (h : RV k n m v r) (hv : m < v) (hn : n' = n) (hm : m' = m + 1) (hr : r' = r) : RN k n' m' r' := by
  obtain ⟨K, N, M, V, e1, e2, e3, e5, h1, h2, h3, hb, h4, e4⟩ := h
  refine ⟨K, N, M + 1, e1, by omega, by omega, h1, h2, by omega, ?_⟩
  have : V = M + 1 := by omega
  subst this; rw [← GN_x (by omega) hb, hr, e4]
theorem RN_n {k n m r n' m' r' : Int} (h : RN k n m r) (hm : k ≤ m) (h4 : n ≤ 4) (hn : n' = n + 1) (hm' : m' = 0) (hr : r' = r) : RN k n' m' r' := by
  obtain ⟨K, N, M, e1, e2, e3, h1, h2, h3, e4⟩ := h
  refine ⟨K, N + 1, 0, e1, by omega, hm', h1, by omega, by omega, ?_⟩
  have : M = K := by omega
  subst this; rw [GN_n, hr, e4]
theorem ofNat_of {x : Int32} {n : Nat} (h : x.toInt = n) : x = Int32.ofInt n := by
  rw [← h]; exact (Int32.ofInt_toInt x).symm
theorem bits_small {z a : Int32} (e : Int32 → Int32) (hz : z = e a) (he : ∀ i : Fin 16, (e (Int32.ofInt (i.val : Int))).toInt = (bcN i.val : Int)) (h0 : 0 ≤ a.toInt) (h1 : a.toInt ≤ 15) : z.toInt = bcI a.toInt := by
  have h : a = Int32.ofInt ((a.toInt.toNat : Nat) : Int) := ofNat_of (by omega)
  have h2 := he ⟨a.toInt.toNat, by omega⟩
  simp only at h2; rw [← h] at h2; rw [hz, h2]; rfl
theorem bcI_rng (a : Int) : 0 ≤ bcI a ∧ bcI a ≤ 4 := by unfold bcI bcN; omega
theorem sub_all : ∀ i j : Fin 16, ((Int32.ofInt (i.val : Int)) &&& ((Int32.ofInt (j.val : Int)) ^^^ (Int32.ofInt (-1)))).toInt = 0 ↔ sbN i.val j.val = true := by decide +kernel
theorem sub_sb {z w x y : Int32} {X Y : Int} (hz : z = x &&& w) (hw : w = y ^^^ (Int32.ofInt (-1))) (hX : x.toInt = X) (hY : y.toInt = Y) (h0 : 0 ≤ X) (h1 : X ≤ 15) (h2 : 0 ≤ Y) (h3 : Y ≤ 15) : (z.toInt = 0 → sbI X Y = 1) ∧ (z.toInt ≠ 0 → sbI X Y = 0) := by
  have a : x = Int32.ofInt ((X.toNat : Nat) : Int) := ofNat_of (by omega)
  have b : y = Int32.ofInt ((Y.toNat : Nat) : Int) := ofNat_of (by omega)
  have c := sub_all ⟨X.toNat, by omega⟩ ⟨Y.toNat, by omega⟩
  simp only at c; rw [← a, ← b, ← hw, ← hz] at c
  constructor
  · intro h; unfold sbI; rw [if_pos (c.mp h)]
  · intro h; unfold sbI; rw [if_neg (fun q => h (c.mpr q))]
theorem shl1_all : ∀ i : Fin 5, ((Int32.ofInt 1) <<< ((Int32.ofInt (i.val : Int)) &&& 31)).toInt = ((2 ^ i.val : Nat) : Int) := by decide +kernel
theorem shl1_v {y : Int32} {Y : Int} (hY : y.toInt = Y) (h0 : 0 ≤ Y) (h1 : Y ≤ 4) : ((Int32.ofInt 1) <<< (y &&& 31)).toInt = pI Y := by
  have a : y = Int32.ofInt ((Y.toNat : Nat) : Int) := ofNat_of (by omega)
  have c := shl1_all ⟨Y.toNat, by omega⟩
  simp only at c; rw [← a] at c; exact c
theorem WT_peekJ {σ : SG} {a g : Nat} {J l u : Int} (hσ : WT σ) (ha : TG a = g) (hg : g < 900) (h0 : 0 ≤ J) (h1 : J < (LN g : Int)) (ht : FT g J.toNat = (0, l, u)) : ∃ y : Int32, (σ a)[J.toNat]? = some (Value.int y) ∧ l ≤ y.toInt ∧ y.toInt ≤ u := by
  obtain ⟨v, hv, hk⟩ := WT_at (j := J.toNat) hσ ha hg (by omega)
  rw [ht] at hk
  obtain ⟨y, rfl, h2, h3⟩ := vOK_int hk
  exact ⟨y, hv, h2, h3⟩
end CNT
end
/-! 12.f.fresh -/
section
/-! the fresh heap is of its types -/
def sg0 : SG := fun a => match h0[a]? with
  | some c => c.2.2
  | none => []
theorem h0_HP : h0 = HP sg0 := by rw [HP_eq]; exact hpQ_ok (by decide +kernel)
def vOKb (t : Nat × Int × Int) (v : Value) : Bool := match v with
  | .int x => t.1 == 0 && decide (t.2.1 ≤ x.toInt) && decide (x.toInt ≤ t.2.2)
  | .long x => t.1 == 1 && decide (t.2.1 ≤ x.toInt) && decide (x.toInt ≤ t.2.2)
  | .ref a => t.1 == 2 && decide ((TG a : Int) = t.2.1)
  | _ => false
theorem vOKb_ok {t : Nat × Int × Int} {v : Value} (h : vOKb t v = true) : vOK t v := by
  cases v with
  | int x => simp only [vOKb, Bool.and_eq_true, beq_iff_eq, decide_eq_true_eq] at h; exact ⟨h.1.1, h.1.2, h.2⟩
  | long x => simp only [vOKb, Bool.and_eq_true, beq_iff_eq, decide_eq_true_eq] at h; exact ⟨h.1.1, h.1.2, h.2⟩
  | ref a => simp only [vOKb, Bool.and_eq_true, beq_iff_eq, decide_eq_true_eq] at h; exact ⟨h.1, h.2⟩
  | _ => cases h
/-- values beside their types, one step a value -/
def zipB : List (Nat × Int × Int) → List Value → Bool
  | _, [] => true
  | t :: l, v :: vs => vOKb t v && zipB l vs
  | [], _ :: _ => false
theorem zipB_at {l : List (Nat × Int × Int)} {vs : List Value} {j : Nat} {v : Value} (h : zipB l vs = true) (hv : vs[j]? = some v) : vOKb (l.getD j (9, 0, 0)) v = true := by
  induction vs generalizing l j with
  | nil => cases hv
  | cons w r ih =>
    cases l with
    | nil => exact absurd h (by unfold zipB; exact Bool.false_ne_true)
    | cons t l =>
      unfold zipB at h
      rw [Bool.and_eq_true] at h
      cases j with
      | zero => cases hv; rw [List.getD_cons_zero]; exact h.1
      | succ j =>
        rw [List.getElem?_cons_succ] at hv
        rw [List.getD_cons_succ]
        exact ih h.2 hv
def okRow (k : Nat) (l : List (Nat × Int × Int)) (vs : List Value) : Bool := match k, l with
  | 0, l => zipB l vs
  | _, [t] => vs.all (fun v => vOKb t v)
  | _, l => zipB l vs
theorem okRow_at {k : Nat} {l : List (Nat × Int × Int)} {vs : List Value} {j : Nat} {v : Value} (h : okRow k l vs = true) (hv : vs[j]? = some v) : vOKb (pick k l j) v = true := by
  cases k with
  | zero => exact zipB_at (l := l) h hv
  | succ k =>
    exact match l, h with
    | [], h => zipB_at (l := []) h hv
    | [t], h => List.all_eq_true.mp h v (List.mem_of_getElem? hv)
    | a :: b :: r, h => zipB_at (l := a :: b :: r) h hv
def okWT : Bool := (List.range NCEL).all (fun a => decide ((sg0 a).length = LN (TG a)) && okRow (KD (TG a)) (TY (TG a)).2.2.2 (sg0 a))
theorem okWT_ok : okWT = true := by decide +kernel
theorem WT0 : WT sg0 := by
  intro a ha
  have h := List.all_eq_true.mp okWT_ok a (List.mem_range.mpr ha)
  rw [Bool.and_eq_true, decide_eq_true_eq] at h
  exact ⟨h.1, fun j v hv => vOKb_ok (okRow_at h.2 hv)⟩
theorem slo_HP {σ : SG} (hσ : WT σ) : slo (HP σ) ≤ 100000 := by
  have e : (HP σ).map (fun c => c.2.2.length) = (List.range NCEL).map (fun a => LN (TG a)) := by
    apply List.ext_getElem?
    intro i
    rw [List.getElem?_map, HP_at, List.getElem?_map]
    rcases Nat.lt_or_ge i NCEL with z | z
    · have h1 := of_decide_eq_true (List.all_eq_true.mp okSh_ok i (List.mem_range.mpr z))
      rw [h1, List.getElem?_range z]
      simp [(hσ i z).1]
    · have hn : SHP.length = NCEL := by decide +kernel
      rw [List.getElem?_eq_none (by omega), List.getElem?_eq_none (by simp; omega)]
      rfl
  unfold slo
  rw [e]
  decide +kernel
theorem len_HP {σ : SG} : (HP σ).length ≤ 1000 := by
  rw [HP_len]
  decide +kernel
end
/-! 31.a.see -/
section
section SEE
def seeF (c n a : Int) : Int := if a < n then c % 256 else -1
theorem see_all : ∀ i : Fin 256, ((Int32.ofInt ((i.val : Int) - 128)) &&& ((Int16.ofInt 255).toInt32)).toInt = ((i.val : Int) - 128) % 256 := by decide +kernel
theorem seeF_some {z c : Int32} {n a : Int} (h : a < n ∧ -128 ≤ c.toInt ∧ c.toInt ≤ 127) (hz : z = c &&& ((Int16.ofInt 255).toInt32)) : z.toInt = seeF c.toInt n a := by
  unfold seeF; rw [if_pos h.1, hz]
  have e : c = Int32.ofInt (((c.toInt + 128).toNat : Int) - 128) := by
    rw [show (((c.toInt + 128).toNat : Int) - 128) = c.toInt by omega]; exact (Int32.ofInt_toInt c).symm
  have k := see_all ⟨(c.toInt + 128).toNat, by omega⟩
  simp only at k; rw [← e] at k; rw [k]; omega
end SEE
end
/-! 31.b.tim -/
section
section TIM
/-! cells as numbers -/
def ci (σ : SG) (a : Nat) (i : Int) : Int := match (σ a)[i.toNat]? with | some (.int y) => y.toInt | _ => 0
theorem ci_at {σ : SG} {a : Nat} {i j : Int} {y : Int32} (h : (σ a)[j.toNat]? = some (Value.int y)) (e : i = j) : ci σ a i = y.toInt := by
  subst e; unfold ci; rw [h]
theorem ci_eq {σ σ' : SG} {a : Nat} {i : Int} (h : (σ' a)[i.toNat]? = (σ a)[i.toNat]?) : ci σ' a i = ci σ a i := by unfold ci; rw [h]
theorem ci_st {σ σ' : SG} {a : Nat} {J : Int} {y : Int32} (h1 : (σ' a)[J.toNat]? = some (Value.int y)) (h2 : ∀ b i, (b ≠ a ∨ i ≠ J.toNat) → (σ' b)[i]? = (σ b)[i]?) (hJ : 0 ≤ J) (i : Int) (hi : 0 ≤ i) : ci σ' a i = if i = J then y.toInt else ci σ a i := by
  by_cases h : i = J
  · rw [if_pos h]; exact ci_at h1 h
  · rw [if_neg h]; exact ci_eq (h2 a _ (Or.inr (by omega)))
theorem ci_ne {σ σ' : SG} {a b : Nat} {n : Nat} (h2 : ∀ b i, (b ≠ a ∨ i ≠ n) → (σ' b)[i]? = (σ b)[i]?) (hb : b ≠ a) (i : Int) : ci σ' b i = ci σ b i := ci_eq (h2 b _ (Or.inl hb))
theorem ci_fr {W : List (Nat × Nat)} {σ σ' : SG} {b g : Nat} (h : Fr W σ σ') (hb : TG b = g) (hw : (decide (KD g ≠ 0) && !W.contains (g, 0)) = true) (i : Int) : ci σ' b i = ci σ b i := ci_eq (h b _ (inWa hb hw))
theorem Fr_nil {σ σ' : SG} (h : Fr [] σ σ') : σ = σ' := by
  funext a
  apply List.ext_getElem?
  intro i
  exact (h a i rfl).symm
/-! one table of hours -/
def frees (bz : Nat → Nat) (T d t : Nat) : Prop := ∀ h, t ≤ h → h < t + d → bz h < T
def addB (bz : Nat → Nat) (t d : Nat) : Nat → Nat := fun h => bz h + (if t ≤ h ∧ h < t + d then 1 else 0)
def updN (f : Nat → Nat) (c t : Nat) : Nat → Nat := fun x => if x = c then t else f x
def Rdy (ah : Nat → Nat) (th c : Nat) : Prop := ∀ a, a < c → (ah c).testBit a = true → th.testBit a = true
def Aft (tk ah bg : Nat → Nat) (c f : Nat) : Prop := (∀ a, a < c → (ah c).testBit a = true → bg a + tk a ≤ f) ∧ (f = 0 ∨ ∃ a, a < c ∧ (ah c).testBit a = true ∧ f = bg a + tk a)
def First (bz : Nat → Nat) (T d f t : Nat) : Prop := f ≤ t ∧ frees bz T d t ∧ ∀ u, f ≤ u → u < t → ¬ frees bz T d u
def FARN : Nat := 1000000
def Run (tk ah : Nat → Nat) (T : Nat) : List Nat → (Nat → Nat) → (Nat → Nat) → Nat → Nat → Nat → Prop
  | [], _, _, _, la, r => r = la
  | c :: cs, bz, bg, th, la, r => (¬ Rdy ah th c ∧ r = FARN) ∨ (Rdy ah th c ∧ ∃ f t, Aft tk ah bg c f ∧ First bz T (tk c) f t ∧ Run tk ah T cs (addB bz t (tk c)) (updN bg c t) (th ||| 2 ^ c) (max la (t + tk c)) r)
theorem tb_or (th c a : Nat) : (th ||| 2 ^ c).testBit a = (th.testBit a || decide (c = a)) := by
  rw [Nat.testBit_or, Nat.testBit_two_pow]
theorem addB_le (bz : Nat → Nat) (t d h : Nat) : bz h ≤ addB bz t d h := by unfold addB; omega
theorem frees_of_add {bz : Nat → Nat} {T d t t' d' : Nat} (h : frees (addB bz t' d') T d t) : frees bz T d t := by
  intro x h1 h2; have := h x h1 h2; have := addB_le bz t' d' x; omega
theorem addB_comm (bz : Nat → Nat) (t d t' d' : Nat) : addB (addB bz t d) t' d' = addB (addB bz t' d') t d := by
  funext h; unfold addB; omega
theorem updN_comm (f : Nat → Nat) {c c' : Nat} (t t' : Nat) (h : c ≠ c') : updN (updN f c t) c' t' = updN (updN f c' t') c t := by
  funext x; unfold updN
  by_cases h1 : x = c'
  · by_cases h2 : x = c
    · omega
    · rw [if_pos h1, if_neg h2, if_pos h1]
  · rw [if_neg h1, if_neg h1]
theorem Aft_uniq {tk ah bg bg' : Nat → Nat} {c f f' : Nat} (h : Aft tk ah bg c f) (h' : Aft tk ah bg' c f') (e : ∀ a, a < c → (ah c).testBit a = true → bg a = bg' a) : f = f' := by
  obtain ⟨h1, h2⟩ := h
  obtain ⟨h3, h4⟩ := h'
  have a1 : f ≤ f' := by
    rcases h2 with h2 | ⟨a, k1, k2, k3⟩
    · omega
    · have := h3 a k1 k2; have := e a k1 k2; omega
  have a2 : f' ≤ f := by
    rcases h4 with h4 | ⟨a, k1, k2, k3⟩
    · omega
    · have := h1 a k1 k2; have := e a k1 k2; omega
  omega
theorem First_uniq {bz : Nat → Nat} {T d f t t' : Nat} (h : First bz T d f t) (h' : First bz T d f t') : t = t' := by
  obtain ⟨h1, h2, h3⟩ := h
  obtain ⟨k1, k2, k3⟩ := h'
  rcases Nat.lt_trichotomy t t' with z | z | z
  · exact absurd h2 (k3 t h1 z)
  · exact z
  · exact absurd k2 (h3 t' k1 z)
theorem Run_uniq {tk ah : Nat → Nat} {T : Nat} : ∀ (l : List Nat) (bz bg bg' : Nat → Nat) (th la r r' : Nat), (∀ a, th.testBit a = true → bg a = bg' a) → Run tk ah T l bz bg th la r → Run tk ah T l bz bg' th la r' → r = r' := by
  intro l
  induction l with
  | nil => intro bz bg bg' th la r r' e h h'; unfold Run at h h'; omega
  | cons c cs ih =>
    intro bz bg bg' th la r r' e h h'
    unfold Run at h h'
    rcases h with ⟨h1, h2⟩ | ⟨h1, f, t, h2, h3, h4⟩
    · rcases h' with ⟨k1, k2⟩ | ⟨k1, k2⟩
      · omega
      · exact absurd k1 h1
    · rcases h' with ⟨k1, k2⟩ | ⟨k1, f', t', k2, k3, k4⟩
      · exact absurd h1 k1
      · have e1 := Aft_uniq h2 k2 (fun a ha hb => e a (h1 a ha hb))
        subst e1
        have e2 := First_uniq h3 k3
        subst e2
        refine ih _ _ _ _ _ _ _ ?_ h4 k4
        intro a ha
        unfold updN
        by_cases z : a = c
        · rw [if_pos z, if_pos z]
        · rw [if_neg z, if_neg z]
          rw [tb_or] at ha
          refine e a ?_
          rcases Bool.or_eq_true_iff.mp ha with q | q
          · exact q
          · exact absurd (of_decide_eq_true q).symm z
theorem Run_ge {tk ah : Nat → Nat} {T : Nat} : ∀ (l : List Nat) (bz bg : Nat → Nat) (th la r : Nat), Run tk ah T l bz bg th la r → r = FARN ∨ la ≤ r := by
  intro l
  induction l with
  | nil => intro bz bg th la r h; unfold Run at h; omega
  | cons c cs ih =>
    intro bz bg th la r h
    unfold Run at h
    rcases h with ⟨h1, h2⟩ | ⟨h1, f, t, h2, h3, h4⟩
    · exact Or.inl h2
    · rcases ih _ _ _ _ _ h4 with z | z
      · exact Or.inl z
      · exact Or.inr (by omega)
/-- nobody is at work behind the last hour, and what is placed is over by then -/
def Okb (tk bz bg : Nat → Nat) (th la : Nat) : Prop := (∀ h, la ≤ h → bz h = 0) ∧ ∀ a, th.testBit a = true → bg a + tk a ≤ la
theorem Okb_put {tk bz bg : Nat → Nat} {th la c t : Nat} (h : Okb tk bz bg th la) : Okb tk (addB bz t (tk c)) (updN bg c t) (th ||| 2 ^ c) (max la (t + tk c)) := by
  refine ⟨fun x hx => ?_, fun a ha => ?_⟩
  · have := h.1 x (by omega)
    unfold addB
    rw [if_neg (by omega)]; omega
  · unfold updN
    by_cases z : a = c
    · rw [if_pos z]; subst z; omega
    · rw [if_neg z]
      rw [tb_or] at ha
      rcases Bool.or_eq_true_iff.mp ha with q | q
      · have := h.2 a q; omega
      · exact absurd (of_decide_eq_true q).symm z
theorem Aft_le {tk ah bg bz : Nat → Nat} {th la c f : Nat} (h : Okb tk bz bg th la) (hr : Rdy ah th c) (hf : Aft tk ah bg c f) : f ≤ la := by
  rcases hf.2 with z | ⟨a, h1, h2, h3⟩
  · omega
  · have := h.2 a (hr a h1 h2); omega
theorem free_la {tk bg bz : Nat → Nat} {th la T d t : Nat} (h : Okb tk bz bg th la) (hT : 1 ≤ T) (ht : la ≤ t) : frees bz T d t := by
  intro x h1 h2; rw [h.1 x (by omega)]; omega
theorem First_le {tk bg bz : Nat → Nat} {th la T d f t : Nat} (h : Okb tk bz bg th la) (hT : 1 ≤ T) (hf : f ≤ la) (ht : First bz T d f t) : t ≤ la := by
  rcases Nat.lt_or_ge la t with z | z
  · exact absurd (free_la (d := d) h hT (Nat.le_refl la)) (ht.2.2 la hf z)
  · exact z
theorem Run_id {tk ah : Nat → Nat} {T : Nat} (hT : 1 ≤ T) (htk : ∀ c, tk c ≤ 9) : ∀ (n c : Nat) (bz bg : Nat → Nat) (th la r : Nat), (∀ a, a < c → th.testBit a = true) → Okb tk bz bg th la → Run tk ah T (List.range' c n) bz bg th la r → r ≤ la + 9 * n := by
  intro n
  induction n with
  | zero => intro c bz bg th la r hth ho h; unfold List.range' Run at h; omega
  | succ n ih =>
    intro c bz bg th la r hth ho h
    rw [List.range'_succ] at h
    unfold Run at h
    rcases h with ⟨h1, h2⟩ | ⟨h1, f, t, h2, h3, h4⟩
    · exact absurd (fun a ha _ => hth a ha) h1
    · have h5 := Aft_le ho h1 h2
      have h6 := First_le ho hT h5 h3
      have h7 := htk c
      have := ih _ _ _ _ _ _ (fun a ha => by
        rw [tb_or]
        by_cases z : c = a
        · rw [decide_eq_true z, Bool.or_true]
        · rw [hth a (by omega), Bool.true_or]) (Okb_put ho) h4
      omega
/-- a course k of the order is put ahead of all: all is over at the same hour -/
theorem Run_move {tk ah : Nat → Nat} {T k : Nat} : ∀ (pre suf : List Nat) (bz bg : Nat → Nat) (th la r : Nat), (∀ c ∈ pre, k < c) → th.testBit k = false → r < FARN → Run tk ah T (pre ++ k :: suf) bz bg th la r →
    ∃ t, t + tk k ≤ r ∧ frees bz T (tk k) t ∧ (∃ f, Aft tk ah bg k f ∧ f ≤ t) ∧ Run tk ah T (pre ++ suf) (addB bz t (tk k)) (updN bg k t) (th ||| 2 ^ k) (max la (t + tk k)) r := by
  intro pre
  induction pre with
  | nil =>
    intro suf bz bg th la r hp hk hr h
    rw [List.nil_append] at h
    unfold Run at h
    rcases h with ⟨h1, h2⟩ | ⟨h1, f, t, h2, h3, h4⟩
    · omega
    · refine ⟨t, ?_, h3.2.1, ⟨f, h2, h3.1⟩, h4⟩
      rcases Run_ge _ _ _ _ _ _ h4 with z | z
      · omega
      · omega
  | cons c pre ih =>
    intro suf bz bg th la r hp hk hr h
    rw [List.cons_append] at h
    unfold Run at h
    have hkc : k < c := hp c (List.mem_cons_self ..)
    rcases h with ⟨h1, h2⟩ | ⟨h1, f, t, h2, h3, h4⟩
    · omega
    · obtain ⟨s, i1, i2, ⟨f', i3, i4⟩, i5⟩ := ih suf _ _ _ _ _ (fun x hx => hp x (List.mem_cons_of_mem _ hx)) (by rw [tb_or, hk, decide_eq_false (by omega)]; rfl) hr h4
      refine ⟨s, i1, frees_of_add i2, ⟨f', ?_, i4⟩, ?_⟩
      · have e : ∀ a, a < k → updN bg c t a = bg a := fun a ha => by unfold updN; rw [if_neg (by omega)]
        refine ⟨fun a ha hb => by rw [← e a ha]; exact i3.1 a ha hb, ?_⟩
        rcases i3.2 with z | ⟨a, z1, z2, z3⟩
        · exact Or.inl z
        · exact Or.inr ⟨a, z1, z2, by rw [← e a z1]; exact z3⟩
      · rw [List.cons_append]
        unfold Run
        refine Or.inr ⟨fun a ha hb => by rw [tb_or, h1 a ha hb, Bool.true_or], f, t, ?_, ?_, ?_⟩
        · have e : ∀ a, a < c → (ah c).testBit a = true → updN bg k s a = bg a := fun a ha hb => by
            unfold updN
            have := h1 a ha hb
            rw [if_neg (fun z => by rw [z, hk] at this; cases this)]
          refine ⟨fun a ha hb => by rw [e a ha hb]; exact h2.1 a ha hb, ?_⟩
          rcases h2.2 with z | ⟨a, z1, z2, z3⟩
          · exact Or.inl z
          · exact Or.inr ⟨a, z1, z2, by rw [e a z1 z2]; exact z3⟩
        · refine ⟨h3.1, fun x hx hy => ?_, fun u hu hv => fun z => h3.2.2 u hu hv (frees_of_add z)⟩
          have b1 := h3.2.1 x hx hy
          by_cases z : s ≤ x ∧ x < s + tk k
          · have b2 := i2 x z.1 z.2
            unfold addB at b2 ⊢
            rw [if_pos ⟨hx, hy⟩] at b2
            rw [if_pos z]; exact b2
          · unfold addB; rw [if_neg z]; omega
        · rw [addB_comm, updN_comm _ _ _ (by omega : k ≠ c), show (th ||| 2 ^ k) ||| 2 ^ c = (th ||| 2 ^ c) ||| 2 ^ k by rw [Nat.or_assoc, Nat.or_comm (2 ^ k), ← Nat.or_assoc], show max (max la (s + tk k)) (t + tk c) = max (max la (t + tk c)) (s + tk k) by omega]
          exact i5
/-! the orders, by their numbers -/
def fct : Nat → Nat
  | 0 => 1
  | n + 1 => (n + 1) * fct n
def dec : Nat → Nat → List Nat → List Nat
  | 0, _, _ => []
  | n + 1, q, rl => match rl[q % (n + 1)]? with
    | some c => c :: dec n (q / (n + 1)) (rl.eraseIdx (q % (n + 1)))
    | none => []
theorem dec_at {n q c : Nat} {rl : List Nat} (h : rl[q % (n + 1)]? = some c) : dec (n + 1) q rl = c :: dec n (q / (n + 1)) (rl.eraseIdx (q % (n + 1))) := by
  show (match rl[q % (n + 1)]? with | some c => c :: dec n (q / (n + 1)) (rl.eraseIdx (q % (n + 1))) | none => []) = _
  rw [h]
theorem fct_pos : ∀ n, 1 ≤ fct n := by
  intro n
  induction n with
  | zero => exact Nat.le_refl 1
  | succ n ih => unfold fct; exact Nat.mul_pos (Nat.succ_pos n) ih
theorem dec_mem : ∀ (n q : Nat) (rl : List Nat) (x : Nat), x ∈ dec n q rl → x ∈ rl := by
  intro n
  induction n with
  | zero => intro q rl x h; unfold dec at h; cases h
  | succ n ih =>
    intro q rl x h
    unfold dec at h
    split at h
    · rename_i c hc
      rcases List.mem_cons.mp h with z | z
      · subst z; exact List.mem_of_getElem? hc
      · exact List.mem_of_mem_eraseIdx (ih _ _ _ z)
    · cases h
theorem dec_id : ∀ (n : Nat) (rl : List Nat), rl.length = n → dec n 0 rl = rl := by
  intro n
  induction n with
  | zero => intro rl h; unfold dec; exact (List.length_eq_zero_iff.mp h).symm
  | succ n ih =>
    intro rl h
    match rl, h with
    | c :: cs, h =>
      unfold dec
      rw [Nat.zero_mod, Nat.zero_div]
      show c :: dec n 0 cs = c :: cs
      rw [ih cs (by simpa using h)]
theorem dec_cut : ∀ (n q k : Nat) (rl : List Nat), rl.length = n → q < fct (n + 1) → ∃ pre suf q', dec (n + 1) q (k :: rl) = pre ++ k :: suf ∧ dec n q' rl = pre ++ suf ∧ q' < fct n := by
  intro n
  induction n with
  | zero =>
    intro q k rl h hq
    have e : rl = [] := List.length_eq_zero_iff.mp h
    subst e
    refine ⟨[], [], 0, ?_, rfl, by decide⟩
    unfold dec
    rw [Nat.mod_one]
    rfl
  | succ n ih =>
    intro q k rl h hq
    have hq2 : q / (n + 1 + 1) < fct (n + 1) := Nat.div_lt_of_lt_mul (by unfold fct at hq; exact hq)
    have hm : q % (n + 1 + 1) < n + 1 + 1 := Nat.mod_lt _ (by omega)
    rcases hi : q % (n + 1 + 1) with _ | i
    · refine ⟨[], dec (n + 1) (q / (n + 1 + 1)) rl, q / (n + 1 + 1), ?_, rfl, hq2⟩
      rw [dec_at (c := k) (by rw [hi]; rfl), hi]; rfl
    · have hi2 : i < rl.length := by omega
      have hc : rl[i]? = some rl[i] := List.getElem?_eq_getElem hi2
      obtain ⟨pre, suf, q', h1, h2, h3⟩ := ih (q / (n + 1 + 1)) k (rl.eraseIdx i) (by rw [List.length_eraseIdx_of_lt hi2]; omega) hq2
      refine ⟨rl[i] :: pre, suf, i + (n + 1) * q', ?_, ?_, ?_⟩
      · rw [dec_at (c := rl[i]) (by rw [hi, List.getElem?_cons_succ]; exact hc), hi, List.eraseIdx_cons_succ, h1]; rfl
      · have e1 : (i + (n + 1) * q') % (n + 1) = i := by rw [Nat.add_mul_mod_self_left]; exact Nat.mod_eq_of_lt (by omega)
        have e2 : (i + (n + 1) * q') / (n + 1) = q' := by rw [Nat.add_mul_div_left _ _ (by omega), Nat.div_eq_of_lt (by omega)]; omega
        rw [dec_at (c := rl[i]) (by rw [e1]; exact hc), e1, e2, h2]; rfl
      · have : (n + 1) * (q' + 1) ≤ (n + 1) * fct n := Nat.mul_le_mul_left _ (by omega)
        unfold fct
        rw [Nat.mul_add] at this
        omega
/-! the first courses, fixed -/
def bzP (tk fx : Nat → Nat) : Nat → Nat → Nat
  | 0 => fun _ => 0
  | k + 1 => addB (bzP tk fx k) (fx k) (tk k)
def bgP (fx : Nat → Nat) : Nat → Nat → Nat
  | 0 => fun _ => 0
  | k + 1 => updN (bgP fx k) k (fx k)
def thP : Nat → Nat
  | 0 => 0
  | k + 1 => thP k ||| 2 ^ k
def laP (tk fx : Nat → Nat) : Nat → Nat
  | 0 => 0
  | k + 1 => max (laP tk fx k) (fx k + tk k)
theorem thP_bit : ∀ k a, (thP k).testBit a = decide (a < k) := by
  intro k
  induction k with
  | zero => intro a; unfold thP; rw [Nat.zero_testBit]; exact (decide_eq_false (by omega)).symm
  | succ k ih =>
    intro a; unfold thP
    rw [tb_or, ih]
    by_cases h1 : a < k
    · rw [decide_eq_true h1, decide_eq_true (by omega : a < k + 1)]; rfl
    · by_cases h2 : k = a
      · rw [decide_eq_false h1, decide_eq_true h2, decide_eq_true (by omega : a < k + 1)]; rfl
      · rw [decide_eq_false h1, decide_eq_false h2, decide_eq_false (by omega : ¬ a < k + 1)]; rfl
theorem OkbP (tk fx : Nat → Nat) : ∀ k, Okb tk (bzP tk fx k) (bgP fx k) (thP k) (laP tk fx k) := by
  intro k
  induction k with
  | zero => exact ⟨fun _ _ => rfl, fun a ha => by unfold thP at ha; rw [Nat.zero_testBit] at ha; cases ha⟩
  | succ k ih => exact Okb_put ih
theorem bzP_congr {tk fx fx' : Nat → Nat} : ∀ k, (∀ a, a < k → fx a = fx' a) → bzP tk fx k = bzP tk fx' k ∧ bgP fx k = bgP fx' k ∧ laP tk fx k = laP tk fx' k := by
  intro k
  induction k with
  | zero => intro _; exact ⟨rfl, rfl, rfl⟩
  | succ k ih =>
    intro h
    obtain ⟨a, b, c⟩ := ih (fun x hx => h x (by omega))
    unfold bzP bgP laP
    rw [a, b, c, h k (by omega)]
    exact ⟨rfl, rfl, rfl⟩
theorem bzP_le (tk fx : Nat → Nat) (h : Nat) : ∀ k, bzP tk fx k h ≤ k := by
  intro k
  induction k with
  | zero => exact Nat.le_refl 0
  | succ k ih => unfold bzP addB; split <;> omega
theorem laP_le {tk fx : Nat → Nat} (h9 : ∀ c, tk c ≤ 9) : ∀ k, (∀ a, a < k → fx a ≤ 54) → laP tk fx k ≤ 63 ∧ (k = 0 → laP tk fx k = 0) := by
  intro k
  induction k with
  | zero => intro _; exact ⟨by unfold laP; omega, fun _ => rfl⟩
  | succ k ih =>
    intro h
    have := (ih (fun a ha => h a (by omega))).1
    have := h k (by omega)
    have := h9 k
    unfold laP
    exact ⟨by omega, by omega⟩
def OVER (tk ah fx : Nat → Nat) (N T fm q r : Nat) : Prop := Run tk ah T (dec (N - fm) q (List.range' fm (N - fm))) (bzP tk fx fm) (bgP fx fm) (thP fm) (laP tk fx fm) r
theorem OVER_congr {tk ah fx fx' : Nat → Nat} {N T fm q r : Nat} (h : OVER tk ah fx N T fm q r) (e : ∀ a, a < fm → fx a = fx' a) : OVER tk ah fx' N T fm q r := by
  obtain ⟨a, b, c⟩ := bzP_congr (tk := tk) fm e
  unfold OVER at h ⊢
  rw [← a, ← b, ← c]; exact h
theorem OVER_uniq {tk ah fx : Nat → Nat} {N T fm q r r' : Nat} (h : OVER tk ah fx N T fm q r) (h' : OVER tk ah fx N T fm q r') : r = r' := Run_uniq _ _ _ _ _ _ _ _ (fun _ _ => rfl) h h'
def MAY (tk ah fx : Nat → Nat) (T k t : Nat) : Prop := frees (bzP tk fx k) T (tk k) t ∧ ∃ f, Aft tk ah (bgP fx k) k f ∧ f ≤ t
/-- what the search of the hour of a course finds at last -/
theorem OVER_next {tk ah fx : Nat → Nat} {N T k q r : Nat} (hk : k < N) (hq : q < fct (N - k)) (hr : r < FARN) (h : OVER tk ah fx N T k q r) : ∃ t q', t + tk k ≤ r ∧ MAY tk ah fx T k t ∧ q' < fct (N - (k + 1)) ∧ OVER tk ah (updN fx k t) N T (k + 1) q' r := by
  unfold OVER at h
  have e : N - k = (N - (k + 1)) + 1 := by omega
  rw [e] at hq h
  rw [List.range'_succ] at h
  obtain ⟨pre, suf, q', h1, h2, h3⟩ := dec_cut (N - (k + 1)) q k (List.range' (k + 1) (N - (k + 1))) (List.length_range' ..) hq
  rw [h1] at h
  have hp : ∀ c ∈ pre, k < c := by
    intro c hc
    have : c ∈ dec (N - (k + 1)) q' (List.range' (k + 1) (N - (k + 1))) := by rw [h2]; exact List.mem_append_left _ hc
    have := List.mem_range'_1.mp (dec_mem _ _ _ _ this)
    omega
  obtain ⟨t, i1, i2, i3, i4⟩ := Run_move pre suf _ _ _ _ _ hp (by rw [thP_bit, decide_eq_false (by omega)]) hr h
  refine ⟨t, q', i1, ⟨i2, i3⟩, h3, ?_⟩
  obtain ⟨c1, c2, c3⟩ := bzP_congr (tk := tk) (fx := updN fx k t) (fx' := fx) k (fun a ha => by unfold updN; rw [if_neg (by omega)])
  have hu : updN fx k t k = t := by unfold updN; rw [if_pos rfl]
  unfold OVER
  rw [h2]
  unfold bzP bgP thP laP
  rw [c1, c2, c3, hu]
  exact i4
theorem OVER_id {tk ah fx : Nat → Nat} {N T r : Nat} (hT : 1 ≤ T) (h9 : ∀ c, tk c ≤ 9) (h : OVER tk ah fx N T 0 0 r) : r ≤ 9 * N := by
  unfold OVER at h
  rw [dec_id _ _ (List.length_range' ..)] at h
  have := Run_id hT h9 _ _ _ _ _ _ _ (fun a ha => absurd ha (by omega)) (OkbP tk fx 0) h
  unfold laP at this
  omega
def LEAST (tk ah fx : Nat → Nat) (N T fm r : Nat) : Prop := (∀ q, q < fct (N - fm) → ∃ r', OVER tk ah fx N T fm q r' ∧ r ≤ r') ∧ (r = FARN ∨ ∃ q, q < fct (N - fm) ∧ OVER tk ah fx N T fm q r)
/-- the aim of the search: an hour not behind us at which it ends -/
def AIM (tk ah fx : Nat → Nat) (N T k all : Nat) : Prop := ∃ t q r, fx k ≤ t ∧ t ≤ 54 ∧ MAY tk ah fx T k t ∧ q < fct (N - (k + 1)) ∧ OVER tk ah (updN fx k t) N T (k + 1) q r ∧ r ≤ all
end TIM
end
/-! 31.c.tim -/
section
section TIMC
/-! small sets in the machine -/
def bI (x k : Int) : Int := if x.toNat.testBit k.toNat = true then 1 else 0
theorem bI_rng (x k : Int) : 0 ≤ bI x k ∧ bI x k ≤ 1 := by unfold bI; split <;> omega
theorem bI_t {x k r : Int} (h : r = bI x k) (hr : r ≠ 0) : x.toNat.testBit k.toNat = true := by
  unfold bI at h
  by_cases z : x.toNat.testBit k.toNat = true
  · exact z
  · rw [if_neg z] at h; omega
theorem bI_f {x k r : Int} (h : r = bI x k) (hr : r = 0) : x.toNat.testBit k.toNat = false := by
  unfold bI at h
  by_cases z : x.toNat.testBit k.toNat = true
  · rw [if_pos z] at h; omega
  · exact Bool.eq_false_iff.mpr z
theorem bit_all : ∀ x : Fin 64, ∀ k : Fin 8, (((Int32.ofInt (x.val : Int)) >>> ((Int32.ofInt (k.val : Int)) &&& 31)) &&& (Int32.ofInt 1)).toInt = if x.val.testBit k.val = true then 1 else 0 := by decide +kernel
theorem bit_small {z a b : Int32} (hz : z = (a >>> (b &&& 31)) &&& (Int32.ofInt 1)) (h0 : 0 ≤ a.toInt) (h1 : a.toInt ≤ 63) (h2 : 0 ≤ b.toInt) (h3 : b.toInt ≤ 7) : z.toInt = bI a.toInt b.toInt := by
  have ea : a = Int32.ofInt ((a.toInt.toNat : Nat) : Int) := ofNat_of (by omega)
  have eb : b = Int32.ofInt ((b.toInt.toNat : Nat) : Int) := ofNat_of (by omega)
  have c := bit_all ⟨a.toInt.toNat, by omega⟩ ⟨b.toInt.toNat, by omega⟩
  simp only at c; rw [← ea, ← eb, ← hz] at c; exact c
theorem or_all : ∀ x : Fin 64, ∀ c : Fin 6, ((Int32.ofInt (x.val : Int)) ||| ((Int32.ofInt 1) <<< ((Int32.ofInt (c.val : Int)) &&& 31))).toInt = ((x.val ||| 2 ^ c.val : Nat) : Int) ∧ x.val ||| 2 ^ c.val ≤ 63 := by decide +kernel
theorem or_small {z a b : Int32} {A B : Int} (hz : z = a ||| ((Int32.ofInt 1) <<< (b &&& 31))) (hA : a.toInt = A) (hB : b.toInt = B) (h0 : 0 ≤ A) (h1 : A ≤ 63) (h2 : 0 ≤ B) (h3 : B ≤ 5) : z.toInt = ((A.toNat ||| 2 ^ B.toNat : Nat) : Int) ∧ 0 ≤ z.toInt ∧ z.toInt ≤ 63 := by
  have ea : a = Int32.ofInt ((A.toNat : Nat) : Int) := ofNat_of (by omega)
  have eb : b = Int32.ofInt ((B.toNat : Nat) : Int) := ofNat_of (by omega)
  have c := or_all ⟨A.toNat, by omega⟩ ⟨B.toNat, by omega⟩
  simp only at c; rw [← ea, ← eb, ← hz] at c
  exact ⟨c.1, by omega, by omega⟩
theorem andn_all : ∀ x : Fin 64, ∀ c : Fin 6, x.val.testBit c.val = true → ((Int32.ofInt (x.val : Int)) &&& (((Int32.ofInt 1) <<< ((Int32.ofInt (c.val : Int)) &&& 31)) ^^^ (Int32.ofInt (-1)))).toInt = ((x.val - 2 ^ c.val : Nat) : Int) := by decide +kernel
theorem andn_small {z a b : Int32} {A B : Int} (hz : z = a &&& (((Int32.ofInt 1) <<< (b &&& 31)) ^^^ (Int32.ofInt (-1)))) (hA : a.toInt = A) (hB : b.toInt = B) (h0 : 0 ≤ A) (h1 : A ≤ 63) (h2 : 0 ≤ B) (h3 : B ≤ 5) (ht : A.toNat.testBit B.toNat = true) : z.toInt = ((A.toNat - 2 ^ B.toNat : Nat) : Int) := by
  have ea : a = Int32.ofInt ((A.toNat : Nat) : Int) := ofNat_of (by omega)
  have eb : b = Int32.ofInt ((B.toNat : Nat) : Int) := ofNat_of (by omega)
  have c := andn_all ⟨A.toNat, by omega⟩ ⟨B.toNat, by omega⟩ ht
  simp only at c; rw [← ea, ← eb, ← hz] at c; exact c
theorem st_all : ∀ N : Fin 7, ∀ f : Fin 7, f.val ≤ N.val → ((((Int32.ofInt 1) <<< ((Int32.ofInt (N.val : Int)) &&& 31)) - (Int32.ofInt 1)) &&& ((Int32.ofInt (thP f.val : Int)) ^^^ (Int32.ofInt (-1)))).toInt = ((2 ^ N.val - 2 ^ f.val : Nat) : Int) := by decide +kernel
theorem thP_63 : ∀ f : Fin 7, thP f.val ≤ 63 := by decide +kernel
theorem st_small {z n t : Int32} {N : Int} {f : Nat} (hz : z = (((Int32.ofInt 1) <<< (n &&& 31)) - (Int32.ofInt 1)) &&& (t ^^^ (Int32.ofInt (-1)))) (hN : n.toInt = N) (ht : t.toInt = (thP f : Int)) (h0 : (f : Int) ≤ N) (h1 : N ≤ 6) : z.toInt = ((2 ^ N.toNat - 2 ^ f : Nat) : Int) := by
  have ea : n = Int32.ofInt ((N.toNat : Nat) : Int) := ofNat_of (by omega)
  have eb : t = Int32.ofInt (thP f : Int) := by rw [← ht]; exact (Int32.ofInt_toInt t).symm
  have c := st_all ⟨N.toNat, by omega⟩ ⟨f, by omega⟩ (by simp only; omega)
  simp only at c; rw [← ea, ← eb, ← hz] at c; exact c
theorem m1_all : ∀ c : Fin 6, (((Int32.ofInt 1) <<< ((Int32.ofInt (c.val : Int)) &&& 31)) - (Int32.ofInt 1)).toInt = (thP c.val : Int) := by decide +kernel
theorem m1_small {z c : Int32} {N : Int} (hz : z = ((Int32.ofInt 1) <<< (c &&& 31)) - (Int32.ofInt 1)) (hN : c.toInt = N) (h0 : 0 ≤ N) (h1 : N ≤ 5) : z.toInt = (thP N.toNat : Int) ∧ 0 ≤ z.toInt ∧ z.toInt ≤ 63 := by
  have ea : c = Int32.ofInt ((N.toNat : Nat) : Int) := ofNat_of (by omega)
  have c' := m1_all ⟨N.toNat, by omega⟩
  have := thP_63 ⟨N.toNat, by omega⟩
  simp only at c' this; rw [← ea, ← hz] at c'
  exact ⟨c', by omega, by omega⟩
/-- the bits of a small set, in their order -/
def bl (m : Nat) : List Nat := (List.range 6).filter (fun k => m.testBit k)
def cnt (m c : Nat) : Nat := ((List.range c).filter (fun k => m.testBit k)).length
theorem bl_all : ∀ m : Fin 64, ∀ c : Fin 6, m.val.testBit c.val = true → (bl m.val)[cnt m.val c.val]? = some c.val ∧ (bl m.val).eraseIdx (cnt m.val c.val) = bl (m.val - 2 ^ c.val) := by decide +kernel
theorem bl_st : ∀ N : Fin 7, ∀ f : Fin 7, f.val ≤ N.val → bl (2 ^ N.val - 2 ^ f.val) = List.range' f.val (N.val - f.val) ∧ 2 ^ N.val - 2 ^ f.val ≤ 63 := by decide +kernel
theorem bl_sub : ∀ m : Fin 64, ∀ c : Fin 6, m.val.testBit c.val = true → ∀ k : Fin 6, (m.val - 2 ^ c.val).testBit k.val = true → m.val.testBit k.val = true ∧ k.val ≠ c.val := by decide +kernel
theorem bl_6 : ∀ m : Fin 64, cnt m.val 6 = (bl m.val).length := by decide +kernel
theorem cnt_s (m c : Nat) : cnt m (c + 1) = cnt m c + (if m.testBit c = true then 1 else 0) := by
  unfold cnt; rw [List.range_succ, List.filter_append, List.length_append]
  by_cases h : m.testBit c = true
  · rw [if_pos h]; simp [h]
  · rw [if_neg h]; simp [h]
theorem cnt_low {m : Nat} : ∀ c : Nat, (∀ k, k < c → m.testBit k = false) → cnt m c = 0 := by
  intro c
  induction c with
  | zero => intro _; rfl
  | succ c ih => intro h; rw [cnt_s, ih (fun k hk => h k (by omega)), h c (by omega)]; rfl
theorem bl_len {m : Nat} (h : m ≤ 63) (f n : Nat) (hn : (bl m).length = n) (hf : ∀ c, c < 6 → m.testBit c = true → f ≤ c) : cnt m f = 0 := by
  refine cnt_low f (fun k hk => ?_)
  by_cases z : m.testBit k = true
  · rcases Nat.lt_or_ge k 6 with q | q
    · have := hf k q z; omega
    · exact absurd z (by rw [Nat.testBit_lt_two_pow (Nat.lt_of_lt_of_le (by omega : m < 2 ^ 6) (Nat.pow_le_pow_right (by decide) q))]; intro e; cases e)
  · exact Bool.eq_false_iff.mpr z
/-! the world's numbers -/
theorem ci_rng {σ : SG} {a g : Nat} {J l u : Int} (hσ : WT σ) (ha : TG a = g) (hg : g < 900) (h0 : 0 ≤ J) (h1 : J < (LN g : Int)) (ht : FT g J.toNat = (0, l, u)) : l ≤ ci σ a J ∧ ci σ a J ≤ u := by
  obtain ⟨y, h, h2, h3⟩ := WT_peekJ hσ ha hg h0 h1 ht
  rw [ci_at h rfl]; exact ⟨h2, h3⟩
def tkN (σ : SG) (c : Nat) : Nat := if c < 6 then (ci σ 160 (154 + 2 * (c : Int))).toNat else 0
def ahN (σ : SG) (c : Nat) : Nat := (ci σ 160 (155 + 2 * (c : Int))).toNat
def fxN (σ : SG) (c : Nat) : Nat := if c < 6 then (ci σ 175 (c : Int)).toNat else 0
theorem tk_ci {σ : SG} (hσ : WT σ) {a : Int} (h0 : 0 ≤ a) (h1 : a ≤ 5) : (tkN σ a.toNat : Int) = ci σ 160 (154 + 2 * a) ∧ 0 ≤ ci σ 160 (154 + 2 * a) ∧ ci σ 160 (154 + 2 * a) ≤ 9 := by
  have h := ci_rng (J := 154 + 2 * a) (l := 0) (u := 9) hσ tgz_160 (by decide) (by omega) (lnI (by decide +kernel : LN _ = 226) (by omega)) (FTrow 36 154 2 6 (by decide +kernel) (by omega) (by omega) (by omega))
  refine ⟨?_, h.1, h.2⟩
  unfold tkN
  rw [if_pos (by omega), show ((a.toNat : Nat) : Int) = a by omega]
  omega
theorem tk9 {σ : SG} (hσ : WT σ) (c : Nat) : tkN σ c ≤ 9 := by
  by_cases z : c < 6
  · have := tk_ci hσ (a := c) (by omega) (by omega)
    rw [Int.toNat_natCast] at this; omega
  · unfold tkN; rw [if_neg z]; omega
theorem ah_ci {σ : SG} (hσ : WT σ) {a : Int} (h0 : 0 ≤ a) (h1 : a ≤ 5) : (ahN σ a.toNat : Int) = ci σ 160 (155 + 2 * a) ∧ 0 ≤ ci σ 160 (155 + 2 * a) ∧ ci σ 160 (155 + 2 * a) ≤ 63 := by
  have h := ci_rng (J := 155 + 2 * a) (l := 0) (u := 63) hσ tgz_160 (by decide) (by omega) (lnI (by decide +kernel : LN _ = 226) (by omega)) (FTrow 36 155 2 6 (by decide +kernel) (by omega) (by omega) (by omega))
  refine ⟨?_, h.1, h.2⟩
  unfold ahN
  rw [show ((a.toNat : Nat) : Int) = a by omega]
  omega
theorem fx_ci {σ : SG} (hσ : WT σ) {a : Int} (h0 : 0 ≤ a) (h1 : a ≤ 5) : (fxN σ a.toNat : Int) = ci σ 175 a ∧ 0 ≤ ci σ 175 a ∧ ci σ 175 a ≤ 54 := by
  have h := ci_rng (J := a) (l := 0) (u := 54) hσ tgz_175 (by decide) (by omega) (lnI (by decide +kernel : LN _ = 6) (by omega)) (FTsgl (by decide +kernel))
  refine ⟨?_, h.1, h.2⟩
  unfold fxN
  rw [if_pos (by omega), show ((a.toNat : Nat) : Int) = a by omega]
  omega
theorem fx54 {σ : SG} (hσ : WT σ) (c : Nat) : fxN σ c ≤ 54 := by
  by_cases z : c < 6
  · have := fx_ci hσ (a := c) (by omega) (by omega)
    rw [Int.toNat_natCast] at this; omega
  · unfold fxN; rw [if_neg z]; omega
theorem n6 {σ : SG} (hσ : WT σ) : 0 ≤ ci σ 160 5 ∧ ci σ 160 5 ≤ 6 := ci_rng hσ tgz_160 (by decide) (by omega) (lnI (by decide +kernel : LN _ = 226) (by omega)) (by decide +kernel)
theorem t3 {σ : SG} (hσ : WT σ) : 0 ≤ ci σ 160 1 ∧ ci σ 160 1 ≤ 3 := ci_rng hσ tgz_160 (by decide) (by omega) (lnI (by decide +kernel : LN _ = 226) (by omega)) (by decide +kernel)
theorem bg_rng {σ : SG} (hσ : WT σ) {a : Int} (h0 : 0 ≤ a) (h1 : a ≤ 5) : 0 ≤ ci σ 173 a ∧ ci σ 173 a ≤ 111 := ci_rng hσ tgz_173 (by decide) h0 (lnI (by decide +kernel : LN _ = 6) (by omega)) (FTsgl (by decide +kernel))
/-- the same world -/
def SWd (σ σ' : SG) : Prop := ∀ i, ci σ' 160 i = ci σ 160 i
def SXd (σ σ' : SG) : Prop := ∀ i, ci σ' 175 i = ci σ 175 i
theorem SWd_fr {W : List (Nat × Nat)} {σ σ' : SG} (h : Fr W σ σ') (hw : (decide (KD 36 ≠ 0) && !W.contains (36, 0)) = true) : SWd σ σ' := fun i => ci_fr h tgz_160 hw i
theorem SXd_fr {W : List (Nat × Nat)} {σ σ' : SG} (h : Fr W σ σ') (hw : (decide (KD 51 ≠ 0) && !W.contains (51, 0)) = true) : SXd σ σ' := fun i => ci_fr h tgz_175 hw i
theorem SWd_tk {σ σ' : SG} (h : SWd σ σ') : tkN σ' = tkN σ := by funext c; unfold tkN; rw [h]
theorem SWd_ah {σ σ' : SG} (h : SWd σ σ') : ahN σ' = ahN σ := by funext c; unfold ahN; rw [h]
theorem SXd_fx {σ σ' : SG} (h : SXd σ σ') : fxN σ' = fxN σ := by funext c; unfold fxN; rw [h]
/-! isFree -/
def FRr (σ : SG) (c T : Int) (u : Nat) : Prop := ∀ h : Nat, u ≤ h → h < u + tkN σ c.toNat → ci σ 174 h < T
def FREEs (σ : SG) (a b c r : Int) : Prop := (r = 1 ∧ FRr σ b c a.toNat) ∨ (r = 0 ∧ ¬ FRr σ b c a.toNat)
def FRL (σ : SG) (a T h : Int) : Prop := ∀ x : Nat, a.toNat ≤ x → x < h.toNat → ci σ 174 x < T
theorem FRL_0 {σ : SG} {a T h : Int} (e : h = a) : FRL σ a T h := fun x h1 h2 => absurd h1 (by omega)
theorem FRL_s {σ : SG} {a T h h' : Int} {z : Int32} (H : FRL σ a T h) (hz : (σ 174)[h.toNat]? = some (Value.int z)) (hT : z.toInt < T) (h0 : 0 ≤ h) (e : h' = h + 1) : FRL σ a T h' := by
  intro x h1 h2
  by_cases q : x < h.toNat
  · exact H x h1 q
  · rw [ci_at hz (by omega : (x : Int) = h)]; exact hT
theorem FR_no {σ : SG} {a b c T h r : Int} {z : Int32} (hσ : WT σ) (hz : (σ 174)[h.toNat]? = some (Value.int z)) (hT : T ≤ z.toInt) (h0 : 0 ≤ a) (h1 : a ≤ h) (hr : h < a + r) (E : r = ci σ 160 (154 + 2 * b)) (b0 : 0 ≤ b) (b5 : b ≤ 5) (e : c = 0) : FREEs σ a b T c := by
  refine Or.inr ⟨e, fun H => ?_⟩
  have := tk_ci hσ b0 b5
  have := H h.toNat (by omega) (by omega)
  rw [ci_at hz (by omega : ((h.toNat : Nat) : Int) = h)] at this
  omega
theorem FR_yes {σ : SG} {a b c T h r : Int} (hσ : WT σ) (H : FRL σ a T h) (h0 : 0 ≤ a) (hr : a + r ≤ h) (E : r = ci σ 160 (154 + 2 * b)) (b0 : 0 ≤ b) (b5 : b ≤ 5) (e : c = 1) : FREEs σ a b T c := by
  have := tk_ci hσ b0 b5
  exact Or.inl ⟨e, fun x h1 h2 => H x h1 (by omega)⟩
/-! put -/
def HB (σ : SG) : Prop := ∀ x : Nat, x < 120 → 0 ≤ ci σ 174 x ∧ ci σ 174 x ≤ 100
def PUTL (σ0 σ : SG) (a b h : Int) : Prop := (∀ x : Nat, x < 120 → ci σ 174 x = ci σ0 174 x + (if b.toNat ≤ x ∧ x < h.toNat then 1 else 0)) ∧ ci σ 173 a = b ∧ ∀ x : Int, 0 ≤ x → x ≠ a → ci σ 173 x = ci σ0 173 x
theorem PUTL_0 {σ0 σ' : SG} {a b h : Int} {y : Int32} (h1 : (σ' 173)[a.toNat]? = some (Value.int y)) (h2 : ∀ q i, (q ≠ 173 ∨ i ≠ a.toNat) → (σ' q)[i]? = (σ0 q)[i]?) (ha : 0 ≤ a) (hb : y.toInt = b) (e : h = b) : PUTL σ0 σ' a b h := by
  refine ⟨fun x hx => ?_, ?_, fun x h0 hx => ?_⟩
  · rw [ci_ne h2 (by decide), if_neg (by omega), Int.add_zero]
  · rw [ci_at h1 rfl]; exact hb
  · rw [ci_st h1 h2 ha x h0, if_neg hx]
theorem PUTL_b {σ0 σ : SG} {a b h : Int} {z : Int32} (hB : HB σ0) (H : PUTL σ0 σ a b h) (hz : (σ 174)[h.toNat]? = some (Value.int z)) (h0 : 0 ≤ h) (h1 : h < 120) : 0 ≤ z.toInt ∧ z.toInt ≤ 100 := by
  have e := H.1 h.toNat (by omega)
  have b := hB h.toNat (by omega)
  rw [ci_at hz (by omega : ((h.toNat : Nat) : Int) = h), if_neg (by omega)] at e
  omega
theorem PUTL_s {σ0 σ σ' : SG} {a b h h' : Int} {y z : Int32} (H : PUTL σ0 σ a b h) (hz : (σ 174)[h.toNat]? = some (Value.int z)) (h1 : (σ' 174)[h.toNat]? = some (Value.int y)) (h2 : ∀ q i, (q ≠ 174 ∨ i ≠ h.toNat) → (σ' q)[i]? = (σ q)[i]?) (hy : y.toInt = z.toInt + 1) (h0 : 0 ≤ b) (hb : b ≤ h) (e : h' = h + 1) : PUTL σ0 σ' a b h' := by
  refine ⟨fun x hx => ?_, ?_, fun x x0 hx => ?_⟩
  · have := H.1 x hx
    rw [ci_st h1 h2 (by omega) x (by omega)]
    by_cases q : (x : Int) = h
    · rw [if_pos q, if_pos (by omega)]
      rw [ci_at hz q, if_neg (by omega)] at this
      omega
    · rw [if_neg q, this]
      by_cases w : b.toNat ≤ x ∧ x < h.toNat
      · rw [if_pos w, if_pos (by omega)]
      · rw [if_neg w, if_neg (by omega)]
  · rw [ci_ne h2 (by decide)]; exact H.2.1
  · rw [ci_ne h2 (by decide)]; exact H.2.2 x x0 hx
theorem PUTL_x {σ0 σ : SG} {a b h r : Int} (hσ0 : WT σ0) (H : PUTL σ0 σ a b h) (hr : b + r ≤ h) (hl : h ≤ b + r) (hF : SWd σ0 σ) (E : r = ci σ 160 (154 + 2 * a)) (a0 : 0 ≤ a) (a5 : a ≤ 5) : PUTL σ0 σ a b (b + (tkN σ0 a.toNat : Int)) := by
  have := tk_ci hσ0 a0 a5
  rw [hF] at E
  rw [show b + (tkN σ0 a.toNat : Int) = h by omega]; exact H
/-! afterAll -/
def bgN (σ : SG) (c : Nat) : Nat := (ci σ 173 (c : Int)).toNat
def AFL (σ : SG) (c th x hour : Int) : Prop := (∀ a, a < x.toNat → (ahN σ c.toNat).testBit a = true → th.toNat.testBit a = true ∧ bgN σ a + tkN σ a ≤ hour.toNat) ∧ (hour = 0 ∨ ∃ a, a < x.toNat ∧ (ahN σ c.toNat).testBit a = true ∧ hour.toNat = bgN σ a + tkN σ a)
def AFTs (σ : SG) (c th r : Int) : Prop := (r = -1 ∧ ¬ Rdy (ahN σ) th.toNat c.toNat) ∨ (0 ≤ r ∧ Rdy (ahN σ) th.toNat c.toNat ∧ Aft (tkN σ) (ahN σ) (bgN σ) c.toNat r.toNat)
theorem AFL_0 {σ : SG} {c th x hour : Int} (h0 : x = 0) (h1 : hour = 0) : AFL σ c th x hour := ⟨fun a ha => absurd ha (by omega), Or.inl h1⟩
theorem ah_w {σ : SG} {c j : Int} {w : Int32} (hσ : WT σ) (hz : (σ 160)[j.toNat]? = some (Value.int w)) (hj : j = 155 + 2 * c) (c0 : 0 ≤ c) (c5 : c ≤ 5) : ahN σ c.toNat = w.toInt.toNat := by
  have := ah_ci hσ c0 c5
  rw [ci_at hz hj.symm] at this; omega
theorem AFL_n {σ : SG} {c th x hour j r x' : Int} {w : Int32} (hσ : WT σ) (H : AFL σ c th x hour) (hz : (σ 160)[j.toNat]? = some (Value.int w)) (hj : j = 155 + 2 * c) (E : r = bI w.toInt x) (hr : r = 0) (c0 : 0 ≤ c) (c5 : c ≤ 5) (x0 : 0 ≤ x) (e : x' = x + 1) : AFL σ c th x' hour := by
  have hb := bI_f E hr
  rw [← ah_w hσ hz hj c0 c5] at hb
  refine ⟨fun a ha hA => ?_, ?_⟩
  · by_cases q : a < x.toNat
    · exact H.1 a q hA
    · rw [show a = x.toNat by omega, hb] at hA; cases hA
  · rcases H.2 with z | ⟨a, z1, z2⟩
    · exact Or.inl z
    · exact Or.inr ⟨a, by omega, z2⟩
theorem AFL_y {σ : SG} {c th x hour j r r2 ov hour' x' : Int} {w : Int32} (hσ : WT σ) (H : AFL σ c th x hour) (hz : (σ 160)[j.toNat]? = some (Value.int w)) (hj : j = 155 + 2 * c) (E : r = bI w.toInt x) (hr : r ≠ 0) (E2 : r2 = bI th x) (hr2 : r2 ≠ 0) (E3 : ov = ci σ 173 x + ci σ 160 (154 + 2 * x)) (m1 : hour ≤ hour') (m2 : ov ≤ hour') (m3 : hour' = hour ∨ hour' = ov) (hh : 0 ≤ hour) (c0 : 0 ≤ c) (c5 : c ≤ 5) (x0 : 0 ≤ x) (x5 : x ≤ 5) (e : x' = x + 1) : AFL σ c th x' hour' := by
  have hb := bI_t E hr
  rw [← ah_w hσ hz hj c0 c5] at hb
  have hb2 := bI_t E2 hr2
  have t := tk_ci hσ x0 x5
  have g := bg_rng hσ x0 x5
  have eg : bgN σ x.toNat = (ci σ 173 x).toNat := by unfold bgN; rw [show ((x.toNat : Nat) : Int) = x by omega]
  refine ⟨fun a ha hA => ?_, ?_⟩
  · by_cases q : a < x.toNat
    · have := H.1 a q hA
      exact ⟨this.1, by omega⟩
    · have q2 : a = x.toNat := by omega
      subst q2
      exact ⟨hb2, by omega⟩
  · rcases m3 with z | z
    · rcases H.2 with w | ⟨a, w1, w2, w3⟩
      · exact Or.inl (by omega)
      · exact Or.inr ⟨a, by omega, w2, by omega⟩
    · exact Or.inr ⟨x.toNat, by omega, hb, by omega⟩
theorem AFT_no {σ : SG} {c th x j r r2 R : Int} {w : Int32} (hσ : WT σ) (hz : (σ 160)[j.toNat]? = some (Value.int w)) (hj : j = 155 + 2 * c) (E : r = bI w.toInt x) (hr : r ≠ 0) (E2 : r2 = bI th x) (hr2 : r2 = 0) (c0 : 0 ≤ c) (c5 : c ≤ 5) (x0 : 0 ≤ x) (xc : x < c) (e : R = -1) : AFTs σ c th R := by
  have hb := bI_t E hr
  rw [← ah_w hσ hz hj c0 c5] at hb
  have hb2 := bI_f E2 hr2
  refine Or.inl ⟨e, fun H => ?_⟩
  have := H x.toNat (by omega) hb
  rw [hb2] at this; cases this
theorem AFT_yes {σ : SG} {c th x hour : Int} (H : AFL σ c th x hour) (h0 : 0 ≤ hour) (hx : x = c) : AFTs σ c th hour := by
  subst hx
  exact Or.inr ⟨h0, fun a ha hb => (H.1 a ha hb).1, fun a ha hb => (H.1 a ha hb).2, by
    rcases H.2 with z | z
    · exact Or.inl (by omega)
    · exact Or.inr z⟩
/-! the first courses -/
def BZ (σ : SG) (bz : Nat → Nat) : Prop := ∀ x : Nat, x < 120 → ci σ 174 x = (bz x : Int)
def BG (σ : SG) (bg : Nat → Nat) (th : Nat) : Prop := ∀ a : Nat, a < 6 → th.testBit a = true → ci σ 173 a = (bg a : Int)
theorem BZ_put {σ σ' : SG} {bz : Nat → Nat} {c f : Int} {tk : Nat} (h : BZ σ bz) (H : PUTL σ σ' c f (f + (tk : Int))) (f0 : 0 ≤ f) : BZ σ' (addB bz f.toNat tk) := by
  intro x hx
  rw [H.1 x hx, h x hx]
  unfold addB
  by_cases q : f.toNat ≤ x ∧ x < f.toNat + tk
  · rw [if_pos q, if_pos (by omega)]; omega
  · rw [if_neg q, if_neg (by omega)]; omega
theorem BG_put {σ σ' : SG} {bg : Nat → Nat} {th : Nat} {c f k : Int} (h : BG σ bg th) (H : PUTL σ σ' c f k) (f0 : 0 ≤ f) (c0 : 0 ≤ c) : BG σ' (updN bg c.toNat f.toNat) (th ||| 2 ^ c.toNat) := by
  intro a ha hb
  unfold updN
  by_cases q : a = c.toNat
  · rw [if_pos q, show (a : Int) = c by omega, H.2.1]; omega
  · rw [if_neg q, H.2.2 a (by omega) (by omega)]
    rw [tb_or] at hb
    refine h a ha ?_
    rcases Bool.or_eq_true_iff.mp hb with z | z
    · exact z
    · exact absurd (of_decide_eq_true z).symm q
def CLR (σ : SG) (h : Int) : Prop := ∀ x : Nat, x < h.toNat → ci σ 174 x = 0
theorem CLR_0 {σ : SG} {h : Int} (e : h = 0) : CLR σ h := fun x hx => absurd hx (by omega)
theorem CLR_s {σ σ' : SG} {h h' : Int} {y : Int32} (H : CLR σ h) (h1 : (σ' 174)[h.toNat]? = some (Value.int y)) (h2 : ∀ q i, (q ≠ 174 ∨ i ≠ h.toNat) → (σ' q)[i]? = (σ q)[i]?) (hy : y.toInt = 0) (h0 : 0 ≤ h) (e : h' = h + 1) : CLR σ' h' := by
  intro x hx
  rw [ci_st h1 h2 h0 x (by omega)]
  by_cases q : (x : Int) = h
  · rw [if_pos q, hy]
  · rw [if_neg q]; exact H x (by omega)
def PRE0 (σ0 σ : SG) (fm c : Int) : Prop := 0 ≤ c ∧ c ≤ fm ∧ fm ≤ 6 ∧ BZ σ (bzP (tkN σ0) (fxN σ0) c.toNat) ∧ BG σ (bgP (fxN σ0) c.toNat) (thP c.toNat)
def PREF (σ0 σ : SG) (fm c th la : Int) : Prop := PRE0 σ0 σ fm c ∧ th = (thP c.toNat : Int) ∧ la = (laP (tkN σ0) (fxN σ0) c.toNat : Int)
theorem PRE0_0 {σ0 σ : SG} {fm c h : Int} (H : CLR σ h) (hh : 120 ≤ h) (f0 : 0 ≤ fm) (f6 : fm ≤ 6) (e : c = 0) : PRE0 σ0 σ fm c := by
  subst e
  exact ⟨by omega, f0, f6, fun x hx => H x (by omega), fun a _ hb => by
    have : thP (0 : Int).toNat = 0 := rfl
    rw [this, Nat.zero_testBit] at hb; cases hb⟩
theorem PREF_0 {σ0 σ : SG} {fm c th la h : Int} (H : CLR σ h) (hh : 120 ≤ h) (f0 : 0 ≤ fm) (f6 : fm ≤ 6) (e : c = 0) (e1 : th = 0) (e2 : la = 0) : PREF σ0 σ fm c th la := ⟨PRE0_0 H hh f0 f6 e, by subst e; exact e1, by subst e; exact e2⟩
theorem PRE0_HB {σ0 σ : SG} {fm c : Int} (H : PRE0 σ0 σ fm c) : HB σ := by
  obtain ⟨h0, h1, h2, h3, h4⟩ := H
  intro x hx
  have := bzP_le (tkN σ0) (fxN σ0) x c.toNat
  rw [h3 x hx]; omega
theorem PRE0_s {σ0 σ σ' : SG} {fm c f c' : Int} (hσ0 : WT σ0) (H : PRE0 σ0 σ fm c) (hw : SWd σ0 σ) (hx : SXd σ0 σ) (hc : c < fm) (hf : f = ci σ 175 c) (P : PUTL σ σ' c f (f + (tkN σ c.toNat : Int))) (e : c' = c + 1) : PRE0 σ0 σ' fm c' := by
  obtain ⟨h0, h1, h2, h3, h4⟩ := H
  rw [hx] at hf
  have fe := fx_ci hσ0 (a := c) h0 (by omega)
  rw [SWd_tk hw] at P
  rw [e]
  unfold PRE0
  rw [show (c + 1).toNat = c.toNat + 1 by omega]
  refine ⟨by omega, by omega, h2, ?_, ?_⟩
  · unfold bzP
    rw [show fxN σ0 c.toNat = f.toNat by omega]
    exact BZ_put h3 P (by omega)
  · unfold bgP thP
    rw [show fxN σ0 c.toNat = f.toNat by omega]
    exact BG_put h4 P (by omega) h0
theorem PREF_lin {σ0 σ : SG} {fm c th la : Int} (hσ0 : WT σ0) (H : PREF σ0 σ fm c th la) : 0 ≤ c ∧ c ≤ fm ∧ fm ≤ 6 ∧ 0 ≤ th ∧ th ≤ 63 ∧ 0 ≤ la ∧ la ≤ 63 ∧ (c = 0 → la = 0) := by
  obtain ⟨⟨h0, h1, h2, h3, h4⟩, h5, h6⟩ := H
  have := thP_63 ⟨c.toNat, by omega⟩
  have := laP_le (tk9 hσ0) c.toNat (fun a _ => fx54 hσ0 a)
  simp only at *
  refine ⟨h0, h1, h2, by omega, by omega, by omega, by omega, fun z => ?_⟩
  have := this.2 (by omega); omega
theorem PREF_s {σ0 σ σ' : SG} {fm c th la f c' th' la' ov : Int} (hσ0 : WT σ0) (H : PREF σ0 σ fm c th la) (hw : SWd σ0 σ) (hx : SXd σ0 σ) (hc : c < fm) (hf : f = ci σ 175 c) (P : PUTL σ σ' c f (f + (tkN σ c.toNat : Int))) (e : c' = c + 1) (et : th' = ((th.toNat ||| 2 ^ c.toNat : Nat) : Int)) (hw' : SWd σ0 σ') (eo : ov = ci σ' 173 c + ci σ' 160 (154 + 2 * c)) (m1 : la ≤ la') (m2 : ov ≤ la') (m3 : la' = la ∨ la' = ov) : PREF σ0 σ' fm c' th' la' := by
  refine ⟨PRE0_s hσ0 H.1 hw hx hc hf P e, ?_, ?_⟩
  · rw [et, H.2.1, e, Int.toNat_natCast, show (c + 1).toNat = c.toNat + 1 by have := H.1.1; omega]; rfl
  · have h0 := H.1.1
    have h1 := H.1.2.1
    have h2 := H.1.2.2.1
    have fe := fx_ci hσ0 (a := c) h0 (by omega)
    have te := tk_ci hσ0 (a := c) h0 (by omega)
    rw [P.2.1, hw'] at eo
    rw [hx] at hf
    have := H.2.2
    rw [e, show (c + 1).toNat = c.toNat + 1 by omega]
    unfold laP
    omega
end TIMC
end
/-! 31.d.tim -/
section
section TIMD
/-! the order, course by course -/
def OVERs (σ : SG) (fm q T : Int) (r : Nat) : Prop := OVER (tkN σ) (ahN σ) (fxN σ) (ci σ 160 5).toNat T.toNat fm.toNat q.toNat r
def LEASTs (σ : SG) (fm T : Int) (r : Nat) : Prop := LEAST (tkN σ) (ahN σ) (fxN σ) (ci σ 160 5).toNat T.toNat fm.toNat r
theorem OVERs_eq {σ σ' : SG} {fm q T : Int} {r : Nat} (hw : SWd σ σ') (hx : SXd σ σ') (h : OVERs σ' fm q T r) : OVERs σ fm q T r := by
  unfold OVERs at h ⊢
  rw [SWd_tk hw, SWd_ah hw, SXd_fx hx, hw] at h; exact h
theorem LEASTs_eq {σ σ' : SG} {fm T : Int} {r : Nat} (hw : SWd σ σ') (hx : SXd σ σ') (h : LEASTs σ' fm T r) : LEASTs σ fm T r := by
  unfold LEASTs at h ⊢
  rw [SWd_tk hw, SWd_ah hw, SXd_fx hx, hw] at h; exact h
def MAIN (σ0 σ : SG) (fm q T th la lf rs n : Int) : Prop := ∃ bz bg : Nat → Nat, BZ σ bz ∧ BG σ bg th.toNat ∧ Okb (tkN σ0) bz bg th.toNat la.toNat ∧ (∀ x, bz x + n.toNat ≤ 6) ∧
  (0 ≤ th ∧ th ≤ 63 ∧ 0 ≤ rs ∧ rs ≤ 63 ∧ 0 ≤ lf ∧ 0 ≤ la ∧ la + 9 * n ≤ 108 ∧ 0 ≤ n ∧ 0 ≤ fm ∧ fm + n ≤ 6) ∧ (bl rs.toNat).length = n.toNat ∧ (∀ c, c < 6 → rs.toNat.testBit c = true → fm.toNat ≤ c) ∧
  ∀ r, Run (tkN σ0) (ahN σ0) T.toNat (dec n.toNat lf.toNat (bl rs.toNat)) bz bg th.toNat la.toNat r → OVERs σ0 fm q T r
theorem MAIN_lin {σ0 σ : SG} {fm q T th la lf rs n : Int} (H : MAIN σ0 σ fm q T th la lf rs n) : 0 ≤ th ∧ th ≤ 63 ∧ 0 ≤ rs ∧ rs ≤ 63 ∧ 0 ≤ lf ∧ 0 ≤ la ∧ la + 9 * n ≤ 108 ∧ 0 ≤ n ∧ 0 ≤ fm ∧ fm + n ≤ 6 := by
  obtain ⟨bz, bg, h1, h2, h3, h4, h5, h6⟩ := H
  exact h5
theorem MAIN_HB {σ0 σ : SG} {fm q T th la lf rs n : Int} (H : MAIN σ0 σ fm q T th la lf rs n) : HB σ := by
  obtain ⟨bz, bg, h1, h2, h3, h4, h5, h6⟩ := H
  intro x hx
  have := h4 x
  rw [h1 x hx]; omega
theorem MAIN_0 {σ0 σ : SG} {fm q T th la lf n c : Int} {z nn t : Int32} (hσ0 : WT σ0) (H : PREF σ0 σ fm c th la) (hc : c = fm) (hz : z = (((Int32.ofInt 1) <<< (nn &&& 31)) - (Int32.ofInt 1)) &&& (t ^^^ (Int32.ofInt (-1)))) (ht : t.toInt = th) (hN : nn.toInt = ci σ0 160 5) (hf : fm ≤ ci σ0 160 5) (hlf : lf = q) (hq : 0 ≤ q) (hn : n = ci σ0 160 5 - fm) : MAIN σ0 σ fm q T th la lf z.toInt n := by
  have hl := PREF_lin hσ0 H
  obtain ⟨⟨h0, h1, h2, h3, h4⟩, h5, h6⟩ := H
  have n6' := n6 hσ0
  subst hc
  have hs := st_small (N := ci σ0 160 5) (f := c.toNat) hz hN (by rw [ht]; exact h5) (by omega) (by omega)
  have hb := bl_st ⟨(ci σ0 160 5).toNat, by omega⟩ ⟨c.toNat, by omega⟩ (by simp only; omega)
  simp only at hb
  have hrs : z.toInt.toNat = 2 ^ (ci σ0 160 5).toNat - 2 ^ c.toNat := by rw [hs, Int.toNat_natCast]
  have hth : th.toNat = thP c.toNat := by rw [h5, Int.toNat_natCast]
  have hla : la.toNat = laP (tkN σ0) (fxN σ0) c.toNat := by rw [h6, Int.toNat_natCast]
  have hlen : (bl z.toInt.toNat).length = n.toNat := by rw [hrs, hb.1, List.length_range']; omega
  have hok := OkbP (tkN σ0) (fxN σ0) c.toNat
  refine ⟨_, _, h3, by rw [hth]; exact h4, by rw [hth, hla]; exact hok, fun x => ?_, ⟨hl.2.2.2.1, hl.2.2.2.2.1, by omega, by omega, by omega, hl.2.2.2.2.2.1, ?_, by omega, h0, by omega⟩, hlen, fun k hk hb2 => ?_, fun r hr => ?_⟩
  · have := bzP_le (tkN σ0) (fxN σ0) x c.toNat
    omega
  · have := hl.2.2.2.2.2.2; omega
  · rw [hrs] at hb2
    have hm : k ∈ bl (2 ^ (ci σ0 160 5).toNat - 2 ^ c.toNat) := List.mem_filter.mpr ⟨List.mem_range.mpr hk, hb2⟩
    rw [hb.1] at hm
    exact (List.mem_range'_1.mp hm).1
  · unfold OVERs OVER
    rw [hrs, hb.1, hth, hla, hlf, show n.toNat = (ci σ0 160 5).toNat - c.toNat by omega] at hr
    exact hr
theorem MAIN_end {σ0 σ : SG} {fm q T th la lf rs n : Int} {r : Nat} (H : MAIN σ0 σ fm q T th la lf rs n) (hn : n ≤ 0) (hr : r = la.toNat) : OVERs σ0 fm q T r := by
  obtain ⟨bz, bg, h1, h2, h3, h4, h5, h6, h7, h8⟩ := H
  refine h8 r ?_
  rw [show n.toNat = 0 by omega]
  unfold dec Run; exact hr
/-! which course comes next -/
def SELs (rs k c k0 fm n : Int) : Prop := 0 ≤ k ∧ 0 ≤ fm ∧ fm ≤ c ∧ c ≤ 5 ∧ k + (cnt rs.toNat c.toNat : Int) = k0 ∧ k0 < n ∧ (bl rs.toNat).length = n.toNat ∧ 0 ≤ rs ∧ rs ≤ 63
theorem SEL_eq {rs k c c' k0 fm n : Int} (H : SELs rs k c k0 fm n) (e : c' = c) : SELs rs k c' k0 fm n := by subst e; exact H
theorem SEL_lin {rs k c k0 fm n : Int} (H : SELs rs k c k0 fm n) : 0 ≤ k ∧ 0 ≤ c ∧ c ≤ 5 ∧ fm ≤ c := ⟨H.1, by have := H.2.1; have := H.2.2.1; omega, H.2.2.2.1, H.2.2.1⟩
theorem SEL_0 {σ0 σ : SG} {fm q T th la lf rs n k c k0 : Int} (H : MAIN σ0 σ fm q T th la lf rs n) (hk : k = k0) (hc : c = fm) (h0 : 0 ≤ k0) (hn : k0 < n) : SELs rs k c k0 fm n := by
  obtain ⟨bz, bg, h1, h2, h3, h4, h5, h6, h7, h8⟩ := H
  have := bl_len (m := rs.toNat) (by omega) fm.toNat _ rfl h7
  subst hc
  exact ⟨by omega, by omega, by omega, by omega, by omega, hn, h6, by omega, by omega⟩
theorem SEL_s {rs k c k0 fm n k' c' r r2 : Int} (H : SELs rs k c k0 fm n) (E : r = bI rs c) (E2 : r2 = bI rs c) (hc : r = 0 ∨ 0 < k) (hk : k' = k - r2) (e : c' = c + 1) : SELs rs k' c' k0 fm n := by
  obtain ⟨h1, h2, h3, h4, h5, h6, h7, h8, h9⟩ := H
  have hs := cnt_s rs.toNat c.toNat
  rw [show c.toNat + 1 = c'.toNat by omega] at hs
  have hr := bI_rng rs c
  have he : (cnt rs.toNat c'.toNat : Int) = cnt rs.toNat c.toNat + r := by
    rw [hs, E]; unfold bI; split <;> simp
  have h6' := bl_6 ⟨rs.toNat, by omega⟩
  simp only at h6'
  have hc5 : c' ≤ 5 := by
    rcases Int.lt_or_le 5 c' with z | z
    · rw [show c'.toNat = 6 by omega, h6'] at he
      omega
    · exact z
  exact ⟨by omega, h2, by omega, hc5, by omega, h6, h7, h8, h9⟩
/-! the wait for a free teacher -/
def WAITs (σ : SG) (c T f fr la : Int) : Prop := 0 ≤ f ∧ f ≤ fr ∧ fr ≤ la ∧ ∀ u : Nat, f.toNat ≤ u → u < fr.toNat → ¬ FRr σ c T u
theorem WAIT_eq {σ : SG} {c T f fr fr' la : Int} (H : WAITs σ c T f fr la) (e : fr' = fr) : WAITs σ c T f fr' la := by subst e; exact H
theorem WAIT_lin {σ : SG} {c T f fr la : Int} (H : WAITs σ c T f fr la) : 0 ≤ f ∧ f ≤ fr ∧ fr ≤ la := ⟨H.1, H.2.1, H.2.2.1⟩
theorem bg_of {σ : SG} {bg : Nat → Nat} {th a : Nat} (h : BG σ bg th) (ha : a < 6) (hb : th.testBit a = true) : bgN σ a = bg a := by
  unfold bgN; rw [h a ha hb, Int.toNat_natCast]
theorem AFT_of {σ0 σ : SG} {bg : Nat → Nat} {th c f : Int} (hw : SWd σ0 σ) (h : BG σ bg th.toNat) (c0 : 0 ≤ c) (c5 : c ≤ 5) (A : AFTs σ c th f) (hf : f ≠ -1) : 0 ≤ f ∧ Rdy (ahN σ0) th.toNat c.toNat ∧ Aft (tkN σ0) (ahN σ0) bg c.toNat f.toNat := by
  rcases A with ⟨z, _⟩ | ⟨a1, a2, a3⟩
  · exact absurd z hf
  · rw [SWd_ah hw] at a2
    rw [SWd_ah hw, SWd_tk hw] at a3
    refine ⟨a1, a2, fun a ha hb => ?_, ?_⟩
    · rw [← bg_of h (by omega) (a2 a ha hb)]; exact a3.1 a ha hb
    · rcases a3.2 with z | ⟨a, z1, z2, z3⟩
      · exact Or.inl z
      · exact Or.inr ⟨a, z1, z2, by rw [← bg_of h (by omega) (a2 a z1 z2)]; exact z3⟩
theorem WAIT_0 {σ0 σ : SG} {fm q T th la lf rs n c f fr : Int} (hw : SWd σ0 σ) (H : MAIN σ0 σ fm q T th la lf rs n) (c0 : 0 ≤ c) (c5 : c ≤ 5) (A : AFTs σ c th f) (hf : f ≠ -1) (e : fr = f) : WAITs σ c T f fr la := by
  obtain ⟨bz, bg, h1, h2, h3, h4, h5, h6, h7, h8⟩ := H
  obtain ⟨a1, a2, a3⟩ := AFT_of hw h2 c0 c5 A hf
  have := Aft_le h3 a2 a3
  exact ⟨a1, by omega, by omega, fun u hu hv => absurd hv (by omega)⟩
theorem FR_fr {σ0 σ : SG} {bz : Nat → Nat} {c T : Int} {u : Nat} (hw : SWd σ0 σ) (hσ : WT σ0) (h : BZ σ bz) (hT : 0 ≤ T) (hu : u ≤ 110) : FRr σ c T u ↔ frees bz T.toNat (tkN σ0 c.toNat) u := by
  have t9 := tk9 hσ c.toNat
  unfold FRr frees
  rw [SWd_tk hw]
  constructor
  · intro H x h1 h2
    have := H x h1 h2
    rw [h x (by omega)] at this; omega
  · intro H x h1 h2
    have := H x h1 h2
    rw [h x (by omega)]; omega
theorem WAIT_s {σ0 σ : SG} {fm q T th la lf rs n c f fr fr' r : Int} (hσ0 : WT σ0) (hw : SWd σ0 σ) (H : MAIN σ0 σ fm q T th la lf rs n) (hn : 1 ≤ n) (hT : 1 ≤ T) (W : WAITs σ c T f fr la) (E : FREEs σ fr c T r) (hr : r = 0) (e : fr' = fr + 1) : WAITs σ c T f fr' la := by
  obtain ⟨bz, bg, h1, h2, h3, h4, h5, h6, h7, h8⟩ := H
  obtain ⟨w1, w2, w3, w4⟩ := W
  rcases E with ⟨z, _⟩ | ⟨_, E⟩
  · omega
  · refine ⟨w1, by omega, ?_, fun u hu hv => ?_⟩
    · rcases Int.lt_or_le fr la with z | z
      · omega
      · refine absurd ((FR_fr hw hσ0 h1 (by omega) (by omega)).mpr ?_) E
        exact free_la h3 (by omega) (by omega)
    · by_cases z : u < fr.toNat
      · exact w4 u hu z
      · rw [show u = fr.toNat by omega]; exact E
theorem dec_sel {rs k c k0 fm n lf : Int} (H : SELs rs k c k0 fm n) (hk : k ≤ 0) (hb : rs.toNat.testBit c.toNat = true) (hl : 0 ≤ lf) (hm : k0 = lf % n) : dec n.toNat lf.toNat (bl rs.toNat) = c.toNat :: dec (n - 1).toNat (lf / n).toNat (bl (rs.toNat - 2 ^ c.toNat)) ∧ (bl (rs.toNat - 2 ^ c.toNat)).length = (n - 1).toNat ∧ 0 ≤ lf / n := by
  obtain ⟨h1, h2, h3, h4, h5, h6, h7, h8, h9⟩ := H
  have ha := bl_all ⟨rs.toNat, by omega⟩ ⟨c.toNat, by omega⟩ hb
  simp only at ha
  have hn0 : n.toNat = (n - 1).toNat + 1 := by omega
  have d0 : 0 ≤ lf / n := Int.ediv_nonneg hl (by omega)
  have em : lf.toNat % ((n - 1).toNat + 1) = cnt rs.toNat c.toNat := by
    have : ((lf.toNat % n.toNat : Nat) : Int) = lf % n := by rw [Int.natCast_emod]; rw [show ((lf.toNat : Nat) : Int) = lf by omega, show ((n.toNat : Nat) : Int) = n by omega]
    rw [← hn0]; omega
  have ed : lf.toNat / ((n - 1).toNat + 1) = (lf / n).toNat := by
    have : ((lf.toNat / n.toNat : Nat) : Int) = lf / n := by rw [Int.natCast_ediv]; rw [show ((lf.toNat : Nat) : Int) = lf by omega, show ((n.toNat : Nat) : Int) = n by omega]
    rw [← hn0]; omega
  refine ⟨?_, ?_, Int.ediv_nonneg hl (by omega)⟩
  · rw [hn0, dec_at (c := c.toNat) (by rw [em]; exact ha.1), em, ed, ha.2]
  · rw [← ha.2, List.length_eraseIdx_of_lt (List.getElem?_eq_some_iff.mp ha.1).1]; omega
theorem MAIN_far {σ0 σ : SG} {fm q T th la lf rs n k c k0 f r1 : Int} {r : Nat} (hw : SWd σ0 σ) (H : MAIN σ0 σ fm q T th la lf rs n) (hn : 1 ≤ n) (S : SELs rs k c k0 fm n) (hk : k ≤ 0) (E : r1 = bI rs c) (hr1 : r1 ≠ 0) (hm : k0 = lf % n) (A : AFTs σ c th f) (hf : f = -1) (hr : r = 1000000) : OVERs σ0 fm q T r := by
  have hb := bI_t E hr1
  obtain ⟨bz, bg, h1, h2, h3, h4, h5, h6, h7, h8⟩ := H
  obtain ⟨d1, d2, d3⟩ := dec_sel S hk hb (by omega) hm
  refine h8 r ?_
  rw [d1]
  unfold Run
  rcases A with ⟨_, A⟩ | ⟨z, _⟩
  · rw [SWd_ah hw] at A
    exact Or.inl ⟨A, hr⟩
  · omega
theorem MAIN_s {σ0 σ σ' : SG} {fm q T th la lf rs n k c k0 f fr r1 r2 lf' rs' th' la' n' ov : Int} (hσ0 : WT σ0) (hw : SWd σ0 σ) (hw' : SWd σ0 σ') (H : MAIN σ0 σ fm q T th la lf rs n) (hn : 1 ≤ n) (hT : 1 ≤ T) (S : SELs rs k c k0 fm n) (hk : k ≤ 0) (E : r1 = bI rs c) (hr1 : r1 ≠ 0) (hm : k0 = lf % n) (hlf : lf' = lf / n) (A : AFTs σ c th f) (hf : f ≠ -1) (W : WAITs σ c T f fr la) (E2 : FREEs σ fr c T r2) (hr2 : r2 ≠ 0)
    (P : PUTL σ σ' c fr (fr + (tkN σ c.toNat : Int))) (er : rs.toNat.testBit c.toNat = true → rs' = ((rs.toNat - 2 ^ c.toNat : Nat) : Int)) (et : th' = ((th.toNat ||| 2 ^ c.toNat : Nat) : Int) ∧ 0 ≤ th' ∧ th' ≤ 63) (eo : ov = ci σ' 173 c + ci σ' 160 (154 + 2 * c)) (m1 : la ≤ la') (m2 : ov ≤ la') (m3 : la' = la ∨ la' = ov) (en : n' = n - 1) : MAIN σ0 σ' fm q T th' la' lf' rs' n' := by
  have hb := bI_t E hr1
  have er := er hb
  have sl := SEL_lin S
  have ml := MAIN_lin H
  have sm := Nat.sub_le rs.toNat (2 ^ c.toNat)
  have e0 : 0 ≤ rs' ∧ rs' ≤ 63 := by
    rw [er]; generalize rs.toNat - 2 ^ c.toNat = m at sm ⊢; omega
  have wl := WAIT_lin W
  have t9 := tk9 hσ0 c.toNat
  have tc := tk_ci hσ0 (a := c) (by omega) (by omega)
  obtain ⟨bz, bg, h1, h2, h3, h4, h5, h6, h7, h8⟩ := H
  obtain ⟨d1, d2, d3⟩ := dec_sel S hk hb (by omega) hm
  obtain ⟨a1, a2, a3⟩ := AFT_of hw h2 (by omega) (by omega) A hf
  have hfr : FRr σ c T fr.toNat := by
    rcases E2 with ⟨_, z⟩ | ⟨z, _⟩
    · exact z
    · omega
  rw [SWd_tk hw] at P
  rw [P.2.1, hw'] at eo
  have hF : First bz T.toNat (tkN σ0 c.toNat) f.toNat fr.toNat := ⟨by omega, (FR_fr hw hσ0 h1 (by omega) (by omega)).mp hfr, fun u hu hv z => W.2.2.2 u hu hv ((FR_fr hw hσ0 h1 (by omega) (by omega)).mpr z)⟩
  have ela : la'.toNat = max la.toNat (fr.toNat + tkN σ0 c.toNat) := by omega
  have eth : th'.toNat = th.toNat ||| 2 ^ c.toNat := by rw [et.1, Int.toNat_natCast]
  have ers : rs'.toNat = rs.toNat - 2 ^ c.toNat := by rw [er, Int.toNat_natCast]
  refine ⟨_, _, BZ_put h1 P (by omega), by rw [eth]; exact BG_put h2 P (by omega) (by omega), by rw [eth, ela]; exact Okb_put h3, fun x => ?_, ⟨et.2.1, et.2.2, by omega, by omega, by rw [hlf]; exact d3, by omega, by omega, by omega, by omega, by omega⟩, by rw [ers, d2, en], fun j hj hjb => ?_, fun r hr => h8 r ?_⟩
  · have := h4 x
    unfold addB
    split <;> omega
  · rw [ers] at hjb
    have := bl_sub ⟨rs.toNat, by omega⟩ ⟨c.toNat, by omega⟩ hb ⟨j, hj⟩ hjb
    exact h7 j hj this.1
  · rw [d1]
    unfold Run
    rw [eth, ela, ers, hlf, en] at hr
    exact Or.inr ⟨a2, f.toNat, fr.toNat, a3, hF, hr⟩
/-! the least -/
def ORDs (o n m : Int) : Prop := 2 ≤ n ∧ (n ≤ m + 1 ∨ n = 2) ∧ m ≤ 6 ∧ o = (fct (n - 1).toNat : Int)
theorem ORD_0 {o n m : Int} (h : m ≤ 6) (e : n = 2) (e1 : o = 1) : ORDs o n m := by subst e; exact ⟨by omega, Or.inr rfl, h, e1⟩
theorem fct_s (n : Nat) : fct (n + 1) = (n + 1) * fct n := rfl
theorem fct_all : ∀ n : Fin 8, fct n.val ≤ 5040 := by decide +kernel
theorem ORD_lin {o n m : Int} (H : ORDs o n m) : 2 ≤ n ∧ n ≤ 7 ∧ 1 ≤ o ∧ o ≤ 5040 := by
  have h1 := H.1; have h2 := H.2.1; have h3 := H.2.2.1; have h4 := H.2.2.2
  have h5 := fct_all ⟨(n - 1).toNat, by omega⟩
  have h6 := fct_pos (n - 1).toNat
  simp only at h5
  omega
theorem ORD_s {o n m o' n' : Int} {z x y : Int32} (H : ORDs o n m) (hz : z = x * y) (hx : x.toInt = o) (hy : y.toInt = n) (hn : n ≤ m) (e : n' = n + 1) (e2 : o' = z.toInt) : ORDs o' n' m := by
  obtain ⟨h1, h2, h3, h4⟩ := H
  have h5 : fct n.toNat = n.toNat * fct (n - 1).toNat := by
    rw [show n.toNat = (n - 1).toNat + 1 by omega, fct_s]
  have h6 := fct_all ⟨n.toNat, by omega⟩
  simp only at h6
  have h7 : o * n = (fct n.toNat : Int) := by
    rw [h4, h5, Int.natCast_mul, show ((n.toNat : Nat) : Int) = n by omega, Int.mul_comm]
  have := mulI hx hy h7 (by omega) (by omega)
  refine ⟨by omega, Or.inl (by omega), h3, ?_⟩
  rw [show (n' - 1).toNat = n.toNat by omega, e2, hz]; exact this
theorem ORD_x {o n m : Int} (H : ORDs o n m) (hn : m < n) (hm : 0 ≤ m) : o = (fct m.toNat : Int) := by
  obtain ⟨h1, h2, h3, h4⟩ := H
  rw [h4]
  rcases (show n = m + 1 ∨ (n = 2 ∧ m = 0) by omega) with z | ⟨z, w⟩
  · rw [show (n - 1).toNat = m.toNat by omega]
  · subst z w; rfl
def LSTL (σ0 : SG) (fm T least k : Int) : Prop := 0 ≤ least ∧ least ≤ 1000000 ∧ 0 ≤ k ∧ (∀ q : Nat, q < k.toNat → ∃ r', OVERs σ0 fm q T r' ∧ least.toNat ≤ r') ∧ (least = 1000000 ∨ ∃ q : Nat, q < k.toNat ∧ OVERs σ0 fm q T least.toNat)
theorem LST_0 {σ0 : SG} {fm T least k : Int} (e : least = 1000000) (e2 : k = 0) : LSTL σ0 fm T least k := ⟨by omega, by omega, by omega, fun q hq => absurd hq (by omega), Or.inl e⟩
theorem LST_lin {σ0 : SG} {fm T least k : Int} (H : LSTL σ0 fm T least k) : 0 ≤ least ∧ least ≤ 1000000 ∧ 0 ≤ k := ⟨H.1, H.2.1, H.2.2.1⟩
theorem LST_s {σ0 σ : SG} {fm T least k r least' k' : Int} (hw : SWd σ0 σ) (hx : SXd σ0 σ) (H : LSTL σ0 fm T least k) (E : OVERs σ fm k T r.toNat) (r0 : 0 ≤ r) (m1 : least' ≤ least) (m2 : least' ≤ r) (m3 : least' = least ∨ least' = r) (e : k' = k + 1) : LSTL σ0 fm T least' k' := by
  have E := OVERs_eq hw hx E
  obtain ⟨h1, h2, h3, h4, h5⟩ := H
  have ek : ((k.toNat : Nat) : Int) = k := by omega
  refine ⟨by clear h5; omega, by clear h5; omega, by clear h5; omega, fun q hq => ?_, ?_⟩
  · clear h5
    by_cases z : q < k.toNat
    · obtain ⟨r', a, b⟩ := h4 q z
      exact ⟨r', a, by omega⟩
    · rw [show q = k.toNat by omega, ek]
      exact ⟨r.toNat, E, by omega⟩
  · rcases m3 with z | z
    · rcases h5 with w | ⟨q, w1, w2⟩
      · exact Or.inl (by omega)
      · exact Or.inr ⟨q, by omega, by rw [z]; exact w2⟩
    · exact Or.inr ⟨k.toNat, by omega, by rw [ek, z]; exact E⟩
theorem LST_x {σ0 : SG} {fm T least k o : Int} (H : LSTL σ0 fm T least k) (ho : o = (fct (ci σ0 160 5 - fm).toNat : Int)) (hk : o ≤ k) (f0 : 0 ≤ fm) (hf : fm ≤ ci σ0 160 5) (hx : k ≤ o) : LEASTs σ0 fm T least.toNat := by
  obtain ⟨h1, h2, h3, h4, h5⟩ := H
  have e : (ci σ0 160 5).toNat - fm.toNat = (ci σ0 160 5 - fm).toNat := by omega
  unfold LEASTs LEAST
  rw [e]
  refine ⟨fun q hq => ?_, ?_⟩
  · obtain ⟨r', a, b⟩ := h4 q (by omega)
    refine ⟨r', ?_, b⟩
    unfold OVERs at a; rw [Int.toNat_natCast] at a; exact a
  · rcases h5 with z | ⟨q, a, b⟩
    · refine Or.inl ?_
      rw [z]; rfl
    · refine Or.inr ⟨q, by omega, ?_⟩
      unfold OVERs at b; rw [Int.toNat_natCast] at b; exact b
/-! may it begin -/
def MAYs (σ : SG) (c hour : Int) : Prop := MAY (tkN σ) (ahN σ) (fxN σ) (ci σ 160 1).toNat c.toNat hour.toNat
theorem MAY_1 {σ0 σ : SG} {c hour f th R : Int} (hw : SWd σ0 σ) (H : PRE0 σ0 σ c c) (ht : th = (thP c.toNat : Int)) (c5 : c ≤ 5) (h0 : 0 ≤ hour) (A : AFTs σ c th f) (hf : hour < f) : MAYs σ0 c hour → R = 1 := by
  intro ⟨m1, g, m2, m3⟩
  obtain ⟨a1, a2, a3⟩ := AFT_of hw (bg := bgP (fxN σ0) c.toNat) (by rw [ht, Int.toNat_natCast]; exact H.2.2.2.2) H.1 c5 A (by omega)
  have := Aft_uniq a3 m2 (fun _ _ _ => rfl)
  omega
theorem MAY_2 {σ0 σ : SG} {c hour T r R : Int} (hσ0 : WT σ0) (hw : SWd σ0 σ) (H : PRE0 σ0 σ c c) (h0 : 0 ≤ hour) (h1 : hour ≤ 54) (hT : T = ci σ 160 1) (E : FREEs σ hour c T r) (hr : r = 0) : MAYs σ0 c hour → R = 1 := by
  intro ⟨m1, g, m2, m3⟩
  rcases E with ⟨z, _⟩ | ⟨_, E⟩
  · omega
  · rw [hw] at hT
    have := t3 hσ0
    refine absurd ((FR_fr hw hσ0 H.2.2.2.1 (by omega) (by omega)).mpr ?_) E
    rw [hT]; exact m1
theorem PRE0_lin {σ0 σ : SG} {fm c : Int} (H : PRE0 σ0 σ fm c) : 0 ≤ c ∧ c ≤ fm := ⟨H.1, H.2.1⟩
theorem PRE0_at {σ0 σ : SG} {fm c : Int} (H : PRE0 σ0 σ fm c) (e : c = fm) : PRE0 σ0 σ fm fm := by subst e; exact H
/-! the search -/
def TPOS (σ : SG) : Prop := 1 ≤ ci σ 160 5 ∨ 1 ≤ ci σ 160 7 → 1 ≤ ci σ 160 1
def BEGs (σ : SG) (k all : Int) : Prop := 0 ≤ k ∧ 0 ≤ all ∧ all ≤ 54 ∧ (k < ci σ 160 5 → ∃ q r : Nat, q < fct ((ci σ 160 5).toNat - k.toNat) ∧ OVERs σ k q (ci σ 160 1) r ∧ (r : Int) ≤ all)
theorem BEG_lin {σ : SG} {k all : Int} (H : BEGs σ k all) : 0 ≤ k ∧ 0 ≤ all ∧ all ≤ 54 := ⟨H.1, H.2.1, H.2.2.1⟩
theorem BEG_0 {σ0 σ : SG} {T k all fm : Int} (hσ0 : WT σ0) (hw : SWd σ0 σ) (hx : SXd σ0 σ) (L : LEASTs σ0 fm T all.toNat) (hf : fm = 0) (hT : T = ci σ0 160 1) (T1 : 1 ≤ T) (h0 : 0 ≤ all) (e : k = 0) : BEGs σ k all := by
  have n6' := n6 hσ0
  subst e hf
  obtain ⟨l1, l2⟩ := L
  obtain ⟨r', a, b⟩ := l1 0 (fct_pos _)
  have := OVER_id (by omega) (tk9 hσ0) a
  refine ⟨by omega, h0, by omega, fun _ => ?_⟩
  rcases l2 with z | ⟨q, q1, q2⟩
  · unfold FARN at z; omega
  · refine ⟨q, all.toNat, by rw [hw]; exact q1, ?_, by omega⟩
    unfold OVERs
    rw [SWd_tk hw, SWd_ah hw, SXd_fx hx, hw, hw, Int.toNat_natCast, ← hT]; exact q2
/-- the aim, the course's hour standing at fx -/
def AIMs (σ : SG) (k all : Int) : Prop := 0 ≤ k ∧ k ≤ 5 ∧ 0 ≤ all ∧ all ≤ 54 ∧ AIM (tkN σ) (ahN σ) (fxN σ) (ci σ 160 5).toNat (ci σ 160 1).toNat k.toNat all.toNat
theorem AIM_lin {σ : SG} {k all : Int} (hσ : WT σ) (H : AIMs σ k all) : 0 ≤ k ∧ k ≤ 5 ∧ 0 ≤ all ∧ all ≤ 54 ∧ 0 ≤ ci σ 175 k ∧ ci σ 175 k ≤ 54 := by
  have := fx_ci hσ H.1 H.2.1
  exact ⟨H.1, H.2.1, H.2.2.1, H.2.2.2.1, this.2.1, this.2.2⟩
theorem fx_st {σ σ' : SG} {k : Int} {y : Int32} (h1 : (σ' 175)[k.toNat]? = some (Value.int y)) (h2 : ∀ q i, (q ≠ 175 ∨ i ≠ k.toNat) → (σ' q)[i]? = (σ q)[i]?) (k0 : 0 ≤ k) (k5 : k ≤ 5) : fxN σ' = updN (fxN σ) k.toNat y.toInt.toNat ∧ SWd σ σ' := by
  refine ⟨?_, fun i => ci_ne h2 (by decide) i⟩
  funext c
  show (if c < 6 then (ci σ' 175 c).toNat else 0) = if c = k.toNat then y.toInt.toNat else (if c < 6 then (ci σ 175 c).toNat else 0)
  by_cases z : c < 6
  · rw [if_pos z, if_pos z, ci_st h1 h2 k0 c (by omega)]
    by_cases w : c = k.toNat
    · rw [if_pos (by omega), if_pos w]
    · rw [if_neg (by omega), if_neg w]
  · rw [if_neg z, if_neg z, if_neg (by omega)]
theorem AIM_0 {σ σ' : SG} {k all : Int} {y : Int32} (hσ : WT σ) (H : BEGs σ k all) (hk : k < ci σ 160 5) (h1 : (σ' 175)[k.toNat]? = some (Value.int y)) (h2 : ∀ q i, (q ≠ 175 ∨ i ≠ k.toNat) → (σ' q)[i]? = (σ q)[i]?) (hy : y.toInt = 0) : AIMs σ' k all := by
  have n6' := n6 hσ
  obtain ⟨b1, b2, b3, b4⟩ := H
  obtain ⟨q, r, q1, q2, q3⟩ := b4 hk
  obtain ⟨e1, e2⟩ := fx_st h1 h2 b1 (by omega)
  unfold OVERs at q2
  rw [Int.toNat_natCast] at q2
  obtain ⟨t, q', t1, t2, t3, t4⟩ := OVER_next (by omega) q1 (by unfold FARN; omega) q2
  refine ⟨b1, by omega, b2, b3, t, q', r, ?_, by omega, ?_, ?_, ?_, by omega⟩
  · rw [e1]; unfold updN; rw [if_pos rfl]; omega
  · rw [e1, SWd_tk e2, SWd_ah e2, e2]
    obtain ⟨c1, c2, c3⟩ := bzP_congr (tk := tkN σ) (fx := updN (fxN σ) k.toNat y.toInt.toNat) (fx' := fxN σ) k.toNat (fun a ha => by unfold updN; rw [if_neg (by omega)])
    unfold MAY
    rw [c1, c2]; exact t2
  · rw [e2]; exact t3
  · rw [e1, SWd_tk e2, SWd_ah e2, e2, e2]
    exact OVER_congr t4 (fun a ha => by unfold updN; split <;> rfl)
def GOs (σ : SG) (k all hour : Int) : Prop := MAYs σ k hour → ∀ q r : Nat, q < fct ((ci σ 160 5).toNat - (k.toNat + 1)) → OVER (tkN σ) (ahN σ) (fxN σ) (ci σ 160 5).toNat (ci σ 160 1).toNat (k.toNat + 1) q r → (r : Int) ≤ all → False
theorem GO_1 {σ : SG} {k all hour r : Int} (E : MAYs σ k hour → r = 1) (hr : r = 0) : GOs σ k all hour := fun m _ _ _ _ _ => by have := E m; omega
theorem GO_2 {σ σ1 : SG} {k all hour T fm w : Int} (hw : SWd σ σ1) (hx : SXd σ σ1) (E : LEASTs σ1 fm T w.toNat) (hfm : fm = k + 1) (hT : T = ci σ1 160 1) (k0 : 0 ≤ k) (h : all < w) (h0 : 0 ≤ all) : GOs σ k all hour := by
  intro _ q r hq ho hr
  have E := LEASTs_eq hw hx E
  rw [hw] at hT
  obtain ⟨l1, l2⟩ := E
  rw [show fm.toNat = k.toNat + 1 by omega, hT] at l1
  obtain ⟨r', a, b⟩ := l1 q hq
  have := OVER_uniq a ho
  omega
theorem AIM_lt {σ : SG} {k all : Int} {z : Int32} (hσ : WT σ) (H : AIMs σ k all) (hz : (σ 175)[k.toNat]? = some (Value.int z)) (hgo : GOs σ k all z.toInt) : ∃ t q r : Nat, fxN σ k.toNat < t ∧ t ≤ 54 ∧ MAY (tkN σ) (ahN σ) (fxN σ) (ci σ 160 1).toNat k.toNat t ∧ q < fct ((ci σ 160 5).toNat - (k.toNat + 1)) ∧ OVER (tkN σ) (ahN σ) (updN (fxN σ) k.toNat t) (ci σ 160 5).toNat (ci σ 160 1).toNat (k.toNat + 1) q r ∧ r ≤ all.toNat ∧ (fxN σ k.toNat : Int) = z.toInt := by
  obtain ⟨b1, b2, b3, b4, t, q, r, a1, a2, a3, a4, a5, a6⟩ := H
  have fz := fx_ci hσ b1 b2
  rw [ci_at hz rfl] at fz
  refine ⟨t, q, r, ?_, a2, a3, a4, a5, a6, fz.1⟩
  rcases Nat.lt_or_ge (fxN σ k.toNat) t with w | w
  · exact w
  · exfalso
    have et : t = fxN σ k.toNat := by omega
    have eu : updN (fxN σ) k.toNat t = fxN σ := by
      funext x; unfold updN
      by_cases hx : x = k.toNat
      · rw [if_pos hx, hx, et]
      · rw [if_neg hx]
    rw [eu] at a5
    refine hgo ?_ q r a4 a5 (by omega)
    unfold MAYs
    rw [show z.toInt.toNat = t by omega]; exact a3
theorem AIM_53 {σ : SG} {k all : Int} {z : Int32} (hσ : WT σ) (H : AIMs σ k all) (hz : (σ 175)[k.toNat]? = some (Value.int z)) (hgo : GOs σ k all z.toInt) : z.toInt ≤ 53 := by
  obtain ⟨t, q, r, h1, h2, h3, h4, h5, h6, h7⟩ := AIM_lt hσ H hz hgo
  clear h3 h4 h5
  omega
theorem AIM_s {σ σ1 σ' : SG} {k all : Int} {y z : Int32} (hσ : WT σ) (hw : SWd σ σ1) (hx : SXd σ σ1) (H : AIMs σ k all) (hz : (σ 175)[k.toNat]? = some (Value.int z)) (hgo : GOs σ k all z.toInt) (h1 : (σ' 175)[k.toNat]? = some (Value.int y)) (h2 : ∀ q i, (q ≠ 175 ∨ i ≠ k.toNat) → (σ' q)[i]? = (σ1 q)[i]?) (hy : y.toInt = z.toInt + 1) : AIMs σ' k all := by
  obtain ⟨t, q, r, a1, a2, a3, a4, a5, a6, a7⟩ := AIM_lt hσ H hz hgo
  obtain ⟨b1, b2, b3, b4, -⟩ := H
  obtain ⟨e1, e2⟩ := fx_st h1 h2 b1 b2
  rw [SXd_fx hx] at e1
  have e2 : SWd σ σ' := fun i => by rw [e2, hw]
  refine ⟨b1, b2, b3, b4, t, q, r, ?_, a2, ?_, ?_, ?_, a6⟩
  · rw [e1]; unfold updN; rw [if_pos rfl]; omega
  · rw [e1, SWd_tk e2, SWd_ah e2, e2]
    obtain ⟨c1, c2, c3⟩ := bzP_congr (tk := tkN σ) (fx := updN (fxN σ) k.toNat y.toInt.toNat) (fx' := fxN σ) k.toNat (fun a ha => by unfold updN; rw [if_neg (by omega)])
    unfold MAY
    rw [c1, c2]; exact a3
  · rw [e2]; exact a4
  · rw [e1, SWd_tk e2, SWd_ah e2, e2, e2]
    refine OVER_congr a5 (fun a ha => ?_)
    unfold updN; split <;> rfl
theorem SXd_tr {σ σ' σ'' : SG} (h : SXd σ σ') (h' : SXd σ' σ'') : SXd σ σ'' := fun i => by rw [h', h]
theorem SWd_tr {σ σ' σ'' : SG} (h : SWd σ σ') (h' : SWd σ' σ'') : SWd σ σ'' := fun i => by rw [h', h]
theorem BEG_s {σ1 σ2 : SG} {k all T fm w k' : Int} (E : LEASTs σ1 fm T w.toNat) (hw : SWd σ1 σ2) (hx : SXd σ1 σ2) (hfm : fm = k + 1) (hT : T = ci σ1 160 1) (h : w ≤ all) (w0 : 0 ≤ w) (k0 : 0 ≤ k) (h54 : all ≤ 54) (e : k' = k + 1) : BEGs σ2 k' all := by
  obtain ⟨l1, l2⟩ := E
  refine ⟨by clear l2; omega, by clear l2; omega, h54, fun _ => ?_⟩
  rcases l2 with z | ⟨q, q1, q2⟩
  · unfold FARN at z; omega
  · refine ⟨q, w.toNat, ?_, ?_, by clear q1 q2; omega⟩
    · rw [hw, show k'.toNat = fm.toNat by omega]; exact q1
    · unfold OVERs
      rw [SWd_tk hw, SWd_ah hw, SXd_fx hx, hw, hw, Int.toNat_natCast, ← hT, show k'.toNat = fm.toNat by omega]; exact q2
end TIMD
end
/-! 31.f.wld -/
section
section WLD
variable {fr lo : Nat} {scr : AS} {F : MR} {P : PO} {pc pc' len tgt : Nat} {i : Instr} {lv lv' : ALv} {st st' r : List Value} {σ σ0 : SG} {W : List (Nat × Nat)}
/-! a row of numbers with its types place by place -/
theorem En_ialdW {a g n : Nat} {j : Int32} {J : Int} (hf : fc F pc = some (.iaload, len, tgt)) (hJ : j.toInt = J) (ha : TG a = g) (hg : (KD g == 1 && (CL g == 0 || CL g == 0) && decide (g < 900)) = true) (hσ : WT σ) (h0 : 0 ≤ J) (hn : LN g = n) (h1 : J < (n : Int)) (ht : (List.range n).all (fun q => decide ((FT g q).1 = 0)) = true) (k : ∀ y : Int32, (σ a)[J.toNat]? = some (Value.int y) → vOK (FT g J.toNat) (.int y) → En fr lo scr F P (pc + 1) lv (.int y :: r) σ) : En fr lo scr F P pc lv (.int j :: .ref a :: r) σ := by
  obtain ⟨v, hv, hk, hl⟩ := ldR_ok (scr := scr) (r := r) ha hg hσ hJ h0 (by rw [hn]; exact h1)
  have t0 := of_decide_eq_true (List.all_eq_true.mp ht J.toNat (List.mem_range.mpr (by omega)))
  have hk2 := hk
  rw [show FT g J.toNat = (0, (FT g J.toNat).2.1, (FT g J.toNat).2.2) by rw [← t0]] at hk
  obtain ⟨y, rfl, h2, h3⟩ := vOK_int hk
  exact En_P1 hf rfl (oB_mk hl rfl) (k y hv hk2)
theorem En_iastW {a g n : Nat} {j y : Int32} {J : Int} (hf : fc F pc = some (.iastore, len, tgt)) (hJ : j.toInt = J) (ha : TG a = g) (hg : (KD g == 1 && CL g == 0 && decide (g < 900)) = true) (h0 : 0 ≤ J) (hn : LN g = n) (h1 : J < (n : Int)) (hv : vOK (FT g J.toNat) (.int y)) (hσ : WT σ) (hF : Fr W σ0 σ) (hW : W.contains (g, 0) = true)
    (k : ∀ σ', WT σ' → Fr W σ0 σ' → (σ' a)[J.toNat]? = some (Value.int y) → (∀ b i, (b ≠ a ∨ i ≠ J.toNat) → (σ' b)[i]? = (σ b)[i]?) → En fr lo scr F P (pc + 1) lv r σ') : En fr lo scr F P pc lv (.int y :: .int j :: .ref a :: r) σ :=
  En_iast (l := (FT g J.toNat).2.1) (u := (FT g J.toNat).2.2) hf hJ ha hg h0 (by rw [hn]; exact h1) (by have := hv.1; rw [← this]) hv.2 hσ hF hW k
end WLD
section WLE
theorem tyW : (TY 41).2.2.2 = (TY 36).2.2.2 ∧ (TY 37).2.2.2 = (TY 36).2.2.2 ++ ((TY 36).2.2.2 ++ (TY 36).2.2.2) ∧ (TY 36).2.2.2.length = 226 ∧ KD 36 = 1 ∧ KD 37 = 1 ∧ KD 41 = 1 := by decide +kernel
theorem pick_m {k : Nat} {l : List (Nat × Int × Int)} {j : Nat} (hk : k ≠ 0) (hl : l.length ≠ 1) : pick k l j = l.getD j (9, 0, 0) := by
  cases k with
  | zero => exact absurd rfl hk
  | succ k =>
    exact match l, hl with
    | [], _ => rfl
    | [_], h => absurd rfl h
    | _ :: _ :: _, _ => rfl
theorem ft_36 {q : Nat} : FT 36 q = (TY 36).2.2.2.getD q (9, 0, 0) := by
  obtain ⟨e1, e2, e3, k1, k2, k3⟩ := tyW
  exact pick_m (by rw [k1]; decide) (by rw [e3]; decide)
theorem ft_41 {q : Nat} : FT 41 q = (TY 36).2.2.2.getD q (9, 0, 0) := by
  obtain ⟨e1, e2, e3, k1, k2, k3⟩ := tyW
  unfold FT
  rw [e1]
  exact pick_m (by rw [k3]; decide) (by rw [e3]; decide)
theorem ft_37 {q : Nat} : FT 37 q = ((TY 36).2.2.2 ++ ((TY 36).2.2.2 ++ (TY 36).2.2.2)).getD q (9, 0, 0) := by
  obtain ⟨e1, e2, e3, k1, k2, k3⟩ := tyW
  unfold FT
  rw [e2]
  exact pick_m (by rw [k2]; decide) (by rw [List.length_append, List.length_append, e3]; decide)
theorem apl {l m : List (Nat × Int × Int)} {q : Nat} {d : Nat × Int × Int} (h : q < l.length) : (l ++ m).getD q d = l.getD q d := by
  rw [List.getD_eq_getElem?_getD, List.getD_eq_getElem?_getD, List.getElem?_append_left h]
theorem apr {l m : List (Nat × Int × Int)} {q n : Nat} {d : Nat × Int × Int} (h : l.length = n) : (l ++ m).getD (n + q) d = m.getD q d := by
  rw [List.getD_eq_getElem?_getD, List.getD_eq_getElem?_getD, List.getElem?_append_right (by omega), show n + q - l.length = q by omega]
theorem ft_w {q : Nat} (hq : q < 226) : FT 41 q = FT 36 q ∧ FT 37 q = FT 36 q ∧ FT 37 (226 + q) = FT 36 q ∧ FT 37 (452 + q) = FT 36 q := by
  have e3 := tyW.2.2.1
  refine ⟨ft_41.trans ft_36.symm, ft_37.trans ((apl (by omega)).trans ft_36.symm), ft_37.trans ((apr e3).trans ((apl (by omega)).trans ft_36.symm)), ?_⟩
  rw [show 452 + q = 226 + (226 + q) by omega]
  exact ft_37.trans ((apr e3).trans ((apr e3).trans ft_36.symm))
theorem ft_fw {J J' : Int} {y : Int32} (h : vOK (FT 41 J.toNat) (.int y)) (h0 : 0 ≤ J) (h1 : J < 226) (e : J' = J) : vOK (FT 36 J'.toNat) (.int y) := by
  subst e; rw [← (ft_w (by omega)).1]; exact h
theorem ft_wi {J J' k : Int} {y : Int32} (h : vOK (FT 36 J.toNat) (.int y)) (h0 : 0 ≤ J) (h1 : J < 226) (k0 : 0 ≤ k) (k2 : k ≤ 2) (e : J' = 226 * k + J) : vOK (FT 37 J'.toNat) (.int y) := by
  have w := ft_w (q := J.toNat) (by omega)
  rcases (show k = 0 ∨ k = 1 ∨ k = 2 by omega) with z | z | z
  · rw [show J'.toNat = J.toNat by omega, w.2.1]; exact h
  · rw [show J'.toNat = 226 + J.toNat by omega, w.2.2.1]; exact h
  · rw [show J'.toNat = 452 + J.toNat by omega, w.2.2.2]; exact h
theorem ft_iw {J J' k : Int} {y : Int32} (h : vOK (FT 37 J'.toNat) (.int y)) (h0 : 0 ≤ J) (h1 : J < 226) (k0 : 0 ≤ k) (k2 : k ≤ 2) (e : J' = 226 * k + J) : vOK (FT 36 J.toNat) (.int y) := by
  have w := ft_w (q := J.toNat) (by omega)
  rcases (show k = 0 ∨ k = 1 ∨ k = 2 by omega) with z | z | z
  · rw [show J'.toNat = J.toNat by omega, w.2.1] at h; exact h
  · rw [show J'.toNat = 226 + J.toNat by omega, w.2.2.1] at h; exact h
  · rw [show J'.toNat = 452 + J.toNat by omega, w.2.2.2] at h; exact h
/-! what is told of a school's numbers -/
def cntW (f : Int → Int) : Nat → Int → Nat
  | 0, _ => 0
  | n + 1, d => cntW f n d + (if f (166 + (n : Int)) = d then 1 else 0)
def WINV (f : Int → Int) : Prop := ((1 ≤ f 5 ∨ 1 ≤ f 7) → 1 ≤ f 1) ∧ 0 ≤ f 6 ∧ f 6 ≤ 60 ∧ ∀ d : Int, 0 ≤ d → d < 4 → (cntW f (f 6).toNat d : Int) ≤ f (12 + 4 * d)
theorem cntW_congr {f g : Int → Int} {d : Int} : ∀ n : Nat, (∀ j : Nat, j < n → f (166 + (j : Int)) = g (166 + (j : Int))) → cntW f n d = cntW g n d := by
  intro n
  induction n with
  | zero => intro _; rfl
  | succ n ih =>
    intro h
    unfold cntW
    rw [ih (fun j hj => h j (by omega)), h n (by omega)]
theorem WINV_congr {f g : Int → Int} (h : ∀ i : Int, 0 ≤ i → i < 226 → g i = f i) (H : WINV f) : WINV g := by
  obtain ⟨h1, h2, h3, h4⟩ := H
  refine ⟨?_, by rw [h 6 (by omega) (by omega)]; exact h2, by rw [h 6 (by omega) (by omega)]; exact h3, fun d d0 d4 => ?_⟩
  · rw [h 5 (by omega) (by omega), h 7 (by omega) (by omega), h 1 (by omega) (by omega)]; exact h1
  · rw [h 6 (by omega) (by omega), h (12 + 4 * d) (by omega) (by omega), cntW_congr (g := f) _ (fun j hj => h _ (by omega) (by omega))]
    exact h4 d d0 d4
/-- the numbers that it speaks of -/
def SAM (f g : Int → Int) : Prop := ∀ i : Int, (i = 1 ∨ i = 5 ∨ i = 6 ∨ i = 7 ∨ i = 12 ∨ i = 16 ∨ i = 20 ∨ i = 24 ∨ 166 ≤ i) → g i = f i
theorem WINV_sam {f g : Int → Int} (h : SAM f g) (H : WINV f) : WINV g := by
  obtain ⟨h1, h2, h3, h4⟩ := H
  refine ⟨?_, by rw [h 6 (by omega)]; exact h2, by rw [h 6 (by omega)]; exact h3, fun d d0 d4 => ?_⟩
  · rw [h 5 (by omega), h 7 (by omega), h 1 (by omega)]; exact h1
  · rw [h 6 (by omega), h (12 + 4 * d) (by omega), cntW_congr (g := f) _ (fun j hj => h _ (by omega))]
    exact h4 d d0 d4
theorem WINV_teach {f g : Int → Int} {d j x o m nt : Int} (H : WINV f) (h : ∀ i : Int, 0 ≤ i → g i = if i = 6 then nt + 1 else if i = 166 + nt then d else if i = 12 + 4 * d then m + 1 else if i = j + 1 then o else if i = j then x else f i) (hm : m = f (12 + 4 * d)) (hn : nt = f 6) (n59 : nt ≤ 59) (d0 : 0 ≤ d) (d4 : d < 4) (j0 : 26 ≤ j) (j1 : j ≤ 120) : WINV g := by
  obtain ⟨h1, h2, h3, h4⟩ := H
  have e6 : g 6 = nt + 1 := by rw [h 6 (by omega), if_pos rfl]
  have e (i : Int) (i0 : 0 ≤ i) (a1 : i ≠ 6) (a2 : i ≠ 166 + nt) (a3 : i ≠ 12 + 4 * d) (a4 : i ≠ j + 1) (a5 : i ≠ j) : g i = f i := by rw [h i i0, if_neg a1, if_neg a2, if_neg a3, if_neg a4, if_neg a5]
  refine ⟨?_, by omega, by omega, fun q q0 q4 => ?_⟩
  · rw [e 5 (by omega) (by omega) (by omega) (by omega) (by omega) (by omega), e 7 (by omega) (by omega) (by omega) (by omega) (by omega) (by omega), e 1 (by omega) (by omega) (by omega) (by omega) (by omega) (by omega)]; exact h1
  · have hq := h4 q q0 q4
    have en : (g 6).toNat = (f 6).toNat + 1 := by omega
    have ec : cntW g (f 6).toNat q = cntW f (f 6).toNat q := cntW_congr _ (fun k hk => e _ (by omega) (by omega) (by omega) (by omega) (by omega) (by omega))
    rw [en]
    unfold cntW
    rw [ec, show (166 : Int) + (((f 6).toNat : Nat) : Int) = 166 + nt by omega]
    have ed : g (166 + nt) = d := by rw [h _ (by omega), if_neg (by omega), if_pos rfl]
    rw [ed]
    by_cases z : d = q
    · subst z
      rw [if_pos rfl, h _ (by omega), if_neg (by omega), if_neg (by omega), if_pos rfl]
      omega
    · rw [if_neg z, e _ (by omega) (by omega) (by omega) (by omega) (by omega) (by omega)]
      omega
theorem WINV_ge {f : Int → Int} {d nt : Int} (H : WINV f) (hn : nt = f 6) (n1 : 1 ≤ nt) (hd : d = f (166 + (nt - 1))) (d0 : 0 ≤ d) (d4 : d < 4) : 1 ≤ f (12 + 4 * d) := by
  obtain ⟨h1, h2, h3, h4⟩ := H
  have := h4 d d0 d4
  rw [show (f 6).toNat = (nt - 1).toNat + 1 by omega] at this
  unfold cntW at this
  rw [show (166 : Int) + (((nt - 1).toNat : Nat) : Int) = 166 + (nt - 1) by omega, if_pos hd.symm] at this
  omega
theorem WINV_unteach {f g : Int → Int} {d m nt : Int} (H : WINV f) (h : ∀ i : Int, 0 ≤ i → g i = if i = 12 + 4 * d then m - 1 else if i = 6 then nt - 1 else f i) (hm : m = f (12 + 4 * d)) (hn : nt = f 6) (n1 : 1 ≤ nt) (hd : d = f (166 + (nt - 1))) (d0 : 0 ≤ d) (d4 : d < 4) : WINV g := by
  obtain ⟨h1, h2, h3, h4⟩ := H
  have e6 : g 6 = nt - 1 := by rw [h 6 (by omega), if_neg (by omega), if_pos rfl]
  have e (i : Int) (i0 : 0 ≤ i) (a1 : i ≠ 6) (a3 : i ≠ 12 + 4 * d) : g i = f i := by rw [h i i0, if_neg a3, if_neg a1]
  refine ⟨?_, by omega, by omega, fun q q0 q4 => ?_⟩
  · rw [e 5 (by omega) (by omega) (by omega), e 7 (by omega) (by omega) (by omega), e 1 (by omega) (by omega) (by omega)]; exact h1
  · have hq := h4 q q0 q4
    rw [show (f 6).toNat = (nt - 1).toNat + 1 by omega] at hq
    unfold cntW at hq
    rw [show (166 : Int) + (((nt - 1).toNat : Nat) : Int) = 166 + (nt - 1) by omega] at hq
    have ec : cntW g (nt - 1).toNat q = cntW f (nt - 1).toNat q := cntW_congr _ (fun k hk => e _ (by omega) (by omega) (by omega))
    rw [e6, ec]
    by_cases z : d = q
    · subst z
      rw [if_pos hd.symm] at hq
      rw [h _ (by omega), if_pos rfl]
      omega
    · rw [if_neg (fun w => z (by rw [hd, w]))] at hq
      rw [e _ (by omega) (by omega) (by omega)]
      omega
theorem WINV_teach2 {f g : Int → Int} {d j m nt J1 J2 J3 J4 J5 y1 y2 y3 y4 y5 : Int} (H : WINV f) (h : ∀ i : Int, 0 ≤ i → g i = if i = J5 then y5 else if i = J4 then y4 else if i = J3 then y3 else if i = J2 then y2 else if i = J1 then y1 else f i) (hm : m = f (12 + 4 * d)) (hn : nt = f 6) (n59 : nt ≤ 59) (d0 : 0 ≤ d) (d4 : d < 4) (j0 : 26 ≤ j) (j1 : j ≤ 120) (e1 : J1 = j) (e2 : J2 = j + 1) (e3 : J3 = 12 + 4 * d) (e4 : J4 = 166 + nt) (e5 : J5 = 6) (v3 : y3 = m + 1) (v4 : y4 = d) (v5 : y5 = nt + 1) : WINV g := by
  subst e1 e2 e3 e4 e5 v3 v4 v5
  exact WINV_teach H h hm hn n59 d0 d4 j0 j1
theorem WINV_unteach2 {f g : Int → Int} {d m nt J1 J2 y1 y2 : Int} (H : WINV f) (h : ∀ i : Int, 0 ≤ i → g i = if i = J2 then y2 else if i = J1 then y1 else f i) (hm : m = f (12 + 4 * d)) (hn : nt = f 6) (n1 : 1 ≤ nt) (hd : d = f (166 + (nt - 1))) (d0 : 0 ≤ d) (d4 : d < 4) (e1 : J1 = 6) (e2 : J2 = 12 + 4 * d) (v1 : y1 = nt - 1) (v2 : y2 = m - 1) : WINV g := by
  subst e1 e2 v1 v2
  exact WINV_unteach H h hm hn n1 hd d0 d4
def wf (σ : SG) : Int → Int := fun i => ci σ 160 i
def ff (σ : SG) : Int → Int := fun i => ci σ 165 i
def imf (σ : SG) (k : Int) : Int → Int := fun i => ci σ 161 (226 * k + i)
def WI (σ : SG) : Prop := WINV (wf σ) ∧ ∀ k : Int, 0 ≤ k → k < 3 → WINV (imf σ k)
theorem WI_fr {W : List (Nat × Nat)} {σ σ' : SG} (h : Fr W σ σ') (hw : (decide (KD 36 ≠ 0) && !W.contains (36, 0)) = true) (hw' : (decide (KD 37 ≠ 0) && !W.contains (37, 0)) = true) (H : WI σ) : WI σ' := by
  refine ⟨?_, fun k k0 k3 => ?_⟩
  · have e : wf σ' = wf σ := by funext i; exact ci_fr h tgz_160 hw i
    rw [e]; exact H.1
  · have e : imf σ' k = imf σ k := by funext i; exact ci_fr h tgz_161 hw' _
    rw [e]; exact H.2 k k0 k3
theorem WI_w {W : List (Nat × Nat)} {σ σ' : SG} (h : Fr W σ σ') (hw' : (decide (KD 37 ≠ 0) && !W.contains (37, 0)) = true) (H : WI σ) (hn : WINV (wf σ')) : WI σ' := by
  refine ⟨hn, fun k k0 k3 => ?_⟩
  have e : imf σ' k = imf σ k := by funext i; exact ci_fr h tgz_161 hw' _
  rw [e]; exact H.2 k k0 k3
theorem TPOS_of {σ : SG} (H : WI σ) : TPOS σ := H.1.1
theorem WI_nx {σ σ' : SG} {a n : Nat} (h2 : ∀ b q, (b ≠ a ∨ q ≠ n) → (σ' b)[q]? = (σ b)[q]?) (h6 : 160 ≠ a) (h7 : 161 ≠ a) (H : WI σ) : WI σ' := by
  refine ⟨?_, fun k k0 k3 => ?_⟩
  · have e : wf σ' = wf σ := by funext i; exact ci_ne h2 h6 i
    rw [e]; exact H.1
  · have e : imf σ' k = imf σ k := by funext i; exact ci_ne h2 h7 _
    rw [e]; exact H.2 k k0 k3
/-- a row copied up to a place -/
def CPY (f g : Int → Int) (i : Int) : Prop := ∀ x : Int, 0 ≤ x → x < i → g x = f x
theorem CPY_0 {f g : Int → Int} {i : Int} (e : i = 0) : CPY f g i := fun x h0 h1 => absurd h0 (by omega)
/-- fresh to world -/
theorem CPY_fw {σ σ' : SG} {i i' : Int} {z : Int32} (H : CPY (ff σ) (wf σ) i) (hz : (σ 165)[i.toNat]? = some (Value.int z)) (h1 : (σ' 160)[i.toNat]? = some (Value.int z)) (h2 : ∀ b q, (b ≠ 160 ∨ q ≠ i.toNat) → (σ' b)[q]? = (σ b)[q]?) (i0 : 0 ≤ i) (e : i' = i + 1) : CPY (ff σ') (wf σ') i' := by
  intro x x0 xi
  show ci σ' 160 x = ci σ' 165 x
  rw [ci_ne (b := 165) h2 (by decide), ci_st h1 h2 i0 x x0]
  by_cases q : x = i
  · rw [if_pos q, q]; exact (ci_at hz rfl).symm
  · rw [if_neg q]; exact H x x0 (by omega)
/-- world to an image -/
def CPI (σ0 σ : SG) (k i : Int) : Prop := (∀ x : Int, 0 ≤ x → x < i → ci σ 161 (226 * k + x) = ci σ0 160 x) ∧ ∀ y : Int, 0 ≤ y → (y < 226 * k ∨ 226 * k + 226 ≤ y) → ci σ 161 y = ci σ0 161 y
theorem CPI_0 {σ0 : SG} {k i : Int} (e : i = 0) : CPI σ0 σ0 k i := ⟨fun x h0 h1 => absurd h0 (by omega), fun _ _ _ => rfl⟩
theorem CPI_s {σ0 σ σ' : SG} {k i i' J : Int} {z : Int32} (H : CPI σ0 σ k i) (hw : SWd σ0 σ) (hz : (σ 160)[i.toNat]? = some (Value.int z)) (h1 : (σ' 161)[J.toNat]? = some (Value.int z)) (h2 : ∀ b q, (b ≠ 161 ∨ q ≠ J.toNat) → (σ' b)[q]? = (σ b)[q]?) (hJ : J = 226 * k + i) (k0 : 0 ≤ k) (i0 : 0 ≤ i) (i1 : i < 226) (e : i' = i + 1) : CPI σ0 σ' k i' := by
  refine ⟨fun x x0 xi => ?_, fun y y0 hy => ?_⟩
  · rw [ci_st h1 h2 (by omega) _ (by omega)]
    by_cases q : x = i
    · rw [if_pos (by omega), q, ← hw]; exact (ci_at hz rfl).symm
    · rw [if_neg (by omega)]; exact H.1 x x0 (by omega)
  · rw [ci_st h1 h2 (by omega) _ y0, if_neg (by omega)]; exact H.2 y y0 hy
theorem CPI_x {W : List (Nat × Nat)} {σ0 σ : SG} {k i : Int} (H : CPI σ0 σ k i) (hi : 226 ≤ i) (hw : SWd σ0 σ) (k0 : 0 ≤ k) (k3 : k < 3) (I : WI σ0) : WI σ := by
  refine ⟨?_, fun q q0 q3 => ?_⟩
  · have e : wf σ = wf σ0 := by funext x; exact hw x
    rw [e]; exact I.1
  · by_cases z : q = k
    · subst z
      exact WINV_congr (f := wf σ0) (fun x x0 x1 => H.1 x x0 (by omega)) I.1
    · refine WINV_congr (f := imf σ0 q) (fun x x0 x1 => ?_) (I.2 q q0 q3)
      exact H.2 _ (by omega) (by rcases Int.lt_or_gt_of_ne z with w | w <;> omega)
/-- an image to the world -/
def CPB (σ0 σ : SG) (k i : Int) : Prop := ∀ x : Int, 0 ≤ x → x < i → ci σ 160 x = ci σ0 161 (226 * k + x)
theorem CPB_0 {σ0 σ : SG} {k i : Int} (e : i = 0) : CPB σ0 σ k i := fun x h0 h1 => absurd h0 (by omega)
theorem CPB_s {W : List (Nat × Nat)} {σ0 σ σ' : SG} {k i i' J : Int} {z : Int32} (H : CPB σ0 σ k i) (hF : Fr W σ0 σ) (hw' : (decide (KD 37 ≠ 0) && !W.contains (37, 0)) = true) (hz : (σ 161)[J.toNat]? = some (Value.int z)) (h1 : (σ' 160)[i.toNat]? = some (Value.int z)) (h2 : ∀ b q, (b ≠ 160 ∨ q ≠ i.toNat) → (σ' b)[q]? = (σ b)[q]?) (hJ : J = 226 * k + i) (i0 : 0 ≤ i) (e : i' = i + 1) : CPB σ0 σ' k i' := by
  intro x x0 xi
  rw [ci_st h1 h2 i0 x x0]
  by_cases q : x = i
  · rw [if_pos q, ← ci_fr hF tgz_161 hw']; exact (ci_at hz (by omega)).symm
  · rw [if_neg q]; exact H x x0 (by omega)
theorem CPB_x {W : List (Nat × Nat)} {σ0 σ : SG} {k i : Int} (H : CPB σ0 σ k i) (hi : 226 ≤ i) (hF : Fr W σ0 σ) (hw' : (decide (KD 37 ≠ 0) && !W.contains (37, 0)) = true) (k0 : 0 ≤ k) (k3 : k < 3) (I : WI σ0) : WI σ :=
  WI_w hF hw' I (WINV_congr (f := imf σ0 k) (fun x x0 x1 => H x x0 (by omega)) (I.2 k k0 k3))
/-! the numbers that the reading leaves alone -/
def KF (σ σ' : SG) : Prop := ∀ i : Int, (i = 1 ∨ i = 6 ∨ i = 7) → ci σ' 165 i = ci σ 165 i
theorem KF_0 {σ : SG} : KF σ σ := fun _ _ => rfl
theorem KF_fr {W : List (Nat × Nat)} {σ0 σ σ' : SG} (H : KF σ0 σ) (h : Fr W σ σ') (hw : (decide (KD 41 ≠ 0) && !W.contains (41, 0)) = true) : KF σ0 σ' := fun i hi => by rw [ci_fr h tgz_165 hw i]; exact H i hi
theorem KF_tr {σ0 σ σ' : SG} (H : KF σ0 σ) (h : KF σ σ') : KF σ0 σ' := fun i hi => by rw [h i hi]; exact H i hi
theorem KF_st {σ0 σ σ' : SG} {J : Int} (H : KF σ0 σ) (h2 : ∀ b q, (b ≠ 165 ∨ q ≠ J.toNat) → (σ' b)[q]? = (σ b)[q]?) (hJ : 0 ≤ J) (h : J ≠ 1 ∧ J ≠ 6 ∧ J ≠ 7) : KF σ0 σ' := fun i hi => by
  rw [show ci σ' 165 i = ci σ 165 i from ci_eq (h2 165 _ (Or.inr (by omega)))]; exact H i hi
def KR (σ σ' : SG) : Prop := ∀ i : Int, 0 ≤ i → i ≤ 7 → ci σ' 165 i = ci σ 165 i
theorem KF_of {σ σ' : SG} (h : KR σ σ') : KF σ σ' := fun i hi => h i (by omega) (by omega)
theorem KR_0 {σ : SG} : KR σ σ := fun _ _ _ => rfl
theorem KR_fr {W : List (Nat × Nat)} {σ0 σ σ' : SG} (H : KR σ0 σ) (h : Fr W σ σ') (hw : (decide (KD 41 ≠ 0) && !W.contains (41, 0)) = true) : KR σ0 σ' := fun i h0 h7 => by rw [ci_fr h tgz_165 hw i]; exact H i h0 h7
theorem KR_st {σ0 σ σ' : SG} {J : Int} (H : KR σ0 σ) (h2 : ∀ b q, (b ≠ 165 ∨ q ≠ J.toNat) → (σ' b)[q]? = (σ b)[q]?) (hJ : 8 ≤ J) : KR σ0 σ' := fun i h0 h7 => by
  rw [show ci σ' 165 i = ci σ 165 i from ci_eq (h2 165 _ (Or.inr (by omega)))]; exact H i h0 h7
/-- what holds of fresh between two lines; k: a fault or none -/
def FI (σ : SG) (k : Int) : Prop := ci σ 165 6 = 0 ∧ (k = 0 → (1 ≤ ci σ 165 7 → 1 ≤ ci σ 165 1) ∧ (ci σ 165 7 = 0 → ci σ 165 5 = 0))
theorem f_rng {σ : SG} (hσ : WT σ) : 0 ≤ ci σ 165 5 ∧ 0 ≤ ci σ 165 7 ∧ ci σ 165 7 ≤ 1600 := by
  have a := ci_rng (J := 5) (l := 0) (u := 6) hσ tgz_165 (by decide) (by omega) (lnI (by decide +kernel : LN _ = 226) (by omega)) (by decide +kernel)
  have b := ci_rng (J := 7) (l := 0) (u := 1600) hσ tgz_165 (by decide) (by omega) (lnI (by decide +kernel : LN _ = 226) (by omega)) (by decide +kernel)
  exact ⟨a.1, b.1, b.2⟩
theorem f_many {σ : SG} (hσ : WT σ) {d : Int} (d0 : 0 ≤ d) (d4 : d < 4) : 0 ≤ ci σ 165 (12 + 4 * d) := (ci_rng (J := 12 + 4 * d) (l := 0) (u := 12) hσ tgz_165 (by decide) (by omega) (lnI (by decide +kernel : LN _ = 226) (by omega)) (FTrow 41 12 4 4 (by decide +kernel) (by omega) (by omega) (by omega))).1
/-- a fresh school that was read without a fault -/
theorem FI_x {W : List (Nat × Nat)} {σ0 σ : SG} {k i : Int} (hσ : WT σ) (H : FI σ k) (hk : k = 0) (C : CPY (ff σ) (wf σ) i) (hi : 226 ≤ i) (hF : Fr W σ0 σ) (hw' : (decide (KD 37 ≠ 0) && !W.contains (37, 0)) = true) (I : WI σ0) : WI σ := by
  obtain ⟨h6, hT⟩ := H
  obtain ⟨h7, h5⟩ := hT hk
  have fr := f_rng hσ
  have e (x : Int) (x0 : 0 ≤ x) (x1 : x < 226) : wf σ x = ci σ 165 x := C x x0 (by omega)
  refine WI_w hF hw' I ⟨?_, ?_, ?_, fun d d0 d4 => ?_⟩
  · rw [e 5 (by omega) (by omega), e 7 (by omega) (by omega), e 1 (by omega) (by omega)]; omega
  · rw [e 6 (by omega) (by omega)]; omega
  · rw [e 6 (by omega) (by omega)]; omega
  · rw [e 6 (by omega) (by omega), h6, e (12 + 4 * d) (by omega) (by omega)]
    exact f_many hσ d0 d4
theorem FI_z {σ : SG} {k k' : Int} (H : FI σ k) (e : k' = k) : FI σ k' := by subst e; exact H
theorem FI_ne {σ σ' : SG} {a n : Nat} {k : Int} (H : FI σ k) (h2 : ∀ b q, (b ≠ a ∨ q ≠ n) → (σ' b)[q]? = (σ b)[q]?) (ha : 165 ≠ a) : FI σ' k := by
  unfold FI
  rw [ci_ne h2 ha, ci_ne h2 ha, ci_ne h2 ha, ci_ne h2 ha]; exact H
def CLF (σ : SG) (i : Int) : Prop := ∀ x : Int, 0 ≤ x → x < i → ci σ 165 x = 0
theorem CLF_0 {σ : SG} {i : Int} (e : i = 0) : CLF σ i := fun x h0 h1 => absurd h0 (by omega)
theorem CLF_s {σ σ' : SG} {i i' : Int} {y : Int32} (H : CLF σ i) (h1 : (σ' 165)[i.toNat]? = some (Value.int y)) (h2 : ∀ b q, (b ≠ 165 ∨ q ≠ i.toNat) → (σ' b)[q]? = (σ b)[q]?) (hy : y.toInt = 0) (i0 : 0 ≤ i) (e : i' = i + 1) : CLF σ' i' := by
  intro x x0 xi
  rw [ci_st h1 h2 i0 x x0]
  by_cases q : x = i
  · rw [if_pos q, hy]
  · rw [if_neg q]; exact H x x0 (by omega)
theorem CLF_226 {σ : SG} {i : Int} (H : CLF σ i) (h : 226 ≤ i) : CLF σ 226 := fun x h0 h1 => H x h0 (by omega)
theorem CLF_fr {W : List (Nat × Nat)} {σ σ' : SG} {i : Int} (H : CLF σ i) (h : Fr W σ σ') (hw : (decide (KD 41 ≠ 0) && !W.contains (41, 0)) = true) : CLF σ' i := fun x h0 h1 => by rw [ci_fr h tgz_165 hw]; exact H x h0 h1
theorem FI_0 {σ : SG} {k : Int} (H : CLF σ 226) : FI σ k := by
  have h1 := H 6 (by omega) (by omega)
  have h2 := H 7 (by omega) (by omega)
  have h3 := H 5 (by omega) (by omega)
  exact ⟨h1, fun _ => ⟨fun z => by omega, fun _ => h3⟩⟩
theorem WI_sw {W : List (Nat × Nat)} {σ σ' : SG} (hw : SWd σ σ') (h : Fr W σ σ') (hw' : (decide (KD 37 ≠ 0) && !W.contains (37, 0)) = true) (H : WI σ) : WI σ' := WI_w h hw' H (by
  have e : wf σ' = wf σ := by funext i; exact hw i
  rw [e]; exact H.1)
theorem ft0_ok : (TY 36).2.2.2.all (fun t => decide (t.1 = 0 ∧ t.2.1 ≤ 0 ∧ 0 ≤ t.2.2)) = true := by decide +kernel
theorem ft_zero {J : Int} {y : Int32} (h0 : 0 ≤ J) (h1 : J < 226) (hy : y.toInt = 0) : vOK (FT 41 J.toNat) (.int y) := by
  have e3 := tyW.2.2.1
  have hm : FT 41 J.toNat ∈ (TY 36).2.2.2 := by
    rw [ft_41, List.getD_eq_getElem?_getD, List.getElem?_eq_getElem (by omega), Option.getD_some]
    exact List.getElem_mem _
  have := of_decide_eq_true (List.all_eq_true.mp ft0_ok _ hm)
  exact ⟨this.1, by rw [hy]; exact this.2.1, by rw [hy]; exact this.2.2⟩
end WLE
end
/-! 32.a.x -/
section
section XX
/-! other plans' signs stay -/
def OTH (a : Nat) (σ σ' : SG) : Prop := ∀ b : Nat, TG b = 18 → b ≠ a → (σ' b)[1]? = (σ b)[1]?
theorem OTH_0 {a : Nat} {σ : SG} : OTH a σ σ := fun _ _ _ => rfl
theorem OTH_tr {a : Nat} {σ σ' σ'' : SG} (h : OTH a σ σ') (h' : OTH a σ' σ'') : OTH a σ σ'' := fun b hb hn => (h' b hb hn).trans (h b hb hn)
theorem OTH_fr {a : Nat} {W : List (Nat × Nat)} {σ σ' σ'' : SG} (h : OTH a σ σ') (h' : Fr W σ' σ'') (hw : W.contains (18, SL 18 1) = false) : OTH a σ σ'' := fun b hb hn => (h' b 1 (inW hb hw)).trans (h b hb hn)
theorem OTH_pt {a : Nat} {σ σ' σ'' : SG} (h : OTH a σ σ') (h2 : ∀ b i, (b ≠ a ∨ i ≠ 1) → (σ'' b)[i]? = (σ' b)[i]?) : OTH a σ σ'' := fun b hb hn => (h2 b 1 (Or.inl hn)).trans (h b hb hn)
theorem OTH_pj {a c j : Nat} {σ σ' σ'' : SG} (h : OTH a σ σ') (h2 : ∀ b i, (b ≠ c ∨ i ≠ j) → (σ'' b)[i]? = (σ' b)[i]?) (hj : 1 ≠ j) : OTH a σ σ'' := fun b hb hn => (h2 b 1 (Or.inr hj)).trans (h b hb hn)
theorem OTH_pn {a c g j : Nat} {σ σ' σ'' : SG} (h : OTH a σ σ') (h2 : ∀ b i, (b ≠ c ∨ i ≠ j) → (σ'' b)[i]? = (σ' b)[i]?) (hc : TG c = g) (hg : 18 ≠ g) : OTH a σ σ'' := fun b hb hn => (h2 b 1 (Or.inl (neTG hb hc hg))).trans (h b hb hn)
/-- the school's plan and the one to read into -/
def INVc (σ : SG) : Prop := ∃ (p p2 : Nat) (sg : Int32), TG p = 18 ∧ TG p2 = 18 ∧ (σ 0)[9]? = some (Value.ref p) ∧ (σ 0)[10]? = some (Value.ref p2) ∧ p ≠ p2 ∧ (σ p)[1]? = some (Value.int sg) ∧ 0 ≤ sg.toInt
theorem INVc_fr {W : List (Nat × Nat)} {σ σ' : SG} (h : Fr W σ σ') (hw : (!W.contains (0, 9) && !W.contains (0, 10) && !W.contains (18, 1)) = true) (H : INVc σ) : INVc σ' := by
  simp only [Bool.and_eq_true, Bool.not_eq_true'] at hw
  obtain ⟨p, p2, sg, h1, h2, h3, h4, h5, h6, h7⟩ := H
  have k0 : KD 0 = 0 := by decide +kernel
  have k18 : KD 18 = 0 := by decide +kernel
  have t0 : TG 0 = 0 := by decide +kernel
  refine ⟨p, p2, sg, h1, h2, ?_, ?_, h5, ?_, h7⟩
  · rw [h 0 9 (inW t0 (by unfold SL; rw [if_pos k0]; exact hw.1.1))]; exact h3
  · rw [h 0 10 (inW t0 (by unfold SL; rw [if_pos k0]; exact hw.1.2))]; exact h4
  · rw [h p 1 (inW h1 (by unfold SL; rw [if_pos k18]; exact hw.2))]; exact h6
end XX
end
/-! 32.e.pure -/
section
section PUR
/-! the reading told purely: bytes B, n of them -/
abbrev PS := Int × Int × Int × (Int → Int)
def kA (B : Int → Int) (n i : Int) : Int := if n ≤ i then 0 else if 97 ≤ B i ∧ B i ≤ 122 then 1 else if 48 ≤ B i ∧ B i ≤ 57 then 2 else if B i = 59 then 3 else 4
def skp (B : Int → Int) (n : Int) : Nat → Int → Int
  | 0, p => p
  | f + 1, p => if p < n ∧ (B p = 32 ∨ B p = 10) then skp B n f (p + 1) else p
def tS (B : Int → Int) (n p : Int) : Int := skp B n (n - p).toNat p
def tK (B : Int → Int) (n p : Int) : Int := kA B n (tS B n p)
def rnk (B : Int → Int) (n k : Int) : Nat → Int → Int
  | 0, p => p
  | f + 1, p => if kA B n p = k then rnk B n k f (p + 1) else p
def rnx (B : Int → Int) (n k p : Int) : Int := rnk B n k (n - p).toNat p
def tE (B : Int → Int) (n p : Int) : Int := if tK B n p = 0 then tS B n p else if tK B n p = 1 ∨ tK B n p = 2 then rnx B n (tK B n p) (tS B n p) else tS B n p + 1
def vlN (B : Int → Int) (c s : Int) : Nat → Int
  | 0 => 0
  | k + 1 => min c (10 * vlN B c s k + B (s + (k : Int)) - 48)
def vl (B : Int → Int) (c s e : Int) : Int := vlN B c s (e - s).toNat
def tV (B : Int → Int) (n p : Int) : Int := vl B 1000000 (tS B n p) (tE B n p)
theorem kA_lt {B : Int → Int} {n i : Int} (h : kA B n i ≠ 0) : i < n := by
  unfold kA at h; split at h <;> omega
theorem tS_go {B : Int → Int} {n p : Int} (h : p < n) (h2 : B p = 32 ∨ B p = 10) : tS B n (p + 1) = tS B n p := by
  unfold tS
  rw [show (n - p).toNat = (n - (p + 1)).toNat + 1 by omega]
  conv => rhs; unfold skp
  rw [if_pos ⟨h, h2⟩]
theorem tS_no {B : Int → Int} {n p : Int} (h : ¬ (p < n ∧ (B p = 32 ∨ B p = 10))) : tS B n p = p := by
  unfold tS
  cases (n - p).toNat with
  | zero => rfl
  | succ f => unfold skp; rw [if_neg h]
theorem skp_rng {B : Int → Int} {n : Int} : ∀ (f : Nat) (p : Int), p ≤ skp B n f p ∧ (p ≤ n → skp B n f p ≤ n) := by
  intro f
  induction f with
  | zero => intro p; unfold skp; omega
  | succ f ih =>
    intro p; unfold skp
    by_cases h : p < n ∧ (B p = 32 ∨ B p = 10)
    · rw [if_pos h]; have := ih (p + 1); omega
    · rw [if_neg h]; omega
theorem tS_rng {B : Int → Int} {n p : Int} : p ≤ tS B n p ∧ (p ≤ n → tS B n p ≤ n) := skp_rng _ _
theorem rnx_go {B : Int → Int} {n k p : Int} (hk : k ≠ 0) (h : kA B n p = k) : rnx B n k (p + 1) = rnx B n k p := by
  have : p < n := kA_lt (B := B) (i := p) (by omega)
  unfold rnx
  rw [show (n - p).toNat = (n - (p + 1)).toNat + 1 by omega]
  conv => rhs; unfold rnk
  rw [if_pos h]
theorem rnx_no {B : Int → Int} {n k p : Int} (h : kA B n p ≠ k) : rnx B n k p = p := by
  unfold rnx
  cases (n - p).toNat with
  | zero => rfl
  | succ f => unfold rnk; rw [if_neg h]
theorem rnk_rng {B : Int → Int} {n k : Int} : ∀ (f : Nat) (p : Int), p ≤ rnk B n k f p ∧ (k ≠ 0 → p ≤ n → rnk B n k f p ≤ n) := by
  intro f
  induction f with
  | zero => intro p; unfold rnk; omega
  | succ f ih =>
    intro p; unfold rnk
    by_cases h : kA B n p = k
    · rw [if_pos h]; have := ih (p + 1)
      refine ⟨by omega, fun k0 hp => this.2 k0 ?_⟩
      have := kA_lt (B := B) (n := n) (i := p) (by omega); omega
    · rw [if_neg h]; omega
theorem tE_rng {B : Int → Int} {n p : Int} (h : p ≤ n) : tS B n p ≤ tE B n p ∧ tE B n p ≤ n ∧ (tK B n p ≠ 0 → tS B n p < tE B n p) := by
  have s := (tS_rng (B := B) (n := n) (p := p)).2 h
  unfold tE
  by_cases h0 : tK B n p = 0
  · rw [if_pos h0]; omega
  · rw [if_neg h0]
    have hl : tS B n p < n := kA_lt h0
    by_cases h1 : tK B n p = 1 ∨ tK B n p = 2
    · rw [if_pos h1]
      have g := rnx_go (B := B) (n := n) (k := tK B n p) (p := tS B n p) h0 rfl
      have a := rnk_rng (B := B) (n := n) (k := tK B n p) (n - (tS B n p + 1)).toNat (tS B n p + 1)
      have e : rnx B n (tK B n p) (tS B n p + 1) = rnk B n (tK B n p) (n - (tS B n p + 1)).toNat (tS B n p + 1) := rfl
      rw [← e, g] at a
      refine ⟨by omega, a.2 h0 (by omega), fun _ => by omega⟩
    · rw [if_neg h1]; omega
theorem vl_0 {B : Int → Int} {c s : Int} : vl B c s s = 0 := by
  unfold vl; rw [show (s - s).toNat = 0 by omega]; rfl
theorem vl_go {B : Int → Int} {c s e : Int} (h : s ≤ e) : vl B c s (e + 1) = min c (10 * vl B c s e + B e - 48) := by
  unfold vl
  rw [show (e + 1 - s).toNat = (e - s).toNat + 1 by omega]
  conv => lhs; unfold vlN
  rw [show s + ((e - s).toNat : Int) = e by omega]
theorem vlN_rng {B : Int → Int} {c s : Int} (c0 : 0 ≤ c) : ∀ k : Nat, (∀ j : Nat, j < k → 48 ≤ B (s + (j : Int))) → 0 ≤ vlN B c s k ∧ vlN B c s k ≤ c := by
  intro k
  induction k with
  | zero => intro _; unfold vlN; omega
  | succ k ih => intro h; unfold vlN; have := ih (fun j hj => h j (by omega)); have := h k (by omega); omega
theorem vlN_cap {B : Int → Int} {s : Int} : ∀ k : Nat, (∀ j : Nat, j < k → 48 ≤ B (s + (j : Int))) → vlN B 99999 s k = min 99999 (vlN B 1000000 s k) := by
  intro k
  induction k with
  | zero => intro _; unfold vlN; omega
  | succ k ih =>
    intro h; unfold vlN; have a := ih (fun j hj => h j (by omega)); have b := h k (by omega)
    have c := (vlN_rng (B := B) (c := 1000000) (s := s) (by omega) k (fun j hj => h j (by omega))).1
    omega
theorem rnk_in {B : Int → Int} {n k : Int} : ∀ (f : Nat) (p q : Int), p ≤ q → q < rnk B n k f p → kA B n q = k := by
  intro f
  induction f with
  | zero => intro p q h h2; unfold rnk at h2; omega
  | succ f ih =>
    intro p q h h2; unfold rnk at h2
    by_cases z : kA B n p = k
    · rw [if_pos z] at h2
      by_cases e : q = p
      · rw [e]; exact z
      · exact ih (p + 1) q (by omega) h2
    · rw [if_neg z] at h2; omega
theorem kA_2 {B : Int → Int} {n i : Int} (h : kA B n i = 2) : 48 ≤ B i ∧ B i ≤ 57 := by
  unfold kA at h
  split at h
  · omega
  · split at h
    · omega
    · split at h
      · assumption
      · split at h <;> omega
theorem tE_2 {B : Int → Int} {n p q : Int} (h : tK B n p = 2) (h1 : tS B n p ≤ q) (h2 : q < tE B n p) : 48 ≤ B q ∧ B q ≤ 57 := by
  unfold tE at h2
  rw [if_neg (by omega), if_pos (Or.inr h), h] at h2
  exact kA_2 (rnk_in _ _ _ h1 h2)
theorem tV_rng {B : Int → Int} {n p : Int} (h : tK B n p = 2) : 0 ≤ tV B n p ∧ tV B n p ≤ 1000000 := by
  unfold tV vl
  exact vlN_rng (by omega) _ (fun j hj => (tE_2 h (by omega) (by omega)).1)
theorem tV_cap {B : Int → Int} {n p : Int} (h : tK B n p = 2) : vl B 99999 (tS B n p) (tE B n p) = min 99999 (tV B n p) := by
  unfold tV vl
  exact vlN_cap _ (fun j hj => (tE_2 h (by omega) (by omega)).1)
/-! words -/
def eqW (B : Int → Int) : Int → List Int → Bool
  | _, [] => true
  | s, c :: cs => decide (B s = c) && eqW B (s + 1) cs
def LW : Nat → List Int
  | 0 => [97, 104, 101, 97, 100]
  | 1 => [99, 111, 117, 114, 115, 101]
  | 2 => [100, 111, 111, 114]
  | 3 => [101, 120, 97, 109]
  | 4 => [104, 101, 97, 114, 116]
  | 5 => [104, 111, 117, 115, 101]
  | 6 => [108, 101, 115, 115, 111, 110]
  | 7 => [110, 101, 97, 114, 101, 115, 116]
  | 8 => [111, 112, 101, 110]
  | 9 => [111, 119, 110, 101, 114]
  | 10 => [115, 99, 104, 111, 111, 108]
  | 11 => [115, 104, 111, 114, 116, 101, 115, 116]
  | 12 => [115, 104, 117, 116]
  | 13 => [115, 105, 103, 110, 115]
  | 14 => [115, 108, 105, 112, 115]
  | 15 => [116, 97, 107, 101, 115]
  | 16 => [116, 101, 97, 99, 104, 101, 114, 115]
  | 17 => [116, 119, 105, 110]
  | _ => []
theorem eqW_step {B : Int → Int} : ∀ (w : List Int) (k : Nat) (s : Int), k < w.length → eqW B (s + (k : Int)) (w.drop k) = (decide (B (s + (k : Int)) = w.getD k 0) && eqW B (s + ((k + 1 : Nat) : Int)) (w.drop (k + 1))) := by
  intro w
  induction w with
  | nil => intro k s h; exact absurd h (Nat.not_lt_zero _)
  | cons c cs ih =>
    intro k s h
    cases k with
    | zero => simp [eqW]
    | succ k =>
      have := ih k (s + 1) (by simpa using h)
      simp only [List.drop_succ_cons, List.getD_cons_succ]
      rw [show s + ((k + 1 : Nat) : Int) = s + 1 + (k : Int) by omega, show s + ((k + 1 + 1 : Nat) : Int) = s + 1 + ((k + 1 : Nat) : Int) by omega]
      exact this
def wd (B : Int → Int) (n : Int) (i : Nat) (p : Int) : Bool := decide (tK B n p = 1) && decide (tE B n p - tS B n p = ((LW i).length : Int)) && eqW B (tS B n p) (LW i)
/-! what is done to a state: the fault, its place, the place on the tape, the numbers -/
def uPd (w : Int → Int) (i v : Int) : Int → Int := fun j => if j = i then v else w j
def err (B : Int → Int) (n k : Int) (S : PS) : PS := if S.1 = 0 then (k, tS B n S.2.2.1, S.2.2.1, S.2.2.2) else S
def adv (B : Int → Int) (n : Int) (S : PS) : PS := if S.1 = 0 then (S.1, S.2.1, tE B n S.2.2.1, S.2.2.2) else S
def wst (S : PS) (i v : Int) : PS := (S.1, S.2.1, S.2.2.1, uPd S.2.2.2 i v)
def iW (B : Int → Int) (n : Int) (i : Nat) (S : PS) : Int := if S.1 = 0 ∧ wd B n i S.2.2.1 = true then 1 else 0
def pss (B : Int → Int) (n c : Int) (S : PS) : PS := if c = 1 then adv B n S else err B n 1 S
def nH (B : Int → Int) (n lo hi : Int) (S : PS) : PS := if tK B n S.2.2.1 ≠ 2 then err B n 1 S else if tV B n S.2.2.1 < lo ∨ hi < tV B n S.2.2.1 then err B n 2 S else S
def tN (B : Int → Int) (n lo hi : Int) (S : PS) : PS := adv B n (nH B n lo hi S)
def orI (a b : Int) : Int := if a = 1 ∨ b = 1 then 1 else 0
def tW (B : Int → Int) (n : Int) (S : PS) : PS := pss B n (orI (iW B n 4 S) (orI (iW B n 11 S) (iW B n 7 S))) S
def tP (B : Int → Int) (n m : Int) (S : PS) : PS := if (nH B n 0 15 S).1 = 0 ∧ sbI (tV B n S.2.2.1) m ≠ 1 then err B n 2 S else tN B n 0 15 S
def dD (B : Int → Int) (n : Int) (S : PS) : PS := pss B n (orI (iW B n 8 S) (iW B n 12 S)) S
def wyV (B : Int → Int) (n : Int) (S : PS) : Int := if iW B n 4 S = 1 then 0 else if iW B n 11 S = 1 then 1 else 2
def cpI (w : Int → Int) (a : Int) : Int := if (0 < w 2 ∧ w 13 = a) ∨ (1 < w 2 ∧ w 17 = a) ∨ (2 < w 2 ∧ w 21 = a) ∨ (3 < w 2 ∧ w 25 = a) then 1 else 0
def orP (x a : Int) : Int := ((x.toNat ||| 2 ^ a.toNat : Nat) : Int)
/-! a line, as the class reads it -/
def fFirst (B : Int → Int) (n : Int) (S : PS) : PS :=
  let S2 := pss B n (iW B n 13 (pss B n (iW B n 10 S) S)) (pss B n (iW B n 10 S) S)
  let S3 := wst (tN B n 2 4 S2) 0 (tV B n S2.2.2.1)
  let S4 := pss B n (iW B n 16 S3) S3
  wst (tN B n 1 3 S4) 1 (tV B n S4.2.2.1)
def fSaid (B : Int → Int) (n : Int) (i j : Int) (S : PS) : PS :=
  let S4 := tN B n 0 (pI (S.2.2.2 0) - 1) S
  let S5 := dD B n S4
  if S5.1 = 0 then wst (wst (wst S5 i (tV B n S.2.2.1)) (i + 1) (iW B n 8 S4)) j (S5.2.2.2 j + 1) else S5
def fDoor (B : Int → Int) (n : Int) (S : PS) : PS :=
  if 4 ≤ S.2.2.2 2 then err B n 3 S else
  let S1 := adv B n S
  let S2 := tW B n S1
  let S3 := pss B n (iW B n 14 S2) S2
  let S4 := tN B n 0 50 S3
  let k := 10 + 4 * S.2.2.2 2
  if S4.1 = 0 then wst (wst (wst (wst (wst S4 k (wyV B n S1)) (k + 1) (tV B n S3.2.2.1)) (k + 2) 0) (k + 3) (-1)) 2 (S.2.2.2 2 + 1) else S4
def fLesson (B : Int → Int) (n : Int) (S : PS) : PS :=
  let S1 := adv B n S
  let S2 := nH B n 0 (S.2.2.2 2 - 1) S1
  let d := tV B n S1.2.2.1
  if S2.1 ≠ 0 then S2 else
  if 12 ≤ S.2.2.2 (12 + 4 * d) then err B n 3 S2 else fSaid B n (26 + 24 * d + 2 * S.2.2.2 (12 + 4 * d)) (12 + 4 * d) (adv B n S2)
def fExam (B : Int → Int) (n : Int) (S : PS) : PS :=
  if 12 ≤ S.2.2.2 3 then err B n 3 S else fSaid B n (122 + 2 * S.2.2.2 3) 3 (adv B n S)
def tw1 (B : Int → Int) (n : Int) (S1 : PS) : PS :=
  if (nH B n 0 (S1.2.2.2 2 - 1) S1).1 = 0 ∧ (S1.2.2.2 (13 + 4 * tV B n S1.2.2.1) ≠ -1 ∨ cpI S1.2.2.2 (tV B n S1.2.2.1) = 1) then err B n 2 S1 else nH B n 0 (S1.2.2.2 2 - 1) S1
def tw2 (B : Int → Int) (n a : Int) (S3 : PS) : PS :=
  if (nH B n 0 (S3.2.2.2 2 - 1) S3).1 = 0 ∧ (tV B n S3.2.2.1 = a ∨ S3.2.2.2 (13 + 4 * tV B n S3.2.2.1) ≠ -1) then err B n 2 S3 else nH B n 0 (S3.2.2.2 2 - 1) S3
def fTwin (B : Int → Int) (n : Int) (S : PS) : PS :=
  let S1 := adv B n S
  let S2 := tw1 B n S1
  let a := tV B n S1.2.2.1
  if S2.1 ≠ 0 then S2 else
  let S3 := adv B n S2
  let S4 := tw2 B n a S3
  if S4.1 ≠ 0 then S4 else adv B n (wst S4 (13 + 4 * a) (tV B n S3.2.2.1))
def fRule (B : Int → Int) (n i : Int) (S : PS) : PS :=
  let S2 := tN B n 0 (pI (S.2.2.2 0) - 1) S
  let m := tV B n S.2.2.1
  let S3 := tP B n m S2
  if S3.1 = 0 then wst (wst S3 i m) (i + 1) (tV B n S2.2.2.1) else S3
def fOwner (B : Int → Int) (n : Int) (S : PS) : PS := fRule B n 8 (adv B n S)
def fHouse (B : Int → Int) (n : Int) (S : PS) : PS :=
  if 4 ≤ S.2.2.2 4 then err B n 3 S else
  let S3 := fRule B n (146 + 2 * S.2.2.2 4) (adv B n S)
  if S3.1 = 0 then wst S3 4 (S.2.2.2 4 + 1) else S3
def fCourse (B : Int → Int) (n : Int) (S : PS) : PS :=
  if 6 ≤ S.2.2.2 5 then err B n 3 S else
  let S1 := adv B n S
  let S2 := pss B n (iW B n 15 S1) S1
  let S3 := tN B n 1 9 S2
  if S3.1 = 0 then wst (wst S3 (154 + 2 * S.2.2.2 5) (tV B n S2.2.2.1)) 5 (S.2.2.2 5 + 1) else S3
def fAhead (B : Int → Int) (n : Int) (S : PS) : PS :=
  let S1 := adv B n S
  let S2 := tN B n 0 (S.2.2.2 5 - 1) S1
  let a := tV B n S1.2.2.1
  let S3 := tN B n (a + 1) (S.2.2.2 5 - 1) S2
  let b := tV B n S2.2.2.1
  if S3.1 = 0 then wst S3 (155 + 2 * b) (orP (S.2.2.2 (155 + 2 * b)) a) else S3
def fNext (B : Int → Int) (n : Int) (S : PS) : PS :=
  if iW B n 2 S = 1 then fDoor B n S else
  if iW B n 6 S = 1 then fLesson B n S else
  if iW B n 3 S = 1 then fExam B n S else
  if iW B n 17 S = 1 then fTwin B n S else
  if iW B n 9 S = 1 then fOwner B n S else
  if iW B n 5 S = 1 then fHouse B n S else
  if iW B n 1 S = 1 then fCourse B n S else
  if iW B n 0 S = 1 then fAhead B n S else err B n 1 S
def fLine (B : Int → Int) (n : Int) (S : PS) : PS :=
  let S1 := if S.2.2.2 7 = 0 then fFirst B n S else fNext B n S
  let S2 := pss B n (if tK B n S1.2.2.1 = 3 then 1 else 0) S1
  wst S2 7 (S.2.2.2 7 + 1)
def fRead (B : Int → Int) (n : Int) : Nat → PS → PS
  | 0, S => S
  | f + 1, S => if S.1 = 0 ∧ tK B n S.2.2.1 ≠ 0 then fRead B n f (fLine B n S) else S
def S00 : PS := (0, -1, 0, fun _ => 0)
end PUR
end
