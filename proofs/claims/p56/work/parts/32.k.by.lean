section BYT
/-- the bytes of a number, the highest first -/
def b4 (x : Int32) (j : Int) : Int := ((x >>> ((Int32.ofInt (24 - 8 * j)) &&& 31)).toInt8.toInt32).toInt
theorem bu24 (x : Int32) : ((x.toUInt32 >>> (24 : UInt32)).toInt32).toInt8 = (x >>> (24 : Int32)).toInt8 := by
  apply Int8.toBitVec_inj.mp
  apply BitVec.eq_of_getLsbD_eq
  intro i hi
  have h1 : i < 32 := by omega
  have h2 : 24 + i < 32 := by omega
  simp [BitVec.getLsbD_signExtend, BitVec.getElem_sshiftRight, h1, h2]
theorem bu16 (x : Int32) : ((x.toUInt32 >>> (16 : UInt32)).toInt32).toInt8 = (x >>> (16 : Int32)).toInt8 := by
  apply Int8.toBitVec_inj.mp
  apply BitVec.eq_of_getLsbD_eq
  intro i hi
  have h1 : i < 32 := by omega
  have h2 : 16 + i < 32 := by omega
  simp [BitVec.getLsbD_signExtend, BitVec.getElem_sshiftRight, h1, h2]
theorem bu8 (x : Int32) : ((x.toUInt32 >>> (8 : UInt32)).toInt32).toInt8 = (x >>> (8 : Int32)).toInt8 := by
  apply Int8.toBitVec_inj.mp
  apply BitVec.eq_of_getLsbD_eq
  intro i hi
  have h1 : i < 32 := by omega
  have h2 : 8 + i < 32 := by omega
  simp [BitVec.getLsbD_signExtend, BitVec.getElem_sshiftRight, h1, h2]
theorem bu0 (x : Int32) : ((x.toUInt32 >>> (0 : UInt32)).toInt32).toInt8 = (x >>> (0 : Int32)).toInt8 := by
  apply Int8.toBitVec_inj.mp
  apply BitVec.eq_of_getLsbD_eq
  intro i hi
  have h1 : i < 32 := by omega
  simp [BitVec.getLsbD_signExtend, h1]
theorem s32_of {s : Int32} {n : Int} (h : s.toInt = n) : s = Int32.ofInt n := by rw [← h]; exact (Int32.ofInt_toInt s).symm
/-- the class's way, the model's way -/
theorem b4_u {x s z : Int32} {j : Int} (hz : z = ((x.toUInt32 >>> (s.toUInt32 &&& Int32.toUInt32 31)).toInt32).toInt8.toInt32) (hs : s.toInt = 24 - 8 * j) (j0 : 0 ≤ j) (j3 : j ≤ 3) : z.toInt = b4 x j := by
  have e := s32_of hs
  subst hz e
  unfold b4
  rcases (show j = 0 ∨ j = 1 ∨ j = 2 ∨ j = 3 by omega) with h | h | h | h <;> subst h
  · exact congrArg (fun q : Int8 => q.toInt32.toInt) (bu24 x)
  · exact congrArg (fun q : Int8 => q.toInt32.toInt) (bu16 x)
  · exact congrArg (fun q : Int8 => q.toInt32.toInt) (bu8 x)
  · exact congrArg (fun q : Int8 => q.toInt32.toInt) (bu0 x)
theorem b4_s {x s z : Int32} {j : Int} (hz : z = (x >>> (s &&& 31)).toInt8.toInt32) (hs : s.toInt = 24 - 8 * j) : z.toInt = b4 x j := by
  have e := s32_of hs
  subst hz e
  rfl
end BYT
section BYQ
variable {σ0 σ σ' σ1 σ2 σ3 σ4 σ5 : SG}
theorem b4_rng (x : Int32) (j : Int) : -128 ≤ b4 x j ∧ b4 x j ≤ 127 := i2b_rng _
/-- bytes of one number behind the others: y of them, from m on -/
def APB (σ0 σ : SG) (r : Nat) (m y : Int) (x : Int32) : Prop := (∀ j : Int, 0 ≤ j → j < y → ci σ r (m + j) = b4 x j) ∧ ∀ i : Int, 0 ≤ i → (i < m ∨ m + y ≤ i) → ci σ r i = ci σ0 r i
theorem APB_0 {r : Nat} {m y : Int} {x : Int32} (h : y = 0) : APB σ σ r m y x := ⟨fun j j0 j1 => absurd j0 (by omega), fun _ _ _ => rfl⟩
theorem APB_s {r : Nat} {m y y' J : Int} {x z : Int32} (g : APB σ0 σ r m y x) (h1 : (σ' r)[J.toNat]? = some (.int z)) (h2 : ∀ b q, (b ≠ r ∨ q ≠ J.toNat) → (σ' b)[q]? = (σ b)[q]?) (hJ : J = m + y) (m0 : 0 ≤ m) (y0 : 0 ≤ y) (hz : z.toInt = b4 x y) (e : y' = y + 1) : APB σ0 σ' r m y' x := by
  refine ⟨fun j j0 j1 => ?_, fun i i0 h => ?_⟩
  · rw [ci_st h1 h2 (by omega) (m + j) (by omega)]
    by_cases q : m + j = J
    · rw [if_pos q, hz]; exact congrArg (b4 x) (by omega)
    · rw [if_neg q]; exact g.1 j j0 (by omega)
  · rw [ci_st h1 h2 (by omega) i i0, if_neg (by omega)]
    exact g.2 i i0 (by omega)
theorem APB_ne {r b n : Nat} {m y : Int} {x : Int32} (g : APB σ0 σ r m y x) (h2 : ∀ b' q, (b' ≠ b ∨ q ≠ n) → (σ' b')[q]? = (σ b')[q]?) (hb : r ≠ b) : APB σ0 σ' r m y x := ⟨fun j j0 j1 => by rw [ci_ne h2 hb]; exact g.1 j j0 j1, fun i i0 h => by rw [ci_ne h2 hb]; exact g.2 i i0 h⟩
theorem APB_c {r : Nat} {m y y' : Int} {x : Int32} (g : APB σ0 σ r m y x) (e : y' = y) : APB σ0 σ r m y' x := by subst e; exact g
/-- one of five -/
def sel5 (a b c d e : Int32) (k : Int) : Int32 := if k = 0 then a else if k = 1 then b else if k = 2 then c else if k = 3 then d else e
def FDP (σ0 σ : SG) (r : Nat) (m y : Int) (a b c d e : Int32) : Prop := (∀ i : Int, 0 ≤ i → i < y → ci σ r (m + i) = b4 (sel5 a b c d e (i / 4)) (i % 4)) ∧ ∀ i : Int, 0 ≤ i → i < m → ci σ r i = ci σ0 r i
theorem FDP_0 {r : Nat} {m y : Int} {a b c d e : Int32} (h : y = 0) (hs : ∀ i : Int, ci σ r i = ci σ0 r i) : FDP σ0 σ r m y a b c d e := ⟨fun j j0 j1 => absurd j0 (by omega), fun i _ _ => hs i⟩
theorem FDP_s {r : Nat} {m y y' J q4 r4 : Int} {a b c d e z x : Int32} (g : FDP σ0 σ r m y a b c d e) (h1 : (σ' r)[J.toNat]? = some (.int z)) (h2 : ∀ b q, (b ≠ r ∨ q ≠ J.toNat) → (σ' b)[q]? = (σ b)[q]?) (hJ : J = m + y) (m0 : 0 ≤ m) (y0 : 0 ≤ y) (hx : x = sel5 a b c d e q4) (hz : z.toInt = b4 x r4) (hq : q4 = y / 4) (hr : r4 = y % 4) (e' : y' = y + 1) : FDP σ0 σ' r m y' a b c d e := by
  subst hx hq hr
  refine ⟨fun j j0 j1 => ?_, fun i i0 h => ?_⟩
  · rw [ci_st h1 h2 (by omega) (m + j) (by omega)]
    by_cases q : m + j = J
    · rw [if_pos q, hz, show j = y by omega]
    · rw [if_neg q]; exact g.1 j j0 (by omega)
  · rw [ci_st h1 h2 (by omega) i i0, if_neg (by omega)]
    exact g.2 i i0 h
theorem FDP_5 {r : Nat} {m : Int} {a b c d e : Int32} (m0 : 0 ≤ m) (g1 : APB σ0 σ1 r m 4 a) (g2 : APB σ1 σ2 r (m + 4) 4 b) (g3 : APB σ2 σ3 r (m + 8) 4 c) (g4 : APB σ3 σ4 r (m + 12) 4 d) (g5 : APB σ4 σ5 r (m + 16) 4 e) : FDP σ0 σ5 r m 20 a b c d e := by
  refine ⟨fun i i0 i1 => ?_, fun i i0 h => ?_⟩
  · unfold sel5
    rcases (show i / 4 = 0 ∨ i / 4 = 1 ∨ i / 4 = 2 ∨ i / 4 = 3 ∨ i / 4 = 4 by omega) with q | q | q | q | q
    · rw [if_pos q, g5.2 _ (by omega) (by omega), g4.2 _ (by omega) (by omega), g3.2 _ (by omega) (by omega), g2.2 _ (by omega) (by omega), ← g1.1 (i % 4) (by omega) (by omega)]; congr 1; omega
    · rw [if_neg (by omega), if_pos q, g5.2 _ (by omega) (by omega), g4.2 _ (by omega) (by omega), g3.2 _ (by omega) (by omega), ← g2.1 (i % 4) (by omega) (by omega)]; congr 1; omega
    · rw [if_neg (by omega), if_neg (by omega), if_pos q, g5.2 _ (by omega) (by omega), g4.2 _ (by omega) (by omega), ← g3.1 (i % 4) (by omega) (by omega)]; congr 1; omega
    · rw [if_neg (by omega), if_neg (by omega), if_neg (by omega), if_pos q, g5.2 _ (by omega) (by omega), ← g4.1 (i % 4) (by omega) (by omega)]; congr 1; omega
    · rw [if_neg (by omega), if_neg (by omega), if_neg (by omega), if_neg (by omega), ← g5.1 (i % 4) (by omega) (by omega)]; congr 1; omega
  · rw [g5.2 i i0 (by omega), g4.2 i i0 (by omega), g3.2 i i0 (by omega), g2.2 i i0 (by omega), g1.2 i i0 (by omega)]
theorem FV_sel {r : Nat} {a b c d e z : Int32} {q : Int} (h0 : (σ r)[((0 : Int)).toNat]? = some (.int a)) (h1 : (σ r)[((1 : Int)).toNat]? = some (.int b)) (h2 : (σ r)[((2 : Int)).toNat]? = some (.int c)) (h3 : (σ r)[((3 : Int)).toNat]? = some (.int d)) (h4 : (σ r)[((4 : Int)).toNat]? = some (.int e)) (hz : (σ r)[q.toNat]? = some (.int z)) (q0 : 0 ≤ q) (q4 : q ≤ 4) : z = sel5 a b c d e q := by
  have k : ∀ {o : Option Value} {x y : Int32}, o = some (.int x) → o = some (.int y) → x = y := fun p1 p2 => by rw [p1] at p2; injection p2 with p3; injection p3
  unfold sel5
  rcases (show q = 0 ∨ q = 1 ∨ q = 2 ∨ q = 3 ∨ q = 4 by omega) with w | w | w | w | w <;> subst w
  · exact k hz h0
  · exact k hz h1
  · exact k hz h2
  · exact k hz h3
  · exact k hz h4
/-- both tapes hold the same bytes -/
def TAPb (σ : SG) (t : Int) : Prop := ∀ i : Int, 0 ≤ i → i < t → ci σ 2 i = ci σ 163 i
theorem APB_d {r : Nat} {m y m' y' : Int} {x : Int32} (g : APB σ0 σ r m y x) (hm : m' = m) (hy : y' = y) : APB σ0 σ r m' y' x := by subst hm hy; exact g
theorem FDP_c {r : Nat} {m y y' : Int} {a b c d e : Int32} (g : FDP σ0 σ r m y a b c d e) (h : y' = y) : FDP σ0 σ r m y' a b c d e := by subst h; exact g
theorem FDP_ne {r q n : Nat} {m y : Int} {a b c d e : Int32} (g : FDP σ0 σ r m y a b c d e) (h2 : ∀ b' q', (b' ≠ q ∨ q' ≠ n) → (σ' b')[q']? = (σ b')[q']?) (hb : r ≠ q) : FDP σ0 σ' r m y a b c d e := ⟨fun i i0 i1 => by rw [ci_ne h2 hb]; exact g.1 i i0 i1, fun i i0 h => by rw [ci_ne h2 hb]; exact g.2 i i0 h⟩
end BYQ
