section BTS
/-! bits of small numbers, told by numbers -/
def aN (X Y : Int) : Int := ((X.toNat &&& Y.toNat : Nat) : Int)
def oN (X Y : Int) : Int := ((X.toNat ||| Y.toNat : Nat) : Int)
def xN (X Y : Int) : Int := ((X.toNat ^^^ Y.toNat : Nat) : Int)
def btI (A I : Int) : Int := A / pI I % 2
theorem tn32 {x : Int32} {X : Int} (h : x.toInt = X) (h0 : 0 ≤ X) : x.toBitVec.toNat = X.toNat ∧ X.toNat < 2147483648 := by
  have e : x.toInt = x.toBitVec.toInt := rfl
  have l := x.toBitVec.isLt
  rw [e, BitVec.toInt_eq_toNat_cond] at h
  split at h <;> omega
theorem bv32 {x : Int32} {n : Nat} (h : x.toBitVec.toNat = n) (hn : n < 2147483648) : x.toInt = (n : Int) := by
  have e : x.toInt = x.toBitVec.toInt := rfl
  rw [e, BitVec.toInt_eq_toNat_cond, if_pos (by omega), h]
theorem and_v {z x y : Int32} {X Y : Int} (hz : z = x &&& y) (hX : x.toInt = X) (hY : y.toInt = Y) (h0 : 0 ≤ X) (h2 : 0 ≤ Y) : z.toInt = aN X Y := by
  obtain ⟨a, a'⟩ := tn32 hX h0
  obtain ⟨b, b'⟩ := tn32 hY h2
  have l : X.toNat &&& Y.toNat ≤ X.toNat := Nat.and_le_left
  unfold aN
  refine bv32 ?_ (by omega)
  rw [hz, Int32.toBitVec_and, BitVec.toNat_and, a, b]
theorem aN_le {X Y : Int} (h0 : 0 ≤ X) (h2 : 0 ≤ Y) : 0 ≤ aN X Y ∧ aN X Y ≤ X ∧ aN X Y ≤ Y := by
  have l : X.toNat &&& Y.toNat ≤ X.toNat := Nat.and_le_left
  have r : X.toNat &&& Y.toNat ≤ Y.toNat := Nat.and_le_right
  unfold aN
  omega
theorem or_v {z x y : Int32} {X Y : Int} (hz : z = x ||| y) (hX : x.toInt = X) (hY : y.toInt = Y) (h0 : 0 ≤ X) (h2 : 0 ≤ Y) : z.toInt = oN X Y := by
  obtain ⟨a, a'⟩ := tn32 hX h0
  obtain ⟨b, b'⟩ := tn32 hY h2
  have l : X.toNat ||| Y.toNat < 2 ^ 31 := Nat.or_lt_two_pow (by omega) (by omega)
  unfold oN
  refine bv32 ?_ (by omega)
  rw [hz, Int32.toBitVec_or, BitVec.toNat_or, a, b]
theorem oN_lt {X Y : Int} (k : Nat) (h0 : 0 ≤ X) (h2 : 0 ≤ Y) (hX : X < ((2 ^ k : Nat) : Int)) (hY : Y < ((2 ^ k : Nat) : Int)) : 0 ≤ oN X Y ∧ oN X Y < ((2 ^ k : Nat) : Int) := by
  have l : X.toNat ||| Y.toNat < 2 ^ k := Nat.or_lt_two_pow (by omega) (by omega)
  unfold oN
  omega
/-! shifts -/
theorem shl1_31 : ∀ j : Fin 31, ((Int32.ofInt 1) <<< ((Int32.ofInt (j.val : Int)) &&& 31)).toInt = ((2 ^ j.val : Nat) : Int) := by decide +kernel
theorem shl_v {z y : Int32} {Y : Int} (hz : z = (Int32.ofInt 1) <<< (y &&& 31)) (hY : y.toInt = Y) (h0 : 0 ≤ Y) (h1 : Y ≤ 30) : z.toInt = pI Y := by
  have a : y = Int32.ofInt ((Y.toNat : Nat) : Int) := ofNat_of (by omega)
  have c := shl1_31 ⟨Y.toNat, by omega⟩
  simp only at c
  rw [← a, ← hz] at c
  unfold pI
  exact c
theorem pI_pos (Y : Int) : 1 ≤ pI Y := by
  unfold pI
  have := Nat.two_pow_pos Y.toNat
  omega
theorem pI_mono {X Y : Int} (h : X ≤ Y) : pI X ≤ pI Y := by
  unfold pI
  have := Nat.pow_le_pow_right (show 1 ≤ 2 by decide) (show X.toNat ≤ Y.toNat by omega)
  omega
theorem oN_0 {A : Int} (h0 : 0 ≤ A) : oN A 0 = A := by
  unfold oN
  rw [show (0 : Int).toNat = 0 from rfl, Nat.or_zero]
  omega
end BTS
