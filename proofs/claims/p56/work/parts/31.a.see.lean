section SEE
def seeF (c n a : Int) : Int := if a < n then c % 256 else -1
theorem see_all : ∀ i : Fin 256, ((Int32.ofInt ((i.val : Int) - 128)) &&& ((Int16.ofInt 255).toInt32)).toInt = ((i.val : Int) - 128) % 256 := by decide +kernel
theorem seeF_some {z c : Int32} {n a : Int} (h : a < n ∧ -128 ≤ c.toInt ∧ c.toInt ≤ 127) (hz : z = c &&& ((Int16.ofInt 255).toInt32)) : z.toInt = seeF c.toInt n a := by
  unfold seeF; rw [if_pos h.1, hz]
  have e : c = Int32.ofInt (((c.toInt + 128).toNat : Int) - 128) := by
    rw [show (((c.toInt + 128).toNat : Int) - 128) = c.toInt by omega]; exact (Int32.ofInt_toInt c).symm
  have k := see_all ⟨(c.toInt + 128).toNat, by omega⟩
  simp only at k; rw [← e] at k; rw [k]; omega
end SEE
