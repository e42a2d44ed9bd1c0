section LRNB
variable {k o D : Int → Int}
theorem LBT_rg {way n : Int} : ∀ x : Nat, x ≤ 16 → 0 ≤ LBT way k o n x ∧ LBT way k o n x < 65536 := by
  intro x
  induction x with
  | zero => intro _; exact ⟨Int.le_refl 0, by show (0 : Int) < 65536; omega⟩
  | succ x ih =>
    intro h
    have z := ih (by omega)
    have p := pI16 (x := (x : Int)) (by omega)
    show 0 ≤ (if BYL way k n (x : Int) ≠ -1 ∧ o (BYL way k n (x : Int)) = 1 then oN (LBT way k o n x) (pI (x : Int)) else LBT way k o n x) ∧ (if BYL way k n (x : Int) ≠ -1 ∧ o (BYL way k n (x : Int)) = 1 then oN (LBT way k o n x) (pI (x : Int)) else LBT way k o n x) < 65536
    split
    · exact or16 z.1 z.2 (by omega) p.2
    · exact z
theorem LRN_rg {way K z n : Int} (hK : K ≤ 16) (hD : ∀ i : Int, 0 ≤ D i ∧ D i < 65536) : 0 ≤ LRN way K z n k o D ∧ LRN way K z n k o D < 65536 := by
  unfold LRN
  split
  · split
    · omega
    · exact hD _
  · exact LBT_rg _ (by omega)
theorem WDw_rg {w : Int → Int} {d way : Int} (h : 0 ≤ w 0 ∧ w 0 ≤ 4) : 0 ≤ WDw w d way ∧ WDw w d way < 65536 := LRN_rg (pI_rng h.1 h.2).2 (fun i => ruD_rg (pI_rng h.1 h.2).2)
theorem DDw_rg {w : Int → Int} {d : Int} (h0 : 0 ≤ w 0) (h4 : w 0 ≤ 4) : 0 ≤ DDw w d ∧ DDw w d < 65536 := WDw_rg ⟨h0, h4⟩
end LRNB
