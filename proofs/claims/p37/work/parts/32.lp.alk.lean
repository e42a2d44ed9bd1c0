/-! who does alike; houses -/
section ALK
variable {w w' : Int → Int}
theorem AAS_z {P : Int → Prop} {x q X i I : Int} (i0 : 0 ≤ i) (h : x = AAS P i.toNat) (e : ¬ P i) (hq : q = 0) (x0 : 0 ≤ x) (hX : X = oN x q) (hI : I = i + 1) : X = AAS P I.toNat := by
  subst hq
  rw [oN_0 x0] at hX
  exact AAS_n i0 h e hX hI
def alP (w : Int → Int) (d o : Int) : Prop := o ≠ d ∧ DDw w o = DDw w d
theorem alP_y {d o x y : Int} (h : o ≠ d) (hx : x = DDw w o) (hy : y = DDw w d) (e : x = y) : alP w d o := ⟨h, by rw [← hx, ← hy]; exact e⟩
theorem alP_n {d o x y : Int} (hx : x = DDw w o) (hy : y = DDw w d) (e : x ≠ y) : ¬ alP w d o := fun q => e (by rw [hx, hy]; exact q.2)
theorem alP_s {d o : Int} (h : o = d) : ¬ alP w d o := fun q => q.1 h
noncomputable def akR (w : Int → Int) (d : Int) : Int := iR (0 ≤ d ∧ d < w 2) (AAS (alP w d) (w 2).toNat)
theorem akR_y {d r i : Int} (h : 0 ≤ d ∧ d < w 2) (hi : (w 2).toNat = i.toNat) (e : r = AAS (alP w d) i.toNat) : r = akR w d := by rw [← hi] at e; exact iR_y h e
theorem akR_n {d r : Int} (h : ¬ (0 ≤ d ∧ d < w 2)) (e : r = -2) : r = akR w d := iR_n h e
theorem akR_cg {d d' : Int} (h : w' = w) (a : d' = d) : akR w' d' = akR w d := by subst h a; rfl
/-- of a house, or the owner -/
def hsM (w : Int → Int) (h : Int) : Int := if h = -1 then w 8 else w (146 + 2 * h)
def hsV (w : Int → Int) (h : Int) : Int := if h = -1 then w 9 else w (146 + 2 * h + 1)
theorem hsM_o {h : Int} (e : h = -1) : hsM w h = w 8 := if_pos e
theorem hsV_o {h : Int} (e : h = -1) : hsV w h = w 9 := if_pos e
theorem hsM_h {h : Int} (e : h ≠ -1) : hsM w h = w (146 + 2 * h) := if_neg e
theorem hsV_h {h : Int} (e : h ≠ -1) : hsV w h = w (146 + 2 * h + 1) := if_neg e
abbrev hsC (w : Int → Int) (h q : Int) : Prop := 0 < w 7 ∧ (h = -1 ∨ (0 ≤ h ∧ h < w 4)) ∧ 0 ≤ q ∧ q ≤ 2
noncomputable def hsR (w : Int → Int) (h q : Int) : Int := iR (hsC w h q) (if q = 0 then hsM w h else if q = 1 then hsV w h else pcI (DOf (hsM w h) (hsV w h) (pI (w 0)).toNat))
theorem hsR_0 {h q r : Int} (c : hsC w h q) (hq : q = 0) (e : r = hsM w h) : r = hsR w h q := iR_y c (by rw [if_pos hq]; exact e)
theorem hsR_1 {h q r : Int} (c : hsC w h q) (hq : q = 1) (e : r = hsV w h) : r = hsR w h q := iR_y c (by rw [if_neg (by omega), if_pos hq]; exact e)
theorem hsR_2 {h q r m v x K : Int} (c : hsC w h q) (hq : q = 2) (hm : m = hsM w h) (hv : v = hsV w h) (hK : K = pI (w 0)) (hx : x = DOf m v K.toNat) (e : r = pcI x) : r = hsR w h q := by
  subst hm hv hK hx
  exact iR_y c (by rw [if_neg (by omega), if_neg (by omega)]; exact e)
theorem hsR_n {h q r : Int} (c : ¬ hsC w h q) (e : r = -2) : r = hsR w h q := iR_n c e
theorem hsR_cg {h h' q q' : Int} (e : w' = w) (a : h' = h) (b : q' = q) : hsR w' h' q' = hsR w h q := by subst e a b; rfl
end ALK
