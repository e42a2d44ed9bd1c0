section TIMD
/-! the order, course by course -/
def OVERs (σ : SG) (fm q T : Int) (r : Nat) : Prop := OVER (tkN σ) (ahN σ) (fxN σ) (ci σ 160 5).toNat T.toNat fm.toNat q.toNat r
def LEASTs (σ : SG) (fm T : Int) (r : Nat) : Prop := LEAST (tkN σ) (ahN σ) (fxN σ) (ci σ 160 5).toNat T.toNat fm.toNat r
theorem OVERs_eq {σ σ' : SG} {fm q T : Int} {r : Nat} (hw : SWd σ σ') (hx : SXd σ σ') (h : OVERs σ' fm q T r) : OVERs σ fm q T r := by
  unfold OVERs at h ⊢
  rw [SWd_tk hw, SWd_ah hw, SXd_fx hx, hw] at h; exact h
theorem LEASTs_eq {σ σ' : SG} {fm T : Int} {r : Nat} (hw : SWd σ σ') (hx : SXd σ σ') (h : LEASTs σ' fm T r) : LEASTs σ fm T r := by
  unfold LEASTs at h ⊢
  rw [SWd_tk hw, SWd_ah hw, SXd_fx hx, hw] at h; exact h
def MAIN (σ0 σ : SG) (fm q T th la lf rs n : Int) : Prop := ∃ bz bg : Nat → Nat, BZ σ bz ∧ BG σ bg th.toNat ∧ Okb (tkN σ0) bz bg th.toNat la.toNat ∧ (∀ x, bz x + n.toNat ≤ 6) ∧
  (0 ≤ th ∧ th ≤ 63 ∧ 0 ≤ rs ∧ rs ≤ 63 ∧ 0 ≤ lf ∧ 0 ≤ la ∧ la + 9 * n ≤ 108 ∧ 0 ≤ n ∧ 0 ≤ fm ∧ fm + n ≤ 6) ∧ (bl rs.toNat).length = n.toNat ∧ (∀ c, c < 6 → rs.toNat.testBit c = true → fm.toNat ≤ c) ∧
  ∀ r, Run (tkN σ0) (ahN σ0) T.toNat (dec n.toNat lf.toNat (bl rs.toNat)) bz bg th.toNat la.toNat r → OVERs σ0 fm q T r
theorem MAIN_lin {σ0 σ : SG} {fm q T th la lf rs n : Int} (H : MAIN σ0 σ fm q T th la lf rs n) : 0 ≤ th ∧ th ≤ 63 ∧ 0 ≤ rs ∧ rs ≤ 63 ∧ 0 ≤ lf ∧ 0 ≤ la ∧ la + 9 * n ≤ 108 ∧ 0 ≤ n ∧ 0 ≤ fm ∧ fm + n ≤ 6 := by
  obtain ⟨bz, bg, h1, h2, h3, h4, h5, h6⟩ := H
  exact h5
theorem MAIN_HB {σ0 σ : SG} {fm q T th la lf rs n : Int} (H : MAIN σ0 σ fm q T th la lf rs n) : HB σ := by
  obtain ⟨bz, bg, h1, h2, h3, h4, h5, h6⟩ := H
  intro x hx
  have := h4 x
  rw [h1 x hx]; omega
theorem MAIN_0 {σ0 σ : SG} {fm q T th la lf n c : Int} {z nn t : Int32} (hσ0 : WT σ0) (H : PREF σ0 σ fm c th la) (hc : c = fm) (hz : z = (((Int32.ofInt 1) <<< (nn &&& 31)) - (Int32.ofInt 1)) &&& (t ^^^ (Int32.ofInt (-1)))) (ht : t.toInt = th) (hN : nn.toInt = ci σ0 160 5) (hf : fm ≤ ci σ0 160 5) (hlf : lf = q) (hq : 0 ≤ q) (hn : n = ci σ0 160 5 - fm) : MAIN σ0 σ fm q T th la lf z.toInt n := by
  have hl := PREF_lin hσ0 H
  obtain ⟨⟨h0, h1, h2, h3, h4⟩, h5, h6⟩ := H
  have n6' := n6 hσ0
  subst hc
  have hs := st_small (N := ci σ0 160 5) (f := c.toNat) hz hN (by rw [ht]; exact h5) (by omega) (by omega)
  have hb := bl_st ⟨(ci σ0 160 5).toNat, by omega⟩ ⟨c.toNat, by omega⟩ (by simp only; omega)
  simp only at hb
  have hrs : z.toInt.toNat = 2 ^ (ci σ0 160 5).toNat - 2 ^ c.toNat := by rw [hs, Int.toNat_natCast]
  have hth : th.toNat = thP c.toNat := by rw [h5, Int.toNat_natCast]
  have hla : la.toNat = laP (tkN σ0) (fxN σ0) c.toNat := by rw [h6, Int.toNat_natCast]
  have hlen : (bl z.toInt.toNat).length = n.toNat := by rw [hrs, hb.1, List.length_range']; omega
  have hok := OkbP (tkN σ0) (fxN σ0) c.toNat
  refine ⟨_, _, h3, by rw [hth]; exact h4, by rw [hth, hla]; exact hok, fun x => ?_, ⟨hl.2.2.2.1, hl.2.2.2.2.1, by omega, by omega, by omega, hl.2.2.2.2.2.1, ?_, by omega, h0, by omega⟩, hlen, fun k hk hb2 => ?_, fun r hr => ?_⟩
  · have := bzP_le (tkN σ0) (fxN σ0) x c.toNat
    omega
  · have := hl.2.2.2.2.2.2; omega
  · rw [hrs] at hb2
    have hm : k ∈ bl (2 ^ (ci σ0 160 5).toNat - 2 ^ c.toNat) := List.mem_filter.mpr ⟨List.mem_range.mpr hk, hb2⟩
    rw [hb.1] at hm
    exact (List.mem_range'_1.mp hm).1
  · unfold OVERs OVER
    rw [hrs, hb.1, hth, hla, hlf, show n.toNat = (ci σ0 160 5).toNat - c.toNat by omega] at hr
    exact hr
theorem MAIN_end {σ0 σ : SG} {fm q T th la lf rs n : Int} {r : Nat} (H : MAIN σ0 σ fm q T th la lf rs n) (hn : n ≤ 0) (hr : r = la.toNat) : OVERs σ0 fm q T r := by
  obtain ⟨bz, bg, h1, h2, h3, h4, h5, h6, h7, h8⟩ := H
  refine h8 r ?_
  rw [show n.toNat = 0 by omega]
  unfold dec Run; exact hr
/-! which course comes next -/
def SELs (rs k c k0 fm n : Int) : Prop := 0 ≤ k ∧ 0 ≤ fm ∧ fm ≤ c ∧ c ≤ 5 ∧ k + (cnt rs.toNat c.toNat : Int) = k0 ∧ k0 < n ∧ (bl rs.toNat).length = n.toNat ∧ 0 ≤ rs ∧ rs ≤ 63
theorem SEL_eq {rs k c c' k0 fm n : Int} (H : SELs rs k c k0 fm n) (e : c' = c) : SELs rs k c' k0 fm n := by subst e; exact H
theorem SEL_lin {rs k c k0 fm n : Int} (H : SELs rs k c k0 fm n) : 0 ≤ k ∧ 0 ≤ c ∧ c ≤ 5 ∧ fm ≤ c := ⟨H.1, by have := H.2.1; have := H.2.2.1; omega, H.2.2.2.1, H.2.2.1⟩
theorem SEL_0 {σ0 σ : SG} {fm q T th la lf rs n k c k0 : Int} (H : MAIN σ0 σ fm q T th la lf rs n) (hk : k = k0) (hc : c = fm) (h0 : 0 ≤ k0) (hn : k0 < n) : SELs rs k c k0 fm n := by
  obtain ⟨bz, bg, h1, h2, h3, h4, h5, h6, h7, h8⟩ := H
  have := bl_len (m := rs.toNat) (by omega) fm.toNat _ rfl h7
  subst hc
  exact ⟨by omega, by omega, by omega, by omega, by omega, hn, h6, by omega, by omega⟩
theorem SEL_s {rs k c k0 fm n k' c' r r2 : Int} (H : SELs rs k c k0 fm n) (E : r = bI rs c) (E2 : r2 = bI rs c) (hc : r = 0 ∨ 0 < k) (hk : k' = k - r2) (e : c' = c + 1) : SELs rs k' c' k0 fm n := by
  obtain ⟨h1, h2, h3, h4, h5, h6, h7, h8, h9⟩ := H
  have hs := cnt_s rs.toNat c.toNat
  rw [show c.toNat + 1 = c'.toNat by omega] at hs
  have hr := bI_rng rs c
  have he : (cnt rs.toNat c'.toNat : Int) = cnt rs.toNat c.toNat + r := by
    rw [hs, E]; unfold bI; split <;> simp
  have h6' := bl_6 ⟨rs.toNat, by omega⟩
  simp only at h6'
  have hc5 : c' ≤ 5 := by
    rcases Int.lt_or_le 5 c' with z | z
    · rw [show c'.toNat = 6 by omega, h6'] at he
      omega
    · exact z
  exact ⟨by omega, h2, by omega, hc5, by omega, h6, h7, h8, h9⟩
/-! the wait for a free teacher -/
def WAITs (σ : SG) (c T f fr la : Int) : Prop := 0 ≤ f ∧ f ≤ fr ∧ fr ≤ la ∧ ∀ u : Nat, f.toNat ≤ u → u < fr.toNat → ¬ FRr σ c T u
theorem WAIT_eq {σ : SG} {c T f fr fr' la : Int} (H : WAITs σ c T f fr la) (e : fr' = fr) : WAITs σ c T f fr' la := by subst e; exact H
theorem WAIT_lin {σ : SG} {c T f fr la : Int} (H : WAITs σ c T f fr la) : 0 ≤ f ∧ f ≤ fr ∧ fr ≤ la := ⟨H.1, H.2.1, H.2.2.1⟩
theorem bg_of {σ : SG} {bg : Nat → Nat} {th a : Nat} (h : BG σ bg th) (ha : a < 6) (hb : th.testBit a = true) : bgN σ a = bg a := by
  unfold bgN; rw [h a ha hb, Int.toNat_natCast]
theorem AFT_of {σ0 σ : SG} {bg : Nat → Nat} {th c f : Int} (hw : SWd σ0 σ) (h : BG σ bg th.toNat) (c0 : 0 ≤ c) (c5 : c ≤ 5) (A : AFTs σ c th f) (hf : f ≠ -1) : 0 ≤ f ∧ Rdy (ahN σ0) th.toNat c.toNat ∧ Aft (tkN σ0) (ahN σ0) bg c.toNat f.toNat := by
  rcases A with ⟨z, _⟩ | ⟨a1, a2, a3⟩
  · exact absurd z hf
  · rw [SWd_ah hw] at a2
    rw [SWd_ah hw, SWd_tk hw] at a3
    refine ⟨a1, a2, fun a ha hb => ?_, ?_⟩
    · rw [← bg_of h (by omega) (a2 a ha hb)]; exact a3.1 a ha hb
    · rcases a3.2 with z | ⟨a, z1, z2, z3⟩
      · exact Or.inl z
      · exact Or.inr ⟨a, z1, z2, by rw [← bg_of h (by omega) (a2 a z1 z2)]; exact z3⟩
theorem WAIT_0 {σ0 σ : SG} {fm q T th la lf rs n c f fr : Int} (hw : SWd σ0 σ) (H : MAIN σ0 σ fm q T th la lf rs n) (c0 : 0 ≤ c) (c5 : c ≤ 5) (A : AFTs σ c th f) (hf : f ≠ -1) (e : fr = f) : WAITs σ c T f fr la := by
  obtain ⟨bz, bg, h1, h2, h3, h4, h5, h6, h7, h8⟩ := H
  obtain ⟨a1, a2, a3⟩ := AFT_of hw h2 c0 c5 A hf
  have := Aft_le h3 a2 a3
  exact ⟨a1, by omega, by omega, fun u hu hv => absurd hv (by omega)⟩
theorem FR_fr {σ0 σ : SG} {bz : Nat → Nat} {c T : Int} {u : Nat} (hw : SWd σ0 σ) (hσ : WT σ0) (h : BZ σ bz) (hT : 0 ≤ T) (hu : u ≤ 110) : FRr σ c T u ↔ frees bz T.toNat (tkN σ0 c.toNat) u := by
  have t9 := tk9 hσ c.toNat
  unfold FRr frees
  rw [SWd_tk hw]
  constructor
  · intro H x h1 h2
    have := H x h1 h2
    rw [h x (by omega)] at this; omega
  · intro H x h1 h2
    have := H x h1 h2
    rw [h x (by omega)]; omega
theorem WAIT_s {σ0 σ : SG} {fm q T th la lf rs n c f fr fr' r : Int} (hσ0 : WT σ0) (hw : SWd σ0 σ) (H : MAIN σ0 σ fm q T th la lf rs n) (hn : 1 ≤ n) (hT : 1 ≤ T) (W : WAITs σ c T f fr la) (E : FREEs σ fr c T r) (hr : r = 0) (e : fr' = fr + 1) : WAITs σ c T f fr' la := by
  obtain ⟨bz, bg, h1, h2, h3, h4, h5, h6, h7, h8⟩ := H
  obtain ⟨w1, w2, w3, w4⟩ := W
  rcases E with ⟨z, _⟩ | ⟨_, E⟩
  · omega
  · refine ⟨w1, by omega, ?_, fun u hu hv => ?_⟩
    · rcases Int.lt_or_le fr la with z | z
      · omega
      · refine absurd ((FR_fr hw hσ0 h1 (by omega) (by omega)).mpr ?_) E
        exact free_la h3 (by omega) (by omega)
    · by_cases z : u < fr.toNat
      · exact w4 u hu z
      · rw [show u = fr.toNat by omega]; exact E
theorem dec_sel {rs k c k0 fm n lf : Int} (H : SELs rs k c k0 fm n) (hk : k ≤ 0) (hb : rs.toNat.testBit c.toNat = true) (hl : 0 ≤ lf) (hm : k0 = lf % n) : dec n.toNat lf.toNat (bl rs.toNat) = c.toNat :: dec (n - 1).toNat (lf / n).toNat (bl (rs.toNat - 2 ^ c.toNat)) ∧ (bl (rs.toNat - 2 ^ c.toNat)).length = (n - 1).toNat ∧ 0 ≤ lf / n := by
  obtain ⟨h1, h2, h3, h4, h5, h6, h7, h8, h9⟩ := H
  have ha := bl_all ⟨rs.toNat, by omega⟩ ⟨c.toNat, by omega⟩ hb
  simp only at ha
  have hn0 : n.toNat = (n - 1).toNat + 1 := by omega
  have d0 : 0 ≤ lf / n := Int.ediv_nonneg hl (by omega)
  have em : lf.toNat % ((n - 1).toNat + 1) = cnt rs.toNat c.toNat := by
    have : ((lf.toNat % n.toNat : Nat) : Int) = lf % n := by rw [Int.natCast_emod]; rw [show ((lf.toNat : Nat) : Int) = lf by omega, show ((n.toNat : Nat) : Int) = n by omega]
    rw [← hn0]; omega
  have ed : lf.toNat / ((n - 1).toNat + 1) = (lf / n).toNat := by
    have : ((lf.toNat / n.toNat : Nat) : Int) = lf / n := by rw [Int.natCast_ediv]; rw [show ((lf.toNat : Nat) : Int) = lf by omega, show ((n.toNat : Nat) : Int) = n by omega]
    rw [← hn0]; omega
  refine ⟨?_, ?_, Int.ediv_nonneg hl (by omega)⟩
  · rw [hn0, dec_at (c := c.toNat) (by rw [em]; exact ha.1), em, ed, ha.2]
  · rw [← ha.2, List.length_eraseIdx_of_lt (List.getElem?_eq_some_iff.mp ha.1).1]; omega
theorem MAIN_far {σ0 σ : SG} {fm q T th la lf rs n k c k0 f r1 : Int} {r : Nat} (hw : SWd σ0 σ) (H : MAIN σ0 σ fm q T th la lf rs n) (hn : 1 ≤ n) (S : SELs rs k c k0 fm n) (hk : k ≤ 0) (E : r1 = bI rs c) (hr1 : r1 ≠ 0) (hm : k0 = lf % n) (A : AFTs σ c th f) (hf : f = -1) (hr : r = 1000000) : OVERs σ0 fm q T r := by
  have hb := bI_t E hr1
  obtain ⟨bz, bg, h1, h2, h3, h4, h5, h6, h7, h8⟩ := H
  obtain ⟨d1, d2, d3⟩ := dec_sel S hk hb (by omega) hm
  refine h8 r ?_
  rw [d1]
  unfold Run
  rcases A with ⟨_, A⟩ | ⟨z, _⟩
  · rw [SWd_ah hw] at A
    exact Or.inl ⟨A, hr⟩
  · omega
theorem MAIN_s {σ0 σ σ' : SG} {fm q T th la lf rs n k c k0 f fr r1 r2 lf' rs' th' la' n' ov : Int} (hσ0 : WT σ0) (hw : SWd σ0 σ) (hw' : SWd σ0 σ') (H : MAIN σ0 σ fm q T th la lf rs n) (hn : 1 ≤ n) (hT : 1 ≤ T) (S : SELs rs k c k0 fm n) (hk : k ≤ 0) (E : r1 = bI rs c) (hr1 : r1 ≠ 0) (hm : k0 = lf % n) (hlf : lf' = lf / n) (A : AFTs σ c th f) (hf : f ≠ -1) (W : WAITs σ c T f fr la) (E2 : FREEs σ fr c T r2) (hr2 : r2 ≠ 0)
    (P : PUTL σ σ' c fr (fr + (tkN σ c.toNat : Int))) (er : rs.toNat.testBit c.toNat = true → rs' = ((rs.toNat - 2 ^ c.toNat : Nat) : Int)) (et : th' = ((th.toNat ||| 2 ^ c.toNat : Nat) : Int) ∧ 0 ≤ th' ∧ th' ≤ 63) (eo : ov = ci σ' 173 c + ci σ' 160 (154 + 2 * c)) (m1 : la ≤ la') (m2 : ov ≤ la') (m3 : la' = la ∨ la' = ov) (en : n' = n - 1) : MAIN σ0 σ' fm q T th' la' lf' rs' n' := by
  have hb := bI_t E hr1
  have er := er hb
  have sl := SEL_lin S
  have ml := MAIN_lin H
  have sm := Nat.sub_le rs.toNat (2 ^ c.toNat)
  have e0 : 0 ≤ rs' ∧ rs' ≤ 63 := by
    rw [er]; generalize rs.toNat - 2 ^ c.toNat = m at sm ⊢; omega
  have wl := WAIT_lin W
  have t9 := tk9 hσ0 c.toNat
  have tc := tk_ci hσ0 (a := c) (by omega) (by omega)
  obtain ⟨bz, bg, h1, h2, h3, h4, h5, h6, h7, h8⟩ := H
  obtain ⟨d1, d2, d3⟩ := dec_sel S hk hb (by omega) hm
  obtain ⟨a1, a2, a3⟩ := AFT_of hw h2 (by omega) (by omega) A hf
  have hfr : FRr σ c T fr.toNat := by
    rcases E2 with ⟨_, z⟩ | ⟨z, _⟩
    · exact z
    · omega
  rw [SWd_tk hw] at P
  rw [P.2.1, hw'] at eo
  have hF : First bz T.toNat (tkN σ0 c.toNat) f.toNat fr.toNat := ⟨by omega, (FR_fr hw hσ0 h1 (by omega) (by omega)).mp hfr, fun u hu hv z => W.2.2.2 u hu hv ((FR_fr hw hσ0 h1 (by omega) (by omega)).mpr z)⟩
  have ela : la'.toNat = max la.toNat (fr.toNat + tkN σ0 c.toNat) := by omega
  have eth : th'.toNat = th.toNat ||| 2 ^ c.toNat := by rw [et.1, Int.toNat_natCast]
  have ers : rs'.toNat = rs.toNat - 2 ^ c.toNat := by rw [er, Int.toNat_natCast]
  refine ⟨_, _, BZ_put h1 P (by omega), by rw [eth]; exact BG_put h2 P (by omega) (by omega), by rw [eth, ela]; exact Okb_put h3, fun x => ?_, ⟨et.2.1, et.2.2, by omega, by omega, by rw [hlf]; exact d3, by omega, by omega, by omega, by omega, by omega⟩, by rw [ers, d2, en], fun j hj hjb => ?_, fun r hr => h8 r ?_⟩
  · have := h4 x
    unfold addB
    split <;> omega
  · rw [ers] at hjb
    have := bl_sub ⟨rs.toNat, by omega⟩ ⟨c.toNat, by omega⟩ hb ⟨j, hj⟩ hjb
    exact h7 j hj this.1
  · rw [d1]
    unfold Run
    rw [eth, ela, ers, hlf, en] at hr
    exact Or.inr ⟨a2, f.toNat, fr.toNat, a3, hF, hr⟩
/-! the least -/
def ORDs (o n m : Int) : Prop := 2 ≤ n ∧ (n ≤ m + 1 ∨ n = 2) ∧ m ≤ 6 ∧ o = (fct (n - 1).toNat : Int)
theorem ORD_0 {o n m : Int} (h : m ≤ 6) (e : n = 2) (e1 : o = 1) : ORDs o n m := by subst e; exact ⟨by omega, Or.inr rfl, h, e1⟩
theorem fct_s (n : Nat) : fct (n + 1) = (n + 1) * fct n := rfl
theorem fct_all : ∀ n : Fin 8, fct n.val ≤ 5040 := by decide +kernel
theorem ORD_lin {o n m : Int} (H : ORDs o n m) : 2 ≤ n ∧ n ≤ 7 ∧ 1 ≤ o ∧ o ≤ 5040 := by
  have h1 := H.1; have h2 := H.2.1; have h3 := H.2.2.1; have h4 := H.2.2.2
  have h5 := fct_all ⟨(n - 1).toNat, by omega⟩
  have h6 := fct_pos (n - 1).toNat
  simp only at h5
  omega
theorem ORD_s {o n m o' n' : Int} {z x y : Int32} (H : ORDs o n m) (hz : z = x * y) (hx : x.toInt = o) (hy : y.toInt = n) (hn : n ≤ m) (e : n' = n + 1) (e2 : o' = z.toInt) : ORDs o' n' m := by
  obtain ⟨h1, h2, h3, h4⟩ := H
  have h5 : fct n.toNat = n.toNat * fct (n - 1).toNat := by
    rw [show n.toNat = (n - 1).toNat + 1 by omega, fct_s]
  have h6 := fct_all ⟨n.toNat, by omega⟩
  simp only at h6
  have h7 : o * n = (fct n.toNat : Int) := by
    rw [h4, h5, Int.natCast_mul, show ((n.toNat : Nat) : Int) = n by omega, Int.mul_comm]
  have := mulI hx hy h7 (by omega) (by omega)
  refine ⟨by omega, Or.inl (by omega), h3, ?_⟩
  rw [show (n' - 1).toNat = n.toNat by omega, e2, hz]; exact this
theorem ORD_x {o n m : Int} (H : ORDs o n m) (hn : m < n) (hm : 0 ≤ m) : o = (fct m.toNat : Int) := by
  obtain ⟨h1, h2, h3, h4⟩ := H
  rw [h4]
  rcases (show n = m + 1 ∨ (n = 2 ∧ m = 0) by omega) with z | ⟨z, w⟩
  · rw [show (n - 1).toNat = m.toNat by omega]
  · subst z w; rfl
def LSTL (σ0 : SG) (fm T least k : Int) : Prop := 0 ≤ least ∧ least ≤ 1000000 ∧ 0 ≤ k ∧ (∀ q : Nat, q < k.toNat → ∃ r', OVERs σ0 fm q T r' ∧ least.toNat ≤ r') ∧ (least = 1000000 ∨ ∃ q : Nat, q < k.toNat ∧ OVERs σ0 fm q T least.toNat)
theorem LST_0 {σ0 : SG} {fm T least k : Int} (e : least = 1000000) (e2 : k = 0) : LSTL σ0 fm T least k := ⟨by omega, by omega, by omega, fun q hq => absurd hq (by omega), Or.inl e⟩
theorem LST_lin {σ0 : SG} {fm T least k : Int} (H : LSTL σ0 fm T least k) : 0 ≤ least ∧ least ≤ 1000000 ∧ 0 ≤ k := ⟨H.1, H.2.1, H.2.2.1⟩
theorem LST_s {σ0 σ : SG} {fm T least k r least' k' : Int} (hw : SWd σ0 σ) (hx : SXd σ0 σ) (H : LSTL σ0 fm T least k) (E : OVERs σ fm k T r.toNat) (r0 : 0 ≤ r) (m1 : least' ≤ least) (m2 : least' ≤ r) (m3 : least' = least ∨ least' = r) (e : k' = k + 1) : LSTL σ0 fm T least' k' := by
  have E := OVERs_eq hw hx E
  obtain ⟨h1, h2, h3, h4, h5⟩ := H
  have ek : ((k.toNat : Nat) : Int) = k := by omega
  refine ⟨by clear h5; omega, by clear h5; omega, by clear h5; omega, fun q hq => ?_, ?_⟩
  · clear h5
    by_cases z : q < k.toNat
    · obtain ⟨r', a, b⟩ := h4 q z
      exact ⟨r', a, by omega⟩
    · rw [show q = k.toNat by omega, ek]
      exact ⟨r.toNat, E, by omega⟩
  · rcases m3 with z | z
    · rcases h5 with w | ⟨q, w1, w2⟩
      · exact Or.inl (by omega)
      · exact Or.inr ⟨q, by omega, by rw [z]; exact w2⟩
    · exact Or.inr ⟨k.toNat, by omega, by rw [ek, z]; exact E⟩
theorem LST_x {σ0 : SG} {fm T least k o : Int} (H : LSTL σ0 fm T least k) (ho : o = (fct (ci σ0 160 5 - fm).toNat : Int)) (hk : o ≤ k) (f0 : 0 ≤ fm) (hf : fm ≤ ci σ0 160 5) (hx : k ≤ o) : LEASTs σ0 fm T least.toNat := by
  obtain ⟨h1, h2, h3, h4, h5⟩ := H
  have e : (ci σ0 160 5).toNat - fm.toNat = (ci σ0 160 5 - fm).toNat := by omega
  unfold LEASTs LEAST
  rw [e]
  refine ⟨fun q hq => ?_, ?_⟩
  · obtain ⟨r', a, b⟩ := h4 q (by omega)
    refine ⟨r', ?_, b⟩
    unfold OVERs at a; rw [Int.toNat_natCast] at a; exact a
  · rcases h5 with z | ⟨q, a, b⟩
    · refine Or.inl ?_
      rw [z]; rfl
    · refine Or.inr ⟨q, by omega, ?_⟩
      unfold OVERs at b; rw [Int.toNat_natCast] at b; exact b
/-! may it begin -/
def MAYs (σ : SG) (c hour : Int) : Prop := MAY (tkN σ) (ahN σ) (fxN σ) (ci σ 160 1).toNat c.toNat hour.toNat
theorem MAY_1 {σ0 σ : SG} {c hour f th R : Int} (hw : SWd σ0 σ) (H : PRE0 σ0 σ c c) (ht : th = (thP c.toNat : Int)) (c5 : c ≤ 5) (h0 : 0 ≤ hour) (A : AFTs σ c th f) (hf : hour < f) : MAYs σ0 c hour → R = 1 := by
  intro ⟨m1, g, m2, m3⟩
  obtain ⟨a1, a2, a3⟩ := AFT_of hw (bg := bgP (fxN σ0) c.toNat) (by rw [ht, Int.toNat_natCast]; exact H.2.2.2.2) H.1 c5 A (by omega)
  have := Aft_uniq a3 m2 (fun _ _ _ => rfl)
  omega
theorem MAY_2 {σ0 σ : SG} {c hour T r R : Int} (hσ0 : WT σ0) (hw : SWd σ0 σ) (H : PRE0 σ0 σ c c) (h0 : 0 ≤ hour) (h1 : hour ≤ 54) (hT : T = ci σ 160 1) (E : FREEs σ hour c T r) (hr : r = 0) : MAYs σ0 c hour → R = 1 := by
  intro ⟨m1, g, m2, m3⟩
  rcases E with ⟨z, _⟩ | ⟨_, E⟩
  · omega
  · rw [hw] at hT
    have := t3 hσ0
    refine absurd ((FR_fr hw hσ0 H.2.2.2.1 (by omega) (by omega)).mpr ?_) E
    rw [hT]; exact m1
theorem PRE0_lin {σ0 σ : SG} {fm c : Int} (H : PRE0 σ0 σ fm c) : 0 ≤ c ∧ c ≤ fm := ⟨H.1, H.2.1⟩
theorem PRE0_at {σ0 σ : SG} {fm c : Int} (H : PRE0 σ0 σ fm c) (e : c = fm) : PRE0 σ0 σ fm fm := by subst e; exact H
/-! the search -/
def TPOS (σ : SG) : Prop := 1 ≤ ci σ 160 5 ∨ 1 ≤ ci σ 160 7 → 1 ≤ ci σ 160 1
def BEGs (σ : SG) (k all : Int) : Prop := 0 ≤ k ∧ 0 ≤ all ∧ all ≤ 54 ∧ (k < ci σ 160 5 → ∃ q r : Nat, q < fct ((ci σ 160 5).toNat - k.toNat) ∧ OVERs σ k q (ci σ 160 1) r ∧ (r : Int) ≤ all)
theorem BEG_lin {σ : SG} {k all : Int} (H : BEGs σ k all) : 0 ≤ k ∧ 0 ≤ all ∧ all ≤ 54 := ⟨H.1, H.2.1, H.2.2.1⟩
theorem BEG_0 {σ0 σ : SG} {T k all fm : Int} (hσ0 : WT σ0) (hw : SWd σ0 σ) (hx : SXd σ0 σ) (L : LEASTs σ0 fm T all.toNat) (hf : fm = 0) (hT : T = ci σ0 160 1) (T1 : 1 ≤ T) (h0 : 0 ≤ all) (e : k = 0) : BEGs σ k all := by
  have n6' := n6 hσ0
  subst e hf
  obtain ⟨l1, l2⟩ := L
  obtain ⟨r', a, b⟩ := l1 0 (fct_pos _)
  have := OVER_id (by omega) (tk9 hσ0) a
  refine ⟨by omega, h0, by omega, fun _ => ?_⟩
  rcases l2 with z | ⟨q, q1, q2⟩
  · unfold FARN at z; omega
  · refine ⟨q, all.toNat, by rw [hw]; exact q1, ?_, by omega⟩
    unfold OVERs
    rw [SWd_tk hw, SWd_ah hw, SXd_fx hx, hw, hw, Int.toNat_natCast, ← hT]; exact q2
/-- the aim, the course's hour standing at fx -/
def AIMs (σ : SG) (k all : Int) : Prop := 0 ≤ k ∧ k ≤ 5 ∧ 0 ≤ all ∧ all ≤ 54 ∧ AIM (tkN σ) (ahN σ) (fxN σ) (ci σ 160 5).toNat (ci σ 160 1).toNat k.toNat all.toNat
theorem AIM_lin {σ : SG} {k all : Int} (hσ : WT σ) (H : AIMs σ k all) : 0 ≤ k ∧ k ≤ 5 ∧ 0 ≤ all ∧ all ≤ 54 ∧ 0 ≤ ci σ 175 k ∧ ci σ 175 k ≤ 54 := by
  have := fx_ci hσ H.1 H.2.1
  exact ⟨H.1, H.2.1, H.2.2.1, H.2.2.2.1, this.2.1, this.2.2⟩
theorem fx_st {σ σ' : SG} {k : Int} {y : Int32} (h1 : (σ' 175)[k.toNat]? = some (.int y)) (h2 : ∀ q i, (q ≠ 175 ∨ i ≠ k.toNat) → (σ' q)[i]? = (σ q)[i]?) (k0 : 0 ≤ k) (k5 : k ≤ 5) : fxN σ' = updN (fxN σ) k.toNat y.toInt.toNat ∧ SWd σ σ' := by
  refine ⟨?_, fun i => ci_ne h2 (by decide) i⟩
  funext c
  show (if c < 6 then (ci σ' 175 c).toNat else 0) = if c = k.toNat then y.toInt.toNat else (if c < 6 then (ci σ 175 c).toNat else 0)
  by_cases z : c < 6
  · rw [if_pos z, if_pos z, ci_st h1 h2 k0 c (by omega)]
    by_cases w : c = k.toNat
    · rw [if_pos (by omega), if_pos w]
    · rw [if_neg (by omega), if_neg w]
  · rw [if_neg z, if_neg z, if_neg (by omega)]
theorem AIM_0 {σ σ' : SG} {k all : Int} {y : Int32} (hσ : WT σ) (H : BEGs σ k all) (hk : k < ci σ 160 5) (h1 : (σ' 175)[k.toNat]? = some (.int y)) (h2 : ∀ q i, (q ≠ 175 ∨ i ≠ k.toNat) → (σ' q)[i]? = (σ q)[i]?) (hy : y.toInt = 0) : AIMs σ' k all := by
  have n6' := n6 hσ
  obtain ⟨b1, b2, b3, b4⟩ := H
  obtain ⟨q, r, q1, q2, q3⟩ := b4 hk
  obtain ⟨e1, e2⟩ := fx_st h1 h2 b1 (by omega)
  unfold OVERs at q2
  rw [Int.toNat_natCast] at q2
  obtain ⟨t, q', t1, t2, t3, t4⟩ := OVER_next (by omega) q1 (by unfold FARN; omega) q2
  refine ⟨b1, by omega, b2, b3, t, q', r, ?_, by omega, ?_, ?_, ?_, by omega⟩
  · rw [e1]; unfold updN; rw [if_pos rfl]; omega
  · rw [e1, SWd_tk e2, SWd_ah e2, e2]
    obtain ⟨c1, c2, c3⟩ := bzP_congr (tk := tkN σ) (fx := updN (fxN σ) k.toNat y.toInt.toNat) (fx' := fxN σ) k.toNat (fun a ha => by unfold updN; rw [if_neg (by omega)])
    unfold MAY
    rw [c1, c2]; exact t2
  · rw [e2]; exact t3
  · rw [e1, SWd_tk e2, SWd_ah e2, e2, e2]
    exact OVER_congr t4 (fun a ha => by unfold updN; split <;> rfl)
def GOs (σ : SG) (k all hour : Int) : Prop := MAYs σ k hour → ∀ q r : Nat, q < fct ((ci σ 160 5).toNat - (k.toNat + 1)) → OVER (tkN σ) (ahN σ) (fxN σ) (ci σ 160 5).toNat (ci σ 160 1).toNat (k.toNat + 1) q r → (r : Int) ≤ all → False
theorem GO_1 {σ : SG} {k all hour r : Int} (E : MAYs σ k hour → r = 1) (hr : r = 0) : GOs σ k all hour := fun m _ _ _ _ _ => by have := E m; omega
theorem GO_2 {σ σ1 : SG} {k all hour T fm w : Int} (hw : SWd σ σ1) (hx : SXd σ σ1) (E : LEASTs σ1 fm T w.toNat) (hfm : fm = k + 1) (hT : T = ci σ1 160 1) (k0 : 0 ≤ k) (h : all < w) (h0 : 0 ≤ all) : GOs σ k all hour := by
  intro _ q r hq ho hr
  have E := LEASTs_eq hw hx E
  rw [hw] at hT
  obtain ⟨l1, l2⟩ := E
  rw [show fm.toNat = k.toNat + 1 by omega, hT] at l1
  obtain ⟨r', a, b⟩ := l1 q hq
  have := OVER_uniq a ho
  omega
theorem AIM_lt {σ : SG} {k all : Int} {z : Int32} (hσ : WT σ) (H : AIMs σ k all) (hz : (σ 175)[k.toNat]? = some (.int z)) (hgo : GOs σ k all z.toInt) : ∃ t q r : Nat, fxN σ k.toNat < t ∧ t ≤ 54 ∧ MAY (tkN σ) (ahN σ) (fxN σ) (ci σ 160 1).toNat k.toNat t ∧ q < fct ((ci σ 160 5).toNat - (k.toNat + 1)) ∧ OVER (tkN σ) (ahN σ) (updN (fxN σ) k.toNat t) (ci σ 160 5).toNat (ci σ 160 1).toNat (k.toNat + 1) q r ∧ r ≤ all.toNat ∧ (fxN σ k.toNat : Int) = z.toInt := by
  obtain ⟨b1, b2, b3, b4, t, q, r, a1, a2, a3, a4, a5, a6⟩ := H
  have fz := fx_ci hσ b1 b2
  rw [ci_at hz rfl] at fz
  refine ⟨t, q, r, ?_, a2, a3, a4, a5, a6, fz.1⟩
  rcases Nat.lt_or_ge (fxN σ k.toNat) t with w | w
  · exact w
  · exfalso
    have et : t = fxN σ k.toNat := by omega
    have eu : updN (fxN σ) k.toNat t = fxN σ := by
      funext x; unfold updN
      by_cases hx : x = k.toNat
      · rw [if_pos hx, hx, et]
      · rw [if_neg hx]
    rw [eu] at a5
    refine hgo ?_ q r a4 a5 (by omega)
    unfold MAYs
    rw [show z.toInt.toNat = t by omega]; exact a3
theorem AIM_53 {σ : SG} {k all : Int} {z : Int32} (hσ : WT σ) (H : AIMs σ k all) (hz : (σ 175)[k.toNat]? = some (.int z)) (hgo : GOs σ k all z.toInt) : z.toInt ≤ 53 := by
  obtain ⟨t, q, r, h1, h2, h3, h4, h5, h6, h7⟩ := AIM_lt hσ H hz hgo
  clear h3 h4 h5
  omega
theorem AIM_s {σ σ1 σ' : SG} {k all : Int} {y z : Int32} (hσ : WT σ) (hw : SWd σ σ1) (hx : SXd σ σ1) (H : AIMs σ k all) (hz : (σ 175)[k.toNat]? = some (.int z)) (hgo : GOs σ k all z.toInt) (h1 : (σ' 175)[k.toNat]? = some (.int y)) (h2 : ∀ q i, (q ≠ 175 ∨ i ≠ k.toNat) → (σ' q)[i]? = (σ1 q)[i]?) (hy : y.toInt = z.toInt + 1) : AIMs σ' k all := by
  obtain ⟨t, q, r, a1, a2, a3, a4, a5, a6, a7⟩ := AIM_lt hσ H hz hgo
  obtain ⟨b1, b2, b3, b4, -⟩ := H
  obtain ⟨e1, e2⟩ := fx_st h1 h2 b1 b2
  rw [SXd_fx hx] at e1
  have e2 : SWd σ σ' := fun i => by rw [e2, hw]
  refine ⟨b1, b2, b3, b4, t, q, r, ?_, a2, ?_, ?_, ?_, a6⟩
  · rw [e1]; unfold updN; rw [if_pos rfl]; omega
  · rw [e1, SWd_tk e2, SWd_ah e2, e2]
    obtain ⟨c1, c2, c3⟩ := bzP_congr (tk := tkN σ) (fx := updN (fxN σ) k.toNat y.toInt.toNat) (fx' := fxN σ) k.toNat (fun a ha => by unfold updN; rw [if_neg (by omega)])
    unfold MAY
    rw [c1, c2]; exact a3
  · rw [e2]; exact a4
  · rw [e1, SWd_tk e2, SWd_ah e2, e2, e2]
    refine OVER_congr a5 (fun a ha => ?_)
    unfold updN; split <;> rfl
theorem SXd_tr {σ σ' σ'' : SG} (h : SXd σ σ') (h' : SXd σ' σ'') : SXd σ σ'' := fun i => by rw [h', h]
theorem SWd_tr {σ σ' σ'' : SG} (h : SWd σ σ') (h' : SWd σ' σ'') : SWd σ σ'' := fun i => by rw [h', h]
theorem BEG_s {σ1 σ2 : SG} {k all T fm w k' : Int} (E : LEASTs σ1 fm T w.toNat) (hw : SWd σ1 σ2) (hx : SXd σ1 σ2) (hfm : fm = k + 1) (hT : T = ci σ1 160 1) (h : w ≤ all) (w0 : 0 ≤ w) (k0 : 0 ≤ k) (h54 : all ≤ 54) (e : k' = k + 1) : BEGs σ2 k' all := by
  obtain ⟨l1, l2⟩ := E
  refine ⟨by clear l2; omega, by clear l2; omega, h54, fun _ => ?_⟩
  rcases l2 with z | ⟨q, q1, q2⟩
  · unfold FARN at z; omega
  · refine ⟨q, w.toNat, ?_, ?_, by clear q1 q2; omega⟩
    · rw [hw, show k'.toNat = fm.toNat by omega]; exact q1
    · unfold OVERs
      rw [SWd_tk hw, SWd_ah hw, SXd_fx hx, hw, hw, Int.toNat_natCast, ← hT, show k'.toNat = fm.toNat by omega]; exact q2
end TIMD
