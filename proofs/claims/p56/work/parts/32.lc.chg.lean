section CHG
variable {σ0 σ σ' σ1 σ2 σ3 : SG} {W W' : List (Nat × Nat)} {a p : Nat} {w w' : Int → Int}
theorem lc_ts : ∀ m : Fin 60, lcO (166 + (m.val : Int)) = 9 ∧ lcB (166 + (m.val : Int)) = (m.val : Int) := by decide +kernel
theorem lc_t {m : Int} (m0 : 0 ≤ m) (m1 : m < 60) : lcO (166 + m) = 9 ∧ lcB (166 + m) = m := by
  have k := lc_ts ⟨m.toNat, by omega⟩
  simp only at k
  rw [show ((m.toNat : Nat) : Int) = m by omega] at k; exact k
theorem act_lk {d m : Int} (d0 : 0 ≤ d) (d4 : d < 4) (dn : d < w 2) (m0 : 0 ≤ m) (m1 : m < 12) (h : m < w (12 + 4 * d)) : act w (26 + 24 * d + 2 * m) := by
  refine Or.inr (Or.inr (Or.inl ⟨by omega, by omega, by omega, ?_⟩))
  rw [show (26 + 24 * d + 2 * m - 26) / 24 = d by omega]
  omega
theorem act_lo {d m : Int} (d0 : 0 ≤ d) (d4 : d < 4) (dn : d < w 2) (m0 : 0 ≤ m) (m1 : m < 12) (h : m < w (12 + 4 * d)) : act w (26 + 24 * d + 2 * m + 1) := by
  refine Or.inr (Or.inr (Or.inl ⟨by omega, by omega, by omega, ?_⟩))
  rw [show (26 + 24 * d + 2 * m + 1 - 26) / 24 = d by omega]
  omega
theorem DRe {q z : Nat} {d : Int} (hX : FXP σ a) (hq : q = a + 1) (hz : (σ q)[d.toNat]? = some (.ref z)) (d0 : 0 ≤ d) (d4 : d < 4) : z = a + 10 + 4 * d.toNat := by
  subst hq
  exact ref_uniq hz (hX.2.2.2.2.2.2.2.2.2 d.toNat (by omega)).1
theorem DKk {l k : Nat} {d : Int} (hX : FXP σ a) (hl : l = a + 11 + 4 * d.toNat) (hk : (σ l)[0]? = some (.ref k)) (d0 : 0 ≤ d) (d4 : d < 4) : k = a + 12 + 4 * d.toNat := by
  subst hl
  exact ref_uniq hk (hX.2.2.2.2.2.2.2.2.2 d.toNat (by omega)).2.2.1
theorem DKo {l k : Nat} {d : Int} (hX : FXP σ a) (hl : l = a + 11 + 4 * d.toNat) (hk : (σ l)[1]? = some (.ref k)) (d0 : 0 ≤ d) (d4 : d < 4) : k = a + 13 + 4 * d.toNat := by
  subst hl
  exact ref_uniq hk (hX.2.2.2.2.2.2.2.2.2 d.toNat (by omega)).2.2.2
theorem EKk {l k : Nat} (hX : FXP σ a) (hl : l = a + 2) (hk : (σ l)[0]? = some (.ref k)) : k = a + 3 := by
  subst hl
  exact ref_uniq hk hX.2.2.2.2.2.2.2.1
theorem EKo {l k : Nat} (hX : FXP σ a) (hl : l = a + 2) (hk : (σ l)[1]? = some (.ref k)) : k = a + 4 := by
  subst hl
  exact ref_uniq hk hX.2.2.2.2.2.2.2.2.1
/-- a plan's number at its place, kept by what does not write there -/
theorem KN_eqv {A : Int → Prop} (H : KN σ0 p w A) (e : ∀ i : Int, 0 ≤ i → i < 226 → A i → ci σ (p + lcO i) (lcB i) = ci σ0 (p + lcO i) (lcB i)) : KN σ p w A := fun i i0 i1 x => (e i i0 i1 x).trans (H i i0 i1 x)
/-! the latest lesson goes -/
def DRPp (σ0 σ : SG) (s : Nat) (m : Int) : Prop := ci σ s 2 = m - 1 ∧ ∀ b q : Nat, ¬ (b = s ∧ q = 2) → (σ b)[q]? = (σ0 b)[q]?
theorem DRP_mk {s : Nat} {m : Int} {v : Int32} (k : (σ s)[2]? = some (.int v)) (n : ∀ b q, (b ≠ s ∨ q ≠ 2) → (σ b)[q]? = (σ0 b)[q]?) (hv : v.toInt = m - 1) : DRPp σ0 σ s m := by
  refine ⟨?_, fun b q h => n b q (by omega)⟩
  unfold ci
  rw [show (2 : Int).toNat = 2 from rfl, k]
  exact hv
theorem OUT_drp {s : Nat} {m : Int} (H : OUT σ0 σ p) (P : DRPp σ σ' s m) (h1 : p ≤ s ∧ s < p + 26) : OUT σ0 σ' p := fun b q b0 b1 b2 => by
  rw [P.2 b q (by omega)]; exact H b q b0 b1 b2
theorem lsz {d : Int} (d0 : 0 ≤ d) (d4 : d < 4) : p + lcO (12 + 4 * d) = p + 11 + 4 * d.toNat ∧ lcB (12 + 4 * d) = 2 := by
  have l := lc_d d0 d4
  exact ⟨by omega, l.2.2.2.2.2.2.1⟩
/-- teach() -/
theorem KN_teach {s kn op td : Nat} {d k o m n x y : Int} {v1 v2 : Int32} (H : KN σ0 p w (act w)) (hp : PLB p) (hm : w (12 + 4 * d) = m) (hn : w 6 = n) (P : ADDp σ0 σ1 s kn op m x y) (hx : x = k) (hy : y = o) (q1 : (σ2 td)[n.toNat]? = some (.int v1)) (q2 : ∀ b q, (b ≠ td ∨ q ≠ n.toNat) → (σ2 b)[q]? = (σ1 b)[q]?) (q3 : (σ3 p)[14]? = some (.int v2)) (q4 : ∀ b q, (b ≠ p ∨ q ≠ 14) → (σ3 b)[q]? = (σ2 b)[q]?)
    (hs : s = p + 11 + 4 * d.toNat) (hk : kn = p + 12 + 4 * d.toNat) (ho : op = p + 13 + 4 * d.toNat) (ht : td = p + 9) (e1 : v1.toInt = d) (e2 : v2.toInt = n + 1) (d0 : 0 ≤ d) (d4 : d < 4) (m0 : 0 ≤ m) (m1 : m < 12) (n0 : 0 ≤ n) (n1 : n < 60) : KN σ3 p (tcU w d k o) (act (tcU w d k o)) ∧ OUT σ0 σ3 p := by
  have L := lc_l d0 d4 m0 m1
  have S := lsz (p := p) d0 d4
  have T := lc_t n0 n1
  subst hx hy
  have K1 := KN_add (i := 26 + 24 * d + 2 * m) (i' := 26 + 24 * d + 2 * m + 1) (j := 12 + 4 * d) H P (by omega) rfl (by omega) (by omega) (by omega) (by rw [S.1]; exact hs) S.2 (by rw [L.1]; omega) L.2.2.1 (by rw [L.2.1]; omega) L.2.2.2 m0
  have K2 := KN_st (j := 166 + n) (v := d) K1 q1 q2 (by omega) (by omega) (by rw [T.1]; omega) (by rw [T.2]) e1.symm
  have K3 := KN_st (j := 6) (v := n + 1) K2 q3 q4 (by omega) (by omega) (by rw [lcO_lt (by decide) (by decide), Nat.add_zero]) (by decide) e2.symm
  refine ⟨?_, ?_⟩
  · have e : uPd (uPd (uPd (uPd (uPd w (26 + 24 * d + 2 * m) x) (26 + 24 * d + 2 * m + 1) y) (12 + 4 * d) (m + 1)) (166 + n) d) 6 (n + 1) = tcU w d x y := by
      unfold tcU
      rw [hm, hn]
    rw [e] at K3
    refine KN_sub K3 (fun t t0 t1 z => ?_)
    have z := act_tc d0 d4 (by omega) (by omega) (by omega) z
    rw [hm, hn] at z
    rcases z with z | z | z
    · exact Or.inl (Or.inl z)
    · exact Or.inl (Or.inr z)
    · exact Or.inr z
  · unfold PLB at hp
    refine OUT_st (OUT_st (OUT_add OUT_0 P ?_ ?_ ?_) q2 ?_) q4 ?_ <;> omega
/-- unteach() -/
theorem KN_unteach {s : Nat} {d m n : Int} {v : Int32} (H : KN σ0 p w (act w)) (hp : PLB p) (hm : w (12 + 4 * d) = m) (hn : w 6 = n) (hd : utD w = d) (q1 : (σ1 p)[14]? = some (.int v)) (q2 : ∀ b q, (b ≠ p ∨ q ≠ 14) → (σ1 b)[q]? = (σ0 b)[q]?) (P : DRPp σ1 σ2 s m) (hs : s = p + 11 + 4 * d.toNat) (e : v.toInt = n - 1) (d0 : 0 ≤ d) (d4 : d < 4) : KN σ2 p (utU w) (act (utU w)) ∧ OUT σ0 σ2 p := by
  have S := lsz (p := p) d0 d4
  have K1 := KN_st (j := 6) (v := n - 1) H q1 q2 (by omega) (by omega) (by rw [lcO_lt (by decide) (by decide), Nat.add_zero]) (by decide) e.symm
  refine ⟨fun i i0 i1 x => ?_, ?_⟩
  · have a1 := act_ut (by omega) (by omega) x
    unfold utU
    rw [hd, hm, hn]
    by_cases z : i = 12 + 4 * d
    · subst z
      have : uPd (uPd w 6 (n - 1)) (12 + 4 * d) (m - 1) (12 + 4 * d) = m - 1 := if_pos rfl
      rw [this, S.1, S.2, ← hs]
      exact P.1
    · have : uPd (uPd w 6 (n - 1)) (12 + 4 * d) (m - 1) i = uPd w 6 (n - 1) i := if_neg z
      rw [this, ← K1 i i0 i1 (Or.inl a1)]
      refine ci_eq (P.2 _ _ ?_)
      intro y
      exact z (lc_uniq i0 i1 (by omega) (by omega) (by omega) (by omega))
  · unfold PLB at hp
    refine OUT_drp (OUT_st OUT_0 q2 ?_) P ?_ <;> omega
theorem lc_ins : ∀ i : Fin 226, ∀ d : Fin 4, (lcO (i.val : Int) = 12 + 4 * d.val ∨ lcO (i.val : Int) = 13 + 4 * d.val) → 26 ≤ i.val ∧ i.val < 122 ∧ (i.val - 26) / 24 = d.val ∧ lcB (i.val : Int) = (((i.val - 26) % 24 / 2 : Nat) : Int) := by decide +kernel
/-- one lesson more, and away again -/
theorem KN_again {s kn op : Nat} {d m x y : Int} (H : KN σ0 p w (act w)) (hp : PLB p) (hm : w (12 + 4 * d) = m) (P : ADDp σ0 σ1 s kn op m x y) (Q : DRPp σ1 σ2 s (m + 1)) (hs : s = p + 11 + 4 * d.toNat) (hk : kn = p + 12 + 4 * d.toNat) (ho : op = p + 13 + 4 * d.toNat) (d0 : 0 ≤ d) (d4 : d < 4) (dn : d < w 2) (m0 : 0 ≤ m) : KN σ2 p w (act w) ∧ OUT σ0 σ2 p := by
  have S := lsz (p := p) d0 d4
  refine ⟨fun i i0 i1 z => ?_, ?_⟩
  · by_cases e : i = 12 + 4 * d
    · subst e
      rw [S.1, S.2, hm, ← hs, Q.1]
      omega
    · rw [← H i i0 i1 z]
      have g : ¬ (p + lcO i = s ∧ (lcB i).toNat = 2) := fun y => e (lc_uniq i0 i1 (by omega) (by omega) (by omega) (by omega))
      have f : ∀ o : Nat, (o = 12 ∨ o = 13) → ¬ (lcO i = o + 4 * d.toNat ∧ (lcB i).toNat = m.toNat) := by
        intro o h y
        have c := lc_ins ⟨i.toNat, by omega⟩ ⟨d.toNat, by omega⟩
        simp only at c
        rw [show ((i.toNat : Nat) : Int) = i by omega] at c
        have c := c (by omega)
        unfold act at z
        rcases z with z | z | z | z | z | z | z
        · omega
        · omega
        · have e2 : (i - 26) / 24 = d := by omega
          rw [e2, hm] at z
          omega
        · omega
        · omega
        · omega
        · omega
      rw [ci_eq (Q.2 _ _ g), ci_eq (P.2.2.2 _ _ ?_ ?_ g)]
      · intro y; exact f 12 (Or.inl rfl) ⟨by omega, y.2⟩
      · intro y; exact f 13 (Or.inr rfl) ⟨by omega, y.2⟩
  · unfold PLB at hp
    refine OUT_drp (OUT_add OUT_0 P ?_ ?_ ?_) Q ?_ <;> omega
/-! one lesson out of the midst, and back -/
def TKO (σ0 σ : SG) (s kn op : Nat) (i m : Int) : Prop := ci σ s 2 = m - 1 ∧ (∀ k : Int, 0 ≤ k → ci σ kn k = if i ≤ k ∧ k < m - 1 then ci σ0 kn (k + 1) else ci σ0 kn k) ∧ (∀ k : Int, 0 ≤ k → ci σ op k = if i ≤ k ∧ k < m - 1 then ci σ0 op (k + 1) else ci σ0 op k) ∧ ∀ b q : Nat, b ≠ kn → b ≠ op → ¬ (b = s ∧ q = 2) → (σ b)[q]? = (σ0 b)[q]?
/-- while it goes: k's below y are moved -/
def TKI (σ0 σ : SG) (kn op : Nat) (i y : Int) : Prop := (∀ k : Int, 0 ≤ k → ci σ kn k = if i ≤ k ∧ k < y then ci σ0 kn (k + 1) else ci σ0 kn k) ∧ (∀ k : Int, 0 ≤ k → ci σ op k = if i ≤ k ∧ k < y then ci σ0 op (k + 1) else ci σ0 op k) ∧ ∀ b q : Nat, b ≠ kn → b ≠ op → (σ b)[q]? = (σ0 b)[q]?
theorem TKI_0 {kn op : Nat} {i y : Int} (h : y = i) : TKI σ σ kn op i y := ⟨fun k k0 => by rw [if_neg (by omega)], fun k k0 => by rw [if_neg (by omega)], fun _ _ _ _ => rfl⟩
theorem TKI_s {kn op : Nat} {i y y' J J' : Int} {u v : Int32} (H : TKI σ0 σ1 kn op i y) (d : kn ≠ op) (r1 : (σ1 kn)[J'.toNat]? = some (.int u)) (k1 : (σ2 kn)[J.toNat]? = some (.int u)) (n1 : ∀ b q, (b ≠ kn ∨ q ≠ J.toNat) → (σ2 b)[q]? = (σ1 b)[q]?) (r2 : (σ2 op)[J'.toNat]? = some (.int v)) (k2 : (σ3 op)[J.toNat]? = some (.int v)) (n2 : ∀ b q, (b ≠ op ∨ q ≠ J.toNat) → (σ3 b)[q]? = (σ2 b)[q]?) (hJ : J = y) (hJ' : J' = y + 1) (i0 : 0 ≤ i) (iy : i ≤ y) (e : y' = y + 1) : TKI σ0 σ3 kn op i y' := by
  obtain ⟨a, b, c⟩ := H
  subst hJ hJ' e
  refine ⟨fun k k0 => ?_, fun k k0 => ?_, fun b' q h1 h2 => ?_⟩
  · rw [ci_ne n2 d k, ci_st k1 n1 (by omega) k k0]
    by_cases z : k = J
    · subst z
      rw [if_pos rfl, if_pos (by omega), ← ci_at r1 rfl, a (k + 1) (by omega), if_neg (by omega)]
    · rw [if_neg z, a k k0]
      by_cases y : i ≤ k ∧ k < J
      · rw [if_pos y, if_pos (by omega)]
      · rw [if_neg y, if_neg (by omega)]
  · rw [ci_st k2 n2 (by omega) k k0]
    by_cases z : k = J
    · subst z
      rw [if_pos rfl, if_pos (by omega), ← ci_at r2 rfl, ci_ne n1 (Ne.symm d) (k + 1), b (k + 1) (by omega), if_neg (by omega)]
    · rw [if_neg z, ci_ne n1 (Ne.symm d) k, b k k0]
      by_cases y : i ≤ k ∧ k < J
      · rw [if_pos y, if_pos (by omega)]
      · rw [if_neg y, if_neg (by omega)]
  · rw [n2 b' q (Or.inl h2), n1 b' q (Or.inl h1)]; exact c b' q h1 h2
theorem TKI_x {s kn op : Nat} {i y m : Int} {v : Int32} (H : TKI σ0 σ1 kn op i y) (hy : y = m - 1) (k : (σ2 s)[2]? = some (.int v)) (n : ∀ b q, (b ≠ s ∨ q ≠ 2) → (σ2 b)[q]? = (σ1 b)[q]?) (hv : v.toInt = m - 1) (d1 : kn ≠ s) (d2 : op ≠ s) : TKO σ0 σ2 s kn op i m := by
  obtain ⟨a, b, c⟩ := H
  subst hy
  refine ⟨?_, fun q q0 => ?_, fun q q0 => ?_, fun b' q h1 h2 h3 => ?_⟩
  · unfold ci
    rw [show (2 : Int).toNat = 2 from rfl, k]
    exact hv
  · rw [ci_ne n d1 q]; exact a q q0
  · rw [ci_ne n d2 q]; exact b q q0
  · rw [n b' q (by omega)]; exact c b' q h1 h2
def PTI (σ0 σ : SG) (kn op : Nat) (m y : Int) : Prop := (∀ k : Int, 0 ≤ k → ci σ kn k = if y < k ∧ k ≤ m then ci σ0 kn (k - 1) else ci σ0 kn k) ∧ (∀ k : Int, 0 ≤ k → ci σ op k = if y < k ∧ k ≤ m then ci σ0 op (k - 1) else ci σ0 op k) ∧ ∀ b q : Nat, b ≠ kn → b ≠ op → (σ b)[q]? = (σ0 b)[q]?
def PTp (σ0 σ : SG) (s kn op : Nat) (i m x y : Int) : Prop := ci σ s 2 = m + 1 ∧ (∀ k : Int, 0 ≤ k → ci σ kn k = if k = i then x else if i < k ∧ k ≤ m then ci σ0 kn (k - 1) else ci σ0 kn k) ∧ (∀ k : Int, 0 ≤ k → ci σ op k = if k = i then y else if i < k ∧ k ≤ m then ci σ0 op (k - 1) else ci σ0 op k) ∧ ∀ b q : Nat, b ≠ kn → b ≠ op → ¬ (b = s ∧ q = 2) → (σ b)[q]? = (σ0 b)[q]?
theorem PTI_0 {kn op : Nat} {m y : Int} (h : y = m) : PTI σ σ kn op m y := ⟨fun k k0 => by rw [if_neg (by omega)], fun k k0 => by rw [if_neg (by omega)], fun _ _ _ _ => rfl⟩
theorem PTI_s {kn op : Nat} {m y y' J J' : Int} {u v : Int32} (H : PTI σ0 σ1 kn op m y) (d : kn ≠ op) (r1 : (σ1 kn)[J'.toNat]? = some (.int u)) (k1 : (σ2 kn)[J.toNat]? = some (.int u)) (n1 : ∀ b q, (b ≠ kn ∨ q ≠ J.toNat) → (σ2 b)[q]? = (σ1 b)[q]?) (r2 : (σ2 op)[J'.toNat]? = some (.int v)) (k2 : (σ3 op)[J.toNat]? = some (.int v)) (n2 : ∀ b q, (b ≠ op ∨ q ≠ J.toNat) → (σ3 b)[q]? = (σ2 b)[q]?) (hJ : J = y) (hJ' : J' = y - 1) (y1 : 1 ≤ y) (ym : y ≤ m) (e : y' = y - 1) : PTI σ0 σ3 kn op m y' := by
  obtain ⟨a, b, c⟩ := H
  subst hJ hJ' e
  refine ⟨fun k k0 => ?_, fun k k0 => ?_, fun b' q h1 h2 => ?_⟩
  · rw [ci_ne n2 d k, ci_st k1 n1 (by omega) k k0]
    by_cases z : k = J
    · subst z
      rw [if_pos rfl, if_pos (by omega), ← ci_at r1 rfl, a (k - 1) (by omega), if_neg (by omega)]
    · rw [if_neg z, a k k0]
      by_cases y : J < k ∧ k ≤ m
      · rw [if_pos y, if_pos (by omega)]
      · rw [if_neg y, if_neg (by omega)]
  · rw [ci_st k2 n2 (by omega) k k0]
    by_cases z : k = J
    · subst z
      rw [if_pos rfl, if_pos (by omega), ← ci_at r2 rfl, ci_ne n1 (Ne.symm d) (k - 1), b (k - 1) (by omega), if_neg (by omega)]
    · rw [if_neg z, ci_ne n1 (Ne.symm d) k, b k k0]
      by_cases y : J < k ∧ k ≤ m
      · rw [if_pos y, if_pos (by omega)]
      · rw [if_neg y, if_neg (by omega)]
  · rw [n2 b' q (Or.inl h2), n1 b' q (Or.inl h1)]; exact c b' q h1 h2
theorem PTI_x {s kn op : Nat} {m i y J : Int} {u v w : Int32} (H : PTI σ0 σ kn op m y) (hy : y = i) (k1 : (σ1 kn)[J.toNat]? = some (.int u)) (n1 : ∀ b q, (b ≠ kn ∨ q ≠ J.toNat) → (σ1 b)[q]? = (σ b)[q]?) (k2 : (σ2 op)[J.toNat]? = some (.int v)) (n2 : ∀ b q, (b ≠ op ∨ q ≠ J.toNat) → (σ2 b)[q]? = (σ1 b)[q]?) (k3 : (σ3 s)[2]? = some (.int w)) (n3 : ∀ b q, (b ≠ s ∨ q ≠ 2) → (σ3 b)[q]? = (σ2 b)[q]?) (hJ : J = i) (i0 : 0 ≤ i) (d : kn ≠ op) (d1 : kn ≠ s) (d2 : op ≠ s) (hw : w.toInt = m + 1) : PTp σ0 σ3 s kn op i m u.toInt v.toInt := by
  obtain ⟨a, b, c⟩ := H
  subst hy hJ
  refine ⟨?_, fun q q0 => ?_, fun q q0 => ?_, fun b' q h1 h2 h3 => ?_⟩
  · unfold ci
    rw [show (2 : Int).toNat = 2 from rfl, k3]
    exact hw
  · rw [ci_ne n3 d1 q, ci_ne n2 d q, ci_st k1 n1 i0 q q0, a q q0]
  · rw [ci_ne n3 d2 q, ci_st k2 n2 i0 q q0, ci_ne n1 (Ne.symm d) q, b q q0]
  · rw [n3 b' q (by omega), n2 b' q (Or.inl h2), n1 b' q (Or.inl h1)]; exact c b' q h1 h2
/-- out and in again: all is as before -/
theorem TP_id {s kn op : Nat} {i m m' x y : Int} (P : TKO σ0 σ1 s kn op i m) (Q : PTp σ1 σ2 s kn op i m' x y) (hm : m' = m - 1) (hs : ci σ0 s 2 = m) (hx : x = ci σ0 kn i) (hy : y = ci σ0 op i) (i0 : 0 ≤ i) (im : i < m) : ci σ2 s 2 = ci σ0 s 2 ∧ (∀ k : Int, 0 ≤ k → ci σ2 kn k = ci σ0 kn k) ∧ (∀ k : Int, 0 ≤ k → ci σ2 op k = ci σ0 op k) ∧ ∀ b q : Nat, b ≠ kn → b ≠ op → ¬ (b = s ∧ q = 2) → (σ2 b)[q]? = (σ0 b)[q]? := by
  obtain ⟨p1, p2, p3, p4⟩ := P
  obtain ⟨q1, q2, q3, q4⟩ := Q
  subst hm hx hy
  refine ⟨by omega, fun k k0 => ?_, fun k k0 => ?_, fun b q h1 h2 h3 => (q4 b q h1 h2 h3).trans (p4 b q h1 h2 h3)⟩
  · rw [q2 k k0]
    by_cases z : k = i
    · rw [if_pos z, z]
    · rw [if_neg z]
      by_cases e : i < k ∧ k ≤ m - 1
      · rw [if_pos e, p2 (k - 1) (by omega), if_pos (by omega), show k - 1 + 1 = k by omega]
      · rw [if_neg e, p2 k k0, if_neg (by omega)]
  · rw [q3 k k0]
    by_cases z : k = i
    · rw [if_pos z, z]
    · rw [if_neg z]
      by_cases e : i < k ∧ k ≤ m - 1
      · rw [if_pos e, p3 (k - 1) (by omega), if_pos (by omega), show k - 1 + 1 = k by omega]
      · rw [if_neg e, p3 k k0, if_neg (by omega)]
theorem KN_tp {s kn op : Nat} {i m m' x y : Int} {A : Int → Prop} (H : KN σ0 p w A) (P : TKO σ0 σ1 s kn op i m) (Q : PTp σ1 σ2 s kn op i m' x y) (hm : m' = m - 1) (hs : ci σ0 s 2 = m) (hx : x = ci σ0 kn i) (hy : y = ci σ0 op i) (i0 : 0 ≤ i) (im : i < m) (b1 : p ≤ s ∧ s < p + 26) (b2 : p ≤ kn ∧ kn < p + 26) (b3 : p ≤ op ∧ op < p + 26) : KN σ2 p w A ∧ OUT σ0 σ2 p := by
  obtain ⟨e1, e2, e3, e4⟩ := TP_id P Q hm hs hx hy i0 im
  refine ⟨KN_eqv H (fun j j0 j1 _ => ?_), fun b q _ _ h => e4 b q (by omega) (by omega) (by omega)⟩
  have l := lc_0 j0 j1
  by_cases z1 : p + lcO j = kn
  · rw [z1]; exact e2 _ l.2
  · by_cases z2 : p + lcO j = op
    · rw [z2]; exact e3 _ l.2
    · by_cases z3 : p + lcO j = s ∧ (lcB j).toNat = 2
      · have e : lcB j = 2 := by omega
        rw [z3.1, e]; exact e1
      · exact ci_eq (e4 _ _ z1 z2 z3)
end CHG
