section PUR
/-! the reading told purely: bytes B, n of them -/
abbrev PS := Int × Int × Int × (Int → Int)
def kA (B : Int → Int) (n i : Int) : Int := if n ≤ i then 0 else if 97 ≤ B i ∧ B i ≤ 122 then 1 else if 48 ≤ B i ∧ B i ≤ 57 then 2 else if B i = 59 then 3 else 4
def skp (B : Int → Int) (n : Int) : Nat → Int → Int
  | 0, p => p
  | f + 1, p => if p < n ∧ (B p = 32 ∨ B p = 10) then skp B n f (p + 1) else p
def tS (B : Int → Int) (n p : Int) : Int := skp B n (n - p).toNat p
def tK (B : Int → Int) (n p : Int) : Int := kA B n (tS B n p)
def rnk (B : Int → Int) (n k : Int) : Nat → Int → Int
  | 0, p => p
  | f + 1, p => if kA B n p = k then rnk B n k f (p + 1) else p
def rnx (B : Int → Int) (n k p : Int) : Int := rnk B n k (n - p).toNat p
def tE (B : Int → Int) (n p : Int) : Int := if tK B n p = 0 then tS B n p else if tK B n p = 1 ∨ tK B n p = 2 then rnx B n (tK B n p) (tS B n p) else tS B n p + 1
def vlN (B : Int → Int) (c s : Int) : Nat → Int
  | 0 => 0
  | k + 1 => min c (10 * vlN B c s k + B (s + (k : Int)) - 48)
def vl (B : Int → Int) (c s e : Int) : Int := vlN B c s (e - s).toNat
def tV (B : Int → Int) (n p : Int) : Int := vl B 1000000 (tS B n p) (tE B n p)
theorem kA_lt {B : Int → Int} {n i : Int} (h : kA B n i ≠ 0) : i < n := by
  unfold kA at h; split at h <;> omega
theorem tS_go {B : Int → Int} {n p : Int} (h : p < n) (h2 : B p = 32 ∨ B p = 10) : tS B n (p + 1) = tS B n p := by
  unfold tS
  rw [show (n - p).toNat = (n - (p + 1)).toNat + 1 by omega]
  conv => rhs; unfold skp
  rw [if_pos ⟨h, h2⟩]
theorem tS_no {B : Int → Int} {n p : Int} (h : ¬ (p < n ∧ (B p = 32 ∨ B p = 10))) : tS B n p = p := by
  unfold tS
  cases (n - p).toNat with
  | zero => rfl
  | succ f => unfold skp; rw [if_neg h]
theorem skp_rng {B : Int → Int} {n : Int} : ∀ (f : Nat) (p : Int), p ≤ skp B n f p ∧ (p ≤ n → skp B n f p ≤ n) := by
  intro f
  induction f with
  | zero => intro p; unfold skp; omega
  | succ f ih =>
    intro p; unfold skp
    by_cases h : p < n ∧ (B p = 32 ∨ B p = 10)
    · rw [if_pos h]; have := ih (p + 1); omega
    · rw [if_neg h]; omega
theorem tS_rng {B : Int → Int} {n p : Int} : p ≤ tS B n p ∧ (p ≤ n → tS B n p ≤ n) := skp_rng _ _
theorem rnx_go {B : Int → Int} {n k p : Int} (hk : k ≠ 0) (h : kA B n p = k) : rnx B n k (p + 1) = rnx B n k p := by
  have : p < n := kA_lt (B := B) (i := p) (by omega)
  unfold rnx
  rw [show (n - p).toNat = (n - (p + 1)).toNat + 1 by omega]
  conv => rhs; unfold rnk
  rw [if_pos h]
theorem rnx_no {B : Int → Int} {n k p : Int} (h : kA B n p ≠ k) : rnx B n k p = p := by
  unfold rnx
  cases (n - p).toNat with
  | zero => rfl
  | succ f => unfold rnk; rw [if_neg h]
theorem rnk_rng {B : Int → Int} {n k : Int} : ∀ (f : Nat) (p : Int), p ≤ rnk B n k f p ∧ (k ≠ 0 → p ≤ n → rnk B n k f p ≤ n) := by
  intro f
  induction f with
  | zero => intro p; unfold rnk; omega
  | succ f ih =>
    intro p; unfold rnk
    by_cases h : kA B n p = k
    · rw [if_pos h]; have := ih (p + 1)
      refine ⟨by omega, fun k0 hp => this.2 k0 ?_⟩
      have := kA_lt (B := B) (n := n) (i := p) (by omega); omega
    · rw [if_neg h]; omega
theorem tE_rng {B : Int → Int} {n p : Int} (h : p ≤ n) : tS B n p ≤ tE B n p ∧ tE B n p ≤ n ∧ (tK B n p ≠ 0 → tS B n p < tE B n p) := by
  have s := (tS_rng (B := B) (n := n) (p := p)).2 h
  unfold tE
  by_cases h0 : tK B n p = 0
  · rw [if_pos h0]; omega
  · rw [if_neg h0]
    have hl : tS B n p < n := kA_lt h0
    by_cases h1 : tK B n p = 1 ∨ tK B n p = 2
    · rw [if_pos h1]
      have g := rnx_go (B := B) (n := n) (k := tK B n p) (p := tS B n p) h0 rfl
      have a := rnk_rng (B := B) (n := n) (k := tK B n p) (n - (tS B n p + 1)).toNat (tS B n p + 1)
      have e : rnx B n (tK B n p) (tS B n p + 1) = rnk B n (tK B n p) (n - (tS B n p + 1)).toNat (tS B n p + 1) := rfl
      rw [← e, g] at a
      refine ⟨by omega, a.2 h0 (by omega), fun _ => by omega⟩
    · rw [if_neg h1]; omega
theorem vl_0 {B : Int → Int} {c s : Int} : vl B c s s = 0 := by
  unfold vl; rw [show (s - s).toNat = 0 by omega]; rfl
theorem vl_go {B : Int → Int} {c s e : Int} (h : s ≤ e) : vl B c s (e + 1) = min c (10 * vl B c s e + B e - 48) := by
  unfold vl
  rw [show (e + 1 - s).toNat = (e - s).toNat + 1 by omega]
  conv => lhs; unfold vlN
  rw [show s + ((e - s).toNat : Int) = e by omega]
theorem vlN_rng {B : Int → Int} {c s : Int} (c0 : 0 ≤ c) : ∀ k : Nat, (∀ j : Nat, j < k → 48 ≤ B (s + (j : Int))) → 0 ≤ vlN B c s k ∧ vlN B c s k ≤ c := by
  intro k
  induction k with
  | zero => intro _; unfold vlN; omega
  | succ k ih => intro h; unfold vlN; have := ih (fun j hj => h j (by omega)); have := h k (by omega); omega
theorem vlN_cap {B : Int → Int} {s : Int} : ∀ k : Nat, (∀ j : Nat, j < k → 48 ≤ B (s + (j : Int))) → vlN B 99999 s k = min 99999 (vlN B 1000000 s k) := by
  intro k
  induction k with
  | zero => intro _; unfold vlN; omega
  | succ k ih =>
    intro h; unfold vlN; have a := ih (fun j hj => h j (by omega)); have b := h k (by omega)
    have c := (vlN_rng (B := B) (c := 1000000) (s := s) (by omega) k (fun j hj => h j (by omega))).1
    omega
theorem rnk_in {B : Int → Int} {n k : Int} : ∀ (f : Nat) (p q : Int), p ≤ q → q < rnk B n k f p → kA B n q = k := by
  intro f
  induction f with
  | zero => intro p q h h2; unfold rnk at h2; omega
  | succ f ih =>
    intro p q h h2; unfold rnk at h2
    by_cases z : kA B n p = k
    · rw [if_pos z] at h2
      by_cases e : q = p
      · rw [e]; exact z
      · exact ih (p + 1) q (by omega) h2
    · rw [if_neg z] at h2; omega
theorem kA_2 {B : Int → Int} {n i : Int} (h : kA B n i = 2) : 48 ≤ B i ∧ B i ≤ 57 := by
  unfold kA at h
  split at h
  · omega
  · split at h
    · omega
    · split at h
      · assumption
      · split at h <;> omega
theorem tE_2 {B : Int → Int} {n p q : Int} (h : tK B n p = 2) (h1 : tS B n p ≤ q) (h2 : q < tE B n p) : 48 ≤ B q ∧ B q ≤ 57 := by
  unfold tE at h2
  rw [if_neg (by omega), if_pos (Or.inr h), h] at h2
  exact kA_2 (rnk_in _ _ _ h1 h2)
theorem tV_rng {B : Int → Int} {n p : Int} (h : tK B n p = 2) : 0 ≤ tV B n p ∧ tV B n p ≤ 1000000 := by
  unfold tV vl
  exact vlN_rng (by omega) _ (fun j hj => (tE_2 h (by omega) (by omega)).1)
theorem tV_cap {B : Int → Int} {n p : Int} (h : tK B n p = 2) : vl B 99999 (tS B n p) (tE B n p) = min 99999 (tV B n p) := by
  unfold tV vl
  exact vlN_cap _ (fun j hj => (tE_2 h (by omega) (by omega)).1)
/-! words -/
def eqW (B : Int → Int) : Int → List Int → Bool
  | _, [] => true
  | s, c :: cs => decide (B s = c) && eqW B (s + 1) cs
def LW : Nat → List Int
  | 0 => [97, 104, 101, 97, 100]
  | 1 => [99, 111, 117, 114, 115, 101]
  | 2 => [100, 111, 111, 114]
  | 3 => [101, 120, 97, 109]
  | 4 => [104, 101, 97, 114, 116]
  | 5 => [104, 111, 117, 115, 101]
  | 6 => [108, 101, 115, 115, 111, 110]
  | 7 => [110, 101, 97, 114, 101, 115, 116]
  | 8 => [111, 112, 101, 110]
  | 9 => [111, 119, 110, 101, 114]
  | 10 => [115, 99, 104, 111, 111, 108]
  | 11 => [115, 104, 111, 114, 116, 101, 115, 116]
  | 12 => [115, 104, 117, 116]
  | 13 => [115, 105, 103, 110, 115]
  | 14 => [115, 108, 105, 112, 115]
  | 15 => [116, 97, 107, 101, 115]
  | 16 => [116, 101, 97, 99, 104, 101, 114, 115]
  | 17 => [116, 119, 105, 110]
  | _ => []
theorem eqW_step {B : Int → Int} : ∀ (w : List Int) (k : Nat) (s : Int), k < w.length → eqW B (s + (k : Int)) (w.drop k) = (decide (B (s + (k : Int)) = w.getD k 0) && eqW B (s + ((k + 1 : Nat) : Int)) (w.drop (k + 1))) := by
  intro w
  induction w with
  | nil => intro k s h; exact absurd h (Nat.not_lt_zero _)
  | cons c cs ih =>
    intro k s h
    cases k with
    | zero => simp [eqW]
    | succ k =>
      have := ih k (s + 1) (by simpa using h)
      simp only [List.drop_succ_cons, List.getD_cons_succ]
      rw [show s + ((k + 1 : Nat) : Int) = s + 1 + (k : Int) by omega, show s + ((k + 1 + 1 : Nat) : Int) = s + 1 + ((k + 1 : Nat) : Int) by omega]
      exact this
def wd (B : Int → Int) (n : Int) (i : Nat) (p : Int) : Bool := decide (tK B n p = 1) && decide (tE B n p - tS B n p = ((LW i).length : Int)) && eqW B (tS B n p) (LW i)
/-! what is done to a state: the fault, its place, the place on the tape, the numbers -/
def uPd (w : Int → Int) (i v : Int) : Int → Int := fun j => if j = i then v else w j
def err (B : Int → Int) (n k : Int) (S : PS) : PS := if S.1 = 0 then (k, tS B n S.2.2.1, S.2.2.1, S.2.2.2) else S
def adv (B : Int → Int) (n : Int) (S : PS) : PS := if S.1 = 0 then (S.1, S.2.1, tE B n S.2.2.1, S.2.2.2) else S
def wst (S : PS) (i v : Int) : PS := (S.1, S.2.1, S.2.2.1, uPd S.2.2.2 i v)
def iW (B : Int → Int) (n : Int) (i : Nat) (S : PS) : Int := if S.1 = 0 ∧ wd B n i S.2.2.1 = true then 1 else 0
def pss (B : Int → Int) (n c : Int) (S : PS) : PS := if c = 1 then adv B n S else err B n 1 S
def nH (B : Int → Int) (n lo hi : Int) (S : PS) : PS := if tK B n S.2.2.1 ≠ 2 then err B n 1 S else if tV B n S.2.2.1 < lo ∨ hi < tV B n S.2.2.1 then err B n 2 S else S
def tN (B : Int → Int) (n lo hi : Int) (S : PS) : PS := adv B n (nH B n lo hi S)
def orI (a b : Int) : Int := if a = 1 ∨ b = 1 then 1 else 0
def tW (B : Int → Int) (n : Int) (S : PS) : PS := pss B n (orI (iW B n 4 S) (orI (iW B n 11 S) (iW B n 7 S))) S
def tP (B : Int → Int) (n m : Int) (S : PS) : PS := if (nH B n 0 15 S).1 = 0 ∧ sbI (tV B n S.2.2.1) m ≠ 1 then err B n 2 S else tN B n 0 15 S
def dD (B : Int → Int) (n : Int) (S : PS) : PS := pss B n (orI (iW B n 8 S) (iW B n 12 S)) S
def wyV (B : Int → Int) (n : Int) (S : PS) : Int := if iW B n 4 S = 1 then 0 else if iW B n 11 S = 1 then 1 else 2
def cpI (w : Int → Int) (a : Int) : Int := if (0 < w 2 ∧ w 13 = a) ∨ (1 < w 2 ∧ w 17 = a) ∨ (2 < w 2 ∧ w 21 = a) ∨ (3 < w 2 ∧ w 25 = a) then 1 else 0
def orP (x a : Int) : Int := ((x.toNat ||| 2 ^ a.toNat : Nat) : Int)
/-! a line, as the class reads it -/
def fFirst (B : Int → Int) (n : Int) (S : PS) : PS :=
  let S2 := pss B n (iW B n 13 (pss B n (iW B n 10 S) S)) (pss B n (iW B n 10 S) S)
  let S3 := wst (tN B n 2 4 S2) 0 (tV B n S2.2.2.1)
  let S4 := pss B n (iW B n 16 S3) S3
  wst (tN B n 1 3 S4) 1 (tV B n S4.2.2.1)
def fSaid (B : Int → Int) (n : Int) (i j : Int) (S : PS) : PS :=
  let S4 := tN B n 0 (pI (S.2.2.2 0) - 1) S
  let S5 := dD B n S4
  if S5.1 = 0 then wst (wst (wst S5 i (tV B n S.2.2.1)) (i + 1) (iW B n 8 S4)) j (S5.2.2.2 j + 1) else S5
def fDoor (B : Int → Int) (n : Int) (S : PS) : PS :=
  if 4 ≤ S.2.2.2 2 then err B n 3 S else
  let S1 := adv B n S
  let S2 := tW B n S1
  let S3 := pss B n (iW B n 14 S2) S2
  let S4 := tN B n 0 50 S3
  let k := 10 + 4 * S.2.2.2 2
  if S4.1 = 0 then wst (wst (wst (wst (wst S4 k (wyV B n S1)) (k + 1) (tV B n S3.2.2.1)) (k + 2) 0) (k + 3) (-1)) 2 (S.2.2.2 2 + 1) else S4
def fLesson (B : Int → Int) (n : Int) (S : PS) : PS :=
  let S1 := adv B n S
  let S2 := nH B n 0 (S.2.2.2 2 - 1) S1
  let d := tV B n S1.2.2.1
  if S2.1 ≠ 0 then S2 else
  if 12 ≤ S.2.2.2 (12 + 4 * d) then err B n 3 S2 else fSaid B n (26 + 24 * d + 2 * S.2.2.2 (12 + 4 * d)) (12 + 4 * d) (adv B n S2)
def fExam (B : Int → Int) (n : Int) (S : PS) : PS :=
  if 12 ≤ S.2.2.2 3 then err B n 3 S else fSaid B n (122 + 2 * S.2.2.2 3) 3 (adv B n S)
def tw1 (B : Int → Int) (n : Int) (S1 : PS) : PS :=
  if (nH B n 0 (S1.2.2.2 2 - 1) S1).1 = 0 ∧ (S1.2.2.2 (13 + 4 * tV B n S1.2.2.1) ≠ -1 ∨ cpI S1.2.2.2 (tV B n S1.2.2.1) = 1) then err B n 2 S1 else nH B n 0 (S1.2.2.2 2 - 1) S1
def tw2 (B : Int → Int) (n a : Int) (S3 : PS) : PS :=
  if (nH B n 0 (S3.2.2.2 2 - 1) S3).1 = 0 ∧ (tV B n S3.2.2.1 = a ∨ S3.2.2.2 (13 + 4 * tV B n S3.2.2.1) ≠ -1) then err B n 2 S3 else nH B n 0 (S3.2.2.2 2 - 1) S3
def fTwin (B : Int → Int) (n : Int) (S : PS) : PS :=
  let S1 := adv B n S
  let S2 := tw1 B n S1
  let a := tV B n S1.2.2.1
  if S2.1 ≠ 0 then S2 else
  let S3 := adv B n S2
  let S4 := tw2 B n a S3
  if S4.1 ≠ 0 then S4 else adv B n (wst S4 (13 + 4 * a) (tV B n S3.2.2.1))
def fRule (B : Int → Int) (n i : Int) (S : PS) : PS :=
  let S2 := tN B n 0 (pI (S.2.2.2 0) - 1) S
  let m := tV B n S.2.2.1
  let S3 := tP B n m S2
  if S3.1 = 0 then wst (wst S3 i m) (i + 1) (tV B n S2.2.2.1) else S3
def fOwner (B : Int → Int) (n : Int) (S : PS) : PS := fRule B n 8 (adv B n S)
def fHouse (B : Int → Int) (n : Int) (S : PS) : PS :=
  if 4 ≤ S.2.2.2 4 then err B n 3 S else
  let S3 := fRule B n (146 + 2 * S.2.2.2 4) (adv B n S)
  if S3.1 = 0 then wst S3 4 (S.2.2.2 4 + 1) else S3
def fCourse (B : Int → Int) (n : Int) (S : PS) : PS :=
  if 6 ≤ S.2.2.2 5 then err B n 3 S else
  let S1 := adv B n S
  let S2 := pss B n (iW B n 15 S1) S1
  let S3 := tN B n 1 9 S2
  if S3.1 = 0 then wst (wst S3 (154 + 2 * S.2.2.2 5) (tV B n S2.2.2.1)) 5 (S.2.2.2 5 + 1) else S3
def fAhead (B : Int → Int) (n : Int) (S : PS) : PS :=
  let S1 := adv B n S
  let S2 := tN B n 0 (S.2.2.2 5 - 1) S1
  let a := tV B n S1.2.2.1
  let S3 := tN B n (a + 1) (S.2.2.2 5 - 1) S2
  let b := tV B n S2.2.2.1
  if S3.1 = 0 then wst S3 (155 + 2 * b) (orP (S.2.2.2 (155 + 2 * b)) a) else S3
def fNext (B : Int → Int) (n : Int) (S : PS) : PS :=
  if iW B n 2 S = 1 then fDoor B n S else
  if iW B n 6 S = 1 then fLesson B n S else
  if iW B n 3 S = 1 then fExam B n S else
  if iW B n 17 S = 1 then fTwin B n S else
  if iW B n 9 S = 1 then fOwner B n S else
  if iW B n 5 S = 1 then fHouse B n S else
  if iW B n 1 S = 1 then fCourse B n S else
  if iW B n 0 S = 1 then fAhead B n S else err B n 1 S
def fLine (B : Int → Int) (n : Int) (S : PS) : PS :=
  let S1 := if S.2.2.2 7 = 0 then fFirst B n S else fNext B n S
  let S2 := pss B n (if tK B n S1.2.2.1 = 3 then 1 else 0) S1
  wst S2 7 (S.2.2.2 7 + 1)
def fRead (B : Int → Int) (n : Int) : Nat → PS → PS
  | 0, S => S
  | f + 1, S => if S.1 = 0 ∧ tK B n S.2.2.1 ≠ 0 then fRead B n f (fLine B n S) else S
def S00 : PS := (0, -1, 0, fun _ => 0)
end PUR
