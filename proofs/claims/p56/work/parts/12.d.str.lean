/-! LITERALS: the library's methods on them -/
theorem retB {F : MR} {x : Int32} {h : AH} (hm : mret F = some .byte) (hx : (x.toInt8.toInt32 == x) = true) : doRet F .ireturn [.int x] h = some (some (.int x), h) := by
  unfold doRet
  dsimp only
  rw [hm]
  exact oC_mk hx rfl
theorem retC {F : MR} {x : Int32} {h : AH} (hm : mret F = some .char) (hx : ((x.toUInt32 % 65536).toInt32 == x) = true) : doRet F .ireturn [.int x] h = some (some (.int x), h) := by
  unfold doRet
  dsimp only
  rw [hm]
  exact oC_mk hx rfl
section ENS
variable {fr lo : Nat} {scr : AS} {F : MR} {P : PO} {pc pc' len tgt : Nat} {i : Instr} {lv lv' : ALv} {st st' r : List Value} {σ σ0 : SG} {W : List (Nat × Nat)} {pos : Nat × Nat}
theorem En_X (hf : fc F pc = some (i, len, tgt)) (hk : ikind i = 0) (hp : stpP F scr i tgt pc lv st (HP σ) = none) (hs : stpX F i pc lv st = some (pc', lv', st')) (k : En fr lo scr F P pc' lv' st' σ) : En fr lo scr F P pc lv st σ := by
  obtain ⟨v, σ', g, p⟩ := k
  exact ⟨v, σ', Go_X hf hk hp hs g, p⟩
theorem En_ldcS {i z : Nat} (hf : fc F pc = some (.ldc z, len, tgt)) (hn : fnd (mki F) z = none) (hq : fnd (mks F) z = some (0, i, pos)) (k : En fr lo scr F P (pc + 2) lv (.retAddr (2 * i + 1) :: st) σ) : En fr lo scr F P pc lv st σ := by
  refine En_X hf rfl (pc' := pc + 2) (lv' := lv) (st' := .retAddr (2 * i + 1) :: st) ?_ ?_ k
  · show oB (fnd (mki F) z) _ = _
    rw [hn]; rfl
  · show oB (fnd (mks F) z) _ = _
    exact oB_mk hq rfl
theorem En_sval {i z n : Nat} (hf : fc F pc = some (.getfield z, len, tgt)) (hq : fnd (mks F) z = some (1, n, pos)) (hi : i < NSTR) (k : En fr lo scr F P (pc + 3) lv (.retAddr (2 * i + 2) :: r) σ) : En fr lo scr F P pc lv (.retAddr (2 * i + 1) :: r) σ := by
  have e : (2 * i + 1) / 2 = i := by omega
  refine En_X hf rfl rfl (pc' := pc + 3) (lv' := lv) (st' := .retAddr (2 * i + 2) :: r) ?_ k
  show oB (fnd (mks F) z) _ = _
  refine oB_mk hq (oC_mk (by rw [e, Bool.and_eq_true, beq_iff_eq, decide_eq_true_eq]; exact ⟨by omega, hi⟩) ?_)
  rw [e]; rfl
theorem En_scod {i z n : Nat} (hf : fc F pc = some (.getfield z, len, tgt)) (hq : fnd (mks F) z = some (2, n, pos)) (hi : i < NSTR) (k : En fr lo scr F P (pc + 3) lv (.int 0 :: r) σ) : En fr lo scr F P pc lv (.retAddr (2 * i + 1) :: r) σ := by
  have e : (2 * i + 1) / 2 = i := by omega
  refine En_X hf rfl rfl (pc' := pc + 3) (lv' := lv) (st' := .int 0 :: r) ?_ k
  show oB (fnd (mks F) z) _ = _
  refine oB_mk hq (oC_mk (by rw [e, Bool.and_eq_true, beq_iff_eq, decide_eq_true_eq]; exact ⟨by omega, hi⟩) rfl)
theorem En_gstC {z n : Nat} (hf : fc F pc = some (.getstatic z, len, tgt)) (hq : fnd (mks F) z = some (3, n, pos)) (k : En fr lo scr F P (pc + 3) lv (.int 1 :: st) σ) : En fr lo scr F P pc lv st σ := by
  refine En_X hf rfl rfl (pc' := pc + 3) (lv' := lv) (st' := .int 1 :: st) ?_ k
  show oB (fnd (mks F) z) _ = _
  exact oB_mk hq rfl
theorem En_gstF {z n : Nat} (hf : fc F pc = some (.getstatic z, len, tgt)) (hq : fnd (mks F) z = some (4, n, pos)) (k : En fr lo scr F P (pc + 3) lv (.float 0 :: st) σ) : En fr lo scr F P pc lv st σ := by
  refine En_X hf rfl rfl (pc' := pc + 3) (lv' := lv) (st' := .float 0 :: st) ?_ k
  show oB (fnd (mks F) z) _ = _
  exact oB_mk hq rfl
theorem En_sarl {i n : Nat} (hf : fc F pc = some (.arraylength, len, tgt)) (hi : i < NSTR) (hn : LENS.getD i 0 = n) (k : En fr lo scr F P (pc + 1) lv (.int (Int32.ofNat n) :: r) σ) : En fr lo scr F P pc lv (.retAddr (2 * i + 2) :: r) σ := by
  have e : (2 * i + 2) / 2 - 1 = i := by omega
  refine En_X hf rfl rfl (pc' := pc + 1) (lv' := lv) (st' := .int (Int32.ofNat n) :: r) ?_ k
  show oC _ _ = _
  rw [e, hn]
  exact oC_mk (by simp only [Bool.and_eq_true, beq_iff_eq, decide_eq_true_eq]; exact ⟨⟨by omega, by omega⟩, hi⟩) rfl
theorem En_sbal {i n : Nat} {j : Int32} {J : Int} {y : Int32} (hf : fc F pc = some (.baload, len, tgt)) (hi : i < NSTR) (hn : LENS.getD i 0 = n) (hJ : j.toInt = J) (h0 : 0 ≤ J) (h1 : J < (n : Int)) (hy : (BYT.getD i []).getD J.toNat 0 = y) (k : En fr lo scr F P (pc + 1) lv (.int y :: r) σ) : En fr lo scr F P pc lv (.int j :: .retAddr (2 * i + 2) :: r) σ := by
  have e : (2 * i + 2) / 2 - 1 = i := by omega
  refine En_X hf rfl rfl (pc' := pc + 1) (lv' := lv) (st' := .int y :: r) ?_ k
  show oC _ _ = _
  rw [e, hn, toNat32 hJ, hy]
  exact oC_mk (by simp only [Bool.and_eq_true, beq_iff_eq, decide_eq_true_eq]; exact ⟨⟨⟨⟨by omega, by omega⟩, hi⟩, nonneg32 hJ h0⟩, by omega⟩) rfl
theorem En_call6 {id i : Nat} {G : MR} {Q : PO} {vs : List Value} {fr1 lo1 z : Nat} (hf : fc F pc = some (.invokevirtual z, len, tgt)) (he : fnd (mcl F) z = some (6, id, pos)) (hG : MT id = some G) (hvs : (st.take (mnp G + 1)).reverse = .retAddr (2 * i + 1) :: vs) (hr : st.drop (mnp G + 1) = r) (hi : i < NSTR)
    (hb : (decide (mnp G + 1 ≤ st.length) && decide (1 ≤ fr) && decide (mml G + 19 ≤ lo) && decide (cats r ≤ 8) && decide (cats (st.take (mnp G + 1)) ≤ mml G)) = true) (gc : En fr1 lo1 none G Q 0 (lv_args 0 (.retAddr (2 * i + 1) :: vs)) [] σ) (h1 : fr1 ≤ fr - 1) (h2 : lo1 ≤ lo - (mml G + 19))
    (k : ∀ v σ', Q v σ' → En fr lo scr F P (pc + 3) lv (v.toList ++ r) σ') : En fr lo scr F P pc lv st σ := by
  obtain ⟨v, σ1, g1, q⟩ := gc
  obtain ⟨w, σ2, g2, p⟩ := k v σ1 q
  have en : nArg 6 G = mnp G + 1 := rfl
  refine ⟨w, σ2, Go_call hf rfl he rfl (by omega) hG (by rw [en]; exact hvs) (by rw [en]; exact hr) ?_ (Go_room g1 h1 h2) g2, p⟩
  rw [en]
  simp only [Bool.and_eq_true, decide_eq_true_eq] at hb ⊢
  refine ⟨hb, ?_⟩
  have e : (2 * i + 1) / 2 = i := by omega
  show ((2 * i + 1) % 2 == 1 && decide ((2 * i + 1) / 2 < NSTR)) = true
  rw [e, Bool.and_eq_true, beq_iff_eq, decide_eq_true_eq]
  exact ⟨by omega, hi⟩
end ENS
/-- an answer, nothing changed -/
abbrev PSt (x : Int32) (σ : SG) : PO := fun v σ' => v = some (.int x) ∧ σ' = σ
theorem s_coder (σ : SG) (i : Nat) (hi : i < NSTR) : En 0 0 none mr_2 (PSt 0 σ) 0 [(0, .retAddr (2 * i + 1))] [] σ := by
  refine En_gstC rfl rfl ?_
  refine En_iEq _ (by decide : (1 : Int32).toInt = 1) rfl (fun h => by exfalso; omega) (fun _ => ?_)
  refine En_Ps 1 (pc' := 7) (lv' := [(0, .retAddr (2 * i + 1))]) (st' := [.retAddr (2 * i + 1)]) rfl ?_
  refine En_scod rfl rfl hi ?_
  refine En_Ps 1 (pc' := 14) (lv' := [(0, .retAddr (2 * i + 1))]) (st' := [.int 0]) rfl ?_
  exact En_ret (v := some (.int 0)) rfl rfl (retB rfl (by decide)) ⟨rfl, rfl⟩
theorem s_latin (σ : SG) (i : Nat) (hi : i < NSTR) : En 0 0 none mr_3 (PSt 1 σ) 0 [(0, .retAddr (2 * i + 1))] [] σ := by
  refine En_gstC rfl rfl ?_
  refine En_iEq _ (by decide : (1 : Int32).toInt = 1) rfl (fun h => by exfalso; omega) (fun _ => ?_)
  refine En_Ps 1 (pc' := 7) (lv' := [(0, .retAddr (2 * i + 1))]) (st' := [.retAddr (2 * i + 1)]) rfl ?_
  refine En_scod rfl rfl hi ?_
  refine En_iNe _ (by decide : (0 : Int32).toInt = 0) rfl (fun h => by exfalso; omega) (fun _ => ?_)
  refine En_Ps 2 (pc' := 18) (lv' := [(0, .retAddr (2 * i + 1))]) (st' := [.int (Int32.ofInt 1)]) rfl ?_
  exact En_ret (v := some (.int 1)) rfl rfl (retZ rfl (by decide : (Int32.ofInt 1).toInt = 1) (by omega) (by omega)) ⟨rfl, rfl⟩
theorem shr_len : ∀ i, i < NSTR → (Int32.ofNat (LENS.getD i 0)) >>> ((0 : Int32) &&& 31) = Int32.ofNat (LENS.getD i 0) := by decide
theorem s_length (σ : SG) (i : Nat) (hi : i < NSTR) : En 1 20 none mr_4 (PSt (Int32.ofNat (LENS.getD i 0)) σ) 0 [(0, .retAddr (2 * i + 1))] [] σ := by
  refine En_Ps 1 (pc' := 1) (lv' := [(0, .retAddr (2 * i + 1))]) (st' := [.retAddr (2 * i + 1)]) rfl ?_
  refine En_sval rfl rfl hi ?_
  refine En_sarl rfl hi rfl ?_
  refine En_Ps 1 (pc' := 6) (lv' := [(0, .retAddr (2 * i + 1))]) (st' := [.retAddr (2 * i + 1), .int (Int32.ofNat (LENS.getD i 0))]) rfl ?_
  refine En_call6 (r := [.int (Int32.ofNat (LENS.getD i 0))]) rfl rfl rfl rfl rfl hi rfl (s_coder σ i hi) (by decide) (by decide) (fun v σ' h => ?_)
  obtain ⟨rfl, rfl⟩ := h
  refine En_Ps 1 (pc' := 10) (lv' := [(0, .retAddr (2 * i + 1))]) (st' := [.int ((Int32.ofNat (LENS.getD i 0)) >>> ((0 : Int32) &&& 31))]) rfl ?_
  rw [shr_len i hi]
  exact En_ret (v := some (.int (Int32.ofNat (LENS.getD i 0)))) rfl rfl rfl ⟨rfl, rfl⟩
theorem s_pchk (σ : SG) (j n : Int32) (v : Value) (h0 : 0 ≤ j.toInt) (h1 : j.toInt < n.toInt) : En 0 0 none mr_6 (PSt j σ) 0 [(0, .int j), (1, .int n), (2, v)] [] σ := by
  refine En_Ps 1 (pc' := 1) (lv' := [(0, .int j), (1, .int n), (2, v)]) (st' := [.int j]) rfl ?_
  refine En_iLt _ rfl rfl (fun h => by exfalso; omega) (fun _ => ?_)
  refine En_Ps 2 (pc' := 6) (lv' := [(0, .int j), (1, .int n), (2, v)]) (st' := [.int n, .int j]) rfl ?_
  refine En_icLt _ rfl rfl rfl (fun _ => ?_) (fun h => by exfalso; omega)
  refine En_Ps 1 (pc' := 17) (lv' := [(0, .int j), (1, .int n), (2, v)]) (st' := [.int j]) rfl ?_
  exact En_ret (v := some (.int j)) rfl rfl rfl ⟨rfl, rfl⟩
theorem s_chk (σ : SG) (j n : Int32) (h0 : 0 ≤ j.toInt) (h1 : j.toInt < n.toInt) : En 1 22 none mr_1 (fun v σ' => v = none ∧ σ' = σ) 0 [(0, .int j), (1, .int n)] [] σ := by
  refine En_Ps 2 (pc' := 2) (lv' := [(0, .int j), (1, .int n)]) (st' := [.int n, .int j]) rfl ?_
  refine En_gstF rfl rfl ?_
  refine En_callS rfl rfl rfl rfl rfl rfl rfl rfl rfl (s_pchk σ j n (.float 0) h0 h1) (by decide) (by decide) (fun v σ' h => ?_)
  obtain ⟨rfl, rfl⟩ := h
  refine En_Ps 1 (pc' := 9) (lv' := [(0, .int j), (1, .int n)]) (st' := []) rfl ?_
  exact En_ret (v := none) rfl rfl rfl ⟨rfl, rfl⟩
/-- the bytes: small letters -/
theorem byt_ok : ∀ i, i < NSTR → ∀ k, k < LENS.getD i 0 → ((((((BYT.getD i []).getD k 0) &&& ((Int16.ofInt 255).toInt32)).toUInt32 % 65536).toInt32 = (BYT.getD i []).getD k 0) ∧ (97 ≤ ((BYT.getD i []).getD k 0).toInt ∧ ((BYT.getD i []).getD k 0).toInt ≤ 122)) ∧ ((((BYT.getD i []).getD k 0).toUInt32 % 65536).toInt32 == (BYT.getD i []).getD k 0) = true := by decide +kernel
theorem len_ok : ∀ i, i < NSTR → (Int32.ofNat (LENS.getD i 0)).toInt = (LENS.getD i 0 : Int) := by decide +kernel
theorem s_lchar (σ : SG) (i : Nat) (j : Int32) (hi : i < NSTR) (h0 : 0 ≤ j.toInt) (h1 : j.toInt < (LENS.getD i 0 : Int)) : En 2 43 none mr_5 (PSt ((BYT.getD i []).getD j.toInt.toNat 0) σ) 0 [(0, .retAddr (2 * i + 2)), (1, .int j)] [] σ := by
  obtain ⟨⟨b1, -⟩, b3⟩ := byt_ok i hi j.toInt.toNat (by omega)
  refine En_Ps 2 (pc' := 2) (lv' := [(0, .retAddr (2 * i + 2)), (1, .int j)]) (st' := [.retAddr (2 * i + 2), .int j]) rfl ?_
  refine En_sarl rfl hi rfl ?_
  refine En_callS (r := []) rfl rfl rfl rfl rfl rfl rfl rfl rfl (s_chk σ j (Int32.ofNat (LENS.getD i 0)) h0 (by rw [len_ok i hi]; exact h1)) (by decide) (by decide) (fun v σ' h => ?_)
  obtain ⟨rfl, rfl⟩ := h
  refine En_Ps 2 (pc' := 8) (lv' := [(0, .retAddr (2 * i + 2)), (1, .int j)]) (st' := [.int j, .retAddr (2 * i + 2)]) rfl ?_
  refine En_sbal rfl hi rfl rfl h0 h1 rfl ?_
  refine En_Ps 2 (pc' := 13) (lv' := [(0, .retAddr (2 * i + 2)), (1, .int j)]) (st' := [.int (((BYT.getD i []).getD j.toInt.toNat 0) &&& ((Int16.ofInt 255).toInt32))]) rfl ?_
  refine En_X rfl rfl rfl (pc' := 14) (lv' := [(0, .retAddr (2 * i + 2)), (1, .int j)]) (st' := [.int ((((BYT.getD i []).getD j.toInt.toNat 0) &&& ((Int16.ofInt 255).toInt32)).toUInt32 % 65536).toInt32]) rfl ?_
  rw [b1]
  exact En_ret (v := some (.int ((BYT.getD i []).getD j.toInt.toNat 0))) rfl rfl (retC rfl b3) ⟨rfl, rfl⟩
theorem s_char (σ : SG) (i : Nat) (j : Int32) (hi : i < NSTR) (h0 : 0 ≤ j.toInt) (h1 : j.toInt < (LENS.getD i 0 : Int)) : En 3 64 none mr_0 (PSt ((BYT.getD i []).getD j.toInt.toNat 0) σ) 0 [(0, .retAddr (2 * i + 1)), (1, .int j)] [] σ := by
  obtain ⟨⟨b1, -⟩, b3⟩ := byt_ok i hi j.toInt.toNat (by omega)
  refine En_Ps 1 (pc' := 1) (lv' := [(0, .retAddr (2 * i + 1)), (1, .int j)]) (st' := [.retAddr (2 * i + 1)]) rfl ?_
  refine En_call6 (r := []) rfl rfl rfl rfl rfl hi rfl (s_latin σ i hi) (by decide) (by decide) (fun v σ' h => ?_)
  obtain ⟨rfl, rfl⟩ := h
  refine En_iEq _ (by decide : (1 : Int32).toInt = 1) rfl (fun h => by exfalso; omega) (fun _ => ?_)
  refine En_Ps 1 (pc' := 8) (lv' := [(0, .retAddr (2 * i + 1)), (1, .int j)]) (st' := [.retAddr (2 * i + 1)]) rfl ?_
  refine En_sval rfl rfl hi ?_
  refine En_Ps 1 (pc' := 12) (lv' := [(0, .retAddr (2 * i + 1)), (1, .int j)]) (st' := [.int j, .retAddr (2 * i + 2)]) rfl ?_
  refine En_callS (r := []) rfl rfl rfl rfl rfl rfl rfl rfl rfl (s_lchar σ' i j hi h0 h1) (by decide) (by decide) (fun v σ' h => ?_)
  obtain ⟨rfl, rfl⟩ := h
  exact En_ret (v := some (.int ((BYT.getD i []).getD j.toInt.toNat 0))) rfl rfl (retC rfl b3) ⟨rfl, rfl⟩
section ENT
variable {fr lo : Nat} {scr : AS} {F : MR} {P : PO} {pc pc' len tgt : Nat} {lv lv' : ALv} {st st' r : List Value} {σ : SG} {pos : Nat × Nat}
theorem En_slen (i n : Nat) {z : Nat} (hf : fc F pc = some (.invokevirtual z, len, tgt)) (he : fnd (mcl F) z = some (6, 4, pos)) (hn : (decide (i < NSTR) && decide (LENS.getD i 0 = n)) = true) (hb : (decide (2 ≤ fr) && decide (41 ≤ lo) && decide (cats r ≤ 8)) = true) (k : En fr lo scr F P (pc + 3) lv (.int (Int32.ofNat n) :: r) σ) : En fr lo scr F P pc lv (.retAddr (2 * i + 1) :: r) σ := by
  simp only [Bool.and_eq_true, decide_eq_true_eq] at hn hb
  obtain ⟨hi, rfl⟩ := hn
  have m1 : mml mr_4 = 1 := rfl
  refine En_call6 (G := mr_4) (vs := []) (r := r) hf he rfl rfl rfl hi ?_ (s_length σ i hi) (by omega) (by rw [m1]; omega) (fun v σ' h => ?_)
  · rw [m1]
    simp only [Bool.and_eq_true, decide_eq_true_eq]
    exact ⟨⟨⟨⟨Nat.le_add_left _ _, by omega⟩, by omega⟩, hb.2⟩, Nat.le_refl _⟩
  · obtain ⟨rfl, rfl⟩ := h
    exact k
end ENT
