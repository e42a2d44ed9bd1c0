/-! the law, case by case -/
theorem Go_sld {MT : Nat → Option MR} {fr lo L k pc len tgt : Nat} {xs : Nat → Int32} {F : MR} {lv : ALv} {r : List Value} {h : AH} {j : Int32} {x : Option Value × AH} (hf : fnd (mcode F) pc = some (.iaload, len, tgt)) (hj : (decide (¬ (j < 0 ∨ L ≤ j.toNatClampNeg))) = true) (g : Go MT fr lo (some (L, xs)) F (pc + 1) lv (.int (xs j.toNatClampNeg) :: r) h x) : Go MT fr lo (some (L, xs)) F pc lv (.int j :: .retAddr k :: r) h x := by
  refine Go_Ps 1 ?_ g
  refine oB_mk hf (oC_mk rfl (oB_mk (a := (pc + 1, lv, .int (xs j.toNatClampNeg) :: r)) ?_ rfl))
  show oB (ldR (some (L, xs)) 1 0 0 (.int j :: .retAddr k :: r) h) _ = _
  refine oB_mk (a := (.int (xs j.toNatClampNeg), r)) ?_ rfl
  unfold ldR
  exact oB_mk rfl (oC_mk hj rfl)
theorem law_head {L : Nat} (hL : L = 6) {xs : Nat → Int32} {x : Option Value × AH} (g : Go MT 2048 84000 (some (L, xs)) mr_327 33 [(3, .int (Int32.ofInt 0)), (2, .ref 159), (1, .ref 0), (0, .retAddr 0)] [.int ((xs (Int32.ofInt 0).toNatClampNeg) &&& ((Int8.ofInt 63).toInt32))] h0 x) : Go MT 2048 84000 (some (L, xs)) mr_327 18 [(3, .int (Int32.ofInt 0)), (2, .ref 159), (1, .ref 0), (0, .retAddr 0)] [] h0 x := by
  refine Go_Ps 5 (pc' := 24) (lv' := [(3, .int (Int32.ofInt 0)), (2, .ref 159), (1, .ref 0), (0, .retAddr 0)]) (st' := [.int ((Int32.ofNat L) - ((Int8.ofInt 6).toInt32)), .int (Int32.ofInt 0)]) rfl ?_
  refine Go_brF rfl rfl rfl (by subst hL; decide) ?_
  refine Go_Ps 2 (pc' := 29) (lv' := [(3, .int (Int32.ofInt 0)), (2, .ref 159), (1, .ref 0), (0, .retAddr 0)]) (st' := [.int (Int32.ofInt 0), .retAddr 0]) rfl ?_
  refine Go_sld rfl (by subst hL; decide +kernel) ?_
  refine Go_Ps 2 (pc' := 33) (lv' := [(3, .int (Int32.ofInt 0)), (2, .ref 159), (1, .ref 0), (0, .retAddr 0)]) (st' := [.int ((xs (Int32.ofInt 0).toNatClampNeg) &&& ((Int8.ofInt 63).toInt32))]) rfl ?_
  exact g
