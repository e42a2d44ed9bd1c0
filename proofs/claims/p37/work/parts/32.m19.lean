/-- DoorSchoolModel.trickOf(II)I -/
abbrev P_327x (σ0 : SG) (a : Int32) (b : Int32) (s : Int32) (sc : Int32) : PO := fun v σ => WT σ ∧ Fr [(35, 18), (35, 21), (42, 0), (43, 0), (44, 0), (45, 0), (46, 0)] σ0 σ ∧ ∃ ret : Int32, v = some (.int ret) ∧ -ret.toInt - 1 ≤ 0 ∧ ret.toInt - 15 ≤ 0 ∧ ret.toInt = tkM (wf σ0) a.toInt b.toInt
set_option maxRecDepth 10000 in
set_option maxHeartbeats 4000000 in
theorem c_327x (σ0 : SG) (hσ0 : WT σ0) (a : Int32) (b : Int32) (hl_a : 0 ≤ a.toInt) (hu_a : a.toInt ≤ 3) (hl_b : 0 ≤ b.toInt) (hu_b : b.toInt ≤ 15) (s : Int32) (h_s : (σ0 160)[(0 : Int).toNat]? = some (.int s)) (sc : Int32) (h_sc : (σ0 160)[(7 : Int).toNat]? = some (.int sc)) (hp0 : -sc.toInt + 1 ≤ 0) : En 5 112 none mr_327 (P_327x σ0 a b s sc) 0 [(0, .ref 159), (1, .int a), (2, .int b)] [] σ0 := by
  obtain ⟨hl_s, hu_s⟩ := WT_int hσ0 (g := 36) (by decide +kernel) (by decide +kernel) (l := 0) (u := 4) (by decide +kernel) h_s
  obtain ⟨hl_sc, hu_sc⟩ := WT_int hσ0 (g := 36) (by decide +kernel) (by decide +kernel) (l := 0) (u := 1600) (by decide +kernel) h_sc
  have hF0 : Fr [(35, 18), (35, 21), (42, 0), (43, 0), (44, 0), (45, 0), (46, 0)] σ0 σ0 := Fr_rfl
  have kv := (kI_val sc.toInt s.toInt).2 (by omega)
  have := pI_rng (s := s.toInt) (by omega) (by omega)
  have w0 : wf σ0 0 = s.toInt := ci_at h_s rfl
  have : pI (wf σ0 0) = pI s.toInt := by rw [w0]
  refine En_Ps 2 (pc' := 2) (lv' := [(0, .ref 159), (1, .int a), (2, .int b)]) (st' := [.int a, .ref 159]) rfl ?_
  refine En_callV rfl rfl rfl rfl rfl rfl rfl rfl (by decide +kernel : TG 159 = 35) (by decide +kernel) rfl (c_213x σ0 hσ0 a (geI rfl (by omega)) (leI rfl (by omega)) s h_s sc h_sc (by omega)) (by decide) (by decide) (fun v2 σ3 h1 => ?_)
  obtain ⟨h4, h5, z7, h8, z9, rfl, h6⟩ := h1
  have h10 := h6.2.2.2.2.2.2.2.2.1
  have h11 := Fr_trans hF0 h5 (by decide +kernel)
  refine En_Ps 5 (pc' := 12) (lv' := [(5, .int ((Int32.ofInt 0))), (4, .int ((Int32.ofInt (-1)))), (3, .int z9), (0, .ref 159), (1, .int a), (2, .int b)]) (st' := []) rfl ?_
  have key12 : ∀ (n12 : Nat) (y12 : Int32) (y13 : Int32), (-1) ≤ y12.toInt → y12.toInt ≤ 15 → 0 ≤ y13.toInt → y13.toInt ≤ 16 → y12.toInt - y13.toInt + 1 ≤ 0 → -y13.toInt + 16 < (n12 : Int) → y12.toInt = TRK z9.toInt b.toInt (y13.toInt).toNat → y13.toInt ≤ pI (wf σ0 0) → En 5 112 none mr_327 (P_327x σ0 a b s sc) 12 [(0, .ref 159), (1, .int a), (2, .int b), (3, .int z9), (4, .int y12), (5, .int y13)] [] σ3 := by
    intro n12
    induction n12 with
    | zero =>
      intro y12 y13 h17 h18 h19 h20 h21 h22 h23 h24
      exfalso; omega
    | succ n12 ih12 =>
      intro y12 y13 h17 h18 h19 h20 h21 h22 h23 h24
      refine En_Ps 2 (pc' := 15) (lv' := [(0, .ref 159), (1, .int a), (2, .int b), (3, .int z9), (4, .int y12), (5, .int y13)]) (st' := [.ref 159, .int y13]) rfl ?_
      refine En_callV rfl rfl rfl rfl rfl rfl rfl rfl (by decide +kernel : TG 159 = 35) (by decide +kernel) rfl (c_269 σ3 h4 s ((h5 _ _ (inWa (by decide +kernel : TG 160 = 36) (by decide +kernel))).trans h_s) sc ((h5 _ _ (inWa (by decide +kernel : TG 160 = 36) (by decide +kernel))).trans h_sc)) (by decide) (by decide) (fun v26 σ27 h25 => ?_)
      obtain ⟨h28, h29, z31, rfl, h30⟩ := h25
      have h32 := h30.2.2
      obtain rfl : σ3 = σ27 := Fr_nil h29
      have h33 := h32
      refine En_icGe _ rfl rfl rfl (fun h34 => ?_) (fun h34 => ?_)
      · refine En_Ps 1 (pc' := 66) (lv' := [(0, .ref 159), (1, .int a), (2, .int b), (3, .int z9), (4, .int y12), (5, .int y13)]) (st' := [.int y12]) rfl ?_
        exact En_ret (v := some (.int y12)) rfl rfl rfl ⟨h4, h11, y12, rfl, ⟨by omega, by omega, tkM_of h10 (i := y13.toInt) (by omega) h23⟩⟩
      · refine En_Ps 2 (pc' := 24) (lv' := [(0, .ref 159), (1, .int a), (2, .int b), (3, .int z9), (4, .int y12), (5, .int y13)]) (st' := [.int y13, .int z9]) rfl ?_
        refine En_callS rfl rfl rfl rfl rfl rfl rfl rfl rfl (c_202ax σ3 h4 z9 y13 (geI rfl (by omega)) (leI rfl (by omega)) (geI rfl (by omega)) (leI rfl (by omega))) (by decide) (by decide) (fun v36 σ37 h35 => ?_)
        obtain ⟨h38, h39, z41, rfl, h40⟩ := h35
        have h42 := h40.2.2
        obtain rfl : σ3 = σ37 := Fr_nil h39
        refine En_Ps 1 (pc' := 28) (lv' := [(0, .ref 159), (1, .int a), (2, .int b), (3, .int z9), (4, .int y12), (5, .int y13)]) (st' := [.int ((Int32.ofInt 1)), .int z41]) rfl ?_
        refine En_icNe _ rfl (by decide : (Int32.ofInt 1).toInt = 1) rfl (fun h43 => ?_) (fun h43 => ?_)
        · refine En_Ps 1 (pc' := 61) (lv' := [(5, .int ((y13 + Int32.ofInt 1))), (0, .ref 159), (1, .int a), (2, .int b), (3, .int z9), (4, .int y12)]) (st' := []) rfl ?_
          refine En_lv1 (addI rfl (by decide : (Int32.ofInt 1).toInt = 1) (by omega) (by omega)) (fun z44 h45 => ?_)
          refine En_Ps 1 (pc' := 12) (lv' := [(5, .int z44), (0, .ref 159), (1, .int a), (2, .int b), (3, .int z9), (4, .int y12)]) (st' := []) rfl ?_
          refine En_lv (lv := [(0, .ref 159), (1, .int a), (2, .int b), (3, .int z9), (4, .int y12), (5, .int z44)]) ⟨rfl, rfl, rfl, rfl, rfl, rfl, trivial⟩ ?_
          exact ih12 y12 z44 (by omega) (by omega) (by omega) (by omega) (by omega) (by omega) ((by first | exact TRM_0 h23 (by omega) h42 (by omega) (by omega) (by omega) | exact TRM_1 h23 (by omega) h42 (by omega) (by omega) (by omega) (by omega))) ((by omega))
        · refine En_Ps 2 (pc' := 34) (lv' := [(0, .ref 159), (1, .int a), (2, .int b), (3, .int z9), (4, .int y12), (5, .int y13)]) (st' := [.int ((Int32.ofInt (-1))), .int y12]) rfl ?_
          refine En_icEq _ rfl (by decide : (Int32.ofInt (-1)).toInt = -1) rfl (fun h46 => ?_) (fun h46 => ?_)
          · refine En_Ps 3 (pc' := 61) (lv' := [(5, .int ((y13 + Int32.ofInt 1))), (4, .int y13), (0, .ref 159), (1, .int a), (2, .int b), (3, .int z9)]) (st' := []) rfl ?_
            refine En_lv1 (addI rfl (by decide : (Int32.ofInt 1).toInt = 1) (by omega) (by omega)) (fun z47 h48 => ?_)
            refine En_Ps 1 (pc' := 12) (lv' := [(5, .int z47), (4, .int y13), (0, .ref 159), (1, .int a), (2, .int b), (3, .int z9)]) (st' := []) rfl ?_
            refine En_lv (lv := [(0, .ref 159), (1, .int a), (2, .int b), (3, .int z9), (4, .int y13), (5, .int z47)]) ⟨rfl, rfl, rfl, rfl, rfl, rfl, trivial⟩ ?_
            exact ih12 y13 z47 (by omega) (by omega) (by omega) (by omega) (by omega) (by omega) ((by first | exact TRM_0 h23 (by omega) h42 (by omega) (by omega) (by omega) | exact TRM_1 h23 (by omega) h42 (by omega) (by omega) (by omega) (by omega))) ((by omega))
          · refine En_Ps 3 (pc' := 41) (lv' := [(0, .ref 159), (1, .int a), (2, .int b), (3, .int z9), (4, .int y12), (5, .int y13)]) (st' := [.int ((y13 ^^^ b))]) rfl ?_
            refine En_nam (fun z49 h50 => ?_)
            have h51 : z49.toInt = xN y13.toInt b.toInt := xor_v h50 rfl rfl (by omega) (by omega)
            have := xN_lt (X := y13.toInt) (Y := b.toInt) 4 (by omega) (by omega) (Int.lt_of_le_of_lt (by omega : _ ≤ (15 : Int)) (by decide)) (Int.lt_of_le_of_lt (by omega : _ ≤ (15 : Int)) (by decide))
            have two4 : ((2 ^ 4 : Nat) : Int) = 16 := by decide
            refine En_callS rfl rfl rfl rfl rfl rfl rfl rfl rfl (c_203ax σ3 h4 z49 (geI rfl (by omega)) (leI rfl (by omega))) (by decide) (by decide) (fun v53 σ54 h52 => ?_)
            obtain ⟨h55, h56, z58, rfl, h57⟩ := h52
            have h59 := h57.2.2
            obtain rfl : σ3 = σ54 := Fr_nil h56
            refine En_Ps 3 (pc' := 48) (lv' := [(0, .ref 159), (1, .int a), (2, .int b), (3, .int z9), (4, .int y12), (5, .int y13)]) (st' := [.int ((y12 ^^^ b)), .int z58]) rfl ?_
            refine En_nam (fun z60 h61 => ?_)
            have h62 : z60.toInt = xN y12.toInt b.toInt := xor_v h61 rfl rfl (by omega) (by omega)
            have := xN_lt (X := y12.toInt) (Y := b.toInt) 4 (by omega) (by omega) (Int.lt_of_le_of_lt (by omega : _ ≤ (15 : Int)) (by decide)) (Int.lt_of_le_of_lt (by omega : _ ≤ (15 : Int)) (by decide))
            have two4 : ((2 ^ 4 : Nat) : Int) = 16 := by decide
            refine En_callS rfl rfl rfl rfl rfl rfl rfl rfl rfl (c_203ax σ3 h4 z60 (geI rfl (by omega)) (leI rfl (by omega))) (by decide) (by decide) (fun v64 σ65 h63 => ?_)
            obtain ⟨h66, h67, z69, rfl, h68⟩ := h63
            have h70 := h68.2.2
            obtain rfl : σ3 = σ65 := Fr_nil h67
            refine En_icGe _ rfl rfl rfl (fun h71 => ?_) (fun h71 => ?_)
            · refine En_Ps 1 (pc' := 61) (lv' := [(5, .int ((y13 + Int32.ofInt 1))), (0, .ref 159), (1, .int a), (2, .int b), (3, .int z9), (4, .int y12)]) (st' := []) rfl ?_
              refine En_lv1 (addI rfl (by decide : (Int32.ofInt 1).toInt = 1) (by omega) (by omega)) (fun z72 h73 => ?_)
              refine En_Ps 1 (pc' := 12) (lv' := [(5, .int z72), (0, .ref 159), (1, .int a), (2, .int b), (3, .int z9), (4, .int y12)]) (st' := []) rfl ?_
              refine En_lv (lv := [(0, .ref 159), (1, .int a), (2, .int b), (3, .int z9), (4, .int y12), (5, .int z72)]) ⟨rfl, rfl, rfl, rfl, rfl, rfl, trivial⟩ ?_
              exact ih12 y12 z72 (by omega) (by omega) (by omega) (by omega) (by omega) (by omega) ((by first | exact TRM_y h23 (by omega) h42 (by omega) (by omega) (x := z49.toInt) (by omega) h59 (y := z60.toInt) (by omega) h70 (by omega) (by omega) (by omega) | exact TRM_n h23 (by omega) h42 (by omega) (x := z49.toInt) (by omega) h59 (y := z60.toInt) (by omega) h70 (by omega) (by omega) (by omega))) ((by omega))
            · refine En_Ps 3 (pc' := 61) (lv' := [(5, .int ((y13 + Int32.ofInt 1))), (4, .int y13), (0, .ref 159), (1, .int a), (2, .int b), (3, .int z9)]) (st' := []) rfl ?_
              refine En_lv1 (addI rfl (by decide : (Int32.ofInt 1).toInt = 1) (by omega) (by omega)) (fun z74 h75 => ?_)
              refine En_Ps 1 (pc' := 12) (lv' := [(5, .int z74), (4, .int y13), (0, .ref 159), (1, .int a), (2, .int b), (3, .int z9)]) (st' := []) rfl ?_
              refine En_lv (lv := [(0, .ref 159), (1, .int a), (2, .int b), (3, .int z9), (4, .int y13), (5, .int z74)]) ⟨rfl, rfl, rfl, rfl, rfl, rfl, trivial⟩ ?_
              exact ih12 y13 z74 (by omega) (by omega) (by omega) (by omega) (by omega) (by omega) ((by first | exact TRM_y h23 (by omega) h42 (by omega) (by omega) (x := z49.toInt) (by omega) h59 (y := z60.toInt) (by omega) h70 (by omega) (by omega) (by omega) | exact TRM_n h23 (by omega) h42 (by omega) (x := z49.toInt) (by omega) h59 (y := z60.toInt) (by omega) h70 (by omega) (by omega) (by omega))) ((by omega))
  have := (by decide : (Int32.ofInt (-1)).toInt = -1)
  have := (by decide : (Int32.ofInt 0).toInt = 0)
  refine En_lv (lv := [(0, .ref 159), (1, .int a), (2, .int b), (3, .int z9), (4, .int ((Int32.ofInt (-1)))), (5, .int ((Int32.ofInt 0)))]) ⟨rfl, rfl, rfl, rfl, rfl, rfl, trivial⟩ ?_
  exact key12 (Int.toNat (16) + 1) ((Int32.ofInt (-1))) ((Int32.ofInt 0)) (by omega) (by omega) (by omega) (by omega) (by omega) (by omega) (TRK_0 (by omega) (by omega)) ((by have := pI_pos (wf σ0 0); omega))
/-- DoorSchoolModel.trick(II)I -/
abbrev P_326x (σ0 : SG) (a : Int32) (b : Int32) : PO := fun v σ => WT σ ∧ Fr [(35, 18), (35, 21), (42, 0), (43, 0), (44, 0), (45, 0), (46, 0)] σ0 σ ∧ ∃ ret : Int32, v = some (.int ret) ∧ -ret.toInt - 2 ≤ 0 ∧ ret.toInt - 15 ≤ 0 ∧ ret.toInt = tkR (wf σ0) a.toInt b.toInt
set_option maxRecDepth 10000 in
set_option maxHeartbeats 4000000 in
theorem c_326x (σ0 : SG) (hσ0 : WT σ0) (a : Int32) (b : Int32) (hq : QX (wf σ0)) : En 6 137 none mr_326 (P_326x σ0 a b) 0 [(0, .ref 159), (1, .int a), (2, .int b)] [] σ0 := by
  have hF0 : Fr [(35, 18), (35, 21), (42, 0), (43, 0), (44, 0), (45, 0), (46, 0)] σ0 σ0 := Fr_rfl
  refine En_Ps 2 (pc' := 2) (lv' := [(0, .ref 159), (1, .int a), (2, .int b)]) (st' := [.int a, .ref 159]) rfl ?_
  obtain ⟨z2, h1, h3, h4⟩ := WT_peekI hσ0 (by decide +kernel : TG 160 = 36) (by decide +kernel : FT 36 (2 : Int).toNat = (0, 0, 4)) (by decide +kernel)
  refine En_callV rfl rfl rfl rfl rfl rfl rfl rfl (by decide +kernel : TG 159 = 35) (by decide +kernel) rfl (c_254 σ0 hσ0 a z2 h1) (by decide) (by decide) (fun v6 σ7 h5 => ?_)
  obtain ⟨h8, h9, z11, rfl, h10⟩ := h5
  obtain rfl : σ0 = σ7 := Fr_nil h9
  have w12 : wf σ0 (2) = z2.toInt := ci_at h1 (by omega)
  refine En_iEq _ rfl rfl (fun h13 => ?_) (fun h13 => ?_)
  · refine En_Ps 1 (pc' := 28) (lv' := [(0, .ref 159), (1, .int a), (2, .int b)]) (st' := [.int (((Int8.ofInt (-2)).toInt32))]) rfl ?_
    refine En_top (by decide : ((Int8.ofInt (-2)).toInt32).toInt = -2) (fun z14 h15 => ?_)
    exact En_ret (v := some (.int z14)) rfl rfl rfl ⟨hσ0, hF0, z14, rfl, ⟨by omega, by omega, tkR_n (fun ⟨q1, q2, q3, q4, q5⟩ => by omega) (by omega)⟩⟩
  · refine En_Ps 3 (pc' := 11) (lv' := [(0, .ref 159), (1, .int a), (2, .int b)]) (st' := [.long b.toInt64, .ref 159]) rfl ?_
    obtain ⟨z17, h16, h18, h19⟩ := WT_peekI hσ0 (by decide +kernel : TG 160 = 36) (by decide +kernel : FT 36 (0 : Int).toNat = (0, 0, 4)) (by decide +kernel)
    obtain ⟨z21, h20, h22, h23⟩ := WT_peekI hσ0 (by decide +kernel : TG 160 = 36) (by decide +kernel : FT 36 (7 : Int).toNat = (0, 0, 1600)) (by decide +kernel)
    have : b.toInt64.toInt = b.toInt := (i2lI rfl)
    refine En_callV rfl rfl rfl rfl rfl rfl rfl rfl (by decide +kernel : TG 159 = 35) (by decide +kernel) rfl (c_259x σ0 hσ0 b.toInt64 z17 h16 z21 h20) (by decide) (by decide) (fun v25 σ26 h24 => ?_)
    obtain ⟨h27, h28, z30, rfl, h29⟩ := h24
    have h31 := h29.2.2.2
    obtain rfl : σ0 = σ26 := Fr_nil h28
    have h32 := h31
    have w33 : wf σ0 (0) = z17.toInt := ci_at h16 (by omega)
    have w34 : wf σ0 (7) = z21.toInt := ci_at h20 (by omega)
    have h35 : pI (wf σ0 0) = pI (z17.toInt) := by rw [w33]
    refine En_iEq _ rfl rfl (fun h36 => ?_) (fun h36 => ?_)
    · refine En_Ps 1 (pc' := 28) (lv' := [(0, .ref 159), (1, .int a), (2, .int b)]) (st' := [.int (((Int8.ofInt (-2)).toInt32))]) rfl ?_
      refine En_top (by decide : ((Int8.ofInt (-2)).toInt32).toInt = -2) (fun z37 h38 => ?_)
      exact En_ret (v := some (.int z37)) rfl rfl rfl ⟨hσ0, hF0, z37, rfl, ⟨by omega, by omega, tkR_n (fun ⟨q1, q2, q3, q4, q5⟩ => by omega) (by omega)⟩⟩
    · have h39 := Imp_m h29.2.2.1 (by omega)
      have h40 : 1 ≤ z21.toInt := by have e9 := hq (by omega); omega
      have h41 := pI_rng (s := z17.toInt) (by omega) (by omega)
      have h42 := (kI_val z21.toInt z17.toInt).2 (by omega)
      have h43 : pI (wf σ0 0) = pI (z17.toInt) := by rw [w33]
      have h44 : 0 ≤ b.toInt ∧ b.toInt ≤ 15 := by omega
      refine En_Ps 3 (pc' := 20) (lv' := [(0, .ref 159), (1, .int a), (2, .int b)]) (st' := [.int b, .int a, .ref 159]) rfl ?_
      refine En_callV rfl rfl rfl rfl rfl rfl rfl rfl (by decide +kernel : TG 159 = 35) (by decide +kernel) rfl (c_327x σ0 hσ0 a b (geI rfl (by omega)) (leI rfl (by omega)) (geI rfl (by omega)) (leI rfl (by omega)) z17 h16 z21 h20 (by omega)) (by decide) (by decide) (fun v46 σ47 h45 => ?_)
      obtain ⟨h48, h49, z51, rfl, h50⟩ := h45
      have h52 := h50.2.2
      have h53 := Fr_trans hF0 h49 (by decide +kernel)
      refine En_Ps 1 (pc' := 28) (lv' := [(0, .ref 159), (1, .int a), (2, .int b)]) (st' := [.int z51]) rfl ?_
      exact En_ret (v := some (.int z51)) rfl rfl rfl ⟨h48, h53, z51, rfl, ⟨by omega, by omega, tkR_y ⟨by omega, by omega, by omega, by omega, by omega⟩ h52⟩⟩
/-- DoorSchoolModel.tries(II)I -/
abbrev P_328x (σ0 : SG) (a : Int32) (b : Int32) : PO := fun v σ => WT σ ∧ Fr [(35, 18), (35, 21), (42, 0), (43, 0), (44, 0), (45, 0), (46, 0)] σ0 σ ∧ ∃ ret : Int32, v = some (.int ret) ∧ -ret.toInt - 2 ≤ 0 ∧ ret.toInt - 4 ≤ 0 ∧ ret.toInt = tsR (wf σ0) a.toInt b.toInt
set_option maxRecDepth 10000 in
set_option maxHeartbeats 4000000 in
theorem c_328x (σ0 : SG) (hσ0 : WT σ0) (a : Int32) (b : Int32) (hq : QX (wf σ0)) : En 6 137 none mr_328 (P_328x σ0 a b) 0 [(0, .ref 159), (1, .int a), (2, .int b)] [] σ0 := by
  have hF0 : Fr [(35, 18), (35, 21), (42, 0), (43, 0), (44, 0), (45, 0), (46, 0)] σ0 σ0 := Fr_rfl
  refine En_Ps 2 (pc' := 2) (lv' := [(0, .ref 159), (1, .int a), (2, .int b)]) (st' := [.int a, .ref 159]) rfl ?_
  obtain ⟨z2, h1, h3, h4⟩ := WT_peekI hσ0 (by decide +kernel : TG 160 = 36) (by decide +kernel : FT 36 (2 : Int).toNat = (0, 0, 4)) (by decide +kernel)
  refine En_callV rfl rfl rfl rfl rfl rfl rfl rfl (by decide +kernel : TG 159 = 35) (by decide +kernel) rfl (c_254 σ0 hσ0 a z2 h1) (by decide) (by decide) (fun v6 σ7 h5 => ?_)
  obtain ⟨h8, h9, z11, rfl, h10⟩ := h5
  obtain rfl : σ0 = σ7 := Fr_nil h9
  have w12 : wf σ0 (2) = z2.toInt := ci_at h1 (by omega)
  refine En_iEq _ rfl rfl (fun h13 => ?_) (fun h13 => ?_)
  · refine En_Ps 1 (pc' := 19) (lv' := [(0, .ref 159), (1, .int a), (2, .int b)]) (st' := [.int (((Int8.ofInt (-2)).toInt32))]) rfl ?_
    refine En_top (by decide : ((Int8.ofInt (-2)).toInt32).toInt = -2) (fun z14 h15 => ?_)
    exact En_ret (v := some (.int z14)) rfl rfl rfl ⟨hσ0, hF0, z14, rfl, ⟨by omega, by omega, tsR_n (fun ⟨q1, q2, q3, q4, q5⟩ => by omega) (by omega)⟩⟩
  · refine En_Ps 3 (pc' := 11) (lv' := [(0, .ref 159), (1, .int a), (2, .int b)]) (st' := [.long b.toInt64, .ref 159]) rfl ?_
    obtain ⟨z17, h16, h18, h19⟩ := WT_peekI hσ0 (by decide +kernel : TG 160 = 36) (by decide +kernel : FT 36 (0 : Int).toNat = (0, 0, 4)) (by decide +kernel)
    obtain ⟨z21, h20, h22, h23⟩ := WT_peekI hσ0 (by decide +kernel : TG 160 = 36) (by decide +kernel : FT 36 (7 : Int).toNat = (0, 0, 1600)) (by decide +kernel)
    have : b.toInt64.toInt = b.toInt := (i2lI rfl)
    refine En_callV rfl rfl rfl rfl rfl rfl rfl rfl (by decide +kernel : TG 159 = 35) (by decide +kernel) rfl (c_259x σ0 hσ0 b.toInt64 z17 h16 z21 h20) (by decide) (by decide) (fun v25 σ26 h24 => ?_)
    obtain ⟨h27, h28, z30, rfl, h29⟩ := h24
    have h31 := h29.2.2.2
    obtain rfl : σ0 = σ26 := Fr_nil h28
    have h32 := h31
    have w33 : wf σ0 (0) = z17.toInt := ci_at h16 (by omega)
    have w34 : wf σ0 (7) = z21.toInt := ci_at h20 (by omega)
    have h35 : pI (wf σ0 0) = pI (z17.toInt) := by rw [w33]
    refine En_iNe _ rfl rfl (fun h36 => ?_) (fun h36 => ?_)
    · have h37 := Imp_m h29.2.2.1 (by omega)
      have h38 : 1 ≤ z21.toInt := by have e9 := hq (by omega); omega
      have h39 := pI_rng (s := z17.toInt) (by omega) (by omega)
      have h40 := (kI_val z21.toInt z17.toInt).2 (by omega)
      have h41 : pI (wf σ0 0) = pI (z17.toInt) := by rw [w33]
      have h42 : 0 ≤ b.toInt ∧ b.toInt ≤ 15 := by omega
      refine En_Ps 3 (pc' := 23) (lv' := [(0, .ref 159), (1, .int a), (2, .int b)]) (st' := [.int b, .int a, .ref 159]) rfl ?_
      refine En_callV rfl rfl rfl rfl rfl rfl rfl rfl (by decide +kernel : TG 159 = 35) (by decide +kernel) rfl (c_327x σ0 hσ0 a b (geI rfl (by omega)) (leI rfl (by omega)) (geI rfl (by omega)) (leI rfl (by omega)) z17 h16 z21 h20 (by omega)) (by decide) (by decide) (fun v44 σ45 h43 => ?_)
      obtain ⟨h46, h47, z49, rfl, h48⟩ := h43
      have h50 := h48.2.2
      have h51 := Fr_trans hF0 h47 (by decide +kernel)
      refine En_Ps 3 (pc' := 29) (lv' := [(3, .int z49), (0, .ref 159), (1, .int a), (2, .int b)]) (st' := [.int ((Int32.ofInt (-1))), .int z49]) rfl ?_
      refine En_icNe _ rfl (by decide : (Int32.ofInt (-1)).toInt = -1) rfl (fun h52 => ?_) (fun h52 => ?_)
      · have h53 := tkM_rg (w := wf σ0) (d := a.toInt) (q := b.toInt)
        have h54 := h50
        refine En_Ps 3 (pc' := 39) (lv' := [(3, .int z49), (0, .ref 159), (1, .int a), (2, .int b)]) (st' := [.int ((z49 ^^^ b))]) rfl ?_
        refine En_nam (fun z55 h56 => ?_)
        have h57 : z55.toInt = xN z49.toInt b.toInt := xor_v h56 rfl rfl (by omega) (by omega)
        have := xN_lt (X := z49.toInt) (Y := b.toInt) 4 (by omega) (by omega) (Int.lt_of_le_of_lt (by omega : _ ≤ (15 : Int)) (by decide)) (Int.lt_of_le_of_lt (by omega : _ ≤ (15 : Int)) (by decide))
        have two4 : ((2 ^ 4 : Nat) : Int) = 16 := by decide
        refine En_callS rfl rfl rfl rfl rfl rfl rfl rfl rfl (c_203ax σ45 h46 z55 (geI rfl (by omega)) (leI rfl (by omega))) (by decide) (by decide) (fun v59 σ60 h58 => ?_)
        obtain ⟨h61, h62, z64, rfl, h63⟩ := h58
        have h65 := h63.2.2
        obtain rfl : σ45 = σ60 := Fr_nil h62
        exact En_ret (v := some (.int z64)) rfl rfl rfl ⟨h46, h51, z64, rfl, ⟨by omega, by omega, tsR_y ⟨by omega, by omega, by omega, by omega, by omega⟩ (tsN_1 h50 (by omega) (x := z55.toInt) (by omega) h65)⟩⟩
      · refine En_Ps 2 (pc' := 42) (lv' := [(3, .int z49), (0, .ref 159), (1, .int a), (2, .int b)]) (st' := [.int ((Int32.ofInt (-1)))]) rfl ?_
        refine En_top (by decide : (Int32.ofInt (-1)).toInt = -1) (fun z66 h67 => ?_)
        exact En_ret (v := some (.int z66)) rfl rfl rfl ⟨h46, h51, z66, rfl, ⟨by omega, by omega, tsR_y ⟨by omega, by omega, by omega, by omega, by omega⟩ (tsN_0 h50 (by omega) (by omega))⟩⟩
    · refine En_Ps 1 (pc' := 19) (lv' := [(0, .ref 159), (1, .int a), (2, .int b)]) (st' := [.int (((Int8.ofInt (-2)).toInt32))]) rfl ?_
      refine En_top (by decide : ((Int8.ofInt (-2)).toInt32).toInt = -2) (fun z68 h69 => ?_)
      exact En_ret (v := some (.int z68)) rfl rfl rfl ⟨hσ0, hF0, z68, rfl, ⟨by omega, by omega, tsR_n (fun ⟨q1, q2, q3, q4, q5⟩ => by omega) (by omega)⟩⟩
/-- DoorSchoolModel.unteach()I -/
abbrev P_329x (σ0 : SG) : PO := fun v σ => WT σ ∧ Fr [(36, 0)] σ0 σ ∧ ∃ ret : Int32, v = some (.int ret) ∧ -ret.toInt - 5 ≤ 0 ∧ ret.toInt - 3 ≤ 0 ∧ (WINV (wf σ) ∧ ret.toInt = utR (wf σ0) ∧ (∀ i : Int, 0 ≤ i → i < 226 → wf σ i = utW (wf σ0) i))
set_option maxRecDepth 10000 in
set_option maxHeartbeats 4000000 in
theorem c_329x (σ0 : SG) (hσ0 : WT σ0) (hI : WINV (wf σ0)) : En 1 20 none mr_329 (P_329x σ0) 0 [(0, .ref 159)] [] σ0 := by
  have hF0 : Fr [(36, 0)] σ0 σ0 := Fr_rfl
  refine En_Ps 1 (pc' := 1) (lv' := [(0, .ref 159)]) (st' := [.ref 159]) rfl ?_
  obtain ⟨z2, h1, h3, h4⟩ := WT_peekI hσ0 (by decide +kernel : TG 160 = 36) (by decide +kernel : FT 36 (7 : Int).toNat = (0, 0, 1600)) (by decide +kernel)
  refine En_callV rfl rfl rfl rfl rfl rfl rfl rfl (by decide +kernel : TG 159 = 35) (by decide +kernel) rfl (c_264 σ0 hσ0 z2 h1) (by decide) (by decide) (fun v6 σ7 h5 => ?_)
  obtain ⟨h8, h9, z11, rfl, h10⟩ := h5
  obtain rfl : σ0 = σ7 := Fr_nil h9
  have w12 : wf σ0 (7) = z2.toInt := ci_at h1 (by omega)
  refine En_iNe _ rfl rfl (fun h13 => ?_) (fun h13 => ?_)
  · refine En_Ps 1 (pc' := 11) (lv' := [(0, .ref 159)]) (st' := [.ref 159]) rfl ?_
    refine En_getU (j := 1) (u := 160) (g' := 36) (q := 0) rfl rfl rfl (by decide +kernel : TG 159 = 35) (by decide +kernel) hσ0 (by decide +kernel) (by decide +kernel) (fun h14 => ?_)
    refine En_Ps 1 (pc' := 16) (lv' := [(0, .ref 159)]) (st' := [.int (((Int8.ofInt 6).toInt32)), .ref 160]) rfl ?_
    refine En_iald (l := 0) (u := 60) rfl (by decide : ((Int8.ofInt 6).toInt32).toInt = 6) (by decide +kernel : TG 160 = 36) (by decide +kernel) hσ0 (by omega) (lnI (by decide +kernel : LN _ = 226) (by omega)) (by decide +kernel) (fun z17 h16 h18 h19 => ?_)
    have w20 : wf σ0 (6) = z17.toInt := ci_at h16 (by omega)
    refine En_iNe _ rfl rfl (fun h21 => ?_) (fun h21 => ?_)
    · refine En_Ps 1 (pc' := 24) (lv' := [(0, .ref 159)]) (st' := [.ref 159]) rfl ?_
      refine En_getK (j := 1) h14 rfl rfl rfl (by decide +kernel : TG 159 = 35) (by decide +kernel) ?_
      refine En_Ps 2 (pc' := 30) (lv' := [(0, .ref 159)]) (st' := [.int (((Int8.ofInt 6).toInt32)), .ref 160, .int (((Int8.ofInt 6).toInt32)), .ref 160]) rfl ?_
      refine En_ialdK h16 rfl (by decide : ((Int8.ofInt 6).toInt32).toInt = 6) (by decide +kernel : TG 160 = 36) (by decide +kernel) hσ0 (by omega) (lnI (by decide +kernel : LN _ = 226) (by omega)) ?_
      refine En_Ps 2 (pc' := 33) (lv' := [(0, .ref 159)]) (st' := [.int ((z17 - ((Int32.ofInt 1)))), .int (((Int8.ofInt 6).toInt32)), .ref 160]) rfl ?_
      refine En_top (subI rfl (by decide : (Int32.ofInt 1).toInt = 1) (by omega) (by omega)) (fun z23 h24 => ?_)
      refine En_iast (l := 0) (u := 60) rfl (by decide : ((Int8.ofInt 6).toInt32).toInt = 6) (by decide +kernel : TG 160 = 36) (by decide +kernel) (by omega) (lnI (by decide +kernel : LN _ = 226) (by omega)) (by decide +kernel) (rngI rfl (by omega) (by omega)) hσ0 hF0 (by decide +kernel) (fun σ25 h26 h27 h28 h29 => ?_)
      refine En_Ps 1 (pc' := 35) (lv' := [(0, .ref 159)]) (st' := [.ref 159]) rfl ?_
      refine En_getK (j := 1) ((h29 _ _ (Or.inl (neTG (by decide +kernel : TG 159 = 35) (by decide +kernel : TG 160 = 36) (by decide)))).trans h14) rfl rfl rfl (by decide +kernel : TG 159 = 35) (by decide +kernel) ?_
      refine En_Ps 2 (pc' := 42) (lv' := [(0, .ref 159)]) (st' := [.ref 159, .int (((Int16.ofInt 166).toInt32)), .ref 160]) rfl ?_
      refine En_getK (j := 1) ((h29 _ _ (Or.inl (neTG (by decide +kernel : TG 159 = 35) (by decide +kernel : TG 160 = 36) (by decide)))).trans h14) rfl rfl rfl (by decide +kernel : TG 159 = 35) (by decide +kernel) ?_
      refine En_Ps 1 (pc' := 47) (lv' := [(0, .ref 159)]) (st' := [.int (((Int8.ofInt 6).toInt32)), .ref 160, .int (((Int16.ofInt 166).toInt32)), .ref 160]) rfl ?_
      refine En_ialdK h28 rfl (by decide : ((Int8.ofInt 6).toInt32).toInt = 6) (by decide +kernel : TG 160 = 36) (by decide +kernel) h26 (by omega) (lnI (by decide +kernel : LN _ = 226) (by omega)) ?_
      refine En_Ps 1 (pc' := 49) (lv' := [(0, .ref 159)]) (st' := [.int (((((Int16.ofInt 166).toInt32)) + z23)), .ref 160]) rfl ?_
      refine En_top (addI (by decide : ((Int16.ofInt 166).toInt32).toInt = 166) rfl (by omega) (by omega)) (fun z31 h32 => ?_)
      refine En_iald (l := 0) (u := 3) rfl rfl (by decide +kernel : TG 160 = 36) (by decide +kernel) h26 (by omega) (lnI (by decide +kernel : LN _ = 226) (by omega)) (FTrow 36 166 1 60 (by decide +kernel) (by omega) (by omega) (by omega)) (fun z34 h33 h35 h36 => ?_)
      have h37 := ci_at h33 (rfl : z31.toInt = z31.toInt)
      have h38 := ci_st h28 h29 (by omega) (z31.toInt) (by omega)
      rw [if_neg (by omega)] at h38
      refine En_Ps 2 (pc' := 52) (lv' := [(1, .int z34), (0, .ref 159)]) (st' := [.ref 159]) rfl ?_
      refine En_getK (j := 1) ((h29 _ _ (Or.inl (neTG (by decide +kernel : TG 159 = 35) (by decide +kernel : TG 160 = 36) (by decide)))).trans h14) rfl rfl rfl (by decide +kernel : TG 159 = 35) (by decide +kernel) ?_
      refine En_Ps 4 (pc' := 60) (lv' := [(1, .int z34), (0, .ref 159)]) (st' := [.int ((((Int32.ofInt 4)) * z34)), .int (((Int8.ofInt 10).toInt32)), .ref 160]) rfl ?_
      refine En_top (mulI (by decide : (Int32.ofInt 4).toInt = 4) rfl (Z := 4 * z34.toInt) (by omega) (by omega) (by omega)) (fun z40 h41 => ?_)
      refine En_Ps 1 (pc' := 61) (lv' := [(1, .int z34), (0, .ref 159)]) (st' := [.int (((((Int8.ofInt 10).toInt32)) + z40)), .ref 160]) rfl ?_
      refine En_top (addI (by decide : ((Int8.ofInt 10).toInt32).toInt = 10) rfl (by omega) (by omega)) (fun z42 h43 => ?_)
      refine En_Ps 2 (pc' := 63) (lv' := [(1, .int z34), (0, .ref 159)]) (st' := [.int ((z42 + ((Int32.ofInt 2)))), .ref 160]) rfl ?_
      refine En_top (addI rfl (by decide : (Int32.ofInt 2).toInt = 2) (by omega) (by omega)) (fun z44 h45 => ?_)
      refine En_Ps 1 (pc' := 64) (lv' := [(1, .int z34), (0, .ref 159)]) (st' := [.int z44, .ref 160, .int z44, .ref 160]) rfl ?_
      refine En_iald (l := 0) (u := 12) rfl rfl (by decide +kernel : TG 160 = 36) (by decide +kernel) h26 (by omega) (lnI (by decide +kernel : LN _ = 226) (by omega)) (FTrow 36 12 4 4 (by decide +kernel) (by omega) (by omega) (by omega)) (fun z47 h46 h48 h49 => ?_)
      refine En_Ps 1 (pc' := 66) (lv' := [(1, .int z34), (0, .ref 159)]) (st' := [.int ((Int32.ofInt 1)), .int z47, .int z44, .ref 160]) rfl ?_
      have h50 := WINV_ge hI (d := z34.toInt) (nt := z23.toInt + 1) (by have e1 := ci_at h16 (show (6 : Int) = (6 : Int) by omega); show _ = ci _ 160 _; omega) (by omega) (by show _ = ci _ 160 _; rw [show (166 : Int) + ((z23.toInt + 1) - 1) = z31.toInt by omega]; omega) (by omega) (by omega)
      have h51 := ci_at h46 (by omega : 12 + 4 * z34.toInt = _)
      have h52 := ci_st h28 h29 (by omega) (12 + 4 * z34.toInt) (by omega)
      rw [if_neg (by omega)] at h52
      have h53 : 1 ≤ z47.toInt := by have e3 : wf σ0 (12 + 4 * z34.toInt) = ci σ0 160 (12 + 4 * z34.toInt) := rfl; omega
      refine En_Ps 1 (pc' := 67) (lv' := [(1, .int z34), (0, .ref 159)]) (st' := [.int ((z47 - ((Int32.ofInt 1)))), .int z44, .ref 160]) rfl ?_
      refine En_top (subI rfl (by decide : (Int32.ofInt 1).toInt = 1) (by omega) (by omega)) (fun z54 h55 => ?_)
      refine En_iast (l := 0) (u := 12) rfl rfl (by decide +kernel : TG 160 = 36) (by decide +kernel) (by omega) (lnI (by decide +kernel : LN _ = 226) (by omega)) (FTrow 36 12 4 4 (by decide +kernel) (by omega) (by omega) (by omega)) (rngI rfl (by omega) (by omega)) h26 h27 (by decide +kernel) (fun σ56 h57 h58 h59 h60 => ?_)
      refine En_Ps 1 (pc' := 69) (lv' := [(1, .int z34), (0, .ref 159)]) (st' := [.int z34]) rfl ?_
      exact En_ret (v := some (.int z34)) rfl rfl rfl ⟨h57, h58, z34, rfl, ⟨by omega, by omega, ⟨WINV_unteach2 (d := z34.toInt) (m := z54.toInt + 1) (nt := z23.toInt + 1) hI (fun i hi => (by rw [show wf _ i = ci _ 160 i from rfl, ci_st h59 h60 (by omega) i hi, ci_st h28 h29 (by omega) i hi]; rfl)) (by show _ = ci _ 160 _; omega) (by have e1 := ci_at h16 (show (6 : Int) = (6 : Int) by omega); show _ = ci _ 160 _; omega) (by omega) (by show _ = ci _ 160 _; rw [show (166 : Int) + ((z23.toInt + 1) - 1) = z31.toInt by omega]; omega) (by omega) (by omega) (by omega) (by omega) (by omega) (by omega), by unfold utR utD; rw [if_neg (by omega), if_neg (by omega), show wf σ0 6 = z23.toInt + 1 from Eq.symm (by have e1 := ci_at h16 (show (6 : Int) = (6 : Int) by omega); show _ = ci _ 160 _; omega)]; exact (by show _ = ci _ 160 _; rw [show (166 : Int) + ((z23.toInt + 1) - 1) = z31.toInt by omega]; omega), utM (d := z34.toInt) (m := z54.toInt + 1) (nt := z23.toInt + 1) (fun i hi => (by rw [show wf _ i = ci _ 160 i from rfl, ci_st h59 h60 (by omega) i hi, ci_st h28 h29 (by omega) i hi]; rfl)) (by omega) (by show _ = ci _ 160 _; omega) (by have e1 := ci_at h16 (show (6 : Int) = (6 : Int) by omega); show _ = ci _ 160 _; omega) (by omega) (by show _ = ci _ 160 _; rw [show (166 : Int) + ((z23.toInt + 1) - 1) = z31.toInt by omega]; omega) (by omega) (by omega) (by omega) (by omega)⟩⟩⟩
    · refine En_Ps 1 (pc' := 22) (lv' := [(0, .ref 159)]) (st' := [.int (((Int8.ofInt (-5)).toInt32))]) rfl ?_
      refine En_top (by decide : ((Int8.ofInt (-5)).toInt32).toInt = -5) (fun z61 h62 => ?_)
      exact En_ret (v := some (.int z61)) rfl rfl rfl ⟨hσ0, hF0, z61, rfl, ⟨by omega, by omega, ⟨hI, by unfold utR; rw [if_neg (by omega), if_pos (by omega)]; omega, utMn (by omega) (fun i _ _ => rfl)⟩⟩⟩
  · refine En_Ps 1 (pc' := 9) (lv' := [(0, .ref 159)]) (st' := [.int (((Int8.ofInt (-2)).toInt32))]) rfl ?_
    refine En_top (by decide : ((Int8.ofInt (-2)).toInt32).toInt = -2) (fun z63 h64 => ?_)
    exact En_ret (v := some (.int z63)) rfl rfl rfl ⟨hσ0, hF0, z63, rfl, ⟨by omega, by omega, ⟨hI, by unfold utR; rw [if_pos (by omega)]; omega, utMn (by omega) (fun i _ _ => rfl)⟩⟩⟩
/-- DoorSchoolModel.way(II)I -/
abbrev P_330x (σ0 : SG) (a : Int32) (b : Int32) : PO := fun v σ => WT σ ∧ Fr [(35, 18), (35, 21), (42, 0), (43, 0), (44, 0), (45, 0), (46, 0)] σ0 σ ∧ ∃ ret : Int32, v = some (.int ret) ∧ -ret.toInt - 2 ≤ 0 ∧ ret.toInt - 1000000 ≤ 0 ∧ ret.toInt = wyR (wf σ0) a.toInt b.toInt
set_option maxRecDepth 10000 in
set_option maxHeartbeats 4000000 in
theorem c_330x (σ0 : SG) (hσ0 : WT σ0) (a : Int32) (b : Int32) (hq : QX (wf σ0)) : En 5 113 none mr_330 (P_330x σ0 a b) 0 [(0, .ref 159), (1, .int a), (2, .int b)] [] σ0 := by
  have hF0 : Fr [(35, 18), (35, 21), (42, 0), (43, 0), (44, 0), (45, 0), (46, 0)] σ0 σ0 := Fr_rfl
  refine En_Ps 2 (pc' := 2) (lv' := [(0, .ref 159), (1, .int a), (2, .int b)]) (st' := [.int a, .ref 159]) rfl ?_
  obtain ⟨z2, h1, h3, h4⟩ := WT_peekI hσ0 (by decide +kernel : TG 160 = 36) (by decide +kernel : FT 36 (2 : Int).toNat = (0, 0, 4)) (by decide +kernel)
  refine En_callV rfl rfl rfl rfl rfl rfl rfl rfl (by decide +kernel : TG 159 = 35) (by decide +kernel) rfl (c_254 σ0 hσ0 a z2 h1) (by decide) (by decide) (fun v6 σ7 h5 => ?_)
  obtain ⟨h8, h9, z11, rfl, h10⟩ := h5
  obtain rfl : σ0 = σ7 := Fr_nil h9
  have w12 : wf σ0 (2) = z2.toInt := ci_at h1 (by omega)
  refine En_iEq _ rfl rfl (fun h13 => ?_) (fun h13 => ?_)
  · refine En_Ps 1 (pc' := 20) (lv' := [(0, .ref 159), (1, .int a), (2, .int b)]) (st' := [.int (((Int8.ofInt (-2)).toInt32))]) rfl ?_
    refine En_top (by decide : ((Int8.ofInt (-2)).toInt32).toInt = -2) (fun z14 h15 => ?_)
    exact En_ret (v := some (.int z14)) rfl rfl rfl ⟨hσ0, hF0, z14, rfl, ⟨by omega, by omega, wyR_n (fun ⟨q1, q2, q3, q4⟩ => by omega) (by omega)⟩⟩
  · refine En_Ps 4 (pc' := 12) (lv' := [(0, .ref 159), (1, .int a), (2, .int b)]) (st' := [.long ((Int64.ofNat 1)), .long ((Int64.ofNat 0)), .long b.toInt64]) rfl ?_
    have : b.toInt64.toInt = b.toInt := (i2lI rfl)
    have := (by decide : ((Int64.ofNat 0)).toInt = 0)
    have := (by decide : ((Int64.ofNat 1)).toInt = 1)
    refine En_callS rfl rfl rfl rfl rfl rfl rfl rfl rfl (c_249 σ0 hσ0 b.toInt64 ((Int64.ofNat 0)) ((Int64.ofNat 1))) (by decide) (by decide) (fun v17 σ18 h16 => ?_)
    obtain ⟨h19, h20, z22, rfl, h21⟩ := h16
    obtain rfl : σ0 = σ18 := Fr_nil h20
    refine En_iNe _ rfl rfl (fun h23 => ?_) (fun h23 => ?_)
    · obtain ⟨z25, h24, h26, h27⟩ := WT_peekI hσ0 (by decide +kernel : TG 160 = 36) (by decide +kernel : FT 36 (0 : Int).toNat = (0, 0, 4)) (by decide +kernel)
      obtain ⟨z29, h28, h30, h31⟩ := WT_peekI hσ0 (by decide +kernel : TG 160 = 36) (by decide +kernel : FT 36 (7 : Int).toNat = (0, 0, 1600)) (by decide +kernel)
      have w32 : wf σ0 (0) = z25.toInt := ci_at h24 (by omega)
      have w33 : wf σ0 (7) = z29.toInt := ci_at h28 (by omega)
      have h34 : 1 ≤ z29.toInt := by have e9 := hq (by omega); omega
      have h35 := pI_rng (s := z25.toInt) (by omega) (by omega)
      have h36 := (kI_val z29.toInt z25.toInt).2 (by omega)
      have h37 : pI (wf σ0 0) = pI (z25.toInt) := by rw [w32]
      have wq0 : wf σ0 = wf σ0 := rfl
      refine En_Ps 6 (pc' := 31) (lv' := [(5, .int ((Int32.ofInt 0))), (4, .int ((1000000 : Int32))), (3, .int ((Int32.ofInt 0))), (0, .ref 159), (1, .int a), (2, .int b)]) (st' := []) rfl ?_
      have key31 : ∀ (n31 : Nat) (σ41 : SG) (y38 : Int32) (y39 : Int32) (y40 : Int32), WT σ41 → Fr [(35, 18), (35, 21), (42, 0), (43, 0), (44, 0), (45, 0), (46, 0)] σ0 σ41 → (σ41 160)[(2 : Int).toNat]? = some (.int z2) → (σ41 160)[(0 : Int).toNat]? = some (.int z25) → (σ41 160)[(7 : Int).toNat]? = some (.int z29) → 0 ≤ y38.toInt → y38.toInt ≤ 2 → 0 ≤ y39.toInt → y39.toInt ≤ 1000000 → 0 ≤ y40.toInt → y40.toInt ≤ 3 → y38.toInt - y40.toInt ≤ 0 → -y40.toInt + 3 < (n31 : Int) → WYI (wf σ0) a.toInt y40.toInt y38.toInt y39.toInt 1000000 → wf σ41 = wf σ0 → En 5 113 none mr_330 (P_330x σ0 a b) 31 [(0, .ref 159), (1, .int a), (2, .int b), (3, .int y38), (4, .int y39), (5, .int y40)] [] σ41 := by
        intro n31
        induction n31 with
        | zero =>
          intro σ41 y38 y39 y40 h42 h43 h44 h45 h46 h47 h48 h49 h50 h51 h52 h53 h54 h55 h56
          exfalso; omega
        | succ n31 ih31 =>
          intro σ41 y38 y39 y40 h42 h43 h44 h45 h46 h47 h48 h49 h50 h51 h52 h53 h54 h55 h56
          refine En_Ps 2 (pc' := 34) (lv' := [(0, .ref 159), (1, .int a), (2, .int b), (3, .int y38), (4, .int y39), (5, .int y40)]) (st' := [.int ((Int32.ofInt 3)), .int y40]) rfl ?_
          refine En_icGe _ rfl (by decide : (Int32.ofInt 3).toInt = 3) rfl (fun h57 => ?_) (fun h57 => ?_)
          · refine En_Ps 1 (pc' := 78) (lv' := [(0, .ref 159), (1, .int a), (2, .int b), (3, .int y38), (4, .int y39), (5, .int y40)]) (st' := [.int b]) rfl ?_
            refine En_iNe _ rfl rfl (fun h58 => ?_) (fun h58 => ?_)
            · refine En_Ps 1 (pc' := 87) (lv' := [(0, .ref 159), (1, .int a), (2, .int b), (3, .int y38), (4, .int y39), (5, .int y40)]) (st' := [.int y39]) rfl ?_
              exact En_ret (v := some (.int y39)) rfl rfl rfl ⟨h42, h43, y39, rfl, ⟨by omega, by omega, (by first | exact wyR_0 ⟨by omega, by omega, by omega, by omega⟩ (by omega) h55 (by omega) (by omega) | exact wyR_1 ⟨by omega, by omega, by omega, by omega⟩ (by omega) h55 (by omega) (by omega))⟩⟩
            · refine En_Ps 2 (pc' := 87) (lv' := [(0, .ref 159), (1, .int a), (2, .int b), (3, .int y38), (4, .int y39), (5, .int y40)]) (st' := [.int y38]) rfl ?_
              exact En_ret (v := some (.int y38)) rfl rfl rfl ⟨h42, h43, y38, rfl, ⟨by omega, by omega, (by first | exact wyR_0 ⟨by omega, by omega, by omega, by omega⟩ (by omega) h55 (by omega) (by omega) | exact wyR_1 ⟨by omega, by omega, by omega, by omega⟩ (by omega) h55 (by omega) (by omega))⟩⟩
          · refine En_Ps 3 (pc' := 41) (lv' := [(0, .ref 159), (1, .int a), (2, .int b), (3, .int y38), (4, .int y39), (5, .int y40)]) (st' := [.int y40, .int a, .ref 159]) rfl ?_
            refine En_callV rfl rfl rfl rfl rfl rfl rfl rfl (by decide +kernel : TG 159 = 35) (by decide +kernel) rfl (c_211x σ41 h42 a y40 (geI rfl (by omega)) (leI rfl (by omega)) (geI rfl (by omega)) (leI rfl (by omega)) z25 h45 z29 h46 (by omega)) (by decide) (by decide) (fun v60 σ61 h59 => ?_)
            obtain ⟨h62, h63, z65, rfl, h64⟩ := h59
            have h66 := h64.2.2
            have h67 := Fr_trans h43 h63 (by decide +kernel)
            have h68 : wf σ61 = wf σ0 := (wf_fr h63 (by decide +kernel)).trans h56
            have h69 : z65.toInt = WDw (wf σ0) a.toInt y40.toInt := by rw [← h56]; exact h66
            refine En_Ps 1 (pc' := 45) (lv' := [(0, .ref 159), (1, .int a), (2, .int b), (3, .int y38), (4, .int y39), (5, .int y40)]) (st' := [.ref 159, .int z65]) rfl ?_
            refine En_callV rfl rfl rfl rfl rfl rfl rfl rfl (by decide +kernel : TG 159 = 35) (by decide +kernel) rfl (c_295x σ61 h62 z25 ((h63 _ _ (inWa (by decide +kernel : TG 160 = 36) (by decide +kernel))).trans h45) z29 ((h63 _ _ (inWa (by decide +kernel : TG 160 = 36) (by decide +kernel))).trans h46) (by omega)) (by decide) (by decide) (fun v71 σ72 h70 => ?_)
            obtain ⟨h73, h74, z76, rfl, h75⟩ := h70
            have h77 := h75.2.2
            obtain rfl : σ61 = σ72 := Fr_nil h74
            refine En_Ps 1 (pc' := 49) (lv' := [(0, .ref 159), (1, .int a), (2, .int b), (3, .int y38), (4, .int y39), (5, .int y40)]) (st' := [.int ((z65 ^^^ z76))]) rfl ?_
            refine En_nam (fun z78 h79 => ?_)
            have h80 : z78.toInt = xN z65.toInt z76.toInt := xor_v h79 rfl rfl (by omega) (by omega)
            have := xN_lt (X := z65.toInt) (Y := z76.toInt) 16 (by omega) (by omega) (Int.lt_of_le_of_lt (by omega : _ ≤ (65535 : Int)) (by decide)) (Int.lt_of_le_of_lt (by omega : _ ≤ (65535 : Int)) (by decide))
            have two16 : ((2 ^ 16 : Nat) : Int) = 65536 := by decide
            refine En_callS rfl rfl rfl rfl rfl rfl rfl rfl rfl (c_203bx σ61 h62 z78 (geI rfl (by omega)) (leI rfl (by omega))) (by decide) (by decide) (fun v82 σ83 h81 => ?_)
            obtain ⟨h84, h85, z87, rfl, h86⟩ := h81
            have h88 := h86.2.2
            obtain rfl : σ61 = σ83 := Fr_nil h85
            refine En_Ps 3 (pc' := 58) (lv' := [(6, .int z87), (0, .ref 159), (1, .int a), (2, .int b), (3, .int y38), (4, .int y39), (5, .int y40)]) (st' := [.int y39, .int z87]) rfl ?_
            refine En_icLt _ rfl rfl rfl (fun h89 => ?_) (fun h89 => ?_)
            · refine En_Ps 5 (pc' := 74) (lv' := [(5, .int ((y40 + Int32.ofInt 1))), (3, .int y40), (4, .int z87), (6, .int z87), (0, .ref 159), (1, .int a), (2, .int b)]) (st' := []) rfl ?_
              refine En_lv1 (addI rfl (by decide : (Int32.ofInt 1).toInt = 1) (by omega) (by omega)) (fun z90 h91 => ?_)
              refine En_Ps 1 (pc' := 31) (lv' := [(5, .int z90), (3, .int y40), (4, .int z87), (6, .int z87), (0, .ref 159), (1, .int a), (2, .int b)]) (st' := []) rfl ?_
              refine En_lv (lv := [(0, .ref 159), (1, .int a), (2, .int b), (3, .int y40), (4, .int z87), (5, .int z90)]) ⟨rfl, rfl, rfl, rfl, rfl, rfl, trivial⟩ ?_
              exact ih31 σ61 y40 z87 z90 h62 h67 ((h63 _ _ (inWa (by decide +kernel : TG 160 = 36) (by decide +kernel))).trans h44) ((h63 _ _ (inWa (by decide +kernel : TG 160 = 36) (by decide +kernel))).trans h45) ((h63 _ _ (inWa (by decide +kernel : TG 160 = 36) (by decide +kernel))).trans h46) (by omega) (by omega) (by omega) (by omega) (by omega) (by omega) (by omega) (by omega) ((by first | exact WYI_y h55 (by omega) (wyU_of h69 (h77.trans (owD_cg h68)) (z := z78.toInt) (by omega) h88) (by omega) (by omega) (by omega) (by omega) | exact WYI_n h55 (by decide) (by omega) (wyU_of h69 (h77.trans (owD_cg h68)) (z := z78.toInt) (by omega) h88) (by omega) (by omega) (by omega) (by omega))) (h68)
            · refine En_Ps 2 (pc' := 74) (lv' := [(5, .int ((y40 + Int32.ofInt 1))), (6, .int z87), (0, .ref 159), (1, .int a), (2, .int b), (3, .int y38), (4, .int y39)]) (st' := []) rfl ?_
              refine En_lv1 (addI rfl (by decide : (Int32.ofInt 1).toInt = 1) (by omega) (by omega)) (fun z92 h93 => ?_)
              refine En_Ps 1 (pc' := 31) (lv' := [(5, .int z92), (6, .int z87), (0, .ref 159), (1, .int a), (2, .int b), (3, .int y38), (4, .int y39)]) (st' := []) rfl ?_
              refine En_lv (lv := [(0, .ref 159), (1, .int a), (2, .int b), (3, .int y38), (4, .int y39), (5, .int z92)]) ⟨rfl, rfl, rfl, rfl, rfl, rfl, trivial⟩ ?_
              exact ih31 σ61 y38 y39 z92 h62 h67 ((h63 _ _ (inWa (by decide +kernel : TG 160 = 36) (by decide +kernel))).trans h44) ((h63 _ _ (inWa (by decide +kernel : TG 160 = 36) (by decide +kernel))).trans h45) ((h63 _ _ (inWa (by decide +kernel : TG 160 = 36) (by decide +kernel))).trans h46) (by omega) (by omega) (by omega) (by omega) (by omega) (by omega) (by omega) (by omega) ((by first | exact WYI_y h55 (by omega) (wyU_of h69 (h77.trans (owD_cg h68)) (z := z78.toInt) (by omega) h88) (by omega) (by omega) (by omega) (by omega) | exact WYI_n h55 (by decide) (by omega) (wyU_of h69 (h77.trans (owD_cg h68)) (z := z78.toInt) (by omega) h88) (by omega) (by omega) (by omega) (by omega))) (h68)
      have := (by decide : (Int32.ofInt 0).toInt = 0)
      have := (by decide : (1000000 : Int32).toInt = 1000000)
      have := (by decide : (Int32.ofInt 0).toInt = 0)
      refine En_lv (lv := [(0, .ref 159), (1, .int a), (2, .int b), (3, .int ((Int32.ofInt 0))), (4, .int ((1000000 : Int32))), (5, .int ((Int32.ofInt 0)))]) ⟨rfl, rfl, rfl, rfl, rfl, rfl, trivial⟩ ?_
      exact key31 (Int.toNat (3) + 1) σ0 ((Int32.ofInt 0)) ((1000000 : Int32)) ((Int32.ofInt 0)) hσ0 hF0 h1 h24 h28 (by omega) (by omega) (by omega) (by omega) (by omega) (by omega) (by omega) (by omega) (WYI_0 (by omega) (by omega)) (wq0)
    · refine En_Ps 1 (pc' := 20) (lv' := [(0, .ref 159), (1, .int a), (2, .int b)]) (st' := [.int (((Int8.ofInt (-2)).toInt32))]) rfl ?_
      refine En_top (by decide : ((Int8.ofInt (-2)).toInt32).toInt = -2) (fun z94 h95 => ?_)
      exact En_ret (v := some (.int z94)) rfl rfl rfl ⟨hσ0, hF0, z94, rfl, ⟨by omega, by omega, wyR_n (fun ⟨q1, q2, q3, q4⟩ => by omega) (by omega)⟩⟩
/-- DoorSchoolModel.why(II)I -/
abbrev P_331x (σ0 : SG) (a : Int32) (b : Int32) : PO := fun v σ => WT σ ∧ Fr [(35, 21), (45, 0), (46, 0)] σ0 σ ∧ ∃ ret : Int32, v = some (.int ret) ∧ -ret.toInt - 2 ≤ 0 ∧ ret.toInt - 12 ≤ 0 ∧ ret.toInt = whR (wf σ0) a.toInt b.toInt
set_option maxRecDepth 10000 in
set_option maxHeartbeats 4000000 in
theorem c_331x (σ0 : SG) (hσ0 : WT σ0) (a : Int32) (b : Int32) : En 3 67 none mr_331 (P_331x σ0 a b) 0 [(0, .ref 159), (1, .int a), (2, .int b)] [] σ0 := by
  have hF0 : Fr [(35, 21), (45, 0), (46, 0)] σ0 σ0 := Fr_rfl
  refine En_Ps 2 (pc' := 2) (lv' := [(0, .ref 159), (1, .int a), (2, .int b)]) (st' := [.int a, .ref 159]) rfl ?_
  obtain ⟨z2, h1, h3, h4⟩ := WT_peekI hσ0 (by decide +kernel : TG 160 = 36) (by decide +kernel : FT 36 (2 : Int).toNat = (0, 0, 4)) (by decide +kernel)
  refine En_callV rfl rfl rfl rfl rfl rfl rfl rfl (by decide +kernel : TG 159 = 35) (by decide +kernel) rfl (c_254 σ0 hσ0 a z2 h1) (by decide) (by decide) (fun v6 σ7 h5 => ?_)
  obtain ⟨h8, h9, z11, rfl, h10⟩ := h5
  obtain rfl : σ0 = σ7 := Fr_nil h9
  have w12 : wf σ0 (2) = z2.toInt := ci_at h1 (by omega)
  refine En_iEq _ rfl rfl (fun h13 => ?_) (fun h13 => ?_)
  · refine En_Ps 1 (pc' := 19) (lv' := [(0, .ref 159), (1, .int a), (2, .int b)]) (st' := [.int (((Int8.ofInt (-2)).toInt32))]) rfl ?_
    refine En_top (by decide : ((Int8.ofInt (-2)).toInt32).toInt = -2) (fun z14 h15 => ?_)
    exact En_ret (v := some (.int z14)) rfl rfl rfl ⟨hσ0, hF0, z14, rfl, ⟨by omega, by omega, whR_n (fun ⟨q1, q2, q3, q4, q5⟩ => by omega) (by omega)⟩⟩
  · refine En_Ps 3 (pc' := 11) (lv' := [(0, .ref 159), (1, .int a), (2, .int b)]) (st' := [.long b.toInt64, .ref 159]) rfl ?_
    obtain ⟨z17, h16, h18, h19⟩ := WT_peekI hσ0 (by decide +kernel : TG 160 = 36) (by decide +kernel : FT 36 (0 : Int).toNat = (0, 0, 4)) (by decide +kernel)
    obtain ⟨z21, h20, h22, h23⟩ := WT_peekI hσ0 (by decide +kernel : TG 160 = 36) (by decide +kernel : FT 36 (7 : Int).toNat = (0, 0, 1600)) (by decide +kernel)
    have : b.toInt64.toInt = b.toInt := (i2lI rfl)
    refine En_callV rfl rfl rfl rfl rfl rfl rfl rfl (by decide +kernel : TG 159 = 35) (by decide +kernel) rfl (c_259x σ0 hσ0 b.toInt64 z17 h16 z21 h20) (by decide) (by decide) (fun v25 σ26 h24 => ?_)
    obtain ⟨h27, h28, z30, rfl, h29⟩ := h24
    have h31 := h29.2.2.2
    obtain rfl : σ0 = σ26 := Fr_nil h28
    have h32 := h31
    have w33 : wf σ0 (0) = z17.toInt := ci_at h16 (by omega)
    have w34 : wf σ0 (7) = z21.toInt := ci_at h20 (by omega)
    have h35 : pI (wf σ0 0) = pI (z17.toInt) := by rw [w33]
    refine En_iNe _ rfl rfl (fun h36 => ?_) (fun h36 => ?_)
    · have h37 := Imp_m h29.2.2.1 (by omega)
      have h38 : 1 ≤ z21.toInt := by omega
      have h39 := pI_rng (s := z17.toInt) (by omega) (by omega)
      have h40 := kI_val z21.toInt z17.toInt
      have h41 : 0 ≤ b.toInt ∧ b.toInt ≤ 15 := by omega
      refine En_Ps 3 (pc' := 23) (lv' := [(0, .ref 159), (1, .int a), (2, .int b)]) (st' := [.int a, .ref 159, .ref 159]) rfl ?_
      refine En_callV rfl rfl rfl rfl rfl rfl rfl rfl (by decide +kernel : TG 159 = 35) (by decide +kernel) rfl (c_305x σ0 hσ0 a (geI rfl (by omega)) (leI rfl (by omega)) z2 h1) (by decide) (by decide) (fun v43 σ44 h42 => ?_)
      obtain ⟨h45, h46, z48, rfl, h47⟩ := h42
      have h49 := h47.2.2
      obtain rfl : σ0 = σ44 := Fr_nil h46
      refine En_callV rfl rfl rfl rfl rfl rfl rfl rfl (by decide +kernel : TG 159 = 35) (by decide +kernel) rfl (c_271x σ0 hσ0 z48 (geI rfl (by omega)) (leI rfl (by omega))) (by decide) (by decide) (fun v51 σ52 h50 => ?_)
      obtain ⟨h53, h54, z56, h57, rfl, h55⟩ := h50
      have h58 := h55.2.2
      have h59 := Fr_trans hF0 h54 (by decide +kernel)
      have h60 : wf σ52 = wf σ0 := wf_fr h54 (by decide +kernel)
      refine En_Ps 4 (pc' := 33) (lv' := [(0, .ref 159), (1, .int a), (2, .int b)]) (st' := [.int a, .ref 159, .ref 159, .ref 159]) rfl ?_
      refine En_callV rfl rfl rfl rfl rfl rfl rfl rfl (by decide +kernel : TG 159 = 35) (by decide +kernel) rfl (c_305x σ52 h53 a (geI rfl (by omega)) (leI rfl (by omega)) z2 ((h54 _ _ (inWa (by decide +kernel : TG 160 = 36) (by decide +kernel))).trans h1)) (by decide) (by decide) (fun v62 σ63 h61 => ?_)
      obtain ⟨h64, h65, z67, rfl, h66⟩ := h61
      have h68 := h66.2.2
      obtain rfl : σ52 = σ63 := Fr_nil h65
      have h69 : z67.toInt = rlW (wf σ0) a.toInt := by rw [← h60]; exact h68
      have h70 : z67.toInt = z48.toInt := by omega
      refine En_Ps 1 (pc' := 37) (lv' := [(0, .ref 159), (1, .int a), (2, .int b)]) (st' := [.int ((Int32.ofInt 0)), .int z67, .ref 159, .ref 159]) rfl ?_
      have := (by decide : ((Int32.ofInt 0)).toInt = 0)
      obtain ⟨z71, h72, h73, h74⟩ := WT_peekJ (J := (4 * z67.toInt + ((Int32.ofInt 0)).toInt + 10)) (l := 0) (u := 2) h53 (by decide +kernel : TG 160 = 36) (by decide +kernel) (by omega) (lnI (by decide +kernel : LN _ = 226) (by omega)) (FTrow 36 10 4 4 (by decide +kernel) (by omega) (by omega) (by omega))
      have := (by decide : ((Int32.ofInt 0)).toInt = 0)
      refine En_callV rfl rfl rfl rfl rfl rfl rfl rfl (by decide +kernel : TG 159 = 35) (by decide +kernel) rfl (c_290a σ52 h53 z67 ((Int32.ofInt 0)) (geI rfl (by omega)) (leI rfl (by omega)) (geI (by decide : (Int32.ofInt 0).toInt = 0) (by omega)) (leI (by decide : (Int32.ofInt 0).toInt = 0) (by omega)) z71 h72) (by decide) (by decide) (fun v76 σ77 h75 => ?_)
      obtain ⟨h78, h79, z81, rfl, h80⟩ := h75
      obtain rfl : σ52 = σ77 := Fr_nil h79
      have h82 : wf σ0 (10 + 4 * z48.toInt) = z81.toInt := by rw [← h60]; exact (ci_at h72 (by omega)).trans (by omega)
      refine En_Ps 1 (pc' := 41) (lv' := [(0, .ref 159), (1, .int a), (2, .int b)]) (st' := [.int b, .int z81, .ref 159]) rfl ?_
      refine En_callV rfl rfl rfl rfl rfl rfl rfl rfl (by decide +kernel : TG 159 = 35) (by decide +kernel) rfl (c_204x σ52 h53 z81 b (geI rfl (by omega)) (leI rfl (by omega)) (geI rfl (by omega)) (leI rfl (by omega)) z56 h57) (by decide) (by decide) (fun v84 σ85 h83 => ?_)
      obtain ⟨h86, h87, z89, rfl, h88⟩ := h83
      have h90 := h88.2.2.2
      obtain rfl : σ52 = σ85 := Fr_nil h87
      exact En_ret (v := some (.int z89)) rfl rfl rfl ⟨h53, h59, z89, rfl, ⟨by omega, by omega, whR_y ⟨by omega, by omega, by omega, by omega, by omega⟩ h49 h82 h58.1.symm (fun i i0 i1 => (h58.2 i i0 i1).1) (whL_m h90)⟩⟩
    · refine En_Ps 1 (pc' := 19) (lv' := [(0, .ref 159), (1, .int a), (2, .int b)]) (st' := [.int (((Int8.ofInt (-2)).toInt32))]) rfl ?_
      refine En_top (by decide : ((Int8.ofInt (-2)).toInt32).toInt = -2) (fun z91 h92 => ?_)
      exact En_ret (v := some (.int z91)) rfl rfl rfl ⟨hσ0, hF0, z91, rfl, ⟨by omega, by omega, whR_n (fun ⟨q1, q2, q3, q4, q5⟩ => by omega) (by omega)⟩⟩
/-- DoorSchoolModel.wrong(I)I -/
abbrev P_334x (σ0 : SG) (a : Int32) : PO := fun v σ => WT σ ∧ Fr [(35, 18), (35, 21), (42, 0), (43, 0), (44, 0), (45, 0), (46, 0)] σ0 σ ∧ ∃ ret : Int32, v = some (.int ret) ∧ -ret.toInt - 2 ≤ 0 ∧ ret.toInt - 11 ≤ 0 ∧ ret.toInt = wrR (wf σ0) a.toInt
set_option maxRecDepth 10000 in
set_option maxHeartbeats 4000000 in
theorem c_334x (σ0 : SG) (hσ0 : WT σ0) (a : Int32) (hq : QX (wf σ0)) : En 5 112 none mr_334 (P_334x σ0 a) 0 [(0, .ref 159), (1, .int a)] [] σ0 := by
  have hF0 : Fr [(35, 18), (35, 21), (42, 0), (43, 0), (44, 0), (45, 0), (46, 0)] σ0 σ0 := Fr_rfl
  refine En_Ps 2 (pc' := 2) (lv' := [(0, .ref 159), (1, .int a)]) (st' := [.int a, .ref 159]) rfl ?_
  obtain ⟨z2, h1, h3, h4⟩ := WT_peekI hσ0 (by decide +kernel : TG 160 = 36) (by decide +kernel : FT 36 (2 : Int).toNat = (0, 0, 4)) (by decide +kernel)
  refine En_callV rfl rfl rfl rfl rfl rfl rfl rfl (by decide +kernel : TG 159 = 35) (by decide +kernel) rfl (c_254 σ0 hσ0 a z2 h1) (by decide) (by decide) (fun v6 σ7 h5 => ?_)
  obtain ⟨h8, h9, z11, rfl, h10⟩ := h5
  obtain rfl : σ0 = σ7 := Fr_nil h9
  have w12 : wf σ0 (2) = z2.toInt := ci_at h1 (by omega)
  refine En_iNe _ rfl rfl (fun h13 => ?_) (fun h13 => ?_)
  · obtain ⟨z15, h14, h16, h17⟩ := WT_peekI hσ0 (by decide +kernel : TG 160 = 36) (by decide +kernel : FT 36 (0 : Int).toNat = (0, 0, 4)) (by decide +kernel)
    obtain ⟨z19, h18, h20, h21⟩ := WT_peekI hσ0 (by decide +kernel : TG 160 = 36) (by decide +kernel : FT 36 (7 : Int).toNat = (0, 0, 1600)) (by decide +kernel)
    have w22 : wf σ0 (0) = z15.toInt := ci_at h14 (by omega)
    have w23 : wf σ0 (7) = z19.toInt := ci_at h18 (by omega)
    have h24 : 1 ≤ z19.toInt := by have e9 := hq (by omega); omega
    refine En_Ps 2 (pc' := 13) (lv' := [(0, .ref 159), (1, .int a)]) (st' := [.int a, .ref 159]) rfl ?_
    refine En_callV rfl rfl rfl rfl rfl rfl rfl rfl (by decide +kernel : TG 159 = 35) (by decide +kernel) rfl (c_213x σ0 hσ0 a (geI rfl (by omega)) (leI rfl (by omega)) z15 h14 z19 h18 (by omega)) (by decide) (by decide) (fun v26 σ27 h25 => ?_)
    obtain ⟨h28, h29, z31, h32, z33, rfl, h30⟩ := h25
    have h34 := h30.2.2.2.2.2.2.2.2.1
    have h35 := Fr_trans hF0 h29 (by decide +kernel)
    have h36 : wf σ27 = wf σ0 := wf_fr h29 (by decide +kernel)
    refine En_Ps 3 (pc' := 19) (lv' := [(3, .int ((Int32.ofInt 0))), (2, .int z33), (0, .ref 159), (1, .int a)]) (st' := []) rfl ?_
    have key19 : ∀ (n19 : Nat) (y37 : Int32), 0 ≤ y37.toInt → y37.toInt ≤ 12 → -y37.toInt + 12 < (n19 : Int) → NOP (fun i => ¬ RIG z33.toInt (exK (wf σ0)) (exO (wf σ0)) i) y37.toInt → En 5 112 none mr_334 (P_334x σ0 a) 19 [(0, .ref 159), (1, .int a), (2, .int z33), (3, .int y37)] [] σ27 := by
      intro n19
      induction n19 with
      | zero =>
        intro y37 h41 h42 h43 h44
        exfalso; omega
      | succ n19 ih19 =>
        intro y37 h41 h42 h43 h44
        refine En_Ps 2 (pc' := 21) (lv' := [(0, .ref 159), (1, .int a), (2, .int z33), (3, .int y37)]) (st' := [.ref 159, .int y37]) rfl ?_
        refine En_getU (j := 1) (u := 160) (g' := 36) (q := 0) rfl rfl rfl (by decide +kernel : TG 159 = 35) (by decide +kernel) h28 (by decide +kernel) (by decide +kernel) (fun h45 => ?_)
        refine En_Ps 1 (pc' := 25) (lv' := [(0, .ref 159), (1, .int a), (2, .int z33), (3, .int y37)]) (st' := [.int ((Int32.ofInt 3)), .ref 160, .int y37]) rfl ?_
        refine En_iald (l := 0) (u := 12) rfl (by decide : (Int32.ofInt 3).toInt = 3) (by decide +kernel : TG 160 = 36) (by decide +kernel) h28 (by omega) (lnI (by decide +kernel : LN _ = 226) (by omega)) (by decide +kernel) (fun z48 h47 h49 h50 => ?_)
        have h51 : wf σ0 3 = z48.toInt := by rw [← h36]; exact ci_at h47 (by omega)
        refine En_icGe _ rfl rfl rfl (fun h52 => ?_) (fun h52 => ?_)
        · refine En_Ps 1 (pc' := 47) (lv' := [(0, .ref 159), (1, .int a), (2, .int z33), (3, .int y37)]) (st' := [.int ((Int32.ofInt (-1)))]) rfl ?_
          refine En_top (by decide : (Int32.ofInt (-1)).toInt = -1) (fun z53 h54 => ?_)
          exact En_ret (v := some (.int z53)) rfl rfl rfl ⟨h28, h35, z53, rfl, ⟨by omega, by omega, wrR_y ⟨by omega, by omega⟩ h34 (by unfold wrN; exact NOP_n h44 (by have e9 := N23_w hσ0; omega) (by omega) (by omega))⟩⟩
        · refine En_Ps 3 (pc' := 32) (lv' := [(0, .ref 159), (1, .int a), (2, .int z33), (3, .int y37)]) (st' := [.int y37, .int z33, .ref 159]) rfl ?_
          refine En_callV rfl rfl rfl rfl rfl rfl rfl rfl (by decide +kernel : TG 159 = 35) (by decide +kernel) rfl (c_262x σ27 h28 z33 y37 (geI rfl (by omega)) (leI rfl (by omega)) (geI rfl (by omega)) (leI rfl (by omega))) (by decide) (by decide) (fun v56 σ57 h55 => ?_)
          obtain ⟨h58, h59, z61, rfl, h60⟩ := h55
          have h62 := h60.2.2
          obtain rfl : σ27 = σ57 := Fr_nil h59
          refine En_iNe _ rfl rfl (fun h63 => ?_) (fun h63 => ?_)
          · refine En_Ps 1 (pc' := 43) (lv' := [(3, .int ((y37 + Int32.ofInt 1))), (0, .ref 159), (1, .int a), (2, .int z33)]) (st' := []) rfl ?_
            refine En_lv1 (addI rfl (by decide : (Int32.ofInt 1).toInt = 1) (by omega) (by omega)) (fun z64 h65 => ?_)
            refine En_Ps 1 (pc' := 19) (lv' := [(3, .int z64), (0, .ref 159), (1, .int a), (2, .int z33)]) (st' := []) rfl ?_
            refine En_lv (lv := [(0, .ref 159), (1, .int a), (2, .int z33), (3, .int z64)]) ⟨rfl, rfl, rfl, rfl, trivial⟩ ?_
            exact ih19 z64 (by omega) (by omega) (by omega) (NOP_s h44 (fun q => q (by rw [← h36]; rcases h62 with e9 | e9; exact e9.2; exfalso; omega)) (by omega))
          · refine En_Ps 1 (pc' := 39) (lv' := [(0, .ref 159), (1, .int a), (2, .int z33), (3, .int y37)]) (st' := [.int y37]) rfl ?_
            exact En_ret (v := some (.int y37)) rfl rfl rfl ⟨h28, h35, y37, rfl, ⟨by omega, by omega, wrR_y ⟨by omega, by omega⟩ h34 (by unfold wrN; exact NOP_y h44 (by omega) (by show ¬ RIG _ _ _ _; rw [← h36]; rcases h62 with e9 | e9; exfalso; omega; exact e9.2) (by omega) (by omega))⟩⟩
    have := (by decide : (Int32.ofInt 0).toInt = 0)
    refine En_lv (lv := [(0, .ref 159), (1, .int a), (2, .int z33), (3, .int ((Int32.ofInt 0)))]) ⟨rfl, rfl, rfl, rfl, trivial⟩ ?_
    exact key19 (Int.toNat (12) + 1) ((Int32.ofInt 0)) (by omega) (by omega) (by omega) (NOP_0 (by omega))
  · refine En_Ps 1 (pc' := 10) (lv' := [(0, .ref 159), (1, .int a)]) (st' := [.int (((Int8.ofInt (-2)).toInt32))]) rfl ?_
    refine En_top (by decide : ((Int8.ofInt (-2)).toInt32).toInt = -2) (fun z66 h67 => ?_)
    exact En_ret (v := some (.int z66)) rfl rfl rfl ⟨hσ0, hF0, z66, rfl, ⟨by omega, by omega, wrR_n (fun ⟨q1, q2⟩ => by omega) (by omega)⟩⟩
/-- DoorSchoolModel.years(IIII)I -/
abbrev P_335x (σ0 : SG) (a : Int32) (b : Int32) (c : Int32) (d : Int32) : PO := fun v σ => WT σ ∧ Fr [(35, 18), (35, 21), (35, 31), (42, 0), (43, 0), (44, 0), (45, 0), (46, 0)] σ0 σ ∧ ∃ ret : Int32, v = some (.int ret) ∧ -ret.toInt - 2 ≤ 0 ∧ ret.toInt - 20 ≤ 0 ∧ ret.toInt = yrR (wf σ0) a.toInt b.toInt c.toInt d.toInt
set_option maxRecDepth 10000 in
set_option maxHeartbeats 4000000 in
theorem c_335x (σ0 : SG) (hσ0 : WT σ0) (a : Int32) (b : Int32) (c : Int32) (d : Int32) (hq : QX (wf σ0)) : En 6 139 none mr_335 (P_335x σ0 a b c d) 0 [(0, .ref 159), (1, .int a), (2, .int b), (3, .int c), (4, .int d)] [] σ0 := by
  have hF0 : Fr [(35, 18), (35, 21), (35, 31), (42, 0), (43, 0), (44, 0), (45, 0), (46, 0)] σ0 σ0 := Fr_rfl
  refine En_Ps 1 (pc' := 1) (lv' := [(0, .ref 159), (1, .int a), (2, .int b), (3, .int c), (4, .int d)]) (st' := [.int a]) rfl ?_
  refine En_callS rfl rfl rfl rfl rfl rfl rfl rfl rfl (c_265 σ0 hσ0 a) (by decide) (by decide) (fun v2 σ3 h1 => ?_)
  obtain ⟨h4, h5, z7, rfl, h6⟩ := h1
  obtain rfl : σ0 = σ3 := Fr_nil h5
  refine En_iEq _ rfl rfl (fun h8 => ?_) (fun h8 => ?_)
  · refine En_Ps 1 (pc' := 29) (lv' := [(0, .ref 159), (1, .int a), (2, .int b), (3, .int c), (4, .int d)]) (st' := [.int (((Int8.ofInt (-2)).toInt32))]) rfl ?_
    refine En_top (by decide : ((Int8.ofInt (-2)).toInt32).toInt = -2) (fun z9 h10 => ?_)
    exact En_ret (v := some (.int z9)) rfl rfl rfl ⟨hσ0, hF0, z9, rfl, ⟨by omega, by omega, yrR_n (fun ⟨q1, q2, q3, q4, q5, q6⟩ => by omega) (by omega)⟩⟩
  · refine En_Ps 4 (pc' := 13) (lv' := [(0, .ref 159), (1, .int a), (2, .int b), (3, .int c), (4, .int d)]) (st' := [.long ((20 : Int64)), .long ((Int64.ofNat 1)), .long b.toInt64]) rfl ?_
    have : b.toInt64.toInt = b.toInt := (i2lI rfl)
    have := (by decide : ((Int64.ofNat 1)).toInt = 1)
    have := (by decide : ((20 : Int64)).toInt = 20)
    refine En_callS rfl rfl rfl rfl rfl rfl rfl rfl rfl (c_249 σ0 hσ0 b.toInt64 ((Int64.ofNat 1)) ((20 : Int64))) (by decide) (by decide) (fun v12 σ13 h11 => ?_)
    obtain ⟨h14, h15, z17, rfl, h16⟩ := h11
    obtain rfl : σ0 = σ13 := Fr_nil h15
    refine En_iEq _ rfl rfl (fun h18 => ?_) (fun h18 => ?_)
    · refine En_Ps 1 (pc' := 29) (lv' := [(0, .ref 159), (1, .int a), (2, .int b), (3, .int c), (4, .int d)]) (st' := [.int (((Int8.ofInt (-2)).toInt32))]) rfl ?_
      refine En_top (by decide : ((Int8.ofInt (-2)).toInt32).toInt = -2) (fun z19 h20 => ?_)
      exact En_ret (v := some (.int z19)) rfl rfl rfl ⟨hσ0, hF0, z19, rfl, ⟨by omega, by omega, yrR_n (fun ⟨q1, q2, q3, q4, q5, q6⟩ => by omega) (by omega)⟩⟩
    · refine En_Ps 2 (pc' := 21) (lv' := [(0, .ref 159), (1, .int a), (2, .int b), (3, .int c), (4, .int d)]) (st' := [.int c, .ref 159]) rfl ?_
      obtain ⟨z22, h21, h23, h24⟩ := WT_peekI hσ0 (by decide +kernel : TG 160 = 36) (by decide +kernel : FT 36 (2 : Int).toNat = (0, 0, 4)) (by decide +kernel)
      refine En_callV rfl rfl rfl rfl rfl rfl rfl rfl (by decide +kernel : TG 159 = 35) (by decide +kernel) rfl (c_254 σ0 hσ0 c z22 h21) (by decide) (by decide) (fun v26 σ27 h25 => ?_)
      obtain ⟨h28, h29, z31, rfl, h30⟩ := h25
      obtain rfl : σ0 = σ27 := Fr_nil h29
      have w32 : wf σ0 (2) = z22.toInt := ci_at h21 (by omega)
      refine En_iNe _ rfl rfl (fun h33 => ?_) (fun h33 => ?_)
      · obtain ⟨z35, h34, h36, h37⟩ := WT_peekI hσ0 (by decide +kernel : TG 160 = 36) (by decide +kernel : FT 36 (0 : Int).toNat = (0, 0, 4)) (by decide +kernel)
        obtain ⟨z39, h38, h40, h41⟩ := WT_peekI hσ0 (by decide +kernel : TG 160 = 36) (by decide +kernel : FT 36 (7 : Int).toNat = (0, 0, 1600)) (by decide +kernel)
        have w42 : wf σ0 (0) = z35.toInt := ci_at h34 (by omega)
        have w43 : wf σ0 (7) = z39.toInt := ci_at h38 (by omega)
        have h44 : 1 ≤ z39.toInt := by have e9 := hq (by omega); omega
        have wq0 : wf σ0 = wf σ0 := rfl
        refine En_Ps 4 (pc' := 36) (lv' := [(6, .int ((Int32.ofInt 0))), (5, .int ((Int32.ofInt 0))), (0, .ref 159), (1, .int a), (2, .int b), (3, .int c), (4, .int d)]) (st' := []) rfl ?_
        have key36 : ∀ (n36 : Nat) (σ47 : SG) (y45 : Int32) (y46 : Int32), WT σ47 → Fr [(35, 18), (35, 21), (35, 31), (42, 0), (43, 0), (44, 0), (45, 0), (46, 0)] σ0 σ47 → (σ47 160)[(2 : Int).toNat]? = some (.int z22) → (σ47 160)[(0 : Int).toNat]? = some (.int z35) → (σ47 160)[(7 : Int).toNat]? = some (.int z39) → 0 ≤ y45.toInt → y45.toInt ≤ 20 → 0 ≤ y46.toInt → y46.toInt ≤ 20 → y46.toInt - b.toInt ≤ 0 → y45.toInt - y46.toInt ≤ 0 → b.toInt - y46.toInt < (n36 : Int) → y45.toInt = CNT (yrP (wf σ0) a.toInt c.toInt d.toInt) (y46.toInt).toNat → y46.toInt ≤ b.toInt → wf σ47 = wf σ0 → En 6 139 none mr_335 (P_335x σ0 a b c d) 36 [(0, .ref 159), (1, .int a), (2, .int b), (3, .int c), (4, .int d), (5, .int y45), (6, .int y46)] [] σ47 := by
          intro n36
          induction n36 with
          | zero =>
            intro σ47 y45 y46 h48 h49 h50 h51 h52 h53 h54 h55 h56 h57 h58 h59 h60 h61 h62
            exfalso; omega
          | succ n36 ih36 =>
            intro σ47 y45 y46 h48 h49 h50 h51 h52 h53 h54 h55 h56 h57 h58 h59 h60 h61 h62
            refine En_Ps 2 (pc' := 39) (lv' := [(0, .ref 159), (1, .int a), (2, .int b), (3, .int c), (4, .int d), (5, .int y45), (6, .int y46)]) (st' := [.int b, .int y46]) rfl ?_
            refine En_icGe _ rfl rfl rfl (fun h63 => ?_) (fun h63 => ?_)
            · refine En_Ps 1 (pc' := 80) (lv' := [(0, .ref 159), (1, .int a), (2, .int b), (3, .int c), (4, .int d), (5, .int y45), (6, .int y46)]) (st' := [.int y45]) rfl ?_
              exact En_ret (v := some (.int y45)) rfl rfl rfl ⟨h48, h49, y45, rfl, ⟨by omega, by omega, yrR_y ⟨by omega, by omega, by omega, by omega, by omega, by omega⟩ (i := y46.toInt) (by omega) h60⟩⟩
            · refine En_Ps 8 (pc' := 52) (lv' := [(0, .ref 159), (1, .int a), (2, .int b), (3, .int c), (4, .int d), (5, .int y45), (6, .int y46)]) (st' := [.long ((a.toInt64 + y46.toInt64)), .ref 159, .ref 159, .int y45]) rfl ?_
              refine En_topL (addL (i2lI rfl) (i2lI rfl) (by omega) (by omega)) (fun z64 h65 => ?_)
              refine En_Ps 1 (pc' := 53) (lv' := [(0, .ref 159), (1, .int a), (2, .int b), (3, .int c), (4, .int d), (5, .int y45), (6, .int y46)]) (st' := [.int c, .long z64, .ref 159, .ref 159, .int y45]) rfl ?_
              refine En_callV rfl rfl rfl rfl rfl rfl rfl rfl (by decide +kernel : TG 159 = 35) (by decide +kernel) rfl (c_316x σ47 h48 z64 c (geI rfl (by omega)) (leI rfl (by omega)) z35 h51 z39 h52 (by omega) (by omega) (by omega)) (by decide) (by decide) (fun v67 σ68 h66 => ?_)
              obtain ⟨h69, h70, z72, h73, z74, rfl, h71⟩ := h66
              have h75 := h71.2.2.2.2.2.2.2.2
              have h76 := Fr_trans h49 h70 (by decide +kernel)
              have h77 : wf σ68 = wf σ0 := (wf_fr h70 (by decide +kernel)).trans h62
              have h78 : z74.toInt = STD (wf σ0) z64.toInt c.toInt := by rw [← h62]; exact h75.1
              refine En_callV rfl rfl rfl rfl rfl rfl rfl rfl (by decide +kernel : TG 159 = 35) (by decide +kernel) rfl (c_283x σ68 h69 z74 (geI rfl (by omega)) (leI rfl (by omega))) (by decide) (by decide) (fun v80 σ81 h79 => ?_)
              obtain ⟨h82, h83, z85, rfl, h84⟩ := h79
              have h86 := h84.2.2
              obtain rfl : σ68 = σ81 := Fr_nil h83
              have h87 := h86
              rw [h77] at h87
              refine En_Ps 1 (pc' := 61) (lv' := [(0, .ref 159), (1, .int a), (2, .int b), (3, .int c), (4, .int d), (5, .int y45), (6, .int y46)]) (st' := [.int d, .int z85, .int y45]) rfl ?_
              refine En_icLt _ rfl rfl rfl (fun h88 => ?_) (fun h88 => ?_)
              · refine En_Ps 2 (pc' := 70) (lv' := [(0, .ref 159), (1, .int a), (2, .int b), (3, .int c), (4, .int d), (5, .int y45), (6, .int y46)]) (st' := [.int ((y45 + ((Int32.ofInt 0))))]) rfl ?_
                refine En_top (addI rfl (by decide : (Int32.ofInt 0).toInt = 0) (by omega) (by omega)) (fun z89 h90 => ?_)
                refine En_Ps 2 (pc' := 75) (lv' := [(6, .int ((y46 + Int32.ofInt 1))), (5, .int z89), (0, .ref 159), (1, .int a), (2, .int b), (3, .int c), (4, .int d)]) (st' := []) rfl ?_
                refine En_lv1 (addI rfl (by decide : (Int32.ofInt 1).toInt = 1) (by omega) (by omega)) (fun z91 h92 => ?_)
                refine En_Ps 1 (pc' := 36) (lv' := [(6, .int z91), (5, .int z89), (0, .ref 159), (1, .int a), (2, .int b), (3, .int c), (4, .int d)]) (st' := []) rfl ?_
                refine En_lv (lv := [(0, .ref 159), (1, .int a), (2, .int b), (3, .int c), (4, .int d), (5, .int z89), (6, .int z91)]) ⟨rfl, rfl, rfl, rfl, rfl, rfl, rfl, trivial⟩ ?_
                exact ih36 σ68 z89 z91 h69 h76 ((h70 _ _ (inWa (by decide +kernel : TG 160 = 36) (by decide +kernel))).trans h50) ((h70 _ _ (inWa (by decide +kernel : TG 160 = 36) (by decide +kernel))).trans h51) ((h70 _ _ (inWa (by decide +kernel : TG 160 = 36) (by decide +kernel))).trans h52) (by omega) (by omega) (by omega) (by omega) (by omega) (by omega) (by omega) ((by first | exact CNT_y (by omega) h60 (yrP_y (S := z64.toInt) (by omega) h78 h87 (by omega)) (by omega) (by omega) | exact CNT_n (by omega) h60 (yrP_n (S := z64.toInt) (by omega) h78 h87 (by omega)) (by omega) (by omega))) ((by omega)) (h77)
              · refine En_Ps 3 (pc' := 70) (lv' := [(0, .ref 159), (1, .int a), (2, .int b), (3, .int c), (4, .int d), (5, .int y45), (6, .int y46)]) (st' := [.int ((y45 + ((Int32.ofInt 1))))]) rfl ?_
                refine En_top (addI rfl (by decide : (Int32.ofInt 1).toInt = 1) (by omega) (by omega)) (fun z93 h94 => ?_)
                refine En_Ps 2 (pc' := 75) (lv' := [(6, .int ((y46 + Int32.ofInt 1))), (5, .int z93), (0, .ref 159), (1, .int a), (2, .int b), (3, .int c), (4, .int d)]) (st' := []) rfl ?_
                refine En_lv1 (addI rfl (by decide : (Int32.ofInt 1).toInt = 1) (by omega) (by omega)) (fun z95 h96 => ?_)
                refine En_Ps 1 (pc' := 36) (lv' := [(6, .int z95), (5, .int z93), (0, .ref 159), (1, .int a), (2, .int b), (3, .int c), (4, .int d)]) (st' := []) rfl ?_
                refine En_lv (lv := [(0, .ref 159), (1, .int a), (2, .int b), (3, .int c), (4, .int d), (5, .int z93), (6, .int z95)]) ⟨rfl, rfl, rfl, rfl, rfl, rfl, rfl, trivial⟩ ?_
                exact ih36 σ68 z93 z95 h69 h76 ((h70 _ _ (inWa (by decide +kernel : TG 160 = 36) (by decide +kernel))).trans h50) ((h70 _ _ (inWa (by decide +kernel : TG 160 = 36) (by decide +kernel))).trans h51) ((h70 _ _ (inWa (by decide +kernel : TG 160 = 36) (by decide +kernel))).trans h52) (by omega) (by omega) (by omega) (by omega) (by omega) (by omega) (by omega) ((by first | exact CNT_y (by omega) h60 (yrP_y (S := z64.toInt) (by omega) h78 h87 (by omega)) (by omega) (by omega) | exact CNT_n (by omega) h60 (yrP_n (S := z64.toInt) (by omega) h78 h87 (by omega)) (by omega) (by omega))) ((by omega)) (h77)
        have := (by decide : (Int32.ofInt 0).toInt = 0)
        have := (by decide : (Int32.ofInt 0).toInt = 0)
        refine En_lv (lv := [(0, .ref 159), (1, .int a), (2, .int b), (3, .int c), (4, .int d), (5, .int ((Int32.ofInt 0))), (6, .int ((Int32.ofInt 0)))]) ⟨rfl, rfl, rfl, rfl, rfl, rfl, rfl, trivial⟩ ?_
        exact key36 (Int.toNat (b.toInt) + 1) σ0 ((Int32.ofInt 0)) ((Int32.ofInt 0)) hσ0 hF0 h21 h34 h38 (by omega) (by omega) (by omega) (by omega) (by omega) (by omega) (by omega) (CNT_0 (by omega) (by omega)) ((by omega)) (wq0)
      · refine En_Ps 1 (pc' := 29) (lv' := [(0, .ref 159), (1, .int a), (2, .int b), (3, .int c), (4, .int d)]) (st' := [.int (((Int8.ofInt (-2)).toInt32))]) rfl ?_
        refine En_top (by decide : ((Int8.ofInt (-2)).toInt32).toInt = -2) (fun z97 h98 => ?_)
        exact En_ret (v := some (.int z97)) rfl rfl rfl ⟨hσ0, hF0, z97, rfl, ⟨by omega, by omega, yrR_n (fun ⟨q1, q2, q3, q4, q5, q6⟩ => by omega) (by omega)⟩⟩

