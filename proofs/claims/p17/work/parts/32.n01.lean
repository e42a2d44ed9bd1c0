/-- DoorSchool$Plan.isDoor(I)Z -/
abbrev P_47x (σ0 : SG) (s : Nat) (a : Int32) (n : Int32) : PO := fun v σ => WT σ ∧ Fr [] σ0 σ ∧ ∃ ret : Int32, v = some (.int ret) ∧ -ret.toInt ≤ 0 ∧ ret.toInt - 1 ≤ 0 ∧ Imp (-ret.toInt + 1 ≤ 0) (-a.toInt ≤ 0 ∧ a.toInt - n.toInt + 1 ≤ 0) ∧ Imp (-a.toInt ≤ 0 ∧ a.toInt - n.toInt + 1 ≤ 0) (-ret.toInt + 1 ≤ 0) ∧ Imp (ret.toInt ≤ 0 ∧ -ret.toInt ≤ 0) (-a.toInt - 2147483648 ≤ 0 ∧ a.toInt - 2147483647 ≤ 0) ∧ Imp (ret.toInt - 1 ≤ 0 ∧ -ret.toInt + 1 ≤ 0) (-a.toInt ≤ 0 ∧ a.toInt - 3 ≤ 0)
set_option maxRecDepth 10000 in
set_option maxHeartbeats 4000000 in
theorem c_47x (σ0 : SG) (hσ0 : WT σ0) (s : Nat) (hs : TG s = 18) (a : Int32) (n : Int32) (h_n : (σ0 s)[3]? = some (.int n)) : En 0 0 none mr_47 (P_47x σ0 s a n) 0 [(0, .ref s), (1, .int a)] [] σ0 := by
  obtain ⟨hl_n, hu_n⟩ := WT_int hσ0 (g := 18) hs (by decide +kernel) (l := 0) (u := 4) (by decide +kernel) h_n
  have := Int32.le_toInt a
  have := Int32.toInt_lt a
  have hF0 : Fr [] σ0 σ0 := Fr_rfl
  refine En_Ps 1 (pc' := 1) (lv' := [(0, .ref s), (1, .int a)]) (st' := [.int a]) rfl ?_
  refine En_iLt _ rfl rfl (fun h1 => ?_) (fun h1 => ?_)
  · refine En_Ps 1 (pc' := 17) (lv' := [(0, .ref s), (1, .int a)]) (st' := [.int ((Int32.ofInt 0))]) rfl ?_
    refine En_top (by decide : (Int32.ofInt 0).toInt = 0) (fun z2 h3 => ?_)
    exact En_ret (v := some (.int z2)) rfl rfl (retZ rfl rfl (by omega) (by omega)) ⟨hσ0, hF0, z2, rfl, ⟨by omega, by omega, fun _ => by omega, fun _ => by omega, fun _ => by omega, fun _ => by omega⟩⟩
  · refine En_Ps 2 (pc' := 6) (lv' := [(0, .ref s), (1, .int a)]) (st' := [.ref s, .int a]) rfl ?_
    refine En_getK (j := 3) h_n rfl rfl rfl hs (by decide +kernel) ?_
    refine En_icGe _ rfl rfl rfl (fun h4 => ?_) (fun h4 => ?_)
    · refine En_Ps 1 (pc' := 17) (lv' := [(0, .ref s), (1, .int a)]) (st' := [.int ((Int32.ofInt 0))]) rfl ?_
      refine En_top (by decide : (Int32.ofInt 0).toInt = 0) (fun z5 h6 => ?_)
      exact En_ret (v := some (.int z5)) rfl rfl (retZ rfl rfl (by omega) (by omega)) ⟨hσ0, hF0, z5, rfl, ⟨by omega, by omega, fun _ => by omega, fun _ => by omega, fun _ => by omega, fun _ => by omega⟩⟩
    · refine En_Ps 2 (pc' := 17) (lv' := [(0, .ref s), (1, .int a)]) (st' := [.int ((Int32.ofInt 1))]) rfl ?_
      refine En_top (by decide : (Int32.ofInt 1).toInt = 1) (fun z7 h8 => ?_)
      exact En_ret (v := some (.int z7)) rfl rfl (retZ rfl rfl (by omega) (by omega)) ⟨hσ0, hF0, z7, rfl, ⟨by omega, by omega, fun _ => by omega, fun _ => by omega, fun _ => by omega, fun _ => by omega⟩⟩
/-- DoorSchool$Plan.isKnock(I)Z -/
abbrev P_49x (σ0 : SG) (s : Nat) (a : Int32) (l : Int32) (sg : Int32) : PO := fun v σ => WT σ ∧ Fr [] σ0 σ ∧ ∃ ret : Int32, v = some (.int ret) ∧ -ret.toInt ≤ 0 ∧ ret.toInt - 1 ≤ 0 ∧ Imp (ret.toInt - 1 ≤ 0 ∧ -ret.toInt + 1 ≤ 0) (-a.toInt ≤ 0 ∧ a.toInt - 15 ≤ 0) ∧ ((ret.toInt = 1 ∧ 0 < l.toInt ∧ 0 ≤ a.toInt ∧ a.toInt < pI sg.toInt) ∨ (ret.toInt = 0 ∧ (l.toInt ≤ 0 ∨ a.toInt < 0 ∨ pI sg.toInt ≤ a.toInt)))
set_option maxRecDepth 10000 in
set_option maxHeartbeats 4000000 in
theorem c_49x (σ0 : SG) (hσ0 : WT σ0) (s : Nat) (hs : TG s = 18) (a : Int32) (l : Int32) (h_l : (σ0 s)[0]? = some (.int l)) (sg : Int32) (h_sg : (σ0 s)[1]? = some (.int sg)) (hp0 : -sg.toInt ≤ 0) : En 1 20 none mr_49 (P_49x σ0 s a l sg) 0 [(0, .ref s), (1, .int a)] [] σ0 := by
  obtain ⟨hl_l, hu_l⟩ := WT_int hσ0 (g := 18) hs (by decide +kernel) (l := 0) (u := 1601) (by decide +kernel) h_l
  obtain ⟨hl_sg, hu_sg⟩ := WT_int hσ0 (g := 18) hs (by decide +kernel) (l := (-1)) (u := 4) (by decide +kernel) h_sg
  have hF0 : Fr [] σ0 σ0 := Fr_rfl
  refine En_Ps 1 (pc' := 1) (lv' := [(0, .ref s), (1, .int a)]) (st' := [.ref s]) rfl ?_
  refine En_callV rfl rfl rfl rfl rfl rfl rfl rfl hs (by decide +kernel) rfl (c_43x σ0 hσ0 s hs l h_l) (by decide) (by decide) (fun v2 σ3 h1 => ?_)
  obtain ⟨h4, h5, z7, rfl, h6⟩ := h1
  have h8 := Fr_trans hF0 h5 (by decide +kernel)
  have h9 := Imp_m h6.2.2.1
  have h10 := Imp_m h6.2.2.2
  refine En_iEq _ rfl rfl (fun h11 => ?_) (fun h11 => ?_)
  · refine En_Ps 1 (pc' := 24) (lv' := [(0, .ref s), (1, .int a)]) (st' := [.int ((Int32.ofInt 0))]) rfl ?_
    refine En_top (by decide : (Int32.ofInt 0).toInt = 0) (fun z12 h13 => ?_)
    exact En_ret (v := some (.int z12)) rfl rfl (retZ rfl rfl (by omega) (by omega)) ⟨h4, h8, z12, rfl, ⟨by omega, by omega, fun _ => by omega, (by omega)⟩⟩
  · have h14 := Imp_m h6.2.2.1 (by omega)
    have h15 := Imp_m h6.2.2.2 (by omega)
    refine En_Ps 1 (pc' := 8) (lv' := [(0, .ref s), (1, .int a)]) (st' := [.int a]) rfl ?_
    refine En_iLt _ rfl rfl (fun h16 => ?_) (fun h16 => ?_)
    · refine En_Ps 1 (pc' := 24) (lv' := [(0, .ref s), (1, .int a)]) (st' := [.int ((Int32.ofInt 0))]) rfl ?_
      refine En_top (by decide : (Int32.ofInt 0).toInt = 0) (fun z17 h18 => ?_)
      exact En_ret (v := some (.int z17)) rfl rfl (retZ rfl rfl (by omega) (by omega)) ⟨h4, h8, z17, rfl, ⟨by omega, by omega, fun _ => by omega, (by omega)⟩⟩
    · refine En_Ps 2 (pc' := 13) (lv' := [(0, .ref s), (1, .int a)]) (st' := [.ref s, .int a]) rfl ?_
      refine En_callV rfl rfl rfl rfl rfl rfl rfl rfl hs (by decide +kernel) rfl (c_51x σ3 h4 s hs sg ((h5 _ _ (inW hs (by decide +kernel))).trans h_sg) (by omega)) (by decide) (by decide) (fun v20 σ21 h19 => ?_)
      obtain ⟨h22, h23, z25, rfl, h24⟩ := h19
      have h26 := h24.2.2
      have h27 := Fr_trans h8 h23 (by decide +kernel)
      have h28 := h26
      refine En_icGe _ rfl rfl rfl (fun h29 => ?_) (fun h29 => ?_)
      · refine En_Ps 1 (pc' := 24) (lv' := [(0, .ref s), (1, .int a)]) (st' := [.int ((Int32.ofInt 0))]) rfl ?_
        refine En_top (by decide : (Int32.ofInt 0).toInt = 0) (fun z30 h31 => ?_)
        exact En_ret (v := some (.int z30)) rfl rfl (retZ rfl rfl (by omega) (by omega)) ⟨h22, h27, z30, rfl, ⟨by omega, by omega, fun _ => by omega, (by omega)⟩⟩
      · refine En_Ps 2 (pc' := 24) (lv' := [(0, .ref s), (1, .int a)]) (st' := [.int ((Int32.ofInt 1))]) rfl ?_
        refine En_top (by decide : (Int32.ofInt 1).toInt = 1) (fun z32 h33 => ?_)
        exact En_ret (v := some (.int z32)) rfl rfl (retZ rfl rfl (by omega) (by omega)) ⟨h22, h27, z32, rfl, ⟨by omega, by omega, fun _ => by omega, (by omega)⟩⟩
/-- DoorSchool$Plan.isRule(II)Z -/
abbrev P_50x (σ0 : SG) (s : Nat) (a : Int32) (b : Int32) (l : Int32) (sg : Int32) : PO := fun v σ => WT σ ∧ Fr [] σ0 σ ∧ ∃ ret : Int32, v = some (.int ret) ∧ -ret.toInt ≤ 0 ∧ ret.toInt - 1 ≤ 0 ∧ Imp (ret.toInt - 1 ≤ 0 ∧ -ret.toInt + 1 ≤ 0) (-a.toInt ≤ 0 ∧ a.toInt - 15 ≤ 0 ∧ -b.toInt ≤ 0 ∧ b.toInt - 15 ≤ 0) ∧ ((ret.toInt = 1 ∧ 0 < l.toInt ∧ 0 ≤ a.toInt ∧ a.toInt < pI sg.toInt ∧ 0 ≤ b.toInt ∧ b.toInt ≤ a.toInt ∧ sbI b.toInt a.toInt = 1) ∨ (ret.toInt = 0 ∧ (l.toInt ≤ 0 ∨ a.toInt < 0 ∨ pI sg.toInt ≤ a.toInt ∨ b.toInt < 0 ∨ 15 < b.toInt ∨ sbI b.toInt a.toInt ≠ 1)))
set_option maxRecDepth 10000 in
set_option maxHeartbeats 4000000 in
theorem c_50x (σ0 : SG) (hσ0 : WT σ0) (s : Nat) (hs : TG s = 18) (a : Int32) (b : Int32) (l : Int32) (h_l : (σ0 s)[0]? = some (.int l)) (sg : Int32) (h_sg : (σ0 s)[1]? = some (.int sg)) (hp0 : -sg.toInt ≤ 0) : En 2 41 none mr_50 (P_50x σ0 s a b l sg) 0 [(0, .ref s), (1, .int a), (2, .int b)] [] σ0 := by
  obtain ⟨hl_l, hu_l⟩ := WT_int hσ0 (g := 18) hs (by decide +kernel) (l := 0) (u := 1601) (by decide +kernel) h_l
  obtain ⟨hl_sg, hu_sg⟩ := WT_int hσ0 (g := 18) hs (by decide +kernel) (l := (-1)) (u := 4) (by decide +kernel) h_sg
  have hF0 : Fr [] σ0 σ0 := Fr_rfl
  refine En_Ps 2 (pc' := 2) (lv' := [(0, .ref s), (1, .int a), (2, .int b)]) (st' := [.int a, .ref s]) rfl ?_
  refine En_callV rfl rfl rfl rfl rfl rfl rfl rfl hs (by decide +kernel) rfl (c_49x σ0 hσ0 s hs a l h_l sg h_sg (by omega)) (by decide) (by decide) (fun v2 σ3 h1 => ?_)
  obtain ⟨h4, h5, z7, rfl, h6⟩ := h1
  have h8 := h6.2.2.2
  have h9 := Fr_trans hF0 h5 (by decide +kernel)
  have h10 := Imp_m h6.2.2.1
  have h11 := h8
  refine En_iEq _ rfl rfl (fun h12 => ?_) (fun h12 => ?_)
  · refine En_Ps 1 (pc' := 21) (lv' := [(0, .ref s), (1, .int a), (2, .int b)]) (st' := [.int ((Int32.ofInt 0))]) rfl ?_
    refine En_top (by decide : (Int32.ofInt 0).toInt = 0) (fun z13 h14 => ?_)
    exact En_ret (v := some (.int z13)) rfl rfl (retZ rfl rfl (by omega) (by omega)) ⟨h4, h9, z13, rfl, ⟨by omega, by omega, fun _ => by omega, (by omega)⟩⟩
  · have h15 := Imp_m h6.2.2.1 (by omega)
    refine En_Ps 4 (pc' := 12) (lv' := [(0, .ref s), (1, .int a), (2, .int b)]) (st' := [.int ((a ^^^ ((Int32.ofInt (-1))))), .int b]) rfl ?_
    refine En_nam (fun z16 h17 => ?_)
    refine En_Ps 1 (pc' := 13) (lv' := [(0, .ref s), (1, .int a), (2, .int b)]) (st' := [.int ((b &&& z16))]) rfl ?_
    refine En_nam (fun z18 h19 => ?_)
    refine En_iNe _ rfl rfl (fun h20 => ?_) (fun h20 => ?_)
    · have := fun (q9 : 0 ≤ b.toInt) => sub_sbw h19 h17 rfl rfl q9 (by omega) (by omega)
      refine En_Ps 1 (pc' := 21) (lv' := [(0, .ref s), (1, .int a), (2, .int b)]) (st' := [.int ((Int32.ofInt 0))]) rfl ?_
      refine En_top (by decide : (Int32.ofInt 0).toInt = 0) (fun z21 h22 => ?_)
      exact En_ret (v := some (.int z21)) rfl rfl (retZ rfl rfl (by omega) (by omega)) ⟨h4, h9, z21, rfl, ⟨by omega, by omega, fun _ => by omega, (by omega)⟩⟩
    · obtain ⟨h23, h24⟩ := andn_zero h19 h17 h20 rfl rfl (by omega)
      have := sub_sbw h19 h17 rfl rfl (by omega) (by omega) (by omega)
      refine En_Ps 2 (pc' := 21) (lv' := [(0, .ref s), (1, .int a), (2, .int b)]) (st' := [.int ((Int32.ofInt 1))]) rfl ?_
      refine En_top (by decide : (Int32.ofInt 1).toInt = 1) (fun z25 h26 => ?_)
      exact En_ret (v := some (.int z25)) rfl rfl (retZ rfl rfl (by omega) (by omega)) ⟨h4, h9, z25, rfl, ⟨by omega, by omega, fun _ => by omega, (by omega)⟩⟩
/-- DoorSchool$Plan.takeFrom(LDoorSchool$Plan;)V -/
abbrev P_53ax (σ0 : SG) (s : Nat) (a : Nat) (sg : Int32) : PO := fun v σ => WT σ ∧ Fr [(20, 2), (21, 0), (22, 0), (23, 0), (24, 0), (25, 0), (26, 0), (27, 0), (28, 1), (28, 2), (28, 3), (31, 0), (31, 1), (31, 2), (31, 3), (31, 6), (31, 7), (31, 8), (31, 11), (31, 14)] σ0 σ ∧ v = none ∧ CPD σ0 σ s a (fun _ => True)
set_option maxRecDepth 10000 in
set_option maxHeartbeats 4000000 in
theorem c_53ax (σ0 : SG) (hσ0 : WT σ0) (s : Nat) (hs : TG s = 31) (a : Nat) (ha : TG a = 18) (sg : Int32) (h_sg : (σ0 a)[1]? = some (.int sg)) (hp0 : -sg.toInt ≤ 0) (hS : SEP s a) (hX : FXP σ0 s) (hY : FXP σ0 a) : En 3 102 none mr_53 (P_53ax σ0 s a sg) 0 [(0, .ref s), (1, .ref a)] [] σ0 := by
  obtain ⟨hl_sg, hu_sg⟩ := WT_int hσ0 (g := 18) ha (by decide +kernel) (l := (-1)) (u := 4) (by decide +kernel) h_sg
  have hF0 : Fr [(20, 2), (21, 0), (22, 0), (23, 0), (24, 0), (25, 0), (26, 0), (27, 0), (28, 1), (28, 2), (28, 3), (31, 0), (31, 1), (31, 2), (31, 3), (31, 6), (31, 7), (31, 8), (31, 11), (31, 14)] σ0 σ0 := Fr_rfl
  have sep := SEP_d hS
  refine En_Ps 2 (pc' := 2) (lv' := [(0, .ref s), (1, .ref a)]) (st' := [.ref a, .ref s]) rfl ?_
  refine En_getI (j := 0) (l := 0) (u := 1601) rfl rfl rfl ha (by decide +kernel) hσ0 (by decide +kernel) (fun z2 h1 h3 h4 => ?_)
  refine En_put (j := 0) rfl rfl rfl hs (by decide +kernel) rfl (vI (l := 0) (u := 1601) (by decide +kernel) rfl (by omega) (by omega)) hσ0 hF0 (by decide +kernel) (fun σ5 h6 h7 h8 h9 => ?_)
  have c10 := CPD_put (i0 := 7) (CPD_0 (σ := σ0)) hS h1 h8 h9 (by decide) (by decide) (by decide) (by decide)
  refine En_Ps 2 (pc' := 10) (lv' := [(0, .ref s), (1, .ref a)]) (st' := [.ref a, .ref s]) rfl ?_
  refine En_getK (j := 1) ((h9 _ _ (Or.inr (by decide))).trans h_sg) rfl rfl rfl ha (by decide +kernel) ?_
  refine En_put (j := 1) rfl rfl rfl hs (by decide +kernel) rfl (vI (l := 0) (u := 4) (by decide +kernel) rfl (by omega) (by omega)) h6 h7 (by decide +kernel) (fun σ11 h12 h13 h14 h15 => ?_)
  have c16 := CPD_put (i0 := 0) c10 hS ((h9 _ _ (Or.inr (by decide))).trans h_sg) h14 h15 (by decide) (by decide) (by decide) (by decide)
  refine En_Ps 2 (pc' := 18) (lv' := [(0, .ref s), (1, .ref a)]) (st' := [.ref a, .ref s]) rfl ?_
  refine En_getI (j := 2) (l := (-1)) (u := 3) rfl rfl rfl ha (by decide +kernel) h12 (by decide +kernel) (fun z18 h17 h19 h20 => ?_)
  refine En_put (j := 2) rfl rfl rfl hs (by decide +kernel) rfl (vI (l := (-1)) (u := 3) (by decide +kernel) rfl (by omega) (by omega)) h12 h13 (by decide +kernel) (fun σ21 h22 h23 h24 h25 => ?_)
  have c26 := CPD_put (i0 := 1) c16 hS h17 h24 h25 (by decide) (by decide) (by decide) (by decide)
  refine En_Ps 2 (pc' := 26) (lv' := [(0, .ref s), (1, .ref a)]) (st' := [.ref a, .ref s]) rfl ?_
  refine En_getI (j := 3) (l := 0) (u := 4) rfl rfl rfl ha (by decide +kernel) h22 (by decide +kernel) (fun z28 h27 h29 h30 => ?_)
  refine En_put (j := 3) rfl rfl rfl hs (by decide +kernel) rfl (vI (l := 0) (u := 4) (by decide +kernel) rfl (by omega) (by omega)) h22 h23 (by decide +kernel) (fun σ31 h32 h33 h34 h35 => ?_)
  have c36 := CPD_put (i0 := 2) c26 hS h27 h34 h35 (by decide) (by decide) (by decide) (by decide)
  refine En_Ps 2 (pc' := 34) (lv' := [(2, .int ((Int32.ofInt 0))), (0, .ref s), (1, .ref a)]) (st' := []) rfl ?_
  have key34 : ∀ (n34 : Nat) (σ38 : SG) (y37 : Int32), WT σ38 → Fr [(20, 2), (21, 0), (22, 0), (23, 0), (24, 0), (25, 0), (26, 0), (27, 0), (28, 1), (28, 2), (28, 3), (31, 0), (31, 1), (31, 2), (31, 3), (31, 6), (31, 7), (31, 8), (31, 11), (31, 14)] σ0 σ38 → (σ38 a)[1]? = some (.int sg) → (σ38 a)[0]? = some (.int z2) → (σ38 s)[0]? = some (.int z2) → (σ38 s)[1]? = some (.int sg) → (σ38 a)[2]? = some (.int z18) → (σ38 s)[2]? = some (.int z18) → (σ38 a)[3]? = some (.int z28) → (σ38 s)[3]? = some (.int z28) → 0 ≤ y37.toInt → y37.toInt ≤ 4 → -y37.toInt + 4 < (n34 : Int) → CPL σ0 σ38 s a y37.toInt → En 3 102 none mr_53 (P_53ax σ0 s a sg) 34 [(0, .ref s), (1, .ref a), (2, .int y37)] [] σ38 := by
    intro n34
    induction n34 with
    | zero =>
      intro σ38 y37 h39 h40 h41 h42 h43 h44 h45 h46 h47 h48 h49 h50 h51 h52
      exfalso; omega
    | succ n34 ih34 =>
      intro σ38 y37 h39 h40 h41 h42 h43 h44 h45 h46 h47 h48 h49 h50 h51 h52
      refine En_Ps 2 (pc' := 36) (lv' := [(0, .ref s), (1, .ref a), (2, .int y37)]) (st' := [.int ((Int32.ofInt 4)), .int y37]) rfl ?_
      refine En_icGe _ rfl (by decide : (Int32.ofInt 4).toInt = 4) rfl (fun h53 => ?_) (fun h53 => ?_)
      · have c54 := CPL_4 h52 (by omega)
        refine En_Ps 1 (pc' := 61) (lv' := [(0, .ref s), (1, .ref a), (2, .int y37)]) (st' := [.ref s]) rfl ?_
        refine En_getR (j := 5) (g' := 20) (u := 0) rfl rfl rfl hs (by decide +kernel) h39 (by decide +kernel) (fun a56 h55 ha56 => ?_)
        have t57 : a56 = s + 2 := ref_uniq h55 (FXI_fr (PLI_of hs) hX h40 (by decide +kernel)).2.1
        refine En_Ps 1 (pc' := 65) (lv' := [(0, .ref s), (1, .ref a), (2, .int y37)]) (st' := [.ref a, .ref a56]) rfl ?_
        refine En_getR (j := 5) (g' := 20) (u := 0) rfl rfl rfl ha (by decide +kernel) h39 (by decide +kernel) (fun a59 h58 ha59 => ?_)
        have t60 : a59 = a + 2 := ref_uniq h58 (FXP_fr (PLA_of ha) hY h40 (by decide +kernel)).2.1
        obtain ⟨a62, h61, ha62⟩ := WT_peekR (g := 20) (j := 0) (g' := 21) (u := 0) h39 ha56 (by decide +kernel) (by decide +kernel)
        have t63 : a62 = s + 3 := EKk (FXI_fr (PLI_of hs) hX h40 (by decide +kernel)) t57 h61
        obtain ⟨a65, h64, ha65⟩ := WT_peekR (g := 20) (j := 1) (g' := 22) (u := 0) h39 ha56 (by decide +kernel) (by decide +kernel)
        have t66 : a65 = s + 4 := EKo (FXI_fr (PLI_of hs) hX h40 (by decide +kernel)) t57 h64
        obtain ⟨a68, h67, ha68⟩ := WT_peekR (g := 20) (j := 0) (g' := 21) (u := 0) h39 ha59 (by decide +kernel) (by decide +kernel)
        have t69 : a68 = a + 3 := EKk (FXP_fr (PLA_of ha) hY h40 (by decide +kernel)) t60 h67
        obtain ⟨a71, h70, ha71⟩ := WT_peekR (g := 20) (j := 1) (g' := 22) (u := 0) h39 ha59 (by decide +kernel) (by decide +kernel)
        have t72 : a71 = a + 4 := EKo (FXP_fr (PLA_of ha) hY h40 (by decide +kernel)) t60 h70
        obtain ⟨z74, h73, h75, h76⟩ := WT_peekI h39 ha59 (by decide +kernel : FT 20 2 = (0, 0, 13)) (by decide +kernel)
        refine En_callV rfl rfl rfl rfl rfl rfl rfl rfl ha56 (by decide +kernel) rfl (c_40x σ38 h39 a56 ha56 a59 ha59 a62 ha62 h61 a65 ha65 h64 a68 ha68 h67 a71 ha71 h70 z74 h73 (by omega) (by omega) (by omega)) (by decide) (by decide) (fun v78 σ79 h77 => ?_)
        obtain ⟨h80, h81, rfl, h82⟩ := h77
        have h83 := h82
        have h84 := Fr_trans h40 h81 (by decide +kernel)
        have c85 := CPD_ex c54 hS h83 (by omega) (by omega) (by omega) (by omega) (by omega) (by omega)
        refine En_Ps 2 (pc' := 73) (lv' := [(0, .ref s), (1, .ref a), (2, .int y37)]) (st' := [.ref a, .ref s]) rfl ?_
        refine En_getI (j := 6) (l := 0) (u := 15) rfl rfl rfl ha (by decide +kernel) h80 (by decide +kernel) (fun z87 h86 h88 h89 => ?_)
        refine En_put (j := 6) rfl rfl rfl hs (by decide +kernel) rfl (vI (l := 0) (u := 15) (by decide +kernel) rfl (by omega) (by omega)) h80 h84 (by decide +kernel) (fun σ90 h91 h92 h93 h94 => ?_)
        have c95 := CPD_put (i0 := 8) c85 hS h86 h93 h94 (by decide) (by decide) (by decide) (by decide)
        refine En_Ps 2 (pc' := 81) (lv' := [(0, .ref s), (1, .ref a), (2, .int y37)]) (st' := [.ref a, .ref s]) rfl ?_
        refine En_getI (j := 7) (l := 0) (u := 15) rfl rfl rfl ha (by decide +kernel) h91 (by decide +kernel) (fun z97 h96 h98 h99 => ?_)
        refine En_put (j := 7) rfl rfl rfl hs (by decide +kernel) rfl (vI (l := 0) (u := 15) (by decide +kernel) rfl (by omega) (by omega)) h91 h92 (by decide +kernel) (fun σ100 h101 h102 h103 h104 => ?_)
        have c105 := CPD_put (i0 := 9) c95 hS h96 h103 h104 (by decide) (by decide) (by decide) (by decide)
        refine En_Ps 2 (pc' := 89) (lv' := [(0, .ref s), (1, .ref a), (2, .int y37)]) (st' := [.ref a, .ref s]) rfl ?_
        refine En_getI (j := 8) (l := 0) (u := 4) rfl rfl rfl ha (by decide +kernel) h101 (by decide +kernel) (fun z107 h106 h108 h109 => ?_)
        refine En_put (j := 8) rfl rfl rfl hs (by decide +kernel) rfl (vI (l := 0) (u := 4) (by decide +kernel) rfl (by omega) (by omega)) h101 h102 (by decide +kernel) (fun σ110 h111 h112 h113 h114 => ?_)
        have c115 := CPD_put (i0 := 4) c105 hS h106 h113 h114 (by decide) (by decide) (by decide) (by decide)
        refine En_Ps 1 (pc' := 96) (lv' := [(0, .ref s), (1, .ref a), (2, .int y37)]) (st' := [.ref a]) rfl ?_
        refine En_getR (j := 9) (g' := 23) (u := 0) rfl rfl rfl ha (by decide +kernel) h111 (by decide +kernel) (fun a117 h116 ha117 => ?_)
        have t118 : a117 = a + 5 := ref_uniq h116 (FXP_fr (PLA_of ha) hY h112 (by decide +kernel)).2.2.1
        refine En_Ps 2 (pc' := 101) (lv' := [(0, .ref s), (1, .ref a), (2, .int y37)]) (st' := [.ref s, .int ((Int32.ofInt 0)), .ref a117]) rfl ?_
        refine En_getR (j := 9) (g' := 23) (u := 0) rfl rfl rfl hs (by decide +kernel) h111 (by decide +kernel) (fun a120 h119 ha120 => ?_)
        have t121 : a120 = s + 5 := ref_uniq h119 (FXI_fr (PLI_of hs) hX h112 (by decide +kernel)).2.2.1
        refine En_Ps 2 (pc' := 106) (lv' := [(0, .ref s), (1, .ref a), (2, .int y37)]) (st' := [.int ((Int32.ofInt 4)), .int ((Int32.ofInt 0)), .ref a120, .int ((Int32.ofInt 0)), .ref a117]) rfl ?_
        refine En_copyX (n0 := 4) (n1 := 4) (by decide : (Int32.ofInt 4).toInt = 4) (by decide : (Int32.ofInt 0).toInt = 0) (by decide : (Int32.ofInt 0).toInt = 0) rfl rfl rfl rfl ha117 ha120 (by decide +kernel) (by decide +kernel) (by decide +kernel) (by decide +kernel) (by decide +kernel) (by omega) (by omega) (by omega) (by omega) (by omega) h111 h112 (by decide +kernel) (fun σ122 h123 h124 h125 h126 => ?_)
        have h127 := ROW_mk (n := 4) h125 h126 (by decide) (by decide) (by decide)
        have c128 := CPD_row c115 hS h127 t121 t118 (by decide) (by decide +kernel)
        refine En_Ps 1 (pc' := 110) (lv' := [(0, .ref s), (1, .ref a), (2, .int y37)]) (st' := [.ref a]) rfl ?_
        refine En_getR (j := 10) (g' := 24) (u := 0) rfl rfl rfl ha (by decide +kernel) h123 (by decide +kernel) (fun a130 h129 ha130 => ?_)
        have t131 : a130 = a + 6 := ref_uniq h129 (FXP_fr (PLA_of ha) hY h124 (by decide +kernel)).2.2.2.1
        refine En_Ps 2 (pc' := 115) (lv' := [(0, .ref s), (1, .ref a), (2, .int y37)]) (st' := [.ref s, .int ((Int32.ofInt 0)), .ref a130]) rfl ?_
        refine En_getR (j := 10) (g' := 24) (u := 0) rfl rfl rfl hs (by decide +kernel) h123 (by decide +kernel) (fun a133 h132 ha133 => ?_)
        have t134 : a133 = s + 6 := ref_uniq h132 (FXI_fr (PLI_of hs) hX h124 (by decide +kernel)).2.2.2.1
        refine En_Ps 2 (pc' := 120) (lv' := [(0, .ref s), (1, .ref a), (2, .int y37)]) (st' := [.int ((Int32.ofInt 4)), .int ((Int32.ofInt 0)), .ref a133, .int ((Int32.ofInt 0)), .ref a130]) rfl ?_
        refine En_copyX (n0 := 4) (n1 := 4) (by decide : (Int32.ofInt 4).toInt = 4) (by decide : (Int32.ofInt 0).toInt = 0) (by decide : (Int32.ofInt 0).toInt = 0) rfl rfl rfl rfl ha130 ha133 (by decide +kernel) (by decide +kernel) (by decide +kernel) (by decide +kernel) (by decide +kernel) (by omega) (by omega) (by omega) (by omega) (by omega) h123 h124 (by decide +kernel) (fun σ135 h136 h137 h138 h139 => ?_)
        have h140 := ROW_mk (n := 4) h138 h139 (by decide) (by decide) (by decide)
        have c141 := CPD_row c128 hS h140 t134 t131 (by decide) (by decide +kernel)
        refine En_Ps 2 (pc' := 125) (lv' := [(0, .ref s), (1, .ref a), (2, .int y37)]) (st' := [.ref a, .ref s]) rfl ?_
        refine En_getI (j := 11) (l := 0) (u := 6) rfl rfl rfl ha (by decide +kernel) h136 (by decide +kernel) (fun z143 h142 h144 h145 => ?_)
        refine En_put (j := 11) rfl rfl rfl hs (by decide +kernel) rfl (vI (l := 0) (u := 6) (by decide +kernel) rfl (by omega) (by omega)) h136 h137 (by decide +kernel) (fun σ146 h147 h148 h149 h150 => ?_)
        have c151 := CPD_put (i0 := 5) c141 hS h142 h149 h150 (by decide) (by decide) (by decide) (by decide)
        refine En_Ps 1 (pc' := 132) (lv' := [(0, .ref s), (1, .ref a), (2, .int y37)]) (st' := [.ref a]) rfl ?_
        refine En_getR (j := 12) (g' := 25) (u := 0) rfl rfl rfl ha (by decide +kernel) h147 (by decide +kernel) (fun a153 h152 ha153 => ?_)
        have t154 : a153 = a + 7 := ref_uniq h152 (FXP_fr (PLA_of ha) hY h148 (by decide +kernel)).2.2.2.2.1
        refine En_Ps 2 (pc' := 137) (lv' := [(0, .ref s), (1, .ref a), (2, .int y37)]) (st' := [.ref s, .int ((Int32.ofInt 0)), .ref a153]) rfl ?_
        refine En_getR (j := 12) (g' := 25) (u := 0) rfl rfl rfl hs (by decide +kernel) h147 (by decide +kernel) (fun a156 h155 ha156 => ?_)
        have t157 : a156 = s + 7 := ref_uniq h155 (FXI_fr (PLI_of hs) hX h148 (by decide +kernel)).2.2.2.2.1
        refine En_Ps 2 (pc' := 143) (lv' := [(0, .ref s), (1, .ref a), (2, .int y37)]) (st' := [.int (((Int8.ofInt 6).toInt32)), .int ((Int32.ofInt 0)), .ref a156, .int ((Int32.ofInt 0)), .ref a153]) rfl ?_
        refine En_copyX (n0 := 6) (n1 := 6) (by decide : ((Int8.ofInt 6).toInt32).toInt = 6) (by decide : (Int32.ofInt 0).toInt = 0) (by decide : (Int32.ofInt 0).toInt = 0) rfl rfl rfl rfl ha153 ha156 (by decide +kernel) (by decide +kernel) (by decide +kernel) (by decide +kernel) (by decide +kernel) (by omega) (by omega) (by omega) (by omega) (by omega) h147 h148 (by decide +kernel) (fun σ158 h159 h160 h161 h162 => ?_)
        have h163 := ROW_mk (n := 6) h161 h162 (by decide) (by decide) (by decide)
        have c164 := CPD_row c151 hS h163 t157 t154 (by decide) (by decide +kernel)
        refine En_Ps 1 (pc' := 147) (lv' := [(0, .ref s), (1, .ref a), (2, .int y37)]) (st' := [.ref a]) rfl ?_
        refine En_getR (j := 13) (g' := 26) (u := 0) rfl rfl rfl ha (by decide +kernel) h159 (by decide +kernel) (fun a166 h165 ha166 => ?_)
        have t167 : a166 = a + 8 := ref_uniq h165 (FXP_fr (PLA_of ha) hY h160 (by decide +kernel)).2.2.2.2.2.1
        refine En_Ps 2 (pc' := 152) (lv' := [(0, .ref s), (1, .ref a), (2, .int y37)]) (st' := [.ref s, .int ((Int32.ofInt 0)), .ref a166]) rfl ?_
        refine En_getR (j := 13) (g' := 26) (u := 0) rfl rfl rfl hs (by decide +kernel) h159 (by decide +kernel) (fun a169 h168 ha169 => ?_)
        have t170 : a169 = s + 8 := ref_uniq h168 (FXI_fr (PLI_of hs) hX h160 (by decide +kernel)).2.2.2.2.2.1
        refine En_Ps 2 (pc' := 158) (lv' := [(0, .ref s), (1, .ref a), (2, .int y37)]) (st' := [.int (((Int8.ofInt 6).toInt32)), .int ((Int32.ofInt 0)), .ref a169, .int ((Int32.ofInt 0)), .ref a166]) rfl ?_
        refine En_copyX (n0 := 6) (n1 := 6) (by decide : ((Int8.ofInt 6).toInt32).toInt = 6) (by decide : (Int32.ofInt 0).toInt = 0) (by decide : (Int32.ofInt 0).toInt = 0) rfl rfl rfl rfl ha166 ha169 (by decide +kernel) (by decide +kernel) (by decide +kernel) (by decide +kernel) (by decide +kernel) (by omega) (by omega) (by omega) (by omega) (by omega) h159 h160 (by decide +kernel) (fun σ171 h172 h173 h174 h175 => ?_)
        have h176 := ROW_mk (n := 6) h174 h175 (by decide) (by decide) (by decide)
        have c177 := CPD_row c164 hS h176 t170 t167 (by decide) (by decide +kernel)
        refine En_Ps 2 (pc' := 163) (lv' := [(0, .ref s), (1, .ref a), (2, .int y37)]) (st' := [.ref a, .ref s]) rfl ?_
        refine En_getI (j := 14) (l := 0) (u := 60) rfl rfl rfl ha (by decide +kernel) h172 (by decide +kernel) (fun z179 h178 h180 h181 => ?_)
        refine En_put (j := 14) rfl rfl rfl hs (by decide +kernel) rfl (vI (l := 0) (u := 60) (by decide +kernel) rfl (by omega) (by omega)) h172 h173 (by decide +kernel) (fun σ182 h183 h184 h185 h186 => ?_)
        have c187 := CPD_put (i0 := 6) c177 hS h178 h185 h186 (by decide) (by decide) (by decide) (by decide)
        refine En_Ps 1 (pc' := 170) (lv' := [(0, .ref s), (1, .ref a), (2, .int y37)]) (st' := [.ref a]) rfl ?_
        refine En_getR (j := 15) (g' := 27) (u := 0) rfl rfl rfl ha (by decide +kernel) h183 (by decide +kernel) (fun a189 h188 ha189 => ?_)
        have t190 : a189 = a + 9 := ref_uniq h188 (FXP_fr (PLA_of ha) hY h184 (by decide +kernel)).2.2.2.2.2.2.1
        refine En_Ps 2 (pc' := 175) (lv' := [(0, .ref s), (1, .ref a), (2, .int y37)]) (st' := [.ref s, .int ((Int32.ofInt 0)), .ref a189]) rfl ?_
        refine En_getR (j := 15) (g' := 27) (u := 0) rfl rfl rfl hs (by decide +kernel) h183 (by decide +kernel) (fun a192 h191 ha192 => ?_)
        have t193 : a192 = s + 9 := ref_uniq h191 (FXI_fr (PLI_of hs) hX h184 (by decide +kernel)).2.2.2.2.2.2.1
        refine En_Ps 2 (pc' := 181) (lv' := [(0, .ref s), (1, .ref a), (2, .int y37)]) (st' := [.int (((Int8.ofInt 60).toInt32)), .int ((Int32.ofInt 0)), .ref a192, .int ((Int32.ofInt 0)), .ref a189]) rfl ?_
        refine En_copyX (n0 := 60) (n1 := 60) (by decide : ((Int8.ofInt 60).toInt32).toInt = 60) (by decide : (Int32.ofInt 0).toInt = 0) (by decide : (Int32.ofInt 0).toInt = 0) rfl rfl rfl rfl ha189 ha192 (by decide +kernel) (by decide +kernel) (by decide +kernel) (by decide +kernel) (by decide +kernel) (by omega) (by omega) (by omega) (by omega) (by omega) h183 h184 (by decide +kernel) (fun σ194 h195 h196 h197 h198 => ?_)
        have h199 := ROW_mk (n := 60) h197 h198 (by decide) (by decide) (by decide)
        have c200 := CPD_row c187 hS h199 t193 t190 (by decide) (by decide +kernel)
        exact En_ret (v := none) rfl rfl rfl ⟨h195, h196, rfl, CPD_all c200⟩
      · refine En_Ps 1 (pc' := 40) (lv' := [(0, .ref s), (1, .ref a), (2, .int y37)]) (st' := [.ref s]) rfl ?_
        refine En_getR (j := 4) (g' := 19) (u := 0) rfl rfl rfl hs (by decide +kernel) h39 (by decide +kernel) (fun a202 h201 ha202 => ?_)
        have t203 : a202 = s + 1 := ref_uniq h201 (FXI_fr (PLI_of hs) hX h40 (by decide +kernel)).1
        refine En_Ps 1 (pc' := 44) (lv' := [(0, .ref s), (1, .ref a), (2, .int y37)]) (st' := [.int y37, .ref a202]) rfl ?_
        refine En_aald (g' := 28) (u := 0) rfl rfl ha202 (by decide +kernel) h39 (by omega) (lnI (by decide +kernel : LN _ = 4) (by omega)) (FTsgl (by decide +kernel)) (fun a205 h204 ha205 => ?_)
        have t206 : a205 = s + 10 + 4 * (y37.toInt).toNat := DRe (d := y37.toInt) (FXI_fr (PLI_of hs) hX h40 (by decide +kernel)) t203 h204 (by omega) (by omega)
        have t207 := lc_d (d := y37.toInt) (by omega) (by omega)
        refine En_Ps 1 (pc' := 46) (lv' := [(0, .ref s), (1, .ref a), (2, .int y37)]) (st' := [.ref a, .ref a205]) rfl ?_
        refine En_getR (j := 4) (g' := 19) (u := 0) rfl rfl rfl ha (by decide +kernel) h39 (by decide +kernel) (fun a209 h208 ha209 => ?_)
        have t210 : a209 = a + 1 := ref_uniq h208 (FXP_fr (PLA_of ha) hY h40 (by decide +kernel)).1
        refine En_Ps 1 (pc' := 50) (lv' := [(0, .ref s), (1, .ref a), (2, .int y37)]) (st' := [.int y37, .ref a209, .ref a205]) rfl ?_
        refine En_aald (g' := 28) (u := 0) rfl rfl ha209 (by decide +kernel) h39 (by omega) (lnI (by decide +kernel : LN _ = 4) (by omega)) (FTsgl (by decide +kernel)) (fun a212 h211 ha212 => ?_)
        have t213 : a212 = a + 10 + 4 * (y37.toInt).toNat := DRe (d := y37.toInt) (FXP_fr (PLA_of ha) hY h40 (by decide +kernel)) t210 h211 (by omega) (by omega)
        have t214 := lc_d (d := y37.toInt) (by omega) (by omega)
        obtain ⟨a216, h215, ha216⟩ := WT_peekR (g := 28) (j := 0) (g' := 20) (u := 0) h39 ha205 (by decide +kernel) (by decide +kernel)
        have t217 : a216 = s + 11 + 4 * (y37.toInt).toNat := DLc (d := y37.toInt) (FXI_fr (PLI_of hs) hX h40 (by decide +kernel)) t206 h215 (by omega) (by omega)
        obtain ⟨a219, h218, ha219⟩ := WT_peekR (g := 20) (j := 0) (g' := 21) (u := 0) h39 ha216 (by decide +kernel) (by decide +kernel)
        have t220 : a219 = s + 12 + 4 * (y37.toInt).toNat := DKk (d := y37.toInt) (FXI_fr (PLI_of hs) hX h40 (by decide +kernel)) t217 h218 (by omega) (by omega)
        obtain ⟨a222, h221, ha222⟩ := WT_peekR (g := 20) (j := 1) (g' := 22) (u := 0) h39 ha216 (by decide +kernel) (by decide +kernel)
        have t223 : a222 = s + 13 + 4 * (y37.toInt).toNat := DKo (d := y37.toInt) (FXI_fr (PLI_of hs) hX h40 (by decide +kernel)) t217 h221 (by omega) (by omega)
        obtain ⟨a225, h224, ha225⟩ := WT_peekR (g := 28) (j := 0) (g' := 20) (u := 0) h39 ha212 (by decide +kernel) (by decide +kernel)
        have t226 : a225 = a + 11 + 4 * (y37.toInt).toNat := DLc (d := y37.toInt) (FXP_fr (PLA_of ha) hY h40 (by decide +kernel)) t213 h224 (by omega) (by omega)
        obtain ⟨a228, h227, ha228⟩ := WT_peekR (g := 20) (j := 0) (g' := 21) (u := 0) h39 ha225 (by decide +kernel) (by decide +kernel)
        have t229 : a228 = a + 12 + 4 * (y37.toInt).toNat := DKk (d := y37.toInt) (FXP_fr (PLA_of ha) hY h40 (by decide +kernel)) t226 h227 (by omega) (by omega)
        obtain ⟨a231, h230, ha231⟩ := WT_peekR (g := 20) (j := 1) (g' := 22) (u := 0) h39 ha225 (by decide +kernel) (by decide +kernel)
        have t232 : a231 = a + 13 + 4 * (y37.toInt).toNat := DKo (d := y37.toInt) (FXP_fr (PLA_of ha) hY h40 (by decide +kernel)) t226 h230 (by omega) (by omega)
        refine En_callV rfl rfl rfl rfl rfl rfl rfl rfl ha205 (by decide +kernel) rfl (c_14x σ38 h39 a205 ha205 a212 ha212 a216 ha216 h215 a219 ha219 h218 a222 ha222 h221 a225 ha225 h224 a228 ha228 h227 a231 ha231 h230 (by omega) (by omega) (by omega)) (by decide) (by decide) (fun v234 σ235 h233 => ?_)
        obtain ⟨h236, h237, rfl, h238⟩ := h233
        have h239 := h238
        have h240 := Fr_trans h40 h237 (by decide +kernel)
        have c241 := CPL_s (y' := y37.toInt + 1) h52 hS h239 (by omega) (by omega) (by omega) (by omega) (by omega) (by omega) (by omega) (by omega) (by omega) (by omega) rfl
        refine En_Ps 1 (pc' := 57) (lv' := [(2, .int ((y37 + Int32.ofInt 1))), (0, .ref s), (1, .ref a)]) (st' := []) rfl ?_
        refine En_lv1 (addI rfl (by decide : (Int32.ofInt 1).toInt = 1) (by omega) (by omega)) (fun z242 h243 => ?_)
        refine En_Ps 1 (pc' := 34) (lv' := [(2, .int z242), (0, .ref s), (1, .ref a)]) (st' := []) rfl ?_
        refine En_lv (lv := [(0, .ref s), (1, .ref a), (2, .int z242)]) ⟨rfl, rfl, rfl, trivial⟩ ?_
        exact ih34 σ235 z242 h236 h240 ((h237 _ _ (inW ha (by decide +kernel))).trans h41) ((h237 _ _ (inW ha (by decide +kernel))).trans h42) ((h237 _ _ (inW hs (by decide +kernel))).trans h43) ((h237 _ _ (inW hs (by decide +kernel))).trans h44) ((h237 _ _ (inW ha (by decide +kernel))).trans h45) ((h237 _ _ (inW hs (by decide +kernel))).trans h46) ((h237 _ _ (inW ha (by decide +kernel))).trans h47) ((h237 _ _ (inW hs (by decide +kernel))).trans h48) (by omega) (by omega) (by omega) (CPL_e c241 (by omega))
  have := (by decide : (Int32.ofInt 0).toInt = 0)
  refine En_lv (lv := [(0, .ref s), (1, .ref a), (2, .int ((Int32.ofInt 0)))]) ⟨rfl, rfl, rfl, trivial⟩ ?_
  exact key34 (Int.toNat (4) + 1) σ31 ((Int32.ofInt 0)) h32 h33 ((h35 _ _ (Or.inr (by decide))).trans ((h25 _ _ (Or.inr (by decide))).trans ((h15 _ _ (Or.inl (neTG ha hs (by decide)))).trans ((h9 _ _ (Or.inr (by decide))).trans h_sg)))) ((h35 _ _ (Or.inr (by decide))).trans ((h25 _ _ (Or.inr (by decide))).trans ((h15 _ _ (Or.inr (by decide))).trans ((h9 _ _ (Or.inl (neTG ha hs (by decide)))).trans h1)))) ((h35 _ _ (Or.inr (by decide))).trans ((h25 _ _ (Or.inr (by decide))).trans ((h15 _ _ (Or.inr (by decide))).trans h8))) ((h35 _ _ (Or.inr (by decide))).trans ((h25 _ _ (Or.inr (by decide))).trans h14)) ((h35 _ _ (Or.inr (by decide))).trans ((h25 _ _ (Or.inl (neTG ha hs (by decide)))).trans h17)) ((h35 _ _ (Or.inr (by decide))).trans h24) ((h35 _ _ (Or.inl (neTG ha hs (by decide)))).trans h27) h34 (by omega) (by omega) (by omega) (CPL_0 c36 (by decide))
/-- DoorSchool$Plan.takeFrom(LDoorSchool$Plan;)V -/
abbrev P_53bx (σ0 : SG) (s : Nat) (a : Nat) : PO := fun v σ => WT σ ∧ Fr [(18, 0), (18, 1), (18, 2), (18, 3), (18, 6), (18, 7), (18, 8), (18, 11), (18, 14), (20, 2), (21, 0), (22, 0), (23, 0), (24, 0), (25, 0), (26, 0), (27, 0), (28, 1), (28, 2), (28, 3)] σ0 σ ∧ ∃ sh : Int32, (σ s)[1]? = some (.int sh) ∧ v = none ∧ -sh.toInt ≤ 0 ∧ sh.toInt - 4 ≤ 0 ∧ CPD σ0 σ s a (fun _ => True)
set_option maxRecDepth 10000 in
set_option maxHeartbeats 4000000 in
theorem c_53bx (σ0 : SG) (hσ0 : WT σ0) (s : Nat) (hs : TG s = 18) (a : Nat) (ha : TG a = 31) (hS : SEP s a) (hX : FXP σ0 s) (hY : FXP σ0 a) : En 3 102 none mr_53 (P_53bx σ0 s a) 0 [(0, .ref s), (1, .ref a)] [] σ0 := by
  have hF0 : Fr [(18, 0), (18, 1), (18, 2), (18, 3), (18, 6), (18, 7), (18, 8), (18, 11), (18, 14), (20, 2), (21, 0), (22, 0), (23, 0), (24, 0), (25, 0), (26, 0), (27, 0), (28, 1), (28, 2), (28, 3)] σ0 σ0 := Fr_rfl
  have sep := SEP_d hS
  refine En_Ps 2 (pc' := 2) (lv' := [(0, .ref s), (1, .ref a)]) (st' := [.ref a, .ref s]) rfl ?_
  refine En_getI (j := 0) (l := 0) (u := 1601) rfl rfl rfl ha (by decide +kernel) hσ0 (by decide +kernel) (fun z2 h1 h3 h4 => ?_)
  refine En_put (j := 0) rfl rfl rfl hs (by decide +kernel) rfl (vI (l := 0) (u := 1601) (by decide +kernel) rfl (by omega) (by omega)) hσ0 hF0 (by decide +kernel) (fun σ5 h6 h7 h8 h9 => ?_)
  have c10 := CPD_put (i0 := 7) (CPD_0 (σ := σ0)) hS h1 h8 h9 (by decide) (by decide) (by decide) (by decide)
  refine En_Ps 2 (pc' := 10) (lv' := [(0, .ref s), (1, .ref a)]) (st' := [.ref a, .ref s]) rfl ?_
  refine En_getI (j := 1) (l := 0) (u := 4) rfl rfl rfl ha (by decide +kernel) h6 (by decide +kernel) (fun z12 h11 h13 h14 => ?_)
  refine En_put (j := 1) rfl rfl rfl hs (by decide +kernel) rfl (vI (l := (-1)) (u := 4) (by decide +kernel) rfl (by omega) (by omega)) h6 h7 (by decide +kernel) (fun σ15 h16 h17 h18 h19 => ?_)
  have c20 := CPD_put (i0 := 0) c10 hS h11 h18 h19 (by decide) (by decide) (by decide) (by decide)
  refine En_Ps 2 (pc' := 18) (lv' := [(0, .ref s), (1, .ref a)]) (st' := [.ref a, .ref s]) rfl ?_
  refine En_getI (j := 2) (l := (-1)) (u := 3) rfl rfl rfl ha (by decide +kernel) h16 (by decide +kernel) (fun z22 h21 h23 h24 => ?_)
  refine En_put (j := 2) rfl rfl rfl hs (by decide +kernel) rfl (vI (l := (-1)) (u := 3) (by decide +kernel) rfl (by omega) (by omega)) h16 h17 (by decide +kernel) (fun σ25 h26 h27 h28 h29 => ?_)
  have c30 := CPD_put (i0 := 1) c20 hS h21 h28 h29 (by decide) (by decide) (by decide) (by decide)
  refine En_Ps 2 (pc' := 26) (lv' := [(0, .ref s), (1, .ref a)]) (st' := [.ref a, .ref s]) rfl ?_
  refine En_getI (j := 3) (l := 0) (u := 4) rfl rfl rfl ha (by decide +kernel) h26 (by decide +kernel) (fun z32 h31 h33 h34 => ?_)
  refine En_put (j := 3) rfl rfl rfl hs (by decide +kernel) rfl (vI (l := 0) (u := 4) (by decide +kernel) rfl (by omega) (by omega)) h26 h27 (by decide +kernel) (fun σ35 h36 h37 h38 h39 => ?_)
  have c40 := CPD_put (i0 := 2) c30 hS h31 h38 h39 (by decide) (by decide) (by decide) (by decide)
  refine En_Ps 2 (pc' := 34) (lv' := [(2, .int ((Int32.ofInt 0))), (0, .ref s), (1, .ref a)]) (st' := []) rfl ?_
  have key34 : ∀ (n34 : Nat) (σ42 : SG) (y41 : Int32), WT σ42 → Fr [(18, 0), (18, 1), (18, 2), (18, 3), (18, 6), (18, 7), (18, 8), (18, 11), (18, 14), (20, 2), (21, 0), (22, 0), (23, 0), (24, 0), (25, 0), (26, 0), (27, 0), (28, 1), (28, 2), (28, 3)] σ0 σ42 → (σ42 a)[0]? = some (.int z2) → (σ42 s)[0]? = some (.int z2) → (σ42 a)[1]? = some (.int z12) → (σ42 s)[1]? = some (.int z12) → (σ42 a)[2]? = some (.int z22) → (σ42 s)[2]? = some (.int z22) → (σ42 a)[3]? = some (.int z32) → (σ42 s)[3]? = some (.int z32) → 0 ≤ y41.toInt → y41.toInt ≤ 4 → -y41.toInt + 4 < (n34 : Int) → CPL σ0 σ42 s a y41.toInt → En 3 102 none mr_53 (P_53bx σ0 s a) 34 [(0, .ref s), (1, .ref a), (2, .int y41)] [] σ42 := by
    intro n34
    induction n34 with
    | zero =>
      intro σ42 y41 h43 h44 h45 h46 h47 h48 h49 h50 h51 h52 h53 h54 h55 h56
      exfalso; omega
    | succ n34 ih34 =>
      intro σ42 y41 h43 h44 h45 h46 h47 h48 h49 h50 h51 h52 h53 h54 h55 h56
      refine En_Ps 2 (pc' := 36) (lv' := [(0, .ref s), (1, .ref a), (2, .int y41)]) (st' := [.int ((Int32.ofInt 4)), .int y41]) rfl ?_
      refine En_icGe _ rfl (by decide : (Int32.ofInt 4).toInt = 4) rfl (fun h57 => ?_) (fun h57 => ?_)
      · have c58 := CPL_4 h56 (by omega)
        refine En_Ps 1 (pc' := 61) (lv' := [(0, .ref s), (1, .ref a), (2, .int y41)]) (st' := [.ref s]) rfl ?_
        refine En_getR (j := 5) (g' := 20) (u := 0) rfl rfl rfl hs (by decide +kernel) h43 (by decide +kernel) (fun a60 h59 ha60 => ?_)
        have t61 : a60 = s + 2 := ref_uniq h59 (FXP_fr (PLA_of hs) hX h44 (by decide +kernel)).2.1
        refine En_Ps 1 (pc' := 65) (lv' := [(0, .ref s), (1, .ref a), (2, .int y41)]) (st' := [.ref a, .ref a60]) rfl ?_
        refine En_getR (j := 5) (g' := 20) (u := 0) rfl rfl rfl ha (by decide +kernel) h43 (by decide +kernel) (fun a63 h62 ha63 => ?_)
        have t64 : a63 = a + 2 := ref_uniq h62 (FXI_fr (PLI_of ha) hY h44 (by decide +kernel)).2.1
        obtain ⟨a66, h65, ha66⟩ := WT_peekR (g := 20) (j := 0) (g' := 21) (u := 0) h43 ha60 (by decide +kernel) (by decide +kernel)
        have t67 : a66 = s + 3 := EKk (FXP_fr (PLA_of hs) hX h44 (by decide +kernel)) t61 h65
        obtain ⟨a69, h68, ha69⟩ := WT_peekR (g := 20) (j := 1) (g' := 22) (u := 0) h43 ha60 (by decide +kernel) (by decide +kernel)
        have t70 : a69 = s + 4 := EKo (FXP_fr (PLA_of hs) hX h44 (by decide +kernel)) t61 h68
        obtain ⟨a72, h71, ha72⟩ := WT_peekR (g := 20) (j := 0) (g' := 21) (u := 0) h43 ha63 (by decide +kernel) (by decide +kernel)
        have t73 : a72 = a + 3 := EKk (FXI_fr (PLI_of ha) hY h44 (by decide +kernel)) t64 h71
        obtain ⟨a75, h74, ha75⟩ := WT_peekR (g := 20) (j := 1) (g' := 22) (u := 0) h43 ha63 (by decide +kernel) (by decide +kernel)
        have t76 : a75 = a + 4 := EKo (FXI_fr (PLI_of ha) hY h44 (by decide +kernel)) t64 h74
        obtain ⟨z78, h77, h79, h80⟩ := WT_peekI h43 ha63 (by decide +kernel : FT 20 2 = (0, 0, 13)) (by decide +kernel)
        refine En_callV rfl rfl rfl rfl rfl rfl rfl rfl ha60 (by decide +kernel) rfl (c_40x σ42 h43 a60 ha60 a63 ha63 a66 ha66 h65 a69 ha69 h68 a72 ha72 h71 a75 ha75 h74 z78 h77 (by omega) (by omega) (by omega)) (by decide) (by decide) (fun v82 σ83 h81 => ?_)
        obtain ⟨h84, h85, rfl, h86⟩ := h81
        have h87 := h86
        have h88 := Fr_trans h44 h85 (by decide +kernel)
        have c89 := CPD_ex c58 hS h87 (by omega) (by omega) (by omega) (by omega) (by omega) (by omega)
        refine En_Ps 2 (pc' := 73) (lv' := [(0, .ref s), (1, .ref a), (2, .int y41)]) (st' := [.ref a, .ref s]) rfl ?_
        refine En_getI (j := 6) (l := 0) (u := 15) rfl rfl rfl ha (by decide +kernel) h84 (by decide +kernel) (fun z91 h90 h92 h93 => ?_)
        refine En_put (j := 6) rfl rfl rfl hs (by decide +kernel) rfl (vI (l := 0) (u := 15) (by decide +kernel) rfl (by omega) (by omega)) h84 h88 (by decide +kernel) (fun σ94 h95 h96 h97 h98 => ?_)
        have c99 := CPD_put (i0 := 8) c89 hS h90 h97 h98 (by decide) (by decide) (by decide) (by decide)
        refine En_Ps 2 (pc' := 81) (lv' := [(0, .ref s), (1, .ref a), (2, .int y41)]) (st' := [.ref a, .ref s]) rfl ?_
        refine En_getI (j := 7) (l := 0) (u := 15) rfl rfl rfl ha (by decide +kernel) h95 (by decide +kernel) (fun z101 h100 h102 h103 => ?_)
        refine En_put (j := 7) rfl rfl rfl hs (by decide +kernel) rfl (vI (l := 0) (u := 15) (by decide +kernel) rfl (by omega) (by omega)) h95 h96 (by decide +kernel) (fun σ104 h105 h106 h107 h108 => ?_)
        have c109 := CPD_put (i0 := 9) c99 hS h100 h107 h108 (by decide) (by decide) (by decide) (by decide)
        refine En_Ps 2 (pc' := 89) (lv' := [(0, .ref s), (1, .ref a), (2, .int y41)]) (st' := [.ref a, .ref s]) rfl ?_
        refine En_getI (j := 8) (l := 0) (u := 4) rfl rfl rfl ha (by decide +kernel) h105 (by decide +kernel) (fun z111 h110 h112 h113 => ?_)
        refine En_put (j := 8) rfl rfl rfl hs (by decide +kernel) rfl (vI (l := 0) (u := 4) (by decide +kernel) rfl (by omega) (by omega)) h105 h106 (by decide +kernel) (fun σ114 h115 h116 h117 h118 => ?_)
        have c119 := CPD_put (i0 := 4) c109 hS h110 h117 h118 (by decide) (by decide) (by decide) (by decide)
        refine En_Ps 1 (pc' := 96) (lv' := [(0, .ref s), (1, .ref a), (2, .int y41)]) (st' := [.ref a]) rfl ?_
        refine En_getR (j := 9) (g' := 23) (u := 0) rfl rfl rfl ha (by decide +kernel) h115 (by decide +kernel) (fun a121 h120 ha121 => ?_)
        have t122 : a121 = a + 5 := ref_uniq h120 (FXI_fr (PLI_of ha) hY h116 (by decide +kernel)).2.2.1
        refine En_Ps 2 (pc' := 101) (lv' := [(0, .ref s), (1, .ref a), (2, .int y41)]) (st' := [.ref s, .int ((Int32.ofInt 0)), .ref a121]) rfl ?_
        refine En_getR (j := 9) (g' := 23) (u := 0) rfl rfl rfl hs (by decide +kernel) h115 (by decide +kernel) (fun a124 h123 ha124 => ?_)
        have t125 : a124 = s + 5 := ref_uniq h123 (FXP_fr (PLA_of hs) hX h116 (by decide +kernel)).2.2.1
        refine En_Ps 2 (pc' := 106) (lv' := [(0, .ref s), (1, .ref a), (2, .int y41)]) (st' := [.int ((Int32.ofInt 4)), .int ((Int32.ofInt 0)), .ref a124, .int ((Int32.ofInt 0)), .ref a121]) rfl ?_
        refine En_copyX (n0 := 4) (n1 := 4) (by decide : (Int32.ofInt 4).toInt = 4) (by decide : (Int32.ofInt 0).toInt = 0) (by decide : (Int32.ofInt 0).toInt = 0) rfl rfl rfl rfl ha121 ha124 (by decide +kernel) (by decide +kernel) (by decide +kernel) (by decide +kernel) (by decide +kernel) (by omega) (by omega) (by omega) (by omega) (by omega) h115 h116 (by decide +kernel) (fun σ126 h127 h128 h129 h130 => ?_)
        have h131 := ROW_mk (n := 4) h129 h130 (by decide) (by decide) (by decide)
        have c132 := CPD_row c119 hS h131 t125 t122 (by decide) (by decide +kernel)
        refine En_Ps 1 (pc' := 110) (lv' := [(0, .ref s), (1, .ref a), (2, .int y41)]) (st' := [.ref a]) rfl ?_
        refine En_getR (j := 10) (g' := 24) (u := 0) rfl rfl rfl ha (by decide +kernel) h127 (by decide +kernel) (fun a134 h133 ha134 => ?_)
        have t135 : a134 = a + 6 := ref_uniq h133 (FXI_fr (PLI_of ha) hY h128 (by decide +kernel)).2.2.2.1
        refine En_Ps 2 (pc' := 115) (lv' := [(0, .ref s), (1, .ref a), (2, .int y41)]) (st' := [.ref s, .int ((Int32.ofInt 0)), .ref a134]) rfl ?_
        refine En_getR (j := 10) (g' := 24) (u := 0) rfl rfl rfl hs (by decide +kernel) h127 (by decide +kernel) (fun a137 h136 ha137 => ?_)
        have t138 : a137 = s + 6 := ref_uniq h136 (FXP_fr (PLA_of hs) hX h128 (by decide +kernel)).2.2.2.1
        refine En_Ps 2 (pc' := 120) (lv' := [(0, .ref s), (1, .ref a), (2, .int y41)]) (st' := [.int ((Int32.ofInt 4)), .int ((Int32.ofInt 0)), .ref a137, .int ((Int32.ofInt 0)), .ref a134]) rfl ?_
        refine En_copyX (n0 := 4) (n1 := 4) (by decide : (Int32.ofInt 4).toInt = 4) (by decide : (Int32.ofInt 0).toInt = 0) (by decide : (Int32.ofInt 0).toInt = 0) rfl rfl rfl rfl ha134 ha137 (by decide +kernel) (by decide +kernel) (by decide +kernel) (by decide +kernel) (by decide +kernel) (by omega) (by omega) (by omega) (by omega) (by omega) h127 h128 (by decide +kernel) (fun σ139 h140 h141 h142 h143 => ?_)
        have h144 := ROW_mk (n := 4) h142 h143 (by decide) (by decide) (by decide)
        have c145 := CPD_row c132 hS h144 t138 t135 (by decide) (by decide +kernel)
        refine En_Ps 2 (pc' := 125) (lv' := [(0, .ref s), (1, .ref a), (2, .int y41)]) (st' := [.ref a, .ref s]) rfl ?_
        refine En_getI (j := 11) (l := 0) (u := 6) rfl rfl rfl ha (by decide +kernel) h140 (by decide +kernel) (fun z147 h146 h148 h149 => ?_)
        refine En_put (j := 11) rfl rfl rfl hs (by decide +kernel) rfl (vI (l := 0) (u := 6) (by decide +kernel) rfl (by omega) (by omega)) h140 h141 (by decide +kernel) (fun σ150 h151 h152 h153 h154 => ?_)
        have c155 := CPD_put (i0 := 5) c145 hS h146 h153 h154 (by decide) (by decide) (by decide) (by decide)
        refine En_Ps 1 (pc' := 132) (lv' := [(0, .ref s), (1, .ref a), (2, .int y41)]) (st' := [.ref a]) rfl ?_
        refine En_getR (j := 12) (g' := 25) (u := 0) rfl rfl rfl ha (by decide +kernel) h151 (by decide +kernel) (fun a157 h156 ha157 => ?_)
        have t158 : a157 = a + 7 := ref_uniq h156 (FXI_fr (PLI_of ha) hY h152 (by decide +kernel)).2.2.2.2.1
        refine En_Ps 2 (pc' := 137) (lv' := [(0, .ref s), (1, .ref a), (2, .int y41)]) (st' := [.ref s, .int ((Int32.ofInt 0)), .ref a157]) rfl ?_
        refine En_getR (j := 12) (g' := 25) (u := 0) rfl rfl rfl hs (by decide +kernel) h151 (by decide +kernel) (fun a160 h159 ha160 => ?_)
        have t161 : a160 = s + 7 := ref_uniq h159 (FXP_fr (PLA_of hs) hX h152 (by decide +kernel)).2.2.2.2.1
        refine En_Ps 2 (pc' := 143) (lv' := [(0, .ref s), (1, .ref a), (2, .int y41)]) (st' := [.int (((Int8.ofInt 6).toInt32)), .int ((Int32.ofInt 0)), .ref a160, .int ((Int32.ofInt 0)), .ref a157]) rfl ?_
        refine En_copyX (n0 := 6) (n1 := 6) (by decide : ((Int8.ofInt 6).toInt32).toInt = 6) (by decide : (Int32.ofInt 0).toInt = 0) (by decide : (Int32.ofInt 0).toInt = 0) rfl rfl rfl rfl ha157 ha160 (by decide +kernel) (by decide +kernel) (by decide +kernel) (by decide +kernel) (by decide +kernel) (by omega) (by omega) (by omega) (by omega) (by omega) h151 h152 (by decide +kernel) (fun σ162 h163 h164 h165 h166 => ?_)
        have h167 := ROW_mk (n := 6) h165 h166 (by decide) (by decide) (by decide)
        have c168 := CPD_row c155 hS h167 t161 t158 (by decide) (by decide +kernel)
        refine En_Ps 1 (pc' := 147) (lv' := [(0, .ref s), (1, .ref a), (2, .int y41)]) (st' := [.ref a]) rfl ?_
        refine En_getR (j := 13) (g' := 26) (u := 0) rfl rfl rfl ha (by decide +kernel) h163 (by decide +kernel) (fun a170 h169 ha170 => ?_)
        have t171 : a170 = a + 8 := ref_uniq h169 (FXI_fr (PLI_of ha) hY h164 (by decide +kernel)).2.2.2.2.2.1
        refine En_Ps 2 (pc' := 152) (lv' := [(0, .ref s), (1, .ref a), (2, .int y41)]) (st' := [.ref s, .int ((Int32.ofInt 0)), .ref a170]) rfl ?_
        refine En_getR (j := 13) (g' := 26) (u := 0) rfl rfl rfl hs (by decide +kernel) h163 (by decide +kernel) (fun a173 h172 ha173 => ?_)
        have t174 : a173 = s + 8 := ref_uniq h172 (FXP_fr (PLA_of hs) hX h164 (by decide +kernel)).2.2.2.2.2.1
        refine En_Ps 2 (pc' := 158) (lv' := [(0, .ref s), (1, .ref a), (2, .int y41)]) (st' := [.int (((Int8.ofInt 6).toInt32)), .int ((Int32.ofInt 0)), .ref a173, .int ((Int32.ofInt 0)), .ref a170]) rfl ?_
        refine En_copyX (n0 := 6) (n1 := 6) (by decide : ((Int8.ofInt 6).toInt32).toInt = 6) (by decide : (Int32.ofInt 0).toInt = 0) (by decide : (Int32.ofInt 0).toInt = 0) rfl rfl rfl rfl ha170 ha173 (by decide +kernel) (by decide +kernel) (by decide +kernel) (by decide +kernel) (by decide +kernel) (by omega) (by omega) (by omega) (by omega) (by omega) h163 h164 (by decide +kernel) (fun σ175 h176 h177 h178 h179 => ?_)
        have h180 := ROW_mk (n := 6) h178 h179 (by decide) (by decide) (by decide)
        have c181 := CPD_row c168 hS h180 t174 t171 (by decide) (by decide +kernel)
        refine En_Ps 2 (pc' := 163) (lv' := [(0, .ref s), (1, .ref a), (2, .int y41)]) (st' := [.ref a, .ref s]) rfl ?_
        refine En_getI (j := 14) (l := 0) (u := 60) rfl rfl rfl ha (by decide +kernel) h176 (by decide +kernel) (fun z183 h182 h184 h185 => ?_)
        refine En_put (j := 14) rfl rfl rfl hs (by decide +kernel) rfl (vI (l := 0) (u := 60) (by decide +kernel) rfl (by omega) (by omega)) h176 h177 (by decide +kernel) (fun σ186 h187 h188 h189 h190 => ?_)
        have c191 := CPD_put (i0 := 6) c181 hS h182 h189 h190 (by decide) (by decide) (by decide) (by decide)
        refine En_Ps 1 (pc' := 170) (lv' := [(0, .ref s), (1, .ref a), (2, .int y41)]) (st' := [.ref a]) rfl ?_
        refine En_getR (j := 15) (g' := 27) (u := 0) rfl rfl rfl ha (by decide +kernel) h187 (by decide +kernel) (fun a193 h192 ha193 => ?_)
        have t194 : a193 = a + 9 := ref_uniq h192 (FXI_fr (PLI_of ha) hY h188 (by decide +kernel)).2.2.2.2.2.2.1
        refine En_Ps 2 (pc' := 175) (lv' := [(0, .ref s), (1, .ref a), (2, .int y41)]) (st' := [.ref s, .int ((Int32.ofInt 0)), .ref a193]) rfl ?_
        refine En_getR (j := 15) (g' := 27) (u := 0) rfl rfl rfl hs (by decide +kernel) h187 (by decide +kernel) (fun a196 h195 ha196 => ?_)
        have t197 : a196 = s + 9 := ref_uniq h195 (FXP_fr (PLA_of hs) hX h188 (by decide +kernel)).2.2.2.2.2.2.1
        refine En_Ps 2 (pc' := 181) (lv' := [(0, .ref s), (1, .ref a), (2, .int y41)]) (st' := [.int (((Int8.ofInt 60).toInt32)), .int ((Int32.ofInt 0)), .ref a196, .int ((Int32.ofInt 0)), .ref a193]) rfl ?_
        refine En_copyX (n0 := 60) (n1 := 60) (by decide : ((Int8.ofInt 60).toInt32).toInt = 60) (by decide : (Int32.ofInt 0).toInt = 0) (by decide : (Int32.ofInt 0).toInt = 0) rfl rfl rfl rfl ha193 ha196 (by decide +kernel) (by decide +kernel) (by decide +kernel) (by decide +kernel) (by decide +kernel) (by omega) (by omega) (by omega) (by omega) (by omega) h187 h188 (by decide +kernel) (fun σ198 h199 h200 h201 h202 => ?_)
        have h203 := ROW_mk (n := 60) h201 h202 (by decide) (by decide) (by decide)
        have c204 := CPD_row c191 hS h203 t197 t194 (by decide) (by decide +kernel)
        exact En_ret (v := none) rfl rfl rfl ⟨h199, h200, z12, ((h201 _ _ (neTG hs ha196 (by decide))).trans ((h190 _ _ (Or.inr (by decide))).trans ((h178 _ _ (neTG hs ha173 (by decide))).trans ((h165 _ _ (neTG hs ha160 (by decide))).trans ((h154 _ _ (Or.inr (by decide))).trans ((h142 _ _ (neTG hs ha137 (by decide))).trans ((h129 _ _ (neTG hs ha124 (by decide))).trans ((h118 _ _ (Or.inr (by decide))).trans ((h108 _ _ (Or.inr (by decide))).trans ((h98 _ _ (Or.inr (by decide))).trans ((h85 _ _ (inW hs (by decide +kernel))).trans h48))))))))))), rfl, ⟨by omega, by omega, CPD_all c204⟩⟩
      · refine En_Ps 1 (pc' := 40) (lv' := [(0, .ref s), (1, .ref a), (2, .int y41)]) (st' := [.ref s]) rfl ?_
        refine En_getR (j := 4) (g' := 19) (u := 0) rfl rfl rfl hs (by decide +kernel) h43 (by decide +kernel) (fun a206 h205 ha206 => ?_)
        have t207 : a206 = s + 1 := ref_uniq h205 (FXP_fr (PLA_of hs) hX h44 (by decide +kernel)).1
        refine En_Ps 1 (pc' := 44) (lv' := [(0, .ref s), (1, .ref a), (2, .int y41)]) (st' := [.int y41, .ref a206]) rfl ?_
        refine En_aald (g' := 28) (u := 0) rfl rfl ha206 (by decide +kernel) h43 (by omega) (lnI (by decide +kernel : LN _ = 4) (by omega)) (FTsgl (by decide +kernel)) (fun a209 h208 ha209 => ?_)
        have t210 : a209 = s + 10 + 4 * (y41.toInt).toNat := DRe (d := y41.toInt) (FXP_fr (PLA_of hs) hX h44 (by decide +kernel)) t207 h208 (by omega) (by omega)
        have t211 := lc_d (d := y41.toInt) (by omega) (by omega)
        refine En_Ps 1 (pc' := 46) (lv' := [(0, .ref s), (1, .ref a), (2, .int y41)]) (st' := [.ref a, .ref a209]) rfl ?_
        refine En_getR (j := 4) (g' := 19) (u := 0) rfl rfl rfl ha (by decide +kernel) h43 (by decide +kernel) (fun a213 h212 ha213 => ?_)
        have t214 : a213 = a + 1 := ref_uniq h212 (FXI_fr (PLI_of ha) hY h44 (by decide +kernel)).1
        refine En_Ps 1 (pc' := 50) (lv' := [(0, .ref s), (1, .ref a), (2, .int y41)]) (st' := [.int y41, .ref a213, .ref a209]) rfl ?_
        refine En_aald (g' := 28) (u := 0) rfl rfl ha213 (by decide +kernel) h43 (by omega) (lnI (by decide +kernel : LN _ = 4) (by omega)) (FTsgl (by decide +kernel)) (fun a216 h215 ha216 => ?_)
        have t217 : a216 = a + 10 + 4 * (y41.toInt).toNat := DRe (d := y41.toInt) (FXI_fr (PLI_of ha) hY h44 (by decide +kernel)) t214 h215 (by omega) (by omega)
        have t218 := lc_d (d := y41.toInt) (by omega) (by omega)
        obtain ⟨a220, h219, ha220⟩ := WT_peekR (g := 28) (j := 0) (g' := 20) (u := 0) h43 ha209 (by decide +kernel) (by decide +kernel)
        have t221 : a220 = s + 11 + 4 * (y41.toInt).toNat := DLc (d := y41.toInt) (FXP_fr (PLA_of hs) hX h44 (by decide +kernel)) t210 h219 (by omega) (by omega)
        obtain ⟨a223, h222, ha223⟩ := WT_peekR (g := 20) (j := 0) (g' := 21) (u := 0) h43 ha220 (by decide +kernel) (by decide +kernel)
        have t224 : a223 = s + 12 + 4 * (y41.toInt).toNat := DKk (d := y41.toInt) (FXP_fr (PLA_of hs) hX h44 (by decide +kernel)) t221 h222 (by omega) (by omega)
        obtain ⟨a226, h225, ha226⟩ := WT_peekR (g := 20) (j := 1) (g' := 22) (u := 0) h43 ha220 (by decide +kernel) (by decide +kernel)
        have t227 : a226 = s + 13 + 4 * (y41.toInt).toNat := DKo (d := y41.toInt) (FXP_fr (PLA_of hs) hX h44 (by decide +kernel)) t221 h225 (by omega) (by omega)
        obtain ⟨a229, h228, ha229⟩ := WT_peekR (g := 28) (j := 0) (g' := 20) (u := 0) h43 ha216 (by decide +kernel) (by decide +kernel)
        have t230 : a229 = a + 11 + 4 * (y41.toInt).toNat := DLc (d := y41.toInt) (FXI_fr (PLI_of ha) hY h44 (by decide +kernel)) t217 h228 (by omega) (by omega)
        obtain ⟨a232, h231, ha232⟩ := WT_peekR (g := 20) (j := 0) (g' := 21) (u := 0) h43 ha229 (by decide +kernel) (by decide +kernel)
        have t233 : a232 = a + 12 + 4 * (y41.toInt).toNat := DKk (d := y41.toInt) (FXI_fr (PLI_of ha) hY h44 (by decide +kernel)) t230 h231 (by omega) (by omega)
        obtain ⟨a235, h234, ha235⟩ := WT_peekR (g := 20) (j := 1) (g' := 22) (u := 0) h43 ha229 (by decide +kernel) (by decide +kernel)
        have t236 : a235 = a + 13 + 4 * (y41.toInt).toNat := DKo (d := y41.toInt) (FXI_fr (PLI_of ha) hY h44 (by decide +kernel)) t230 h234 (by omega) (by omega)
        refine En_callV rfl rfl rfl rfl rfl rfl rfl rfl ha209 (by decide +kernel) rfl (c_14x σ42 h43 a209 ha209 a216 ha216 a220 ha220 h219 a223 ha223 h222 a226 ha226 h225 a229 ha229 h228 a232 ha232 h231 a235 ha235 h234 (by omega) (by omega) (by omega)) (by decide) (by decide) (fun v238 σ239 h237 => ?_)
        obtain ⟨h240, h241, rfl, h242⟩ := h237
        have h243 := h242
        have h244 := Fr_trans h44 h241 (by decide +kernel)
        have c245 := CPL_s (y' := y41.toInt + 1) h56 hS h243 (by omega) (by omega) (by omega) (by omega) (by omega) (by omega) (by omega) (by omega) (by omega) (by omega) rfl
        refine En_Ps 1 (pc' := 57) (lv' := [(2, .int ((y41 + Int32.ofInt 1))), (0, .ref s), (1, .ref a)]) (st' := []) rfl ?_
        refine En_lv1 (addI rfl (by decide : (Int32.ofInt 1).toInt = 1) (by omega) (by omega)) (fun z246 h247 => ?_)
        refine En_Ps 1 (pc' := 34) (lv' := [(2, .int z246), (0, .ref s), (1, .ref a)]) (st' := []) rfl ?_
        refine En_lv (lv := [(0, .ref s), (1, .ref a), (2, .int z246)]) ⟨rfl, rfl, rfl, trivial⟩ ?_
        exact ih34 σ239 z246 h240 h244 ((h241 _ _ (inW ha (by decide +kernel))).trans h45) ((h241 _ _ (inW hs (by decide +kernel))).trans h46) ((h241 _ _ (inW ha (by decide +kernel))).trans h47) ((h241 _ _ (inW hs (by decide +kernel))).trans h48) ((h241 _ _ (inW ha (by decide +kernel))).trans h49) ((h241 _ _ (inW hs (by decide +kernel))).trans h50) ((h241 _ _ (inW ha (by decide +kernel))).trans h51) ((h241 _ _ (inW hs (by decide +kernel))).trans h52) (by omega) (by omega) (by omega) (CPL_e c245 (by omega))
  have := (by decide : (Int32.ofInt 0).toInt = 0)
  refine En_lv (lv := [(0, .ref s), (1, .ref a), (2, .int ((Int32.ofInt 0)))]) ⟨rfl, rfl, rfl, trivial⟩ ?_
  exact key34 (Int.toNat (4) + 1) σ35 ((Int32.ofInt 0)) h36 h37 ((h39 _ _ (Or.inr (by decide))).trans ((h29 _ _ (Or.inr (by decide))).trans ((h19 _ _ (Or.inr (by decide))).trans ((h9 _ _ (Or.inl (neTG ha hs (by decide)))).trans h1)))) ((h39 _ _ (Or.inr (by decide))).trans ((h29 _ _ (Or.inr (by decide))).trans ((h19 _ _ (Or.inr (by decide))).trans h8))) ((h39 _ _ (Or.inr (by decide))).trans ((h29 _ _ (Or.inr (by decide))).trans ((h19 _ _ (Or.inl (neTG ha hs (by decide)))).trans h11))) ((h39 _ _ (Or.inr (by decide))).trans ((h29 _ _ (Or.inr (by decide))).trans h18)) ((h39 _ _ (Or.inr (by decide))).trans ((h29 _ _ (Or.inl (neTG ha hs (by decide)))).trans h21)) ((h39 _ _ (Or.inr (by decide))).trans h28) ((h39 _ _ (Or.inl (neTG ha hs (by decide)))).trans h31) h38 (by omega) (by omega) (by omega) (CPL_0 c40 (by decide))
/-- DoorSchool$Reader.blame(I)V -/
abbrev P_54x (σ0 : SG) (By : Int → Int) (Nb : Int) (Sp : PS) (a : Int32) (f : Int32) : PO := fun v σ => WT σ ∧ Fr [(3, 5), (3, 6)] σ0 σ ∧ ∃ f1 : Int32, (σ 3)[5]? = some (.int f1) ∧ v = none ∧ -f1.toInt + 1 ≤ 0 ∧ f1.toInt - 3 ≤ 0 ∧ -f1.toInt + f.toInt ≤ 0 ∧ Imp (f.toInt ≤ 0) (f1.toInt - a.toInt ≤ 0 ∧ -f1.toInt + a.toInt ≤ 0) ∧ Imp (-f.toInt + 1 ≤ 0) (f1.toInt - f.toInt ≤ 0 ∧ -f1.toInt + f.toInt ≤ 0) ∧ CT By Nb σ (err By Nb a.toInt Sp)
set_option maxRecDepth 10000 in
set_option maxHeartbeats 4000000 in
theorem c_54x {By : Int → Int} {Nb : Int} {Sp : PS} (σ0 : SG) (hσ0 : WT σ0) (a : Int32) (hl_a : 1 ≤ a.toInt) (hu_a : a.toInt ≤ 3) (f : Int32) (h_f : (σ0 3)[5]? = some (.int f)) (hC : CT By Nb σ0 Sp) : En 0 0 none mr_54 (P_54x σ0 By Nb Sp a f) 0 [(0, .ref 3), (1, .int a)] [] σ0 := by
  obtain ⟨hl_f, hu_f⟩ := WT_int hσ0 (g := 3) (by decide +kernel) (by decide +kernel) (l := 0) (u := 3) (by decide +kernel) h_f
  have hF0 : Fr [(3, 5), (3, 6)] σ0 σ0 := Fr_rfl
  have h1 := CT_k hC h_f
  obtain ⟨z3, h2, h4, h5⟩ := WT_peekI hσ0 tgz_3 (by decide +kernel : FT 3 2 = (0, 0, 1600)) (by decide +kernel)
  refine En_Ps 1 (pc' := 1) (lv' := [(0, .ref 3), (1, .int a)]) (st' := [.ref 3]) rfl ?_
  refine En_getK (j := 5) h_f rfl rfl rfl tgz_3 (by decide +kernel) ?_
  refine En_iNe _ rfl rfl (fun h6 => ?_) (fun h6 => ?_)
  · exact En_ret (v := none) rfl rfl rfl ⟨hσ0, hF0, f, h_f, rfl, ⟨by omega, by omega, by omega, fun _ => by omega, fun _ => by omega, (by rw [err_bad (by omega)]; exact hC)⟩⟩
  · refine En_Ps 2 (pc' := 9) (lv' := [(0, .ref 3), (1, .int a)]) (st' := [.int a, .ref 3]) rfl ?_
    refine En_put (j := 5) rfl rfl rfl tgz_3 (by decide +kernel) rfl (vI (l := 0) (u := 3) (by decide +kernel) rfl (by omega) (by omega)) hσ0 hF0 (by decide +kernel) (fun σ7 h8 h9 h10 h11 => ?_)
    refine En_Ps 2 (pc' := 14) (lv' := [(0, .ref 3), (1, .int a)]) (st' := [.ref 3, .ref 3]) rfl ?_
    refine En_getK (j := 2) ((h11 _ _ (Or.inr (by decide))).trans h2) rfl rfl rfl tgz_3 (by decide +kernel) ?_
    refine En_put (j := 6) rfl rfl rfl tgz_3 (by decide +kernel) rfl (vI (l := (-1)) (u := 1600) (by decide +kernel) rfl (by omega) (by omega)) h8 h9 (by decide +kernel) (fun σ12 h13 h14 h15 h16 => ?_)
    exact En_ret (v := none) rfl rfl rfl ⟨h13, h14, a, ((h16 _ _ (Or.inr (by decide))).trans h10), rfl, ⟨by omega, by omega, by omega, fun _ => by omega, fun _ => by omega, CT_err hC (by omega) (by omega) h14 (by decide +kernel) (ci_at (j := 5) ((h16 _ _ (Or.inr (by decide))).trans h10) rfl) h2 (ci_at (j := 6) h15 rfl)⟩⟩
/-- DoorSchool$Reader.isBlank(B)Z -/
abbrev P_56x (σ0 : SG) (a : Int32) : PO := fun v σ => WT σ ∧ Fr [] σ0 σ ∧ ∃ ret : Int32, v = some (.int ret) ∧ -ret.toInt ≤ 0 ∧ ret.toInt - 1 ≤ 0 ∧ Imp (ret.toInt - 1 ≤ 0 ∧ -ret.toInt + 1 ≤ 0) (-a.toInt + 10 ≤ 0 ∧ a.toInt - 32 ≤ 0) ∧ ((ret.toInt = 1 ∧ (a.toInt = 32 ∨ a.toInt = 10)) ∨ (ret.toInt = 0 ∧ a.toInt ≠ 32 ∧ a.toInt ≠ 10))
set_option maxRecDepth 10000 in
set_option maxHeartbeats 4000000 in
theorem c_56x (σ0 : SG) (hσ0 : WT σ0) (a : Int32) (hl_a : (-128) ≤ a.toInt) (hu_a : a.toInt ≤ 127) : En 0 0 none mr_56 (P_56x σ0 a) 0 [(0, .int a)] [] σ0 := by
  have hF0 : Fr [] σ0 σ0 := Fr_rfl
  refine En_Ps 2 (pc' := 3) (lv' := [(0, .int a)]) (st' := [.int (((Int8.ofInt 32).toInt32)), .int a]) rfl ?_
  refine En_icEq _ rfl (by decide : ((Int8.ofInt 32).toInt32).toInt = 32) rfl (fun h1 => ?_) (fun h1 => ?_)
  · refine En_Ps 2 (pc' := 17) (lv' := [(0, .int a)]) (st' := [.int ((Int32.ofInt 1))]) rfl ?_
    refine En_top (by decide : (Int32.ofInt 1).toInt = 1) (fun z2 h3 => ?_)
    exact En_ret (v := some (.int z2)) rfl rfl (retZ rfl rfl (by omega) (by omega)) ⟨hσ0, hF0, z2, rfl, ⟨by omega, by omega, fun _ => by omega, (by omega)⟩⟩
  · refine En_Ps 2 (pc' := 9) (lv' := [(0, .int a)]) (st' := [.int (((Int8.ofInt 10).toInt32)), .int a]) rfl ?_
    refine En_icNe _ rfl (by decide : ((Int8.ofInt 10).toInt32).toInt = 10) rfl (fun h4 => ?_) (fun h4 => ?_)
    · refine En_Ps 1 (pc' := 17) (lv' := [(0, .int a)]) (st' := [.int ((Int32.ofInt 0))]) rfl ?_
      refine En_top (by decide : (Int32.ofInt 0).toInt = 0) (fun z5 h6 => ?_)
      exact En_ret (v := some (.int z5)) rfl rfl (retZ rfl rfl (by omega) (by omega)) ⟨hσ0, hF0, z5, rfl, ⟨by omega, by omega, fun _ => by omega, (by omega)⟩⟩
    · refine En_Ps 2 (pc' := 17) (lv' := [(0, .int a)]) (st' := [.int ((Int32.ofInt 1))]) rfl ?_
      refine En_top (by decide : (Int32.ofInt 1).toInt = 1) (fun z7 h8 => ?_)
      exact En_ret (v := some (.int z7)) rfl rfl (retZ rfl rfl (by omega) (by omega)) ⟨hσ0, hF0, z7, rfl, ⟨by omega, by omega, fun _ => by omega, (by omega)⟩⟩
/-- DoorSchool$Reader.kindAt(I)I -/
abbrev P_57x (σ0 : SG) (By : Int → Int) (Nb : Int) (a : Int32) (m : Int32) : PO := fun v σ => WT σ ∧ Fr [] σ0 σ ∧ ∃ ret : Int32, v = some (.int ret) ∧ -ret.toInt ≤ 0 ∧ ret.toInt - 4 ≤ 0 ∧ Imp (-ret.toInt + 1 ≤ 0) (a.toInt - m.toInt + 1 ≤ 0) ∧ ret.toInt = kA By Nb a.toInt
set_option maxRecDepth 10000 in
set_option maxHeartbeats 4000000 in
theorem c_57x {By : Int → Int} {Nb : Int} (σ0 : SG) (hσ0 : WT σ0) (a : Int32) (hl_a : 0 ≤ a.toInt) (hu_a : a.toInt ≤ 1600) (m : Int32) (h_m : (σ0 1)[1]? = some (.int m)) (hT : TPc By Nb σ0) : En 0 0 none mr_57 (P_57x σ0 By Nb a m) 0 [(0, .ref 3), (1, .int a)] [] σ0 := by
  obtain ⟨hl_m, hu_m⟩ := WT_int hσ0 (g := 1) (by decide +kernel) (by decide +kernel) (l := 0) (u := 1600) (by decide +kernel) h_m
  have hF0 : Fr [] σ0 σ0 := Fr_rfl
  refine En_Ps 2 (pc' := 2) (lv' := [(0, .ref 3), (1, .int a)]) (st' := [.ref 3, .int a]) rfl ?_
  refine En_getU (j := 0) (u := 1) (g' := 1) (q := 0) rfl rfl rfl tgz_3 (by decide +kernel) hσ0 (by decide +kernel) (by decide +kernel) (fun h1 => ?_)
  refine En_getK (j := 1) h_m rfl rfl rfl tgz_1 (by decide +kernel) ?_
  refine En_icLt _ rfl rfl rfl (fun h3 => ?_) (fun h3 => ?_)
  · refine En_Ps 1 (pc' := 14) (lv' := [(0, .ref 3), (1, .int a)]) (st' := [.ref 3]) rfl ?_
    refine En_getK (j := 0) h1 rfl rfl rfl tgz_3 (by decide +kernel) ?_
    refine En_getU (j := 0) (u := 2) (g' := 2) (q := 0) rfl rfl rfl tgz_1 (by decide +kernel) hσ0 (by decide +kernel) (by decide +kernel) (fun h4 => ?_)
    refine En_Ps 1 (pc' := 21) (lv' := [(0, .ref 3), (1, .int a)]) (st' := [.int a, .ref 2]) rfl ?_
    refine En_bald (l := (-128)) (u := 127) rfl rfl tgz_2 (by decide +kernel) hσ0 (by omega) (lnI (by decide +kernel : LN _ = 1600) (by omega)) (FTsgl (by decide +kernel)) (fun z7 h6 h8 h9 => ?_)
    refine En_Ps 3 (pc' := 26) (lv' := [(2, .int z7), (0, .ref 3), (1, .int a)]) (st' := [.int (((Int8.ofInt 97).toInt32)), .int z7]) rfl ?_
    refine En_icLt _ rfl (by decide : ((Int8.ofInt 97).toInt32).toInt = 97) rfl (fun h10 => ?_) (fun h10 => ?_)
    · refine En_Ps 2 (pc' := 40) (lv' := [(2, .int z7), (0, .ref 3), (1, .int a)]) (st' := [.int (((Int8.ofInt 48).toInt32)), .int z7]) rfl ?_
      refine En_icLt _ rfl (by decide : ((Int8.ofInt 48).toInt32).toInt = 48) rfl (fun h11 => ?_) (fun h11 => ?_)
      · refine En_Ps 2 (pc' := 54) (lv' := [(2, .int z7), (0, .ref 3), (1, .int a)]) (st' := [.int (((Int8.ofInt 59).toInt32)), .int z7]) rfl ?_
        refine En_icNe _ rfl (by decide : ((Int8.ofInt 59).toInt32).toInt = 59) rfl (fun h12 => ?_) (fun hx => by exfalso; omega)
        refine En_Ps 1 (pc' := 62) (lv' := [(2, .int z7), (0, .ref 3), (1, .int a)]) (st' := [.int ((Int32.ofInt 4))]) rfl ?_
        refine En_top (by decide : (Int32.ofInt 4).toInt = 4) (fun z13 h14 => ?_)
        exact En_ret (v := some (.int z13)) rfl rfl rfl ⟨hσ0, hF0, z13, rfl, ⟨by omega, by omega, fun _ => by omega, (by have k9 := kA_c hT h_m (fun _ => h6) (by omega : 0 ≤ a.toInt); omega)⟩⟩
      · refine En_Ps 2 (pc' := 46) (lv' := [(2, .int z7), (0, .ref 3), (1, .int a)]) (st' := [.int (((Int8.ofInt 57).toInt32)), .int z7]) rfl ?_
        refine En_icGt _ rfl (by decide : ((Int8.ofInt 57).toInt32).toInt = 57) rfl (fun h15 => ?_) (fun h15 => ?_)
        · refine En_Ps 2 (pc' := 54) (lv' := [(2, .int z7), (0, .ref 3), (1, .int a)]) (st' := [.int (((Int8.ofInt 59).toInt32)), .int z7]) rfl ?_
          refine En_icNe _ rfl (by decide : ((Int8.ofInt 59).toInt32).toInt = 59) rfl (fun h16 => ?_) (fun h16 => ?_)
          · refine En_Ps 1 (pc' := 62) (lv' := [(2, .int z7), (0, .ref 3), (1, .int a)]) (st' := [.int ((Int32.ofInt 4))]) rfl ?_
            refine En_top (by decide : (Int32.ofInt 4).toInt = 4) (fun z17 h18 => ?_)
            exact En_ret (v := some (.int z17)) rfl rfl rfl ⟨hσ0, hF0, z17, rfl, ⟨by omega, by omega, fun _ => by omega, (by have k9 := kA_c hT h_m (fun _ => h6) (by omega : 0 ≤ a.toInt); omega)⟩⟩
          · refine En_Ps 2 (pc' := 62) (lv' := [(2, .int z7), (0, .ref 3), (1, .int a)]) (st' := [.int ((Int32.ofInt 3))]) rfl ?_
            refine En_top (by decide : (Int32.ofInt 3).toInt = 3) (fun z19 h20 => ?_)
            exact En_ret (v := some (.int z19)) rfl rfl rfl ⟨hσ0, hF0, z19, rfl, ⟨by omega, by omega, fun _ => by omega, (by have k9 := kA_c hT h_m (fun _ => h6) (by omega : 0 ≤ a.toInt); omega)⟩⟩
        · refine En_Ps 1 (pc' := 50) (lv' := [(2, .int z7), (0, .ref 3), (1, .int a)]) (st' := [.int ((Int32.ofInt 2))]) rfl ?_
          refine En_top (by decide : (Int32.ofInt 2).toInt = 2) (fun z21 h22 => ?_)
          exact En_ret (v := some (.int z21)) rfl rfl rfl ⟨hσ0, hF0, z21, rfl, ⟨by omega, by omega, fun _ => by omega, (by have k9 := kA_c hT h_m (fun _ => h6) (by omega : 0 ≤ a.toInt); omega)⟩⟩
    · refine En_Ps 2 (pc' := 32) (lv' := [(2, .int z7), (0, .ref 3), (1, .int a)]) (st' := [.int (((Int8.ofInt 122).toInt32)), .int z7]) rfl ?_
      refine En_icGt _ rfl (by decide : ((Int8.ofInt 122).toInt32).toInt = 122) rfl (fun h23 => ?_) (fun h23 => ?_)
      · refine En_Ps 2 (pc' := 40) (lv' := [(2, .int z7), (0, .ref 3), (1, .int a)]) (st' := [.int (((Int8.ofInt 48).toInt32)), .int z7]) rfl ?_
        refine En_icLt _ rfl (by decide : ((Int8.ofInt 48).toInt32).toInt = 48) rfl (fun hx => by exfalso; omega) (fun h24 => ?_)
        refine En_Ps 2 (pc' := 46) (lv' := [(2, .int z7), (0, .ref 3), (1, .int a)]) (st' := [.int (((Int8.ofInt 57).toInt32)), .int z7]) rfl ?_
        refine En_icGt _ rfl (by decide : ((Int8.ofInt 57).toInt32).toInt = 57) rfl (fun h25 => ?_) (fun hx => by exfalso; omega)
        refine En_Ps 2 (pc' := 54) (lv' := [(2, .int z7), (0, .ref 3), (1, .int a)]) (st' := [.int (((Int8.ofInt 59).toInt32)), .int z7]) rfl ?_
        refine En_icNe _ rfl (by decide : ((Int8.ofInt 59).toInt32).toInt = 59) rfl (fun h26 => ?_) (fun hx => by exfalso; omega)
        refine En_Ps 1 (pc' := 62) (lv' := [(2, .int z7), (0, .ref 3), (1, .int a)]) (st' := [.int ((Int32.ofInt 4))]) rfl ?_
        refine En_top (by decide : (Int32.ofInt 4).toInt = 4) (fun z27 h28 => ?_)
        exact En_ret (v := some (.int z27)) rfl rfl rfl ⟨hσ0, hF0, z27, rfl, ⟨by omega, by omega, fun _ => by omega, (by have k9 := kA_c hT h_m (fun _ => h6) (by omega : 0 ≤ a.toInt); omega)⟩⟩
      · refine En_Ps 1 (pc' := 36) (lv' := [(2, .int z7), (0, .ref 3), (1, .int a)]) (st' := [.int ((Int32.ofInt 1))]) rfl ?_
        refine En_top (by decide : (Int32.ofInt 1).toInt = 1) (fun z29 h30 => ?_)
        exact En_ret (v := some (.int z29)) rfl rfl rfl ⟨hσ0, hF0, z29, rfl, ⟨by omega, by omega, fun _ => by omega, (by have k9 := kA_c hT h_m (fun _ => h6) (by omega : 0 ≤ a.toInt); omega)⟩⟩
  · refine En_Ps 1 (pc' := 12) (lv' := [(0, .ref 3), (1, .int a)]) (st' := [.int ((Int32.ofInt 0))]) rfl ?_
    refine En_top (by decide : (Int32.ofInt 0).toInt = 0) (fun z31 h32 => ?_)
    exact En_ret (v := some (.int z31)) rfl rfl rfl ⟨hσ0, hF0, z31, rfl, ⟨by omega, by omega, fun _ => by omega, kA_end hT h_m (by omega) (by omega)⟩⟩
/-- DoorSchool$Reader.numberHere(II)I -/
abbrev P_58x (σ0 : SG) (By : Int → Int) (Nb : Int) (Sp : PS) (a : Int32) (b : Int32) (f : Int32) : PO := fun v σ => WT σ ∧ Fr [(3, 5), (3, 6)] σ0 σ ∧ ∃ f1 : Int32, (σ 3)[5]? = some (.int f1) ∧ ∃ ret : Int32, v = some (.int ret) ∧ ret.toInt - 1000000 ≤ 0 ∧ -f1.toInt ≤ 0 ∧ f1.toInt - 3 ≤ 0 ∧ -f1.toInt + f.toInt ≤ 0 ∧ f.toInt - f1.toInt ≤ 0 ∧ Imp (f1.toInt ≤ 0) (a.toInt - ret.toInt ≤ 0 ∧ ret.toInt - b.toInt ≤ 0) ∧ Imp (-f1.toInt + 1 ≤ 0) (ret.toInt + 1 ≤ 0 ∧ -ret.toInt - 1 ≤ 0) ∧ Imp (-b.toInt - 1 ≤ 0) (ret.toInt - b.toInt ≤ 0) ∧ Imp (-a.toInt - 1 ≤ 0) (-ret.toInt - 1 ≤ 0) ∧ (CT By Nb σ (nH By Nb a.toInt b.toInt Sp) ∧ Imp ((nH By Nb a.toInt b.toInt Sp).1 = 0) (ret.toInt = tV By Nb Sp.2.2.1))
set_option maxRecDepth 10000 in
set_option maxHeartbeats 4000000 in
theorem c_58x {By : Int → Int} {Nb : Int} {Sp : PS} (σ0 : SG) (hσ0 : WT σ0) (a : Int32) (b : Int32) (f : Int32) (h_f : (σ0 3)[5]? = some (.int f)) (hC : CT By Nb σ0 Sp) : En 1 21 none mr_58 (P_58x σ0 By Nb Sp a b f) 0 [(0, .ref 3), (1, .int a), (2, .int b)] [] σ0 := by
  obtain ⟨hl_f, hu_f⟩ := WT_int hσ0 (g := 3) (by decide +kernel) (by decide +kernel) (l := 0) (u := 3) (by decide +kernel) h_f
  have hF0 : Fr [(3, 5), (3, 6)] σ0 σ0 := Fr_rfl
  obtain ⟨z2, h1, h3, h4⟩ := WT_peekI hσ0 tgz_3 (by decide +kernel : FT 3 1 = (0, 0, 4)) (by decide +kernel)
  obtain ⟨z6, h5, h7, h8⟩ := WT_peekI hσ0 tgz_3 (by decide +kernel : FT 3 4 = (0, (-2147483648), 1000000)) (by decide +kernel)
  have h9 := CT_k hC h_f
  have h10 : Imp (Sp.1 = 0) (tK By Nb Sp.2.2.1 = z2.toInt) := CT_t hC h1
  have h11 : Imp (Sp.1 = 0 ∧ tK By Nb Sp.2.2.1 = 2) (z6.toInt = tV By Nb Sp.2.2.1 ∧ 0 ≤ tV By Nb Sp.2.2.1) := fun q => CT_u hC h5 q.1 q.2
  refine En_Ps 1 (pc' := 1) (lv' := [(0, .ref 3), (1, .int a), (2, .int b)]) (st' := [.ref 3]) rfl ?_
  refine En_getK (j := 1) h1 rfl rfl rfl tgz_3 (by decide +kernel) ?_
  refine En_Ps 1 (pc' := 5) (lv' := [(0, .ref 3), (1, .int a), (2, .int b)]) (st' := [.int ((Int32.ofInt 2)), .int z2]) rfl ?_
  refine En_icEq _ rfl (by decide : (Int32.ofInt 2).toInt = 2) rfl (fun h12 => ?_) (fun h12 => ?_)
  · refine En_Ps 1 (pc' := 17) (lv' := [(0, .ref 3), (1, .int a), (2, .int b)]) (st' := [.ref 3]) rfl ?_
    refine En_getK (j := 4) h5 rfl rfl rfl tgz_3 (by decide +kernel) ?_
    refine En_Ps 1 (pc' := 21) (lv' := [(0, .ref 3), (1, .int a), (2, .int b)]) (st' := [.int a, .int z6]) rfl ?_
    refine En_icLt _ rfl rfl rfl (fun h13 => ?_) (fun h13 => ?_)
    · refine En_Ps 2 (pc' := 34) (lv' := [(0, .ref 3), (1, .int a), (2, .int b)]) (st' := [.int ((Int32.ofInt 2)), .ref 3]) rfl ?_
      have := (by decide : ((Int32.ofInt 2)).toInt = 2)
      refine En_callV rfl rfl rfl rfl rfl rfl rfl rfl tgz_3 (by decide +kernel) rfl (c_54x σ0 hσ0 ((Int32.ofInt 2)) (geI (by decide : (Int32.ofInt 2).toInt = 2) (by omega)) (leI (by decide : (Int32.ofInt 2).toInt = 2) (by omega)) f h_f hC) (by decide) (by decide) (fun v15 σ16 h14 => ?_)
      obtain ⟨h17, h18, z20, h21, rfl, h19⟩ := h14
      have h22 := h19.2.2.2.2.2
      have h23 := Fr_trans hF0 h18 (by decide +kernel)
      obtain ⟨S24, h25⟩ : ∃ q : PS, q = err By Nb 2 Sp := ⟨_, rfl⟩
      have h26 : CT By Nb σ16 S24 := by rw [h25]; exact (CT_eq h22 (err_cg (by omega)))
      have h27 := CT_k h26 h21
      have h28 : Imp (S24.1 = 0) (tK By Nb S24.2.2.1 = z2.toInt) := CT_t h26 ((h18 _ _ (inW tgz_3 (by decide +kernel))).trans h1)
      have h29 : Imp (S24.1 = 0 ∧ tK By Nb S24.2.2.1 = 2) (z6.toInt = tV By Nb S24.2.2.1 ∧ 0 ≤ tV By Nb S24.2.2.1) := fun q => CT_u h26 ((h18 _ _ (inW tgz_3 (by decide +kernel))).trans h5) q.1 q.2
      have h30 : S24.2.2.2 = Sp.2.2.2 := by rw [h25]; exact err_w
      refine En_Ps 1 (pc' := 38) (lv' := [(0, .ref 3), (1, .int a), (2, .int b)]) (st' := [.ref 3]) rfl ?_
      refine En_getK (j := 5) h21 rfl rfl rfl tgz_3 (by decide +kernel) ?_
      refine En_iNe _ rfl rfl (fun h31 => ?_) (fun hx => by exfalso; have := Imp_m h19.2.2.2.1 (by omega); have := Imp_m h19.2.2.2.2.1 (by omega); omega)
      refine En_Ps 1 (pc' := 52) (lv' := [(0, .ref 3), (1, .int a), (2, .int b)]) (st' := [.int ((Int32.ofInt (-1)))]) rfl ?_
      refine En_top (by decide : (Int32.ofInt (-1)).toInt = -1) (fun z32 h33 => ?_)
      exact En_ret (v := some (.int z32)) rfl rfl rfl ⟨h17, h23, z20, h21, z32, rfl, ⟨by omega, by omega, by omega, by omega, by omega, fun _ => by have := Imp_m h19.2.2.2.1 (by omega); have := Imp_m h19.2.2.2.2.1 (by omega); omega, fun _ => by omega, fun _ => by omega, fun _ => by omega, (by first | (subst h25; have q := nHc_1 (By := By) (Nb := Nb) (lo := a.toInt) (hi := b.toInt) (S := Sp) (fun zz => by (try have i0 := Imp_m h28 (by omega)); (try have i1 := Imp_m h10 (by omega)); (try have i2 := Imp_m h11 (by omega)); (try have i3 := Imp_m h29 (by omega)); (try have i4 := Imp_m h19.2.2.2.1 (by omega)); (try have i5 := Imp_m h19.2.2.2.2.1 (by omega)); omega); rw [q]; exact ⟨h26, fun zz => by (try have i0 := Imp_m h28 (by omega)); (try have i1 := Imp_m h10 (by omega)); (try have i2 := Imp_m h11 (by omega)); (try have i3 := Imp_m h29 (by omega)); (try have i4 := Imp_m h19.2.2.2.1 (by omega)); (try have i5 := Imp_m h19.2.2.2.2.1 (by omega)); omega⟩) | (subst h25; have q := nHc_2 (By := By) (Nb := Nb) (lo := a.toInt) (hi := b.toInt) (S := Sp) (fun zz => by (try have i0 := Imp_m h28 (by omega)); (try have i1 := Imp_m h10 (by omega)); (try have i2 := Imp_m h11 (by omega)); (try have i3 := Imp_m h29 (by omega)); (try have i4 := Imp_m h19.2.2.2.1 (by omega)); (try have i5 := Imp_m h19.2.2.2.2.1 (by omega)); omega); rw [q]; exact ⟨h26, fun zz => by (try have i0 := Imp_m h28 (by omega)); (try have i1 := Imp_m h10 (by omega)); (try have i2 := Imp_m h11 (by omega)); (try have i3 := Imp_m h29 (by omega)); (try have i4 := Imp_m h19.2.2.2.1 (by omega)); (try have i5 := Imp_m h19.2.2.2.2.1 (by omega)); omega⟩) | (subst h25; have q := nHc_0 (By := By) (Nb := Nb) (lo := a.toInt) (hi := b.toInt) (S := Sp) (fun zz => by (try have i0 := Imp_m h28 (by omega)); (try have i1 := Imp_m h10 (by omega)); (try have i2 := Imp_m h11 (by omega)); (try have i3 := Imp_m h29 (by omega)); (try have i4 := Imp_m h19.2.2.2.1 (by omega)); (try have i5 := Imp_m h19.2.2.2.2.1 (by omega)); omega); rw [q]; exact ⟨h26, fun zz => by (try have i0 := Imp_m h28 (by omega)); (try have i1 := Imp_m h10 (by omega)); (try have i2 := Imp_m h11 (by omega)); (try have i3 := Imp_m h29 (by omega)); (try have i4 := Imp_m h19.2.2.2.1 (by omega)); (try have i5 := Imp_m h19.2.2.2.2.1 (by omega)); omega⟩))⟩⟩
    · refine En_Ps 1 (pc' := 25) (lv' := [(0, .ref 3), (1, .int a), (2, .int b)]) (st' := [.ref 3]) rfl ?_
      refine En_getK (j := 4) h5 rfl rfl rfl tgz_3 (by decide +kernel) ?_
      refine En_Ps 1 (pc' := 29) (lv' := [(0, .ref 3), (1, .int a), (2, .int b)]) (st' := [.int b, .int z6]) rfl ?_
      refine En_icLe _ rfl rfl rfl (fun h34 => ?_) (fun h34 => ?_)
      · refine En_Ps 1 (pc' := 38) (lv' := [(0, .ref 3), (1, .int a), (2, .int b)]) (st' := [.ref 3]) rfl ?_
        refine En_getK (j := 5) h_f rfl rfl rfl tgz_3 (by decide +kernel) ?_
        refine En_iNe _ rfl rfl (fun h35 => ?_) (fun h35 => ?_)
        · refine En_Ps 1 (pc' := 52) (lv' := [(0, .ref 3), (1, .int a), (2, .int b)]) (st' := [.int ((Int32.ofInt (-1)))]) rfl ?_
          refine En_top (by decide : (Int32.ofInt (-1)).toInt = -1) (fun z36 h37 => ?_)
          exact En_ret (v := some (.int z36)) rfl rfl rfl ⟨hσ0, hF0, f, h_f, z36, rfl, ⟨by omega, by omega, by omega, by omega, by omega, fun _ => by omega, fun _ => by omega, fun _ => by omega, fun _ => by omega, (by first | (have q := nHc_1 (By := By) (Nb := Nb) (lo := a.toInt) (hi := b.toInt) (S := Sp) (fun zz => by (try have i0 := Imp_m h10 (by omega)); (try have i1 := Imp_m h11 (by omega)); omega); rw [q]; exact ⟨hC, fun zz => by (try have i0 := Imp_m h10 (by omega)); (try have i1 := Imp_m h11 (by omega)); omega⟩) | (have q := nHc_2 (By := By) (Nb := Nb) (lo := a.toInt) (hi := b.toInt) (S := Sp) (fun zz => by (try have i0 := Imp_m h10 (by omega)); (try have i1 := Imp_m h11 (by omega)); omega); rw [q]; exact ⟨hC, fun zz => by (try have i0 := Imp_m h10 (by omega)); (try have i1 := Imp_m h11 (by omega)); omega⟩) | (have q := nHc_0 (By := By) (Nb := Nb) (lo := a.toInt) (hi := b.toInt) (S := Sp) (fun zz => by (try have i0 := Imp_m h10 (by omega)); (try have i1 := Imp_m h11 (by omega)); omega); rw [q]; exact ⟨hC, fun zz => by (try have i0 := Imp_m h10 (by omega)); (try have i1 := Imp_m h11 (by omega)); omega⟩))⟩⟩
        · refine En_Ps 1 (pc' := 45) (lv' := [(0, .ref 3), (1, .int a), (2, .int b)]) (st' := [.ref 3]) rfl ?_
          refine En_getK (j := 4) h5 rfl rfl rfl tgz_3 (by decide +kernel) ?_
          refine En_Ps 1 (pc' := 52) (lv' := [(0, .ref 3), (1, .int a), (2, .int b)]) (st' := [.int z6]) rfl ?_
          exact En_ret (v := some (.int z6)) rfl rfl rfl ⟨hσ0, hF0, f, h_f, z6, rfl, ⟨by omega, by omega, by omega, by omega, by omega, fun _ => by omega, fun _ => by omega, fun _ => by omega, fun _ => by omega, (by first | (have q := nHc_1 (By := By) (Nb := Nb) (lo := a.toInt) (hi := b.toInt) (S := Sp) (fun zz => by (try have i0 := Imp_m h10 (by omega)); (try have i1 := Imp_m h11 (by omega)); omega); rw [q]; exact ⟨hC, fun zz => by (try have i0 := Imp_m h10 (by omega)); (try have i1 := Imp_m h11 (by omega)); omega⟩) | (have q := nHc_2 (By := By) (Nb := Nb) (lo := a.toInt) (hi := b.toInt) (S := Sp) (fun zz => by (try have i0 := Imp_m h10 (by omega)); (try have i1 := Imp_m h11 (by omega)); omega); rw [q]; exact ⟨hC, fun zz => by (try have i0 := Imp_m h10 (by omega)); (try have i1 := Imp_m h11 (by omega)); omega⟩) | (have q := nHc_0 (By := By) (Nb := Nb) (lo := a.toInt) (hi := b.toInt) (S := Sp) (fun zz => by (try have i0 := Imp_m h10 (by omega)); (try have i1 := Imp_m h11 (by omega)); omega); rw [q]; exact ⟨hC, fun zz => by (try have i0 := Imp_m h10 (by omega)); (try have i1 := Imp_m h11 (by omega)); omega⟩))⟩⟩
      · refine En_Ps 2 (pc' := 34) (lv' := [(0, .ref 3), (1, .int a), (2, .int b)]) (st' := [.int ((Int32.ofInt 2)), .ref 3]) rfl ?_
        have := (by decide : ((Int32.ofInt 2)).toInt = 2)
        refine En_callV rfl rfl rfl rfl rfl rfl rfl rfl tgz_3 (by decide +kernel) rfl (c_54x σ0 hσ0 ((Int32.ofInt 2)) (geI (by decide : (Int32.ofInt 2).toInt = 2) (by omega)) (leI (by decide : (Int32.ofInt 2).toInt = 2) (by omega)) f h_f hC) (by decide) (by decide) (fun v39 σ40 h38 => ?_)
        obtain ⟨h41, h42, z44, h45, rfl, h43⟩ := h38
        have h46 := h43.2.2.2.2.2
        have h47 := Fr_trans hF0 h42 (by decide +kernel)
        obtain ⟨S48, h49⟩ : ∃ q : PS, q = err By Nb 2 Sp := ⟨_, rfl⟩
        have h50 : CT By Nb σ40 S48 := by rw [h49]; exact (CT_eq h46 (err_cg (by omega)))
        have h51 := CT_k h50 h45
        have h52 : Imp (S48.1 = 0) (tK By Nb S48.2.2.1 = z2.toInt) := CT_t h50 ((h42 _ _ (inW tgz_3 (by decide +kernel))).trans h1)
        have h53 : Imp (S48.1 = 0 ∧ tK By Nb S48.2.2.1 = 2) (z6.toInt = tV By Nb S48.2.2.1 ∧ 0 ≤ tV By Nb S48.2.2.1) := fun q => CT_u h50 ((h42 _ _ (inW tgz_3 (by decide +kernel))).trans h5) q.1 q.2
        have h54 : S48.2.2.2 = Sp.2.2.2 := by rw [h49]; exact err_w
        refine En_Ps 1 (pc' := 38) (lv' := [(0, .ref 3), (1, .int a), (2, .int b)]) (st' := [.ref 3]) rfl ?_
        refine En_getK (j := 5) h45 rfl rfl rfl tgz_3 (by decide +kernel) ?_
        refine En_iNe _ rfl rfl (fun h55 => ?_) (fun hx => by exfalso; have := Imp_m h43.2.2.2.1 (by omega); have := Imp_m h43.2.2.2.2.1 (by omega); omega)
        refine En_Ps 1 (pc' := 52) (lv' := [(0, .ref 3), (1, .int a), (2, .int b)]) (st' := [.int ((Int32.ofInt (-1)))]) rfl ?_
        refine En_top (by decide : (Int32.ofInt (-1)).toInt = -1) (fun z56 h57 => ?_)
        exact En_ret (v := some (.int z56)) rfl rfl rfl ⟨h41, h47, z44, h45, z56, rfl, ⟨by omega, by omega, by omega, by omega, by omega, fun _ => by have := Imp_m h43.2.2.2.1 (by omega); have := Imp_m h43.2.2.2.2.1 (by omega); omega, fun _ => by omega, fun _ => by omega, fun _ => by omega, (by first | (subst h49; have q := nHc_1 (By := By) (Nb := Nb) (lo := a.toInt) (hi := b.toInt) (S := Sp) (fun zz => by (try have i0 := Imp_m h52 (by omega)); (try have i1 := Imp_m h10 (by omega)); (try have i2 := Imp_m h11 (by omega)); (try have i3 := Imp_m h53 (by omega)); (try have i4 := Imp_m h43.2.2.2.1 (by omega)); (try have i5 := Imp_m h43.2.2.2.2.1 (by omega)); omega); rw [q]; exact ⟨h50, fun zz => by (try have i0 := Imp_m h52 (by omega)); (try have i1 := Imp_m h10 (by omega)); (try have i2 := Imp_m h11 (by omega)); (try have i3 := Imp_m h53 (by omega)); (try have i4 := Imp_m h43.2.2.2.1 (by omega)); (try have i5 := Imp_m h43.2.2.2.2.1 (by omega)); omega⟩) | (subst h49; have q := nHc_2 (By := By) (Nb := Nb) (lo := a.toInt) (hi := b.toInt) (S := Sp) (fun zz => by (try have i0 := Imp_m h52 (by omega)); (try have i1 := Imp_m h10 (by omega)); (try have i2 := Imp_m h11 (by omega)); (try have i3 := Imp_m h53 (by omega)); (try have i4 := Imp_m h43.2.2.2.1 (by omega)); (try have i5 := Imp_m h43.2.2.2.2.1 (by omega)); omega); rw [q]; exact ⟨h50, fun zz => by (try have i0 := Imp_m h52 (by omega)); (try have i1 := Imp_m h10 (by omega)); (try have i2 := Imp_m h11 (by omega)); (try have i3 := Imp_m h53 (by omega)); (try have i4 := Imp_m h43.2.2.2.1 (by omega)); (try have i5 := Imp_m h43.2.2.2.2.1 (by omega)); omega⟩) | (subst h49; have q := nHc_0 (By := By) (Nb := Nb) (lo := a.toInt) (hi := b.toInt) (S := Sp) (fun zz => by (try have i0 := Imp_m h52 (by omega)); (try have i1 := Imp_m h10 (by omega)); (try have i2 := Imp_m h11 (by omega)); (try have i3 := Imp_m h53 (by omega)); (try have i4 := Imp_m h43.2.2.2.1 (by omega)); (try have i5 := Imp_m h43.2.2.2.2.1 (by omega)); omega); rw [q]; exact ⟨h50, fun zz => by (try have i0 := Imp_m h52 (by omega)); (try have i1 := Imp_m h10 (by omega)); (try have i2 := Imp_m h11 (by omega)); (try have i3 := Imp_m h53 (by omega)); (try have i4 := Imp_m h43.2.2.2.1 (by omega)); (try have i5 := Imp_m h43.2.2.2.2.1 (by omega)); omega⟩))⟩⟩
  · refine En_Ps 2 (pc' := 10) (lv' := [(0, .ref 3), (1, .int a), (2, .int b)]) (st' := [.int ((Int32.ofInt 1)), .ref 3]) rfl ?_
    have := (by decide : ((Int32.ofInt 1)).toInt = 1)
    refine En_callV rfl rfl rfl rfl rfl rfl rfl rfl tgz_3 (by decide +kernel) rfl (c_54x σ0 hσ0 ((Int32.ofInt 1)) (geI (by decide : (Int32.ofInt 1).toInt = 1) (by omega)) (leI (by decide : (Int32.ofInt 1).toInt = 1) (by omega)) f h_f hC) (by decide) (by decide) (fun v59 σ60 h58 => ?_)
    obtain ⟨h61, h62, z64, h65, rfl, h63⟩ := h58
    have h66 := h63.2.2.2.2.2
    have h67 := Fr_trans hF0 h62 (by decide +kernel)
    obtain ⟨S68, h69⟩ : ∃ q : PS, q = err By Nb 1 Sp := ⟨_, rfl⟩
    have h70 : CT By Nb σ60 S68 := by rw [h69]; exact (CT_eq h66 (err_cg (by omega)))
    have h71 := CT_k h70 h65
    have h72 : Imp (S68.1 = 0) (tK By Nb S68.2.2.1 = z2.toInt) := CT_t h70 ((h62 _ _ (inW tgz_3 (by decide +kernel))).trans h1)
    have h73 : Imp (S68.1 = 0 ∧ tK By Nb S68.2.2.1 = 2) (z6.toInt = tV By Nb S68.2.2.1 ∧ 0 ≤ tV By Nb S68.2.2.1) := fun q => CT_u h70 ((h62 _ _ (inW tgz_3 (by decide +kernel))).trans h5) q.1 q.2
    have h74 : S68.2.2.2 = Sp.2.2.2 := by rw [h69]; exact err_w
    refine En_Ps 2 (pc' := 38) (lv' := [(0, .ref 3), (1, .int a), (2, .int b)]) (st' := [.ref 3]) rfl ?_
    refine En_getK (j := 5) h65 rfl rfl rfl tgz_3 (by decide +kernel) ?_
    refine En_iNe _ rfl rfl (fun h75 => ?_) (fun hx => by exfalso; have := Imp_m h63.2.2.2.1 (by omega); have := Imp_m h63.2.2.2.2.1 (by omega); omega)
    refine En_Ps 1 (pc' := 52) (lv' := [(0, .ref 3), (1, .int a), (2, .int b)]) (st' := [.int ((Int32.ofInt (-1)))]) rfl ?_
    refine En_top (by decide : (Int32.ofInt (-1)).toInt = -1) (fun z76 h77 => ?_)
    exact En_ret (v := some (.int z76)) rfl rfl rfl ⟨h61, h67, z64, h65, z76, rfl, ⟨by omega, by omega, by omega, by omega, by omega, fun _ => by have := Imp_m h63.2.2.2.1 (by omega); have := Imp_m h63.2.2.2.2.1 (by omega); omega, fun _ => by omega, fun _ => by omega, fun _ => by omega, (by first | (subst h69; have q := nHc_1 (By := By) (Nb := Nb) (lo := a.toInt) (hi := b.toInt) (S := Sp) (fun zz => by (try have i0 := Imp_m h72 (by omega)); (try have i1 := Imp_m h10 (by omega)); (try have i2 := Imp_m h11 (by omega)); (try have i3 := Imp_m h73 (by omega)); (try have i4 := Imp_m h63.2.2.2.1 (by omega)); (try have i5 := Imp_m h63.2.2.2.2.1 (by omega)); omega); rw [q]; exact ⟨h70, fun zz => by (try have i0 := Imp_m h72 (by omega)); (try have i1 := Imp_m h10 (by omega)); (try have i2 := Imp_m h11 (by omega)); (try have i3 := Imp_m h73 (by omega)); (try have i4 := Imp_m h63.2.2.2.1 (by omega)); (try have i5 := Imp_m h63.2.2.2.2.1 (by omega)); omega⟩) | (subst h69; have q := nHc_2 (By := By) (Nb := Nb) (lo := a.toInt) (hi := b.toInt) (S := Sp) (fun zz => by (try have i0 := Imp_m h72 (by omega)); (try have i1 := Imp_m h10 (by omega)); (try have i2 := Imp_m h11 (by omega)); (try have i3 := Imp_m h73 (by omega)); (try have i4 := Imp_m h63.2.2.2.1 (by omega)); (try have i5 := Imp_m h63.2.2.2.2.1 (by omega)); omega); rw [q]; exact ⟨h70, fun zz => by (try have i0 := Imp_m h72 (by omega)); (try have i1 := Imp_m h10 (by omega)); (try have i2 := Imp_m h11 (by omega)); (try have i3 := Imp_m h73 (by omega)); (try have i4 := Imp_m h63.2.2.2.1 (by omega)); (try have i5 := Imp_m h63.2.2.2.2.1 (by omega)); omega⟩) | (subst h69; have q := nHc_0 (By := By) (Nb := Nb) (lo := a.toInt) (hi := b.toInt) (S := Sp) (fun zz => by (try have i0 := Imp_m h72 (by omega)); (try have i1 := Imp_m h10 (by omega)); (try have i2 := Imp_m h11 (by omega)); (try have i3 := Imp_m h73 (by omega)); (try have i4 := Imp_m h63.2.2.2.1 (by omega)); (try have i5 := Imp_m h63.2.2.2.2.1 (by omega)); omega); rw [q]; exact ⟨h70, fun zz => by (try have i0 := Imp_m h72 (by omega)); (try have i1 := Imp_m h10 (by omega)); (try have i2 := Imp_m h11 (by omega)); (try have i3 := Imp_m h73 (by omega)); (try have i4 := Imp_m h63.2.2.2.1 (by omega)); (try have i5 := Imp_m h63.2.2.2.2.1 (by omega)); omega⟩))⟩⟩

