/-- DoorSchool$Plan.isKnock(I)Z -/
abbrev P_49x (σ0 : SG) (s : Nat) (a : Int32) (l : Int32) (sg : Int32) : PO := fun v σ => WT σ ∧ Fr [] σ0 σ ∧ ∃ ret : Int32, v = some (.int ret) ∧ -ret.toInt ≤ 0 ∧ ret.toInt - 1 ≤ 0 ∧ Imp (ret.toInt - 1 ≤ 0 ∧ -ret.toInt + 1 ≤ 0) (-a.toInt ≤ 0 ∧ a.toInt - 15 ≤ 0) ∧ ((ret.toInt = 1 ∧ 0 < l.toInt ∧ 0 ≤ a.toInt ∧ a.toInt < pI sg.toInt) ∨ (ret.toInt = 0 ∧ (l.toInt ≤ 0 ∨ a.toInt < 0 ∨ pI sg.toInt ≤ a.toInt)))
set_option maxRecDepth 10000 in
set_option maxHeartbeats 4000000 in
theorem c_49x (σ0 : SG) (hσ0 : WT σ0) (s : Nat) (hs : TG s = 18) (a : Int32) (l : Int32) (h_l : (σ0 s)[0]? = some (.int l)) (sg : Int32) (h_sg : (σ0 s)[1]? = some (.int sg)) (hp0 : -sg.toInt ≤ 0) : En 1 20 none mr_49 (P_49x σ0 s a l sg) 0 [(0, .ref s), (1, .int a)] [] σ0 := by
  obtain ⟨hl_l, hu_l⟩ := WT_int hσ0 (g := 18) hs (by decide +kernel) (l := 0) (u := 1601) (by decide +kernel) h_l
  obtain ⟨hl_sg, hu_sg⟩ := WT_int hσ0 (g := 18) hs (by decide +kernel) (l := (-1)) (u := 4) (by decide +kernel) h_sg
  have hF0 : Fr [] σ0 σ0 := Fr_rfl
  refine En_Ps 1 (pc' := 1) (lv' := [(0, .ref s), (1, .int a)]) (st' := [.ref s]) rfl ?_
  refine En_callV rfl rfl rfl rfl rfl rfl rfl rfl hs (by decide +kernel) rfl (c_43x σ0 hσ0 s hs l h_l) (by decide) (by decide) (fun v2 σ3 h1 => ?_)
  obtain ⟨h4, h5, z7, rfl, h6⟩ := h1
  have h8 := Fr_trans hF0 h5 (by decide +kernel)
  have h9 := Imp_m h6.2.2.1
  have h10 := Imp_m h6.2.2.2
  refine En_iEq _ rfl rfl (fun h11 => ?_) (fun h11 => ?_)
  · refine En_Ps 1 (pc' := 24) (lv' := [(0, .ref s), (1, .int a)]) (st' := [.int ((Int32.ofInt 0))]) rfl ?_
    refine En_top (by decide : (Int32.ofInt 0).toInt = 0) (fun z12 h13 => ?_)
    exact En_ret (v := some (.int z12)) rfl rfl (retZ rfl rfl (by first | exact q_55451d0a83 h13 | omega) (by first | exact q_87849c3859 h13 | omega)) ⟨h4, h8, z12, rfl, ⟨by first | exact q_097a37c2ae h13 | omega, by first | exact q_e269517bee h13 | omega, fun _ => by omega, (by omega)⟩⟩
  · have h14 := Imp_m h6.2.2.1 (by first | exact q_e3350da514 h11 h6.1 | omega)
    have h15 := Imp_m h6.2.2.2 (by first | exact q_68fbff215b h14 | omega)
    refine En_Ps 1 (pc' := 8) (lv' := [(0, .ref s), (1, .int a)]) (st' := [.int a]) rfl ?_
    refine En_iLt _ rfl rfl (fun h16 => ?_) (fun h16 => ?_)
    · refine En_Ps 1 (pc' := 24) (lv' := [(0, .ref s), (1, .int a)]) (st' := [.int ((Int32.ofInt 0))]) rfl ?_
      refine En_top (by decide : (Int32.ofInt 0).toInt = 0) (fun z17 h18 => ?_)
      exact En_ret (v := some (.int z17)) rfl rfl (retZ rfl rfl (by first | exact q_55451d0a83 h18 | omega) (by first | exact q_87849c3859 h18 | omega)) ⟨h4, h8, z17, rfl, ⟨by first | exact q_097a37c2ae h18 | omega, by first | exact q_e269517bee h18 | omega, fun _ => by omega, (by omega)⟩⟩
    · refine En_Ps 2 (pc' := 13) (lv' := [(0, .ref s), (1, .int a)]) (st' := [.ref s, .int a]) rfl ?_
      refine En_callV rfl rfl rfl rfl rfl rfl rfl rfl hs (by decide +kernel) rfl (c_51x σ3 h4 s hs sg ((h5 _ _ (inW hs (by decide +kernel))).trans h_sg) (by first | exact q_a555021d16 hp0 | omega)) (by decide) (by decide) (fun v20 σ21 h19 => ?_)
      obtain ⟨h22, h23, z25, rfl, h24⟩ := h19
      have h26 := h24.2.2
      have h27 := Fr_trans h8 h23 (by decide +kernel)
      have h28 := h26
      refine En_icGe _ rfl rfl rfl (fun h29 => ?_) (fun h29 => ?_)
      · refine En_Ps 1 (pc' := 24) (lv' := [(0, .ref s), (1, .int a)]) (st' := [.int ((Int32.ofInt 0))]) rfl ?_
        refine En_top (by decide : (Int32.ofInt 0).toInt = 0) (fun z30 h31 => ?_)
        exact En_ret (v := some (.int z30)) rfl rfl (retZ rfl rfl (by first | exact q_55451d0a83 h31 | omega) (by first | exact q_87849c3859 h31 | omega)) ⟨h22, h27, z30, rfl, ⟨by first | exact q_097a37c2ae h31 | omega, by first | exact q_e269517bee h31 | omega, fun _ => by omega, (by omega)⟩⟩
      · refine En_Ps 2 (pc' := 24) (lv' := [(0, .ref s), (1, .int a)]) (st' := [.int ((Int32.ofInt 1))]) rfl ?_
        refine En_top (by decide : (Int32.ofInt 1).toInt = 1) (fun z32 h33 => ?_)
        exact En_ret (v := some (.int z32)) rfl rfl (retZ rfl rfl (by first | exact q_2b07c97645 h33 | omega) (by first | exact q_d9e7cbb253 h33 | omega)) ⟨h22, h27, z32, rfl, ⟨by first | exact q_ad3eee31ca h33 | omega, by first | exact q_81cf297dc4 h33 | omega, fun hh => by first | exact ⟨q_c803b490ef h16, q_5cc51917cd h29 h24.2.1⟩ | omega, (by omega)⟩⟩
/-- DoorSchool$Plan.isRule(II)Z -/
abbrev P_50x (σ0 : SG) (s : Nat) (a : Int32) (b : Int32) (l : Int32) (sg : Int32) : PO := fun v σ => WT σ ∧ Fr [] σ0 σ ∧ ∃ ret : Int32, v = some (.int ret) ∧ -ret.toInt ≤ 0 ∧ ret.toInt - 1 ≤ 0 ∧ Imp (ret.toInt - 1 ≤ 0 ∧ -ret.toInt + 1 ≤ 0) (-a.toInt ≤ 0 ∧ a.toInt - 15 ≤ 0 ∧ -b.toInt ≤ 0 ∧ b.toInt - 15 ≤ 0) ∧ ((ret.toInt = 1 ∧ 0 < l.toInt ∧ 0 ≤ a.toInt ∧ a.toInt < pI sg.toInt ∧ 0 ≤ b.toInt ∧ b.toInt ≤ a.toInt ∧ sbI b.toInt a.toInt = 1) ∨ (ret.toInt = 0 ∧ (l.toInt ≤ 0 ∨ a.toInt < 0 ∨ pI sg.toInt ≤ a.toInt ∨ b.toInt < 0 ∨ 15 < b.toInt ∨ sbI b.toInt a.toInt ≠ 1)))
set_option maxRecDepth 10000 in
set_option maxHeartbeats 4000000 in
theorem c_50x (σ0 : SG) (hσ0 : WT σ0) (s : Nat) (hs : TG s = 18) (a : Int32) (b : Int32) (l : Int32) (h_l : (σ0 s)[0]? = some (.int l)) (sg : Int32) (h_sg : (σ0 s)[1]? = some (.int sg)) (hp0 : -sg.toInt ≤ 0) : En 2 41 none mr_50 (P_50x σ0 s a b l sg) 0 [(0, .ref s), (1, .int a), (2, .int b)] [] σ0 := by
  obtain ⟨hl_l, hu_l⟩ := WT_int hσ0 (g := 18) hs (by decide +kernel) (l := 0) (u := 1601) (by decide +kernel) h_l
  obtain ⟨hl_sg, hu_sg⟩ := WT_int hσ0 (g := 18) hs (by decide +kernel) (l := (-1)) (u := 4) (by decide +kernel) h_sg
  have hF0 : Fr [] σ0 σ0 := Fr_rfl
  refine En_Ps 2 (pc' := 2) (lv' := [(0, .ref s), (1, .int a), (2, .int b)]) (st' := [.int a, .ref s]) rfl ?_
  refine En_callV rfl rfl rfl rfl rfl rfl rfl rfl hs (by decide +kernel) rfl (c_49x σ0 hσ0 s hs a l h_l sg h_sg (by first | exact q_a555021d16 hp0 | omega)) (by decide) (by decide) (fun v2 σ3 h1 => ?_)
  obtain ⟨h4, h5, z7, rfl, h6⟩ := h1
  have h8 := h6.2.2.2
  have h9 := Fr_trans hF0 h5 (by decide +kernel)
  have h10 := Imp_m h6.2.2.1
  have h11 := h8
  refine En_iEq _ rfl rfl (fun h12 => ?_) (fun h12 => ?_)
  · refine En_Ps 1 (pc' := 21) (lv' := [(0, .ref s), (1, .int a), (2, .int b)]) (st' := [.int ((Int32.ofInt 0))]) rfl ?_
    refine En_top (by decide : (Int32.ofInt 0).toInt = 0) (fun z13 h14 => ?_)
    exact En_ret (v := some (.int z13)) rfl rfl (retZ rfl rfl (by first | exact q_55451d0a83 h14 | omega) (by first | exact q_87849c3859 h14 | omega)) ⟨h4, h9, z13, rfl, ⟨by first | exact q_097a37c2ae h14 | omega, by first | exact q_e269517bee h14 | omega, fun _ => by omega, (by omega)⟩⟩
  · have h15 := Imp_m h6.2.2.1 (by first | exact ⟨q_ad5b726bf8 h6.2.1, q_e3350da514 h12 h6.1⟩ | omega)
    refine En_Ps 4 (pc' := 12) (lv' := [(0, .ref s), (1, .int a), (2, .int b)]) (st' := [.int ((a ^^^ ((Int32.ofInt (-1))))), .int b]) rfl ?_
    refine En_nam (fun z16 h17 => ?_)
    refine En_Ps 1 (pc' := 13) (lv' := [(0, .ref s), (1, .int a), (2, .int b)]) (st' := [.int ((b &&& z16))]) rfl ?_
    refine En_nam (fun z18 h19 => ?_)
    refine En_iNe _ rfl rfl (fun h20 => ?_) (fun h20 => ?_)
    · have := fun (q9 : 0 ≤ b.toInt) => sub_sbw h19 h17 rfl rfl q9 (by omega) (by omega)
      refine En_Ps 1 (pc' := 21) (lv' := [(0, .ref s), (1, .int a), (2, .int b)]) (st' := [.int ((Int32.ofInt 0))]) rfl ?_
      refine En_top (by decide : (Int32.ofInt 0).toInt = 0) (fun z21 h22 => ?_)
      exact En_ret (v := some (.int z21)) rfl rfl (retZ rfl rfl (by first | exact q_55451d0a83 h22 | omega) (by first | exact q_87849c3859 h22 | omega)) ⟨h4, h9, z21, rfl, ⟨by first | exact q_097a37c2ae h22 | omega, by first | exact q_e269517bee h22 | omega, fun _ => by omega, (by omega)⟩⟩
    · obtain ⟨h23, h24⟩ := andn_zero h19 h17 h20 rfl rfl (by omega)
      have := sub_sbw h19 h17 rfl rfl (by omega) (by omega) (by omega)
      refine En_Ps 2 (pc' := 21) (lv' := [(0, .ref s), (1, .int a), (2, .int b)]) (st' := [.int ((Int32.ofInt 1))]) rfl ?_
      refine En_top (by decide : (Int32.ofInt 1).toInt = 1) (fun z25 h26 => ?_)
      exact En_ret (v := some (.int z25)) rfl rfl (retZ rfl rfl (by first | exact q_2b07c97645 h26 | omega) (by first | exact q_d9e7cbb253 h26 | omega)) ⟨h4, h9, z25, rfl, ⟨by first | exact q_ad3eee31ca h26 | omega, by first | exact q_81cf297dc4 h26 | omega, fun _ => by omega, (by omega)⟩⟩
/-- DoorSchool$Plan.takeFrom(LDoorSchool$Plan;)V -/
abbrev P_53ax (σ0 : SG) (s : Nat) (a : Nat) (sg : Int32) : PO := fun v σ => WT σ ∧ Fr [(20, 2), (21, 0), (22, 0), (23, 0), (24, 0), (25, 0), (26, 0), (27, 0), (28, 1), (28, 2), (28, 3), (31, 0), (31, 1), (31, 2), (31, 3), (31, 6), (31, 7), (31, 8), (31, 11), (31, 14)] σ0 σ ∧ v = none ∧ CPD σ0 σ s a (fun _ => True)
set_option maxRecDepth 10000 in
set_option maxHeartbeats 4000000 in
theorem c_53ax (σ0 : SG) (hσ0 : WT σ0) (s : Nat) (hs : TG s = 31) (a : Nat) (ha : TG a = 18) (sg : Int32) (h_sg : (σ0 a)[1]? = some (.int sg)) (hp0 : -sg.toInt ≤ 0) (hS : SEP s a) (hX : FXP σ0 s) (hY : FXP σ0 a) : En 3 102 none mr_53 (P_53ax σ0 s a sg) 0 [(0, .ref s), (1, .ref a)] [] σ0 := by
  obtain ⟨hl_sg, hu_sg⟩ := WT_int hσ0 (g := 18) ha (by decide +kernel) (l := (-1)) (u := 4) (by decide +kernel) h_sg
  have hF0 : Fr [(20, 2), (21, 0), (22, 0), (23, 0), (24, 0), (25, 0), (26, 0), (27, 0), (28, 1), (28, 2), (28, 3), (31, 0), (31, 1), (31, 2), (31, 3), (31, 6), (31, 7), (31, 8), (31, 11), (31, 14)] σ0 σ0 := Fr_rfl
  have sep := SEP_d hS
  refine En_Ps 2 (pc' := 2) (lv' := [(0, .ref s), (1, .ref a)]) (st' := [.ref a, .ref s]) rfl ?_
  refine En_getI (j := 0) (l := 0) (u := 1601) rfl rfl rfl ha (by decide +kernel) hσ0 (by decide +kernel) (fun z2 h1 h3 h4 => ?_)
  refine En_put (j := 0) rfl rfl rfl hs (by decide +kernel) rfl (vI (l := 0) (u := 1601) (by decide +kernel) rfl (by first | exact q_58e6e51dcc h3 | omega) (by first | exact q_3232882bcd h4 | omega)) hσ0 hF0 (by decide +kernel) (fun σ5 h6 h7 h8 h9 => ?_)
  have c10 := CPD_put (i0 := 7) (CPD_0 (σ := σ0)) hS h1 h8 h9 (by decide) (by decide) (by decide) (by decide)
  refine En_Ps 2 (pc' := 10) (lv' := [(0, .ref s), (1, .ref a)]) (st' := [.ref a, .ref s]) rfl ?_
  refine En_getK (j := 1) ((h9 _ _ (Or.inr (by decide))).trans h_sg) rfl rfl rfl ha (by decide +kernel) ?_
  refine En_put (j := 1) rfl rfl rfl hs (by decide +kernel) rfl (vI (l := 0) (u := 4) (by decide +kernel) rfl (by first | exact q_ef1e8e38bf hp0 | omega) (by first | exact q_c82ed93a8c hu_sg | omega)) h6 h7 (by decide +kernel) (fun σ11 h12 h13 h14 h15 => ?_)
  have c16 := CPD_put (i0 := 0) c10 hS ((h9 _ _ (Or.inr (by decide))).trans h_sg) h14 h15 (by decide) (by decide) (by decide) (by decide)
  refine En_Ps 2 (pc' := 18) (lv' := [(0, .ref s), (1, .ref a)]) (st' := [.ref a, .ref s]) rfl ?_
  refine En_getI (j := 2) (l := (-1)) (u := 3) rfl rfl rfl ha (by decide +kernel) h12 (by decide +kernel) (fun z18 h17 h19 h20 => ?_)
  refine En_put (j := 2) rfl rfl rfl hs (by decide +kernel) rfl (vI (l := (-1)) (u := 3) (by decide +kernel) rfl (by first | exact q_77b189e83d h19 | omega) (by first | exact q_da5e9b976f h20 | omega)) h12 h13 (by decide +kernel) (fun σ21 h22 h23 h24 h25 => ?_)
  have c26 := CPD_put (i0 := 1) c16 hS h17 h24 h25 (by decide) (by decide) (by decide) (by decide)
  refine En_Ps 2 (pc' := 26) (lv' := [(0, .ref s), (1, .ref a)]) (st' := [.ref a, .ref s]) rfl ?_
  refine En_getI (j := 3) (l := 0) (u := 4) rfl rfl rfl ha (by decide +kernel) h22 (by decide +kernel) (fun z28 h27 h29 h30 => ?_)
  refine En_put (j := 3) rfl rfl rfl hs (by decide +kernel) rfl (vI (l := 0) (u := 4) (by decide +kernel) rfl (by first | exact q_58e6e51dcc h29 | omega) (by first | exact q_c82ed93a8c h30 | omega)) h22 h23 (by decide +kernel) (fun σ31 h32 h33 h34 h35 => ?_)
  have c36 := CPD_put (i0 := 2) c26 hS h27 h34 h35 (by decide) (by decide) (by decide) (by decide)
  refine En_Ps 2 (pc' := 34) (lv' := [(2, .int ((Int32.ofInt 0))), (0, .ref s), (1, .ref a)]) (st' := []) rfl ?_
  have key34 : ∀ (n34 : Nat) (σ38 : SG) (y37 : Int32), WT σ38 → Fr [(20, 2), (21, 0), (22, 0), (23, 0), (24, 0), (25, 0), (26, 0), (27, 0), (28, 1), (28, 2), (28, 3), (31, 0), (31, 1), (31, 2), (31, 3), (31, 6), (31, 7), (31, 8), (31, 11), (31, 14)] σ0 σ38 → (σ38 a)[1]? = some (.int sg) → (σ38 a)[0]? = some (.int z2) → (σ38 s)[0]? = some (.int z2) → (σ38 s)[1]? = some (.int sg) → (σ38 a)[2]? = some (.int z18) → (σ38 s)[2]? = some (.int z18) → (σ38 a)[3]? = some (.int z28) → (σ38 s)[3]? = some (.int z28) → 0 ≤ y37.toInt → y37.toInt ≤ 4 → -y37.toInt + 4 < (n34 : Int) → CPL σ0 σ38 s a y37.toInt → En 3 102 none mr_53 (P_53ax σ0 s a sg) 34 [(0, .ref s), (1, .ref a), (2, .int y37)] [] σ38 := by
    intro n34
    induction n34 with
    | zero =>
      intro σ38 y37 h39 h40 h41 h42 h43 h44 h45 h46 h47 h48 h49 h50 h51 h52
      first | exact (q_20d6385c6f h51 h50).elim | (exfalso; omega)
    | succ n34 ih34 =>
      intro σ38 y37 h39 h40 h41 h42 h43 h44 h45 h46 h47 h48 h49 h50 h51 h52
      refine En_Ps 2 (pc' := 36) (lv' := [(0, .ref s), (1, .ref a), (2, .int y37)]) (st' := [.int ((Int32.ofInt 4)), .int y37]) rfl ?_
      refine En_icGe _ rfl (by decide : (Int32.ofInt 4).toInt = 4) rfl (fun h53 => ?_) (fun h53 => ?_)
      · have c54 := CPL_4 h52 (by omega)
        refine En_Ps 1 (pc' := 61) (lv' := [(0, .ref s), (1, .ref a), (2, .int y37)]) (st' := [.ref s]) rfl ?_
        refine En_getR (j := 5) (g' := 20) (u := 0) rfl rfl rfl hs (by decide +kernel) h39 (by decide +kernel) (fun a56 h55 ha56 => ?_)
        have t57 : a56 = s + 2 := ref_uniq h55 (FXI_fr (PLI_of hs) hX h40 (by decide +kernel)).2.1
        refine En_Ps 1 (pc' := 65) (lv' := [(0, .ref s), (1, .ref a), (2, .int y37)]) (st' := [.ref a, .ref a56]) rfl ?_
        refine En_getR (j := 5) (g' := 20) (u := 0) rfl rfl rfl ha (by decide +kernel) h39 (by decide +kernel) (fun a59 h58 ha59 => ?_)
        have t60 : a59 = a + 2 := ref_uniq h58 (FXP_fr (PLA_of ha) hY h40 (by decide +kernel)).2.1
        obtain ⟨a62, h61, ha62⟩ := WT_peekR (g := 20) (j := 0) (g' := 21) (u := 0) h39 ha56 (by decide +kernel) (by decide +kernel)
        have t63 : a62 = s + 3 := EKk (FXI_fr (PLI_of hs) hX h40 (by decide +kernel)) t57 h61
        obtain ⟨a65, h64, ha65⟩ := WT_peekR (g := 20) (j := 1) (g' := 22) (u := 0) h39 ha56 (by decide +kernel) (by decide +kernel)
        have t66 : a65 = s + 4 := EKo (FXI_fr (PLI_of hs) hX h40 (by decide +kernel)) t57 h64
        obtain ⟨a68, h67, ha68⟩ := WT_peekR (g := 20) (j := 0) (g' := 21) (u := 0) h39 ha59 (by decide +kernel) (by decide +kernel)
        have t69 : a68 = a + 3 := EKk (FXP_fr (PLA_of ha) hY h40 (by decide +kernel)) t60 h67
        obtain ⟨a71, h70, ha71⟩ := WT_peekR (g := 20) (j := 1) (g' := 22) (u := 0) h39 ha59 (by decide +kernel) (by decide +kernel)
        have t72 : a71 = a + 4 := EKo (FXP_fr (PLA_of ha) hY h40 (by decide +kernel)) t60 h70
        obtain ⟨z74, h73, h75, h76⟩ := WT_peekI h39 ha59 (by decide +kernel : FT 20 2 = (0, 0, 13)) (by decide +kernel)
        refine En_callV rfl rfl rfl rfl rfl rfl rfl rfl ha56 (by decide +kernel) rfl (c_40x σ38 h39 a56 ha56 a59 ha59 a62 ha62 h61 a65 ha65 h64 a68 ha68 h67 a71 ha71 h70 z74 h73 (by omega) (by omega) (by omega)) (by decide) (by decide) (fun v78 σ79 h77 => ?_)
        obtain ⟨h80, h81, rfl, h82⟩ := h77
        have h83 := h82
        have h84 := Fr_trans h40 h81 (by decide +kernel)
        have c85 := CPD_ex c54 hS h83 (by omega) (by omega) (by omega) (by omega) (by omega) (by omega)
        refine En_Ps 2 (pc' := 73) (lv' := [(0, .ref s), (1, .ref a), (2, .int y37)]) (st' := [.ref a, .ref s]) rfl ?_
        refine En_getI (j := 6) (l := 0) (u := 15) rfl rfl rfl ha (by decide +kernel) h80 (by decide +kernel) (fun z87 h86 h88 h89 => ?_)
        refine En_put (j := 6) rfl rfl rfl hs (by decide +kernel) rfl (vI (l := 0) (u := 15) (by decide +kernel) rfl (by first | exact q_58e6e51dcc h88 | omega) (by first | exact q_5a4d8a7e08 h89 | omega)) h80 h84 (by decide +kernel) (fun σ90 h91 h92 h93 h94 => ?_)
        have c95 := CPD_put (i0 := 8) c85 hS h86 h93 h94 (by decide) (by decide) (by decide) (by decide)
        refine En_Ps 2 (pc' := 81) (lv' := [(0, .ref s), (1, .ref a), (2, .int y37)]) (st' := [.ref a, .ref s]) rfl ?_
        refine En_getI (j := 7) (l := 0) (u := 15) rfl rfl rfl ha (by decide +kernel) h91 (by decide +kernel) (fun z97 h96 h98 h99 => ?_)
        refine En_put (j := 7) rfl rfl rfl hs (by decide +kernel) rfl (vI (l := 0) (u := 15) (by decide +kernel) rfl (by first | exact q_58e6e51dcc h98 | omega) (by first | exact q_5a4d8a7e08 h99 | omega)) h91 h92 (by decide +kernel) (fun σ100 h101 h102 h103 h104 => ?_)
        have c105 := CPD_put (i0 := 9) c95 hS h96 h103 h104 (by decide) (by decide) (by decide) (by decide)
        refine En_Ps 2 (pc' := 89) (lv' := [(0, .ref s), (1, .ref a), (2, .int y37)]) (st' := [.ref a, .ref s]) rfl ?_
        refine En_getI (j := 8) (l := 0) (u := 4) rfl rfl rfl ha (by decide +kernel) h101 (by decide +kernel) (fun z107 h106 h108 h109 => ?_)
        refine En_put (j := 8) rfl rfl rfl hs (by decide +kernel) rfl (vI (l := 0) (u := 4) (by decide +kernel) rfl (by first | exact q_58e6e51dcc h108 | omega) (by first | exact q_c82ed93a8c h109 | omega)) h101 h102 (by decide +kernel) (fun σ110 h111 h112 h113 h114 => ?_)
        have c115 := CPD_put (i0 := 4) c105 hS h106 h113 h114 (by decide) (by decide) (by decide) (by decide)
        refine En_Ps 1 (pc' := 96) (lv' := [(0, .ref s), (1, .ref a), (2, .int y37)]) (st' := [.ref a]) rfl ?_
        refine En_getR (j := 9) (g' := 23) (u := 0) rfl rfl rfl ha (by decide +kernel) h111 (by decide +kernel) (fun a117 h116 ha117 => ?_)
        have t118 : a117 = a + 5 := ref_uniq h116 (FXP_fr (PLA_of ha) hY h112 (by decide +kernel)).2.2.1
        refine En_Ps 2 (pc' := 101) (lv' := [(0, .ref s), (1, .ref a), (2, .int y37)]) (st' := [.ref s, .int ((Int32.ofInt 0)), .ref a117]) rfl ?_
        refine En_getR (j := 9) (g' := 23) (u := 0) rfl rfl rfl hs (by decide +kernel) h111 (by decide +kernel) (fun a120 h119 ha120 => ?_)
        have t121 : a120 = s + 5 := ref_uniq h119 (FXI_fr (PLI_of hs) hX h112 (by decide +kernel)).2.2.1
        refine En_Ps 2 (pc' := 106) (lv' := [(0, .ref s), (1, .ref a), (2, .int y37)]) (st' := [.int ((Int32.ofInt 4)), .int ((Int32.ofInt 0)), .ref a120, .int ((Int32.ofInt 0)), .ref a117]) rfl ?_
        refine En_copyX (n0 := 4) (n1 := 4) (by decide : (Int32.ofInt 4).toInt = 4) (by decide : (Int32.ofInt 0).toInt = 0) (by decide : (Int32.ofInt 0).toInt = 0) rfl rfl rfl rfl ha117 ha120 (by decide +kernel) (by decide +kernel) (by decide +kernel) (by decide +kernel) (by decide +kernel) (by omega) (by omega) (by omega) (by omega) (by omega) h111 h112 (by decide +kernel) (fun σ122 h123 h124 h125 h126 => ?_)
        have h127 := ROW_mk (n := 4) h125 h126 (by decide) (by decide) (by decide)
        have c128 := CPD_row c115 hS h127 t121 t118 (by decide) (by decide +kernel)
        refine En_Ps 1 (pc' := 110) (lv' := [(0, .ref s), (1, .ref a), (2, .int y37)]) (st' := [.ref a]) rfl ?_
        refine En_getR (j := 10) (g' := 24) (u := 0) rfl rfl rfl ha (by decide +kernel) h123 (by decide +kernel) (fun a130 h129 ha130 => ?_)
        have t131 : a130 = a + 6 := ref_uniq h129 (FXP_fr (PLA_of ha) hY h124 (by decide +kernel)).2.2.2.1
        refine En_Ps 2 (pc' := 115) (lv' := [(0, .ref s), (1, .ref a), (2, .int y37)]) (st' := [.ref s, .int ((Int32.ofInt 0)), .ref a130]) rfl ?_
        refine En_getR (j := 10) (g' := 24) (u := 0) rfl rfl rfl hs (by decide +kernel) h123 (by decide +kernel) (fun a133 h132 ha133 => ?_)
        have t134 : a133 = s + 6 := ref_uniq h132 (FXI_fr (PLI_of hs) hX h124 (by decide +kernel)).2.2.2.1
        refine En_Ps 2 (pc' := 120) (lv' := [(0, .ref s), (1, .ref a), (2, .int y37)]) (st' := [.int ((Int32.ofInt 4)), .int ((Int32.ofInt 0)), .ref a133, .int ((Int32.ofInt 0)), .ref a130]) rfl ?_
        refine En_copyX (n0 := 4) (n1 := 4) (by decide : (Int32.ofInt 4).toInt = 4) (by decide : (Int32.ofInt 0).toInt = 0) (by decide : (Int32.ofInt 0).toInt = 0) rfl rfl rfl rfl ha130 ha133 (by decide +kernel) (by decide +kernel) (by decide +kernel) (by decide +kernel) (by decide +kernel) (by omega) (by omega) (by omega) (by omega) (by omega) h123 h124 (by decide +kernel) (fun σ135 h136 h137 h138 h139 => ?_)
        have h140 := ROW_mk (n := 4) h138 h139 (by decide) (by decide) (by decide)
        have c141 := CPD_row c128 hS h140 t134 t131 (by decide) (by decide +kernel)
        refine En_Ps 2 (pc' := 125) (lv' := [(0, .ref s), (1, .ref a), (2, .int y37)]) (st' := [.ref a, .ref s]) rfl ?_
        refine En_getI (j := 11) (l := 0) (u := 6) rfl rfl rfl ha (by decide +kernel) h136 (by decide +kernel) (fun z143 h142 h144 h145 => ?_)
        refine En_put (j := 11) rfl rfl rfl hs (by decide +kernel) rfl (vI (l := 0) (u := 6) (by decide +kernel) rfl (by first | exact q_58e6e51dcc h144 | omega) (by first | exact q_615333d33f h145 | omega)) h136 h137 (by decide +kernel) (fun σ146 h147 h148 h149 h150 => ?_)
        have c151 := CPD_put (i0 := 5) c141 hS h142 h149 h150 (by decide) (by decide) (by decide) (by decide)
        refine En_Ps 1 (pc' := 132) (lv' := [(0, .ref s), (1, .ref a), (2, .int y37)]) (st' := [.ref a]) rfl ?_
        refine En_getR (j := 12) (g' := 25) (u := 0) rfl rfl rfl ha (by decide +kernel) h147 (by decide +kernel) (fun a153 h152 ha153 => ?_)
        have t154 : a153 = a + 7 := ref_uniq h152 (FXP_fr (PLA_of ha) hY h148 (by decide +kernel)).2.2.2.2.1
        refine En_Ps 2 (pc' := 137) (lv' := [(0, .ref s), (1, .ref a), (2, .int y37)]) (st' := [.ref s, .int ((Int32.ofInt 0)), .ref a153]) rfl ?_
        refine En_getR (j := 12) (g' := 25) (u := 0) rfl rfl rfl hs (by decide +kernel) h147 (by decide +kernel) (fun a156 h155 ha156 => ?_)
        have t157 : a156 = s + 7 := ref_uniq h155 (FXI_fr (PLI_of hs) hX h148 (by decide +kernel)).2.2.2.2.1
        refine En_Ps 2 (pc' := 143) (lv' := [(0, .ref s), (1, .ref a), (2, .int y37)]) (st' := [.int (((Int8.ofInt 6).toInt32)), .int ((Int32.ofInt 0)), .ref a156, .int ((Int32.ofInt 0)), .ref a153]) rfl ?_
        refine En_copyX (n0 := 6) (n1 := 6) (by decide : ((Int8.ofInt 6).toInt32).toInt = 6) (by decide : (Int32.ofInt 0).toInt = 0) (by decide : (Int32.ofInt 0).toInt = 0) rfl rfl rfl rfl ha153 ha156 (by decide +kernel) (by decide +kernel) (by decide +kernel) (by decide +kernel) (by decide +kernel) (by omega) (by omega) (by omega) (by omega) (by omega) h147 h148 (by decide +kernel) (fun σ158 h159 h160 h161 h162 => ?_)
        have h163 := ROW_mk (n := 6) h161 h162 (by decide) (by decide) (by decide)
        have c164 := CPD_row c151 hS h163 t157 t154 (by decide) (by decide +kernel)
        refine En_Ps 1 (pc' := 147) (lv' := [(0, .ref s), (1, .ref a), (2, .int y37)]) (st' := [.ref a]) rfl ?_
        refine En_getR (j := 13) (g' := 26) (u := 0) rfl rfl rfl ha (by decide +kernel) h159 (by decide +kernel) (fun a166 h165 ha166 => ?_)
        have t167 : a166 = a + 8 := ref_uniq h165 (FXP_fr (PLA_of ha) hY h160 (by decide +kernel)).2.2.2.2.2.1
        refine En_Ps 2 (pc' := 152) (lv' := [(0, .ref s), (1, .ref a), (2, .int y37)]) (st' := [.ref s, .int ((Int32.ofInt 0)), .ref a166]) rfl ?_
        refine En_getR (j := 13) (g' := 26) (u := 0) rfl rfl rfl hs (by decide +kernel) h159 (by decide +kernel) (fun a169 h168 ha169 => ?_)
        have t170 : a169 = s + 8 := ref_uniq h168 (FXI_fr (PLI_of hs) hX h160 (by decide +kernel)).2.2.2.2.2.1
        refine En_Ps 2 (pc' := 158) (lv' := [(0, .ref s), (1, .ref a), (2, .int y37)]) (st' := [.int (((Int8.ofInt 6).toInt32)), .int ((Int32.ofInt 0)), .ref a169, .int ((Int32.ofInt 0)), .ref a166]) rfl ?_
        refine En_copyX (n0 := 6) (n1 := 6) (by decide : ((Int8.ofInt 6).toInt32).toInt = 6) (by decide : (Int32.ofInt 0).toInt = 0) (by decide : (Int32.ofInt 0).toInt = 0) rfl rfl rfl rfl ha166 ha169 (by decide +kernel) (by decide +kernel) (by decide +kernel) (by decide +kernel) (by decide +kernel) (by omega) (by omega) (by omega) (by omega) (by omega) h159 h160 (by decide +kernel) (fun σ171 h172 h173 h174 h175 => ?_)
        have h176 := ROW_mk (n := 6) h174 h175 (by decide) (by decide) (by decide)
        have c177 := CPD_row c164 hS h176 t170 t167 (by decide) (by decide +kernel)
        refine En_Ps 2 (pc' := 163) (lv' := [(0, .ref s), (1, .ref a), (2, .int y37)]) (st' := [.ref a, .ref s]) rfl ?_
        refine En_getI (j := 14) (l := 0) (u := 60) rfl rfl rfl ha (by decide +kernel) h172 (by decide +kernel) (fun z179 h178 h180 h181 => ?_)
        refine En_put (j := 14) rfl rfl rfl hs (by decide +kernel) rfl (vI (l := 0) (u := 60) (by decide +kernel) rfl (by first | exact q_58e6e51dcc h180 | omega) (by first | exact q_d3912a5755 h181 | omega)) h172 h173 (by decide +kernel) (fun σ182 h183 h184 h185 h186 => ?_)
        have c187 := CPD_put (i0 := 6) c177 hS h178 h185 h186 (by decide) (by decide) (by decide) (by decide)
        refine En_Ps 1 (pc' := 170) (lv' := [(0, .ref s), (1, .ref a), (2, .int y37)]) (st' := [.ref a]) rfl ?_
        refine En_getR (j := 15) (g' := 27) (u := 0) rfl rfl rfl ha (by decide +kernel) h183 (by decide +kernel) (fun a189 h188 ha189 => ?_)
        have t190 : a189 = a + 9 := ref_uniq h188 (FXP_fr (PLA_of ha) hY h184 (by decide +kernel)).2.2.2.2.2.2.1
        refine En_Ps 2 (pc' := 175) (lv' := [(0, .ref s), (1, .ref a), (2, .int y37)]) (st' := [.ref s, .int ((Int32.ofInt 0)), .ref a189]) rfl ?_
        refine En_getR (j := 15) (g' := 27) (u := 0) rfl rfl rfl hs (by decide +kernel) h183 (by decide +kernel) (fun a192 h191 ha192 => ?_)
        have t193 : a192 = s + 9 := ref_uniq h191 (FXI_fr (PLI_of hs) hX h184 (by decide +kernel)).2.2.2.2.2.2.1
        refine En_Ps 2 (pc' := 181) (lv' := [(0, .ref s), (1, .ref a), (2, .int y37)]) (st' := [.int (((Int8.ofInt 60).toInt32)), .int ((Int32.ofInt 0)), .ref a192, .int ((Int32.ofInt 0)), .ref a189]) rfl ?_
        refine En_copyX (n0 := 60) (n1 := 60) (by decide : ((Int8.ofInt 60).toInt32).toInt = 60) (by decide : (Int32.ofInt 0).toInt = 0) (by decide : (Int32.ofInt 0).toInt = 0) rfl rfl rfl rfl ha189 ha192 (by decide +kernel) (by decide +kernel) (by decide +kernel) (by decide +kernel) (by decide +kernel) (by omega) (by omega) (by omega) (by omega) (by omega) h183 h184 (by decide +kernel) (fun σ194 h195 h196 h197 h198 => ?_)
        have h199 := ROW_mk (n := 60) h197 h198 (by decide) (by decide) (by decide)
        have c200 := CPD_row c187 hS h199 t193 t190 (by decide) (by decide +kernel)
        exact En_ret (v := none) rfl rfl rfl ⟨h195, h196, rfl, CPD_all c200⟩
      · refine En_Ps 1 (pc' := 40) (lv' := [(0, .ref s), (1, .ref a), (2, .int y37)]) (st' := [.ref s]) rfl ?_
        refine En_getR (j := 4) (g' := 19) (u := 0) rfl rfl rfl hs (by decide +kernel) h39 (by decide +kernel) (fun a202 h201 ha202 => ?_)
        have t203 : a202 = s + 1 := ref_uniq h201 (FXI_fr (PLI_of hs) hX h40 (by decide +kernel)).1
        refine En_Ps 1 (pc' := 44) (lv' := [(0, .ref s), (1, .ref a), (2, .int y37)]) (st' := [.int y37, .ref a202]) rfl ?_
        refine En_aald (g' := 28) (u := 0) rfl rfl ha202 (by decide +kernel) h39 (by first | exact q_58e6e51dcc h49 | omega) (lnI (by decide +kernel : LN _ = 4) (by first | exact q_074a8b422d h53 | omega)) (FTsgl (by decide +kernel)) (fun a205 h204 ha205 => ?_)
        have t206 : a205 = s + 10 + 4 * (y37.toInt).toNat := DRe (d := y37.toInt) (FXI_fr (PLI_of hs) hX h40 (by decide +kernel)) t203 h204 (by omega) (by omega)
        have t207 := lc_d (d := y37.toInt) (by omega) (by omega)
        refine En_Ps 1 (pc' := 46) (lv' := [(0, .ref s), (1, .ref a), (2, .int y37)]) (st' := [.ref a, .ref a205]) rfl ?_
        refine En_getR (j := 4) (g' := 19) (u := 0) rfl rfl rfl ha (by decide +kernel) h39 (by decide +kernel) (fun a209 h208 ha209 => ?_)
        have t210 : a209 = a + 1 := ref_uniq h208 (FXP_fr (PLA_of ha) hY h40 (by decide +kernel)).1
        refine En_Ps 1 (pc' := 50) (lv' := [(0, .ref s), (1, .ref a), (2, .int y37)]) (st' := [.int y37, .ref a209, .ref a205]) rfl ?_
        refine En_aald (g' := 28) (u := 0) rfl rfl ha209 (by decide +kernel) h39 (by first | exact q_58e6e51dcc h49 | omega) (lnI (by decide +kernel : LN _ = 4) (by first | exact q_074a8b422d h53 | omega)) (FTsgl (by decide +kernel)) (fun a212 h211 ha212 => ?_)
        have t213 : a212 = a + 10 + 4 * (y37.toInt).toNat := DRe (d := y37.toInt) (FXP_fr (PLA_of ha) hY h40 (by decide +kernel)) t210 h211 (by omega) (by omega)
        have t214 := lc_d (d := y37.toInt) (by omega) (by omega)
        obtain ⟨a216, h215, ha216⟩ := WT_peekR (g := 28) (j := 0) (g' := 20) (u := 0) h39 ha205 (by decide +kernel) (by decide +kernel)
        have t217 : a216 = s + 11 + 4 * (y37.toInt).toNat := DLc (d := y37.toInt) (FXI_fr (PLI_of hs) hX h40 (by decide +kernel)) t206 h215 (by omega) (by omega)
        obtain ⟨a219, h218, ha219⟩ := WT_peekR (g := 20) (j := 0) (g' := 21) (u := 0) h39 ha216 (by decide +kernel) (by decide +kernel)
        have t220 : a219 = s + 12 + 4 * (y37.toInt).toNat := DKk (d := y37.toInt) (FXI_fr (PLI_of hs) hX h40 (by decide +kernel)) t217 h218 (by omega) (by omega)
        obtain ⟨a222, h221, ha222⟩ := WT_peekR (g := 20) (j := 1) (g' := 22) (u := 0) h39 ha216 (by decide +kernel) (by decide +kernel)
        have t223 : a222 = s + 13 + 4 * (y37.toInt).toNat := DKo (d := y37.toInt) (FXI_fr (PLI_of hs) hX h40 (by decide +kernel)) t217 h221 (by omega) (by omega)
        obtain ⟨a225, h224, ha225⟩ := WT_peekR (g := 28) (j := 0) (g' := 20) (u := 0) h39 ha212 (by decide +kernel) (by decide +kernel)
        have t226 : a225 = a + 11 + 4 * (y37.toInt).toNat := DLc (d := y37.toInt) (FXP_fr (PLA_of ha) hY h40 (by decide +kernel)) t213 h224 (by omega) (by omega)
        obtain ⟨a228, h227, ha228⟩ := WT_peekR (g := 20) (j := 0) (g' := 21) (u := 0) h39 ha225 (by decide +kernel) (by decide +kernel)
        have t229 : a228 = a + 12 + 4 * (y37.toInt).toNat := DKk (d := y37.toInt) (FXP_fr (PLA_of ha) hY h40 (by decide +kernel)) t226 h227 (by omega) (by omega)
        obtain ⟨a231, h230, ha231⟩ := WT_peekR (g := 20) (j := 1) (g' := 22) (u := 0) h39 ha225 (by decide +kernel) (by decide +kernel)
        have t232 : a231 = a + 13 + 4 * (y37.toInt).toNat := DKo (d := y37.toInt) (FXP_fr (PLA_of ha) hY h40 (by decide +kernel)) t226 h230 (by omega) (by omega)
        refine En_callV rfl rfl rfl rfl rfl rfl rfl rfl ha205 (by decide +kernel) rfl (c_14x σ38 h39 a205 ha205 a212 ha212 a216 ha216 h215 a219 ha219 h218 a222 ha222 h221 a225 ha225 h224 a228 ha228 h227 a231 ha231 h230 (by omega) (by omega) (by omega)) (by decide) (by decide) (fun v234 σ235 h233 => ?_)
        obtain ⟨h236, h237, rfl, h238⟩ := h233
        have h239 := h238
        have h240 := Fr_trans h40 h237 (by decide +kernel)
        have c241 := CPL_s (y' := y37.toInt + 1) h52 hS h239 (by omega) (by omega) (by omega) (by omega) (by omega) (by omega) (by omega) (by omega) (by omega) (by omega) rfl
        refine En_Ps 1 (pc' := 57) (lv' := [(2, .int ((y37 + Int32.ofInt 1))), (0, .ref s), (1, .ref a)]) (st' := []) rfl ?_
        refine En_lv1 (addI rfl (by decide : (Int32.ofInt 1).toInt = 1) (by first | exact q_465ab79ac1 h49 | omega) (by first | exact q_d8bf7f475a h53 | omega)) (fun z242 h243 => ?_)
        refine En_Ps 1 (pc' := 34) (lv' := [(2, .int z242), (0, .ref s), (1, .ref a)]) (st' := []) rfl ?_
        refine En_lv (lv := [(0, .ref s), (1, .ref a), (2, .int z242)]) ⟨rfl, rfl, rfl, trivial⟩ ?_
        exact ih34 σ235 z242 h236 h240 ((h237 _ _ (inW ha (by decide +kernel))).trans h41) ((h237 _ _ (inW ha (by decide +kernel))).trans h42) ((h237 _ _ (inW hs (by decide +kernel))).trans h43) ((h237 _ _ (inW hs (by decide +kernel))).trans h44) ((h237 _ _ (inW ha (by decide +kernel))).trans h45) ((h237 _ _ (inW hs (by decide +kernel))).trans h46) ((h237 _ _ (inW ha (by decide +kernel))).trans h47) ((h237 _ _ (inW hs (by decide +kernel))).trans h48) (by first | exact q_35104ce9d3 h243 h49 | omega) (by first | exact q_ddc5c16a68 h243 h53 | omega) (by first | exact q_3d8d70ace2 h243 h51 | omega) (CPL_e c241 (by omega))
  have := (by decide : (Int32.ofInt 0).toInt = 0)
  refine En_lv (lv := [(0, .ref s), (1, .ref a), (2, .int ((Int32.ofInt 0)))]) ⟨rfl, rfl, rfl, trivial⟩ ?_
  exact key34 (Int.toNat (4) + 1) σ31 ((Int32.ofInt 0)) h32 h33 ((h35 _ _ (Or.inr (by decide))).trans ((h25 _ _ (Or.inr (by decide))).trans ((h15 _ _ (Or.inl (neTG ha hs (by decide)))).trans ((h9 _ _ (Or.inr (by decide))).trans h_sg)))) ((h35 _ _ (Or.inr (by decide))).trans ((h25 _ _ (Or.inr (by decide))).trans ((h15 _ _ (Or.inr (by decide))).trans ((h9 _ _ (Or.inl (neTG ha hs (by decide)))).trans h1)))) ((h35 _ _ (Or.inr (by decide))).trans ((h25 _ _ (Or.inr (by decide))).trans ((h15 _ _ (Or.inr (by decide))).trans h8))) ((h35 _ _ (Or.inr (by decide))).trans ((h25 _ _ (Or.inr (by decide))).trans h14)) ((h35 _ _ (Or.inr (by decide))).trans ((h25 _ _ (Or.inl (neTG ha hs (by decide)))).trans h17)) ((h35 _ _ (Or.inr (by decide))).trans h24) ((h35 _ _ (Or.inl (neTG ha hs (by decide)))).trans h27) h34 (by decide) (by decide) (by first | exact toN_lt _ | omega) (CPL_0 c36 (by decide))
/-- DoorSchool$Plan.takeFrom(LDoorSchool$Plan;)V -/
abbrev P_53bx (σ0 : SG) (s : Nat) (a : Nat) : PO := fun v σ => WT σ ∧ Fr [(18, 0), (18, 1), (18, 2), (18, 3), (18, 6), (18, 7), (18, 8), (18, 11), (18, 14), (20, 2), (21, 0), (22, 0), (23, 0), (24, 0), (25, 0), (26, 0), (27, 0), (28, 1), (28, 2), (28, 3)] σ0 σ ∧ ∃ sh : Int32, (σ s)[1]? = some (.int sh) ∧ v = none ∧ -sh.toInt ≤ 0 ∧ sh.toInt - 4 ≤ 0 ∧ CPD σ0 σ s a (fun _ => True)
set_option maxRecDepth 10000 in
set_option maxHeartbeats 4000000 in
theorem c_53bx (σ0 : SG) (hσ0 : WT σ0) (s : Nat) (hs : TG s = 18) (a : Nat) (ha : TG a = 31) (hS : SEP s a) (hX : FXP σ0 s) (hY : FXP σ0 a) : En 3 102 none mr_53 (P_53bx σ0 s a) 0 [(0, .ref s), (1, .ref a)] [] σ0 := by
  have hF0 : Fr [(18, 0), (18, 1), (18, 2), (18, 3), (18, 6), (18, 7), (18, 8), (18, 11), (18, 14), (20, 2), (21, 0), (22, 0), (23, 0), (24, 0), (25, 0), (26, 0), (27, 0), (28, 1), (28, 2), (28, 3)] σ0 σ0 := Fr_rfl
  have sep := SEP_d hS
  refine En_Ps 2 (pc' := 2) (lv' := [(0, .ref s), (1, .ref a)]) (st' := [.ref a, .ref s]) rfl ?_
  refine En_getI (j := 0) (l := 0) (u := 1601) rfl rfl rfl ha (by decide +kernel) hσ0 (by decide +kernel) (fun z2 h1 h3 h4 => ?_)
  refine En_put (j := 0) rfl rfl rfl hs (by decide +kernel) rfl (vI (l := 0) (u := 1601) (by decide +kernel) rfl (by first | exact q_58e6e51dcc h3 | omega) (by first | exact q_3232882bcd h4 | omega)) hσ0 hF0 (by decide +kernel) (fun σ5 h6 h7 h8 h9 => ?_)
  have c10 := CPD_put (i0 := 7) (CPD_0 (σ := σ0)) hS h1 h8 h9 (by decide) (by decide) (by decide) (by decide)
  refine En_Ps 2 (pc' := 10) (lv' := [(0, .ref s), (1, .ref a)]) (st' := [.ref a, .ref s]) rfl ?_
  refine En_getI (j := 1) (l := 0) (u := 4) rfl rfl rfl ha (by decide +kernel) h6 (by decide +kernel) (fun z12 h11 h13 h14 => ?_)
  refine En_put (j := 1) rfl rfl rfl hs (by decide +kernel) rfl (vI (l := (-1)) (u := 4) (by decide +kernel) rfl (by first | exact q_5b439548fc h13 | omega) (by first | exact q_c82ed93a8c h14 | omega)) h6 h7 (by decide +kernel) (fun σ15 h16 h17 h18 h19 => ?_)
  have c20 := CPD_put (i0 := 0) c10 hS h11 h18 h19 (by decide) (by decide) (by decide) (by decide)
  refine En_Ps 2 (pc' := 18) (lv' := [(0, .ref s), (1, .ref a)]) (st' := [.ref a, .ref s]) rfl ?_
  refine En_getI (j := 2) (l := (-1)) (u := 3) rfl rfl rfl ha (by decide +kernel) h16 (by decide +kernel) (fun z22 h21 h23 h24 => ?_)
  refine En_put (j := 2) rfl rfl rfl hs (by decide +kernel) rfl (vI (l := (-1)) (u := 3) (by decide +kernel) rfl (by first | exact q_77b189e83d h23 | omega) (by first | exact q_da5e9b976f h24 | omega)) h16 h17 (by decide +kernel) (fun σ25 h26 h27 h28 h29 => ?_)
  have c30 := CPD_put (i0 := 1) c20 hS h21 h28 h29 (by decide) (by decide) (by decide) (by decide)
  refine En_Ps 2 (pc' := 26) (lv' := [(0, .ref s), (1, .ref a)]) (st' := [.ref a, .ref s]) rfl ?_
  refine En_getI (j := 3) (l := 0) (u := 4) rfl rfl rfl ha (by decide +kernel) h26 (by decide +kernel) (fun z32 h31 h33 h34 => ?_)
  refine En_put (j := 3) rfl rfl rfl hs (by decide +kernel) rfl (vI (l := 0) (u := 4) (by decide +kernel) rfl (by first | exact q_58e6e51dcc h33 | omega) (by first | exact q_c82ed93a8c h34 | omega)) h26 h27 (by decide +kernel) (fun σ35 h36 h37 h38 h39 => ?_)
  have c40 := CPD_put (i0 := 2) c30 hS h31 h38 h39 (by decide) (by decide) (by decide) (by decide)
  refine En_Ps 2 (pc' := 34) (lv' := [(2, .int ((Int32.ofInt 0))), (0, .ref s), (1, .ref a)]) (st' := []) rfl ?_
  have key34 : ∀ (n34 : Nat) (σ42 : SG) (y41 : Int32), WT σ42 → Fr [(18, 0), (18, 1), (18, 2), (18, 3), (18, 6), (18, 7), (18, 8), (18, 11), (18, 14), (20, 2), (21, 0), (22, 0), (23, 0), (24, 0), (25, 0), (26, 0), (27, 0), (28, 1), (28, 2), (28, 3)] σ0 σ42 → (σ42 a)[0]? = some (.int z2) → (σ42 s)[0]? = some (.int z2) → (σ42 a)[1]? = some (.int z12) → (σ42 s)[1]? = some (.int z12) → (σ42 a)[2]? = some (.int z22) → (σ42 s)[2]? = some (.int z22) → (σ42 a)[3]? = some (.int z32) → (σ42 s)[3]? = some (.int z32) → 0 ≤ y41.toInt → y41.toInt ≤ 4 → -y41.toInt + 4 < (n34 : Int) → CPL σ0 σ42 s a y41.toInt → En 3 102 none mr_53 (P_53bx σ0 s a) 34 [(0, .ref s), (1, .ref a), (2, .int y41)] [] σ42 := by
    intro n34
    induction n34 with
    | zero =>
      intro σ42 y41 h43 h44 h45 h46 h47 h48 h49 h50 h51 h52 h53 h54 h55 h56
      first | exact (q_20d6385c6f h55 h54).elim | (exfalso; omega)
    | succ n34 ih34 =>
      intro σ42 y41 h43 h44 h45 h46 h47 h48 h49 h50 h51 h52 h53 h54 h55 h56
      refine En_Ps 2 (pc' := 36) (lv' := [(0, .ref s), (1, .ref a), (2, .int y41)]) (st' := [.int ((Int32.ofInt 4)), .int y41]) rfl ?_
      refine En_icGe _ rfl (by decide : (Int32.ofInt 4).toInt = 4) rfl (fun h57 => ?_) (fun h57 => ?_)
      · have c58 := CPL_4 h56 (by omega)
        refine En_Ps 1 (pc' := 61) (lv' := [(0, .ref s), (1, .ref a), (2, .int y41)]) (st' := [.ref s]) rfl ?_
        refine En_getR (j := 5) (g' := 20) (u := 0) rfl rfl rfl hs (by decide +kernel) h43 (by decide +kernel) (fun a60 h59 ha60 => ?_)
        have t61 : a60 = s + 2 := ref_uniq h59 (FXP_fr (PLA_of hs) hX h44 (by decide +kernel)).2.1
        refine En_Ps 1 (pc' := 65) (lv' := [(0, .ref s), (1, .ref a), (2, .int y41)]) (st' := [.ref a, .ref a60]) rfl ?_
        refine En_getR (j := 5) (g' := 20) (u := 0) rfl rfl rfl ha (by decide +kernel) h43 (by decide +kernel) (fun a63 h62 ha63 => ?_)
        have t64 : a63 = a + 2 := ref_uniq h62 (FXI_fr (PLI_of ha) hY h44 (by decide +kernel)).2.1
        obtain ⟨a66, h65, ha66⟩ := WT_peekR (g := 20) (j := 0) (g' := 21) (u := 0) h43 ha60 (by decide +kernel) (by decide +kernel)
        have t67 : a66 = s + 3 := EKk (FXP_fr (PLA_of hs) hX h44 (by decide +kernel)) t61 h65
        obtain ⟨a69, h68, ha69⟩ := WT_peekR (g := 20) (j := 1) (g' := 22) (u := 0) h43 ha60 (by decide +kernel) (by decide +kernel)
        have t70 : a69 = s + 4 := EKo (FXP_fr (PLA_of hs) hX h44 (by decide +kernel)) t61 h68
        obtain ⟨a72, h71, ha72⟩ := WT_peekR (g := 20) (j := 0) (g' := 21) (u := 0) h43 ha63 (by decide +kernel) (by decide +kernel)
        have t73 : a72 = a + 3 := EKk (FXI_fr (PLI_of ha) hY h44 (by decide +kernel)) t64 h71
        obtain ⟨a75, h74, ha75⟩ := WT_peekR (g := 20) (j := 1) (g' := 22) (u := 0) h43 ha63 (by decide +kernel) (by decide +kernel)
        have t76 : a75 = a + 4 := EKo (FXI_fr (PLI_of ha) hY h44 (by decide +kernel)) t64 h74
        obtain ⟨z78, h77, h79, h80⟩ := WT_peekI h43 ha63 (by decide +kernel : FT 20 2 = (0, 0, 13)) (by decide +kernel)
        refine En_callV rfl rfl rfl rfl rfl rfl rfl rfl ha60 (by decide +kernel) rfl (c_40x σ42 h43 a60 ha60 a63 ha63 a66 ha66 h65 a69 ha69 h68 a72 ha72 h71 a75 ha75 h74 z78 h77 (by omega) (by omega) (by omega)) (by decide) (by decide) (fun v82 σ83 h81 => ?_)
        obtain ⟨h84, h85, rfl, h86⟩ := h81
        have h87 := h86
        have h88 := Fr_trans h44 h85 (by decide +kernel)
        have c89 := CPD_ex c58 hS h87 (by omega) (by omega) (by omega) (by omega) (by omega) (by omega)
        refine En_Ps 2 (pc' := 73) (lv' := [(0, .ref s), (1, .ref a), (2, .int y41)]) (st' := [.ref a, .ref s]) rfl ?_
        refine En_getI (j := 6) (l := 0) (u := 15) rfl rfl rfl ha (by decide +kernel) h84 (by decide +kernel) (fun z91 h90 h92 h93 => ?_)
        refine En_put (j := 6) rfl rfl rfl hs (by decide +kernel) rfl (vI (l := 0) (u := 15) (by decide +kernel) rfl (by first | exact q_58e6e51dcc h92 | omega) (by first | exact q_5a4d8a7e08 h93 | omega)) h84 h88 (by decide +kernel) (fun σ94 h95 h96 h97 h98 => ?_)
        have c99 := CPD_put (i0 := 8) c89 hS h90 h97 h98 (by decide) (by decide) (by decide) (by decide)
        refine En_Ps 2 (pc' := 81) (lv' := [(0, .ref s), (1, .ref a), (2, .int y41)]) (st' := [.ref a, .ref s]) rfl ?_
        refine En_getI (j := 7) (l := 0) (u := 15) rfl rfl rfl ha (by decide +kernel) h95 (by decide +kernel) (fun z101 h100 h102 h103 => ?_)
        refine En_put (j := 7) rfl rfl rfl hs (by decide +kernel) rfl (vI (l := 0) (u := 15) (by decide +kernel) rfl (by first | exact q_58e6e51dcc h102 | omega) (by first | exact q_5a4d8a7e08 h103 | omega)) h95 h96 (by decide +kernel) (fun σ104 h105 h106 h107 h108 => ?_)
        have c109 := CPD_put (i0 := 9) c99 hS h100 h107 h108 (by decide) (by decide) (by decide) (by decide)
        refine En_Ps 2 (pc' := 89) (lv' := [(0, .ref s), (1, .ref a), (2, .int y41)]) (st' := [.ref a, .ref s]) rfl ?_
        refine En_getI (j := 8) (l := 0) (u := 4) rfl rfl rfl ha (by decide +kernel) h105 (by decide +kernel) (fun z111 h110 h112 h113 => ?_)
        refine En_put (j := 8) rfl rfl rfl hs (by decide +kernel) rfl (vI (l := 0) (u := 4) (by decide +kernel) rfl (by first | exact q_58e6e51dcc h112 | omega) (by first | exact q_c82ed93a8c h113 | omega)) h105 h106 (by decide +kernel) (fun σ114 h115 h116 h117 h118 => ?_)
        have c119 := CPD_put (i0 := 4) c109 hS h110 h117 h118 (by decide) (by decide) (by decide) (by decide)
        refine En_Ps 1 (pc' := 96) (lv' := [(0, .ref s), (1, .ref a), (2, .int y41)]) (st' := [.ref a]) rfl ?_
        refine En_getR (j := 9) (g' := 23) (u := 0) rfl rfl rfl ha (by decide +kernel) h115 (by decide +kernel) (fun a121 h120 ha121 => ?_)
        have t122 : a121 = a + 5 := ref_uniq h120 (FXI_fr (PLI_of ha) hY h116 (by decide +kernel)).2.2.1
        refine En_Ps 2 (pc' := 101) (lv' := [(0, .ref s), (1, .ref a), (2, .int y41)]) (st' := [.ref s, .int ((Int32.ofInt 0)), .ref a121]) rfl ?_
        refine En_getR (j := 9) (g' := 23) (u := 0) rfl rfl rfl hs (by decide +kernel) h115 (by decide +kernel) (fun a124 h123 ha124 => ?_)
        have t125 : a124 = s + 5 := ref_uniq h123 (FXP_fr (PLA_of hs) hX h116 (by decide +kernel)).2.2.1
        refine En_Ps 2 (pc' := 106) (lv' := [(0, .ref s), (1, .ref a), (2, .int y41)]) (st' := [.int ((Int32.ofInt 4)), .int ((Int32.ofInt 0)), .ref a124, .int ((Int32.ofInt 0)), .ref a121]) rfl ?_
        refine En_copyX (n0 := 4) (n1 := 4) (by decide : (Int32.ofInt 4).toInt = 4) (by decide : (Int32.ofInt 0).toInt = 0) (by decide : (Int32.ofInt 0).toInt = 0) rfl rfl rfl rfl ha121 ha124 (by decide +kernel) (by decide +kernel) (by decide +kernel) (by decide +kernel) (by decide +kernel) (by omega) (by omega) (by omega) (by omega) (by omega) h115 h116 (by decide +kernel) (fun σ126 h127 h128 h129 h130 => ?_)
        have h131 := ROW_mk (n := 4) h129 h130 (by decide) (by decide) (by decide)
        have c132 := CPD_row c119 hS h131 t125 t122 (by decide) (by decide +kernel)
        refine En_Ps 1 (pc' := 110) (lv' := [(0, .ref s), (1, .ref a), (2, .int y41)]) (st' := [.ref a]) rfl ?_
        refine En_getR (j := 10) (g' := 24) (u := 0) rfl rfl rfl ha (by decide +kernel) h127 (by decide +kernel) (fun a134 h133 ha134 => ?_)
        have t135 : a134 = a + 6 := ref_uniq h133 (FXI_fr (PLI_of ha) hY h128 (by decide +kernel)).2.2.2.1
        refine En_Ps 2 (pc' := 115) (lv' := [(0, .ref s), (1, .ref a), (2, .int y41)]) (st' := [.ref s, .int ((Int32.ofInt 0)), .ref a134]) rfl ?_
        refine En_getR (j := 10) (g' := 24) (u := 0) rfl rfl rfl hs (by decide +kernel) h127 (by decide +kernel) (fun a137 h136 ha137 => ?_)
        have t138 : a137 = s + 6 := ref_uniq h136 (FXP_fr (PLA_of hs) hX h128 (by decide +kernel)).2.2.2.1
        refine En_Ps 2 (pc' := 120) (lv' := [(0, .ref s), (1, .ref a), (2, .int y41)]) (st' := [.int ((Int32.ofInt 4)), .int ((Int32.ofInt 0)), .ref a137, .int ((Int32.ofInt 0)), .ref a134]) rfl ?_
        refine En_copyX (n0 := 4) (n1 := 4) (by decide : (Int32.ofInt 4).toInt = 4) (by decide : (Int32.ofInt 0).toInt = 0) (by decide : (Int32.ofInt 0).toInt = 0) rfl rfl rfl rfl ha134 ha137 (by decide +kernel) (by decide +kernel) (by decide +kernel) (by decide +kernel) (by decide +kernel) (by omega) (by omega) (by omega) (by omega) (by omega) h127 h128 (by decide +kernel) (fun σ139 h140 h141 h142 h143 => ?_)
        have h144 := ROW_mk (n := 4) h142 h143 (by decide) (by decide) (by decide)
        have c145 := CPD_row c132 hS h144 t138 t135 (by decide) (by decide +kernel)
        refine En_Ps 2 (pc' := 125) (lv' := [(0, .ref s), (1, .ref a), (2, .int y41)]) (st' := [.ref a, .ref s]) rfl ?_
        refine En_getI (j := 11) (l := 0) (u := 6) rfl rfl rfl ha (by decide +kernel) h140 (by decide +kernel) (fun z147 h146 h148 h149 => ?_)
        refine En_put (j := 11) rfl rfl rfl hs (by decide +kernel) rfl (vI (l := 0) (u := 6) (by decide +kernel) rfl (by first | exact q_58e6e51dcc h148 | omega) (by first | exact q_615333d33f h149 | omega)) h140 h141 (by decide +kernel) (fun σ150 h151 h152 h153 h154 => ?_)
        have c155 := CPD_put (i0 := 5) c145 hS h146 h153 h154 (by decide) (by decide) (by decide) (by decide)
        refine En_Ps 1 (pc' := 132) (lv' := [(0, .ref s), (1, .ref a), (2, .int y41)]) (st' := [.ref a]) rfl ?_
        refine En_getR (j := 12) (g' := 25) (u := 0) rfl rfl rfl ha (by decide +kernel) h151 (by decide +kernel) (fun a157 h156 ha157 => ?_)
        have t158 : a157 = a + 7 := ref_uniq h156 (FXI_fr (PLI_of ha) hY h152 (by decide +kernel)).2.2.2.2.1
        refine En_Ps 2 (pc' := 137) (lv' := [(0, .ref s), (1, .ref a), (2, .int y41)]) (st' := [.ref s, .int ((Int32.ofInt 0)), .ref a157]) rfl ?_
        refine En_getR (j := 12) (g' := 25) (u := 0) rfl rfl rfl hs (by decide +kernel) h151 (by decide +kernel) (fun a160 h159 ha160 => ?_)
        have t161 : a160 = s + 7 := ref_uniq h159 (FXP_fr (PLA_of hs) hX h152 (by decide +kernel)).2.2.2.2.1
        refine En_Ps 2 (pc' := 143) (lv' := [(0, .ref s), (1, .ref a), (2, .int y41)]) (st' := [.int (((Int8.ofInt 6).toInt32)), .int ((Int32.ofInt 0)), .ref a160, .int ((Int32.ofInt 0)), .ref a157]) rfl ?_
        refine En_copyX (n0 := 6) (n1 := 6) (by decide : ((Int8.ofInt 6).toInt32).toInt = 6) (by decide : (Int32.ofInt 0).toInt = 0) (by decide : (Int32.ofInt 0).toInt = 0) rfl rfl rfl rfl ha157 ha160 (by decide +kernel) (by decide +kernel) (by decide +kernel) (by decide +kernel) (by decide +kernel) (by omega) (by omega) (by omega) (by omega) (by omega) h151 h152 (by decide +kernel) (fun σ162 h163 h164 h165 h166 => ?_)
        have h167 := ROW_mk (n := 6) h165 h166 (by decide) (by decide) (by decide)
        have c168 := CPD_row c155 hS h167 t161 t158 (by decide) (by decide +kernel)
        refine En_Ps 1 (pc' := 147) (lv' := [(0, .ref s), (1, .ref a), (2, .int y41)]) (st' := [.ref a]) rfl ?_
        refine En_getR (j := 13) (g' := 26) (u := 0) rfl rfl rfl ha (by decide +kernel) h163 (by decide +kernel) (fun a170 h169 ha170 => ?_)
        have t171 : a170 = a + 8 := ref_uniq h169 (FXI_fr (PLI_of ha) hY h164 (by decide +kernel)).2.2.2.2.2.1
        refine En_Ps 2 (pc' := 152) (lv' := [(0, .ref s), (1, .ref a), (2, .int y41)]) (st' := [.ref s, .int ((Int32.ofInt 0)), .ref a170]) rfl ?_
        refine En_getR (j := 13) (g' := 26) (u := 0) rfl rfl rfl hs (by decide +kernel) h163 (by decide +kernel) (fun a173 h172 ha173 => ?_)
        have t174 : a173 = s + 8 := ref_uniq h172 (FXP_fr (PLA_of hs) hX h164 (by decide +kernel)).2.2.2.2.2.1
        refine En_Ps 2 (pc' := 158) (lv' := [(0, .ref s), (1, .ref a), (2, .int y41)]) (st' := [.int (((Int8.ofInt 6).toInt32)), .int ((Int32.ofInt 0)), .ref a173, .int ((Int32.ofInt 0)), .ref a170]) rfl ?_
        refine En_copyX (n0 := 6) (n1 := 6) (by decide : ((Int8.ofInt 6).toInt32).toInt = 6) (by decide : (Int32.ofInt 0).toInt = 0) (by decide : (Int32.ofInt 0).toInt = 0) rfl rfl rfl rfl ha170 ha173 (by decide +kernel) (by decide +kernel) (by decide +kernel) (by decide +kernel) (by decide +kernel) (by omega) (by omega) (by omega) (by omega) (by omega) h163 h164 (by decide +kernel) (fun σ175 h176 h177 h178 h179 => ?_)
        have h180 := ROW_mk (n := 6) h178 h179 (by decide) (by decide) (by decide)
        have c181 := CPD_row c168 hS h180 t174 t171 (by decide) (by decide +kernel)
        refine En_Ps 2 (pc' := 163) (lv' := [(0, .ref s), (1, .ref a), (2, .int y41)]) (st' := [.ref a, .ref s]) rfl ?_
        refine En_getI (j := 14) (l := 0) (u := 60) rfl rfl rfl ha (by decide +kernel) h176 (by decide +kernel) (fun z183 h182 h184 h185 => ?_)
        refine En_put (j := 14) rfl rfl rfl hs (by decide +kernel) rfl (vI (l := 0) (u := 60) (by decide +kernel) rfl (by first | exact q_58e6e51dcc h184 | omega) (by first | exact q_d3912a5755 h185 | omega)) h176 h177 (by decide +kernel) (fun σ186 h187 h188 h189 h190 => ?_)
        have c191 := CPD_put (i0 := 6) c181 hS h182 h189 h190 (by decide) (by decide) (by decide) (by decide)
        refine En_Ps 1 (pc' := 170) (lv' := [(0, .ref s), (1, .ref a), (2, .int y41)]) (st' := [.ref a]) rfl ?_
        refine En_getR (j := 15) (g' := 27) (u := 0) rfl rfl rfl ha (by decide +kernel) h187 (by decide +kernel) (fun a193 h192 ha193 => ?_)
        have t194 : a193 = a + 9 := ref_uniq h192 (FXI_fr (PLI_of ha) hY h188 (by decide +kernel)).2.2.2.2.2.2.1
        refine En_Ps 2 (pc' := 175) (lv' := [(0, .ref s), (1, .ref a), (2, .int y41)]) (st' := [.ref s, .int ((Int32.ofInt 0)), .ref a193]) rfl ?_
        refine En_getR (j := 15) (g' := 27) (u := 0) rfl rfl rfl hs (by decide +kernel) h187 (by decide +kernel) (fun a196 h195 ha196 => ?_)
        have t197 : a196 = s + 9 := ref_uniq h195 (FXP_fr (PLA_of hs) hX h188 (by decide +kernel)).2.2.2.2.2.2.1
        refine En_Ps 2 (pc' := 181) (lv' := [(0, .ref s), (1, .ref a), (2, .int y41)]) (st' := [.int (((Int8.ofInt 60).toInt32)), .int ((Int32.ofInt 0)), .ref a196, .int ((Int32.ofInt 0)), .ref a193]) rfl ?_
        refine En_copyX (n0 := 60) (n1 := 60) (by decide : ((Int8.ofInt 60).toInt32).toInt = 60) (by decide : (Int32.ofInt 0).toInt = 0) (by decide : (Int32.ofInt 0).toInt = 0) rfl rfl rfl rfl ha193 ha196 (by decide +kernel) (by decide +kernel) (by decide +kernel) (by decide +kernel) (by decide +kernel) (by omega) (by omega) (by omega) (by omega) (by omega) h187 h188 (by decide +kernel) (fun σ198 h199 h200 h201 h202 => ?_)
        have h203 := ROW_mk (n := 60) h201 h202 (by decide) (by decide) (by decide)
        have c204 := CPD_row c191 hS h203 t197 t194 (by decide) (by decide +kernel)
        exact En_ret (v := none) rfl rfl rfl ⟨h199, h200, z12, ((h201 _ _ (neTG hs ha196 (by decide))).trans ((h190 _ _ (Or.inr (by decide))).trans ((h178 _ _ (neTG hs ha173 (by decide))).trans ((h165 _ _ (neTG hs ha160 (by decide))).trans ((h154 _ _ (Or.inr (by decide))).trans ((h142 _ _ (neTG hs ha137 (by decide))).trans ((h129 _ _ (neTG hs ha124 (by decide))).trans ((h118 _ _ (Or.inr (by decide))).trans ((h108 _ _ (Or.inr (by decide))).trans ((h98 _ _ (Or.inr (by decide))).trans ((h85 _ _ (inW hs (by decide +kernel))).trans h48))))))))))), rfl, ⟨by first | exact q_c803b490ef h13 | omega, by first | exact q_3919a0a4ce h14 | omega, CPD_all c204⟩⟩
      · refine En_Ps 1 (pc' := 40) (lv' := [(0, .ref s), (1, .ref a), (2, .int y41)]) (st' := [.ref s]) rfl ?_
        refine En_getR (j := 4) (g' := 19) (u := 0) rfl rfl rfl hs (by decide +kernel) h43 (by decide +kernel) (fun a206 h205 ha206 => ?_)
        have t207 : a206 = s + 1 := ref_uniq h205 (FXP_fr (PLA_of hs) hX h44 (by decide +kernel)).1
        refine En_Ps 1 (pc' := 44) (lv' := [(0, .ref s), (1, .ref a), (2, .int y41)]) (st' := [.int y41, .ref a206]) rfl ?_
        refine En_aald (g' := 28) (u := 0) rfl rfl ha206 (by decide +kernel) h43 (by first | exact q_58e6e51dcc h53 | omega) (lnI (by decide +kernel : LN _ = 4) (by first | exact q_074a8b422d h57 | omega)) (FTsgl (by decide +kernel)) (fun a209 h208 ha209 => ?_)
        have t210 : a209 = s + 10 + 4 * (y41.toInt).toNat := DRe (d := y41.toInt) (FXP_fr (PLA_of hs) hX h44 (by decide +kernel)) t207 h208 (by omega) (by omega)
        have t211 := lc_d (d := y41.toInt) (by omega) (by omega)
        refine En_Ps 1 (pc' := 46) (lv' := [(0, .ref s), (1, .ref a), (2, .int y41)]) (st' := [.ref a, .ref a209]) rfl ?_
        refine En_getR (j := 4) (g' := 19) (u := 0) rfl rfl rfl ha (by decide +kernel) h43 (by decide +kernel) (fun a213 h212 ha213 => ?_)
        have t214 : a213 = a + 1 := ref_uniq h212 (FXI_fr (PLI_of ha) hY h44 (by decide +kernel)).1
        refine En_Ps 1 (pc' := 50) (lv' := [(0, .ref s), (1, .ref a), (2, .int y41)]) (st' := [.int y41, .ref a213, .ref a209]) rfl ?_
        refine En_aald (g' := 28) (u := 0) rfl rfl ha213 (by decide +kernel) h43 (by first | exact q_58e6e51dcc h53 | omega) (lnI (by decide +kernel : LN _ = 4) (by first | exact q_074a8b422d h57 | omega)) (FTsgl (by decide +kernel)) (fun a216 h215 ha216 => ?_)
        have t217 : a216 = a + 10 + 4 * (y41.toInt).toNat := DRe (d := y41.toInt) (FXI_fr (PLI_of ha) hY h44 (by decide +kernel)) t214 h215 (by omega) (by omega)
        have t218 := lc_d (d := y41.toInt) (by omega) (by omega)
        obtain ⟨a220, h219, ha220⟩ := WT_peekR (g := 28) (j := 0) (g' := 20) (u := 0) h43 ha209 (by decide +kernel) (by decide +kernel)
        have t221 : a220 = s + 11 + 4 * (y41.toInt).toNat := DLc (d := y41.toInt) (FXP_fr (PLA_of hs) hX h44 (by decide +kernel)) t210 h219 (by omega) (by omega)
        obtain ⟨a223, h222, ha223⟩ := WT_peekR (g := 20) (j := 0) (g' := 21) (u := 0) h43 ha220 (by decide +kernel) (by decide +kernel)
        have t224 : a223 = s + 12 + 4 * (y41.toInt).toNat := DKk (d := y41.toInt) (FXP_fr (PLA_of hs) hX h44 (by decide +kernel)) t221 h222 (by omega) (by omega)
        obtain ⟨a226, h225, ha226⟩ := WT_peekR (g := 20) (j := 1) (g' := 22) (u := 0) h43 ha220 (by decide +kernel) (by decide +kernel)
        have t227 : a226 = s + 13 + 4 * (y41.toInt).toNat := DKo (d := y41.toInt) (FXP_fr (PLA_of hs) hX h44 (by decide +kernel)) t221 h225 (by omega) (by omega)
        obtain ⟨a229, h228, ha229⟩ := WT_peekR (g := 28) (j := 0) (g' := 20) (u := 0) h43 ha216 (by decide +kernel) (by decide +kernel)
        have t230 : a229 = a + 11 + 4 * (y41.toInt).toNat := DLc (d := y41.toInt) (FXI_fr (PLI_of ha) hY h44 (by decide +kernel)) t217 h228 (by omega) (by omega)
        obtain ⟨a232, h231, ha232⟩ := WT_peekR (g := 20) (j := 0) (g' := 21) (u := 0) h43 ha229 (by decide +kernel) (by decide +kernel)
        have t233 : a232 = a + 12 + 4 * (y41.toInt).toNat := DKk (d := y41.toInt) (FXI_fr (PLI_of ha) hY h44 (by decide +kernel)) t230 h231 (by omega) (by omega)
        obtain ⟨a235, h234, ha235⟩ := WT_peekR (g := 20) (j := 1) (g' := 22) (u := 0) h43 ha229 (by decide +kernel) (by decide +kernel)
        have t236 : a235 = a + 13 + 4 * (y41.toInt).toNat := DKo (d := y41.toInt) (FXI_fr (PLI_of ha) hY h44 (by decide +kernel)) t230 h234 (by omega) (by omega)
        refine En_callV rfl rfl rfl rfl rfl rfl rfl rfl ha209 (by decide +kernel) rfl (c_14x σ42 h43 a209 ha209 a216 ha216 a220 ha220 h219 a223 ha223 h222 a226 ha226 h225 a229 ha229 h228 a232 ha232 h231 a235 ha235 h234 (by omega) (by omega) (by omega)) (by decide) (by decide) (fun v238 σ239 h237 => ?_)
        obtain ⟨h240, h241, rfl, h242⟩ := h237
        have h243 := h242
        have h244 := Fr_trans h44 h241 (by decide +kernel)
        have c245 := CPL_s (y' := y41.toInt + 1) h56 hS h243 (by omega) (by omega) (by omega) (by omega) (by omega) (by omega) (by omega) (by omega) (by omega) (by omega) rfl
        refine En_Ps 1 (pc' := 57) (lv' := [(2, .int ((y41 + Int32.ofInt 1))), (0, .ref s), (1, .ref a)]) (st' := []) rfl ?_
        refine En_lv1 (addI rfl (by decide : (Int32.ofInt 1).toInt = 1) (by first | exact q_465ab79ac1 h53 | omega) (by first | exact q_d8bf7f475a h57 | omega)) (fun z246 h247 => ?_)
        refine En_Ps 1 (pc' := 34) (lv' := [(2, .int z246), (0, .ref s), (1, .ref a)]) (st' := []) rfl ?_
        refine En_lv (lv := [(0, .ref s), (1, .ref a), (2, .int z246)]) ⟨rfl, rfl, rfl, trivial⟩ ?_
        exact ih34 σ239 z246 h240 h244 ((h241 _ _ (inW ha (by decide +kernel))).trans h45) ((h241 _ _ (inW hs (by decide +kernel))).trans h46) ((h241 _ _ (inW ha (by decide +kernel))).trans h47) ((h241 _ _ (inW hs (by decide +kernel))).trans h48) ((h241 _ _ (inW ha (by decide +kernel))).trans h49) ((h241 _ _ (inW hs (by decide +kernel))).trans h50) ((h241 _ _ (inW ha (by decide +kernel))).trans h51) ((h241 _ _ (inW hs (by decide +kernel))).trans h52) (by first | exact q_35104ce9d3 h247 h53 | omega) (by first | exact q_ddc5c16a68 h247 h57 | omega) (by first | exact q_3d8d70ace2 h247 h55 | omega) (CPL_e c245 (by omega))
  have := (by decide : (Int32.ofInt 0).toInt = 0)
  refine En_lv (lv := [(0, .ref s), (1, .ref a), (2, .int ((Int32.ofInt 0)))]) ⟨rfl, rfl, rfl, trivial⟩ ?_
  exact key34 (Int.toNat (4) + 1) σ35 ((Int32.ofInt 0)) h36 h37 ((h39 _ _ (Or.inr (by decide))).trans ((h29 _ _ (Or.inr (by decide))).trans ((h19 _ _ (Or.inr (by decide))).trans ((h9 _ _ (Or.inl (neTG ha hs (by decide)))).trans h1)))) ((h39 _ _ (Or.inr (by decide))).trans ((h29 _ _ (Or.inr (by decide))).trans ((h19 _ _ (Or.inr (by decide))).trans h8))) ((h39 _ _ (Or.inr (by decide))).trans ((h29 _ _ (Or.inr (by decide))).trans ((h19 _ _ (Or.inl (neTG ha hs (by decide)))).trans h11))) ((h39 _ _ (Or.inr (by decide))).trans ((h29 _ _ (Or.inr (by decide))).trans h18)) ((h39 _ _ (Or.inr (by decide))).trans ((h29 _ _ (Or.inl (neTG ha hs (by decide)))).trans h21)) ((h39 _ _ (Or.inr (by decide))).trans h28) ((h39 _ _ (Or.inl (neTG ha hs (by decide)))).trans h31) h38 (by decide) (by decide) (by first | exact toN_lt _ | omega) (CPL_0 c40 (by decide))
/-- DoorSchool$Reader.blame(I)V -/
abbrev P_54x (σ0 : SG) (By : Int → Int) (Nb : Int) (Sp : PS) (a : Int32) (f : Int32) : PO := fun v σ => WT σ ∧ Fr [(3, 5), (3, 6)] σ0 σ ∧ ∃ f1 : Int32, (σ 3)[5]? = some (.int f1) ∧ v = none ∧ -f1.toInt + 1 ≤ 0 ∧ f1.toInt - 3 ≤ 0 ∧ -f1.toInt + f.toInt ≤ 0 ∧ Imp (f.toInt ≤ 0) (f1.toInt - a.toInt ≤ 0 ∧ -f1.toInt + a.toInt ≤ 0) ∧ Imp (-f.toInt + 1 ≤ 0) (f1.toInt - f.toInt ≤ 0 ∧ -f1.toInt + f.toInt ≤ 0) ∧ CT By Nb σ (err By Nb a.toInt Sp)
set_option maxRecDepth 10000 in
set_option maxHeartbeats 4000000 in
theorem c_54x {By : Int → Int} {Nb : Int} {Sp : PS} (σ0 : SG) (hσ0 : WT σ0) (a : Int32) (hl_a : 1 ≤ a.toInt) (hu_a : a.toInt ≤ 3) (f : Int32) (h_f : (σ0 3)[5]? = some (.int f)) (hC : CT By Nb σ0 Sp) : En 0 0 none mr_54 (P_54x σ0 By Nb Sp a f) 0 [(0, .ref 3), (1, .int a)] [] σ0 := by
  obtain ⟨hl_f, hu_f⟩ := WT_int hσ0 (g := 3) (by decide +kernel) (by decide +kernel) (l := 0) (u := 3) (by decide +kernel) h_f
  have hF0 : Fr [(3, 5), (3, 6)] σ0 σ0 := Fr_rfl
  have h1 := CT_k hC h_f
  obtain ⟨z3, h2, h4, h5⟩ := WT_peekI hσ0 tgz_3 (by decide +kernel : FT 3 2 = (0, 0, 1600)) (by decide +kernel)
  refine En_Ps 1 (pc' := 1) (lv' := [(0, .ref 3), (1, .int a)]) (st' := [.ref 3]) rfl ?_
  refine En_getK (j := 5) h_f rfl rfl rfl tgz_3 (by decide +kernel) ?_
  refine En_iNe _ rfl rfl (fun h6 => ?_) (fun h6 => ?_)
  · exact En_ret (v := none) rfl rfl rfl ⟨hσ0, hF0, f, h_f, rfl, ⟨by first | exact q_e74c65d0a8 h6 hl_f | omega, by first | exact q_e9a8eec0c4 hu_f | omega, by first | exact q_857069189f | omega, fun hh => by first | exact ⟨q_f1b4405731 hl_a hh, q_6030c79a6f h6 hl_f hh⟩ | omega, fun hh => by first | exact ⟨q_1bb76abeaf, q_857069189f⟩ | omega, (by rw [err_bad (by omega)]; exact hC)⟩⟩
  · refine En_Ps 2 (pc' := 9) (lv' := [(0, .ref 3), (1, .int a)]) (st' := [.int a, .ref 3]) rfl ?_
    refine En_put (j := 5) rfl rfl rfl tgz_3 (by decide +kernel) rfl (vI (l := 0) (u := 3) (by decide +kernel) rfl (by first | exact q_337a85e294 hl_a | omega) (by first | exact q_da5e9b976f hu_a | omega)) hσ0 hF0 (by decide +kernel) (fun σ7 h8 h9 h10 h11 => ?_)
    refine En_Ps 2 (pc' := 14) (lv' := [(0, .ref 3), (1, .int a)]) (st' := [.ref 3, .ref 3]) rfl ?_
    refine En_getK (j := 2) ((h11 _ _ (Or.inr (by decide))).trans h2) rfl rfl rfl tgz_3 (by decide +kernel) ?_
    refine En_put (j := 6) rfl rfl rfl tgz_3 (by decide +kernel) rfl (vI (l := (-1)) (u := 1600) (by decide +kernel) rfl (by first | exact q_5b439548fc h4 | omega) (by first | exact q_246f9048f8 h5 | omega)) h8 h9 (by decide +kernel) (fun σ12 h13 h14 h15 h16 => ?_)
    exact En_ret (v := none) rfl rfl rfl ⟨h13, h14, a, ((h16 _ _ (Or.inr (by decide))).trans h10), rfl, ⟨by first | exact q_996bab80f3 hl_a | omega, by first | exact q_e9a8eec0c4 hu_a | omega, by first | exact q_6caa29d3e5 hl_a h6 | omega, fun hh => by first | exact ⟨q_1bb76abeaf, q_857069189f⟩ | omega, fun hh => by first | exact ⟨q_9f4a304547 hh h6, q_6caa29d3e5 hl_a h6⟩ | omega, CT_err hC (by omega) (by omega) h14 (by decide +kernel) (ci_at (j := 5) ((h16 _ _ (Or.inr (by decide))).trans h10) rfl) h2 (ci_at (j := 6) h15 rfl)⟩⟩
/-- DoorSchool$Reader.isBlank(B)Z -/
abbrev P_56x (σ0 : SG) (a : Int32) : PO := fun v σ => WT σ ∧ Fr [] σ0 σ ∧ ∃ ret : Int32, v = some (.int ret) ∧ -ret.toInt ≤ 0 ∧ ret.toInt - 1 ≤ 0 ∧ Imp (ret.toInt - 1 ≤ 0 ∧ -ret.toInt + 1 ≤ 0) (-a.toInt + 10 ≤ 0 ∧ a.toInt - 32 ≤ 0) ∧ ((ret.toInt = 1 ∧ (a.toInt = 32 ∨ a.toInt = 10)) ∨ (ret.toInt = 0 ∧ a.toInt ≠ 32 ∧ a.toInt ≠ 10))
set_option maxRecDepth 10000 in
set_option maxHeartbeats 4000000 in
theorem c_56x (σ0 : SG) (hσ0 : WT σ0) (a : Int32) (hl_a : (-128) ≤ a.toInt) (hu_a : a.toInt ≤ 127) : En 0 0 none mr_56 (P_56x σ0 a) 0 [(0, .int a)] [] σ0 := by
  have hF0 : Fr [] σ0 σ0 := Fr_rfl
  refine En_Ps 2 (pc' := 3) (lv' := [(0, .int a)]) (st' := [.int (((Int8.ofInt 32).toInt32)), .int a]) rfl ?_
  refine En_icEq _ rfl (by decide : ((Int8.ofInt 32).toInt32).toInt = 32) rfl (fun h1 => ?_) (fun h1 => ?_)
  · refine En_Ps 2 (pc' := 17) (lv' := [(0, .int a)]) (st' := [.int ((Int32.ofInt 1))]) rfl ?_
    refine En_top (by decide : (Int32.ofInt 1).toInt = 1) (fun z2 h3 => ?_)
    exact En_ret (v := some (.int z2)) rfl rfl (retZ rfl rfl (by first | exact q_2b07c97645 h3 | omega) (by first | exact q_d9e7cbb253 h3 | omega)) ⟨hσ0, hF0, z2, rfl, ⟨by first | exact q_ad3eee31ca h3 | omega, by first | exact q_81cf297dc4 h3 | omega, fun hh => by first | exact ⟨q_c7bbab7bf1 h1, q_9db9c28d84 h1⟩ | omega, (by omega)⟩⟩
  · refine En_Ps 2 (pc' := 9) (lv' := [(0, .int a)]) (st' := [.int (((Int8.ofInt 10).toInt32)), .int a]) rfl ?_
    refine En_icNe _ rfl (by decide : ((Int8.ofInt 10).toInt32).toInt = 10) rfl (fun h4 => ?_) (fun h4 => ?_)
    · refine En_Ps 1 (pc' := 17) (lv' := [(0, .int a)]) (st' := [.int ((Int32.ofInt 0))]) rfl ?_
      refine En_top (by decide : (Int32.ofInt 0).toInt = 0) (fun z5 h6 => ?_)
      exact En_ret (v := some (.int z5)) rfl rfl (retZ rfl rfl (by first | exact q_55451d0a83 h6 | omega) (by first | exact q_87849c3859 h6 | omega)) ⟨hσ0, hF0, z5, rfl, ⟨by first | exact q_097a37c2ae h6 | omega, by first | exact q_e269517bee h6 | omega, fun _ => by omega, (by omega)⟩⟩
    · refine En_Ps 2 (pc' := 17) (lv' := [(0, .int a)]) (st' := [.int ((Int32.ofInt 1))]) rfl ?_
      refine En_top (by decide : (Int32.ofInt 1).toInt = 1) (fun z7 h8 => ?_)
      exact En_ret (v := some (.int z7)) rfl rfl (retZ rfl rfl (by first | exact q_2b07c97645 h8 | omega) (by first | exact q_d9e7cbb253 h8 | omega)) ⟨hσ0, hF0, z7, rfl, ⟨by first | exact q_ad3eee31ca h8 | omega, by first | exact q_81cf297dc4 h8 | omega, fun hh => by first | exact ⟨q_bda69c322b h4, q_cc78147568 h4⟩ | omega, (by omega)⟩⟩
/-- DoorSchool$Reader.kindAt(I)I -/
abbrev P_57x (σ0 : SG) (By : Int → Int) (Nb : Int) (a : Int32) (m : Int32) : PO := fun v σ => WT σ ∧ Fr [] σ0 σ ∧ ∃ ret : Int32, v = some (.int ret) ∧ -ret.toInt ≤ 0 ∧ ret.toInt - 4 ≤ 0 ∧ Imp (-ret.toInt + 1 ≤ 0) (a.toInt - m.toInt + 1 ≤ 0) ∧ ret.toInt = kA By Nb a.toInt
set_option maxRecDepth 10000 in
set_option maxHeartbeats 4000000 in
theorem c_57x {By : Int → Int} {Nb : Int} (σ0 : SG) (hσ0 : WT σ0) (a : Int32) (hl_a : 0 ≤ a.toInt) (hu_a : a.toInt ≤ 1600) (m : Int32) (h_m : (σ0 1)[1]? = some (.int m)) (hT : TPc By Nb σ0) : En 0 0 none mr_57 (P_57x σ0 By Nb a m) 0 [(0, .ref 3), (1, .int a)] [] σ0 := by
  obtain ⟨hl_m, hu_m⟩ := WT_int hσ0 (g := 1) (by decide +kernel) (by decide +kernel) (l := 0) (u := 1600) (by decide +kernel) h_m
  have hF0 : Fr [] σ0 σ0 := Fr_rfl
  refine En_Ps 2 (pc' := 2) (lv' := [(0, .ref 3), (1, .int a)]) (st' := [.ref 3, .int a]) rfl ?_
  refine En_getU (j := 0) (u := 1) (g' := 1) (q := 0) rfl rfl rfl tgz_3 (by decide +kernel) hσ0 (by decide +kernel) (by decide +kernel) (fun h1 => ?_)
  refine En_getK (j := 1) h_m rfl rfl rfl tgz_1 (by decide +kernel) ?_
  refine En_icLt _ rfl rfl rfl (fun h3 => ?_) (fun h3 => ?_)
  · refine En_Ps 1 (pc' := 14) (lv' := [(0, .ref 3), (1, .int a)]) (st' := [.ref 3]) rfl ?_
    refine En_getK (j := 0) h1 rfl rfl rfl tgz_3 (by decide +kernel) ?_
    refine En_getU (j := 0) (u := 2) (g' := 2) (q := 0) rfl rfl rfl tgz_1 (by decide +kernel) hσ0 (by decide +kernel) (by decide +kernel) (fun h4 => ?_)
    refine En_Ps 1 (pc' := 21) (lv' := [(0, .ref 3), (1, .int a)]) (st' := [.int a, .ref 2]) rfl ?_
    refine En_bald (l := (-128)) (u := 127) rfl rfl tgz_2 (by decide +kernel) hσ0 (by first | exact q_58e6e51dcc hl_a | omega) (lnI (by decide +kernel : LN _ = 1600) (by first | exact q_dde7d71509 h3 hu_m | omega)) (FTsgl (by decide +kernel)) (fun z7 h6 h8 h9 => ?_)
    refine En_Ps 3 (pc' := 26) (lv' := [(2, .int z7), (0, .ref 3), (1, .int a)]) (st' := [.int (((Int8.ofInt 97).toInt32)), .int z7]) rfl ?_
    refine En_icLt _ rfl (by decide : ((Int8.ofInt 97).toInt32).toInt = 97) rfl (fun h10 => ?_) (fun h10 => ?_)
    · refine En_Ps 2 (pc' := 40) (lv' := [(2, .int z7), (0, .ref 3), (1, .int a)]) (st' := [.int (((Int8.ofInt 48).toInt32)), .int z7]) rfl ?_
      refine En_icLt _ rfl (by decide : ((Int8.ofInt 48).toInt32).toInt = 48) rfl (fun h11 => ?_) (fun h11 => ?_)
      · refine En_Ps 2 (pc' := 54) (lv' := [(2, .int z7), (0, .ref 3), (1, .int a)]) (st' := [.int (((Int8.ofInt 59).toInt32)), .int z7]) rfl ?_
        refine En_icNe _ rfl (by decide : ((Int8.ofInt 59).toInt32).toInt = 59) rfl (fun h12 => ?_) (fun hx => by first | exact (q_fbe680e378 hx h11).elim | (exfalso; omega))
        refine En_Ps 1 (pc' := 62) (lv' := [(2, .int z7), (0, .ref 3), (1, .int a)]) (st' := [.int ((Int32.ofInt 4))]) rfl ?_
        refine En_top (by decide : (Int32.ofInt 4).toInt = 4) (fun z13 h14 => ?_)
        exact En_ret (v := some (.int z13)) rfl rfl rfl ⟨hσ0, hF0, z13, rfl, ⟨by first | exact q_405755f924 h14 | omega, by first | exact q_ddd5c72b0d h14 | omega, fun hh => by first | exact q_1be5a5166e h3 | omega, (by have k9 := kA_c hT h_m (fun _ => h6) (by omega : 0 ≤ a.toInt); omega)⟩⟩
      · refine En_Ps 2 (pc' := 46) (lv' := [(2, .int z7), (0, .ref 3), (1, .int a)]) (st' := [.int (((Int8.ofInt 57).toInt32)), .int z7]) rfl ?_
        refine En_icGt _ rfl (by decide : ((Int8.ofInt 57).toInt32).toInt = 57) rfl (fun h15 => ?_) (fun h15 => ?_)
        · refine En_Ps 2 (pc' := 54) (lv' := [(2, .int z7), (0, .ref 3), (1, .int a)]) (st' := [.int (((Int8.ofInt 59).toInt32)), .int z7]) rfl ?_
          refine En_icNe _ rfl (by decide : ((Int8.ofInt 59).toInt32).toInt = 59) rfl (fun h16 => ?_) (fun h16 => ?_)
          · refine En_Ps 1 (pc' := 62) (lv' := [(2, .int z7), (0, .ref 3), (1, .int a)]) (st' := [.int ((Int32.ofInt 4))]) rfl ?_
            refine En_top (by decide : (Int32.ofInt 4).toInt = 4) (fun z17 h18 => ?_)
            exact En_ret (v := some (.int z17)) rfl rfl rfl ⟨hσ0, hF0, z17, rfl, ⟨by first | exact q_405755f924 h18 | omega, by first | exact q_ddd5c72b0d h18 | omega, fun hh => by first | exact q_1be5a5166e h3 | omega, (by have k9 := kA_c hT h_m (fun _ => h6) (by omega : 0 ≤ a.toInt); omega)⟩⟩
          · refine En_Ps 2 (pc' := 62) (lv' := [(2, .int z7), (0, .ref 3), (1, .int a)]) (st' := [.int ((Int32.ofInt 3))]) rfl ?_
            refine En_top (by decide : (Int32.ofInt 3).toInt = 3) (fun z19 h20 => ?_)
            exact En_ret (v := some (.int z19)) rfl rfl rfl ⟨hσ0, hF0, z19, rfl, ⟨by first | exact q_8a7bb54a7c h20 | omega, by first | exact q_3c1765b54d h20 | omega, fun hh => by first | exact q_1be5a5166e h3 | omega, (by have k9 := kA_c hT h_m (fun _ => h6) (by omega : 0 ≤ a.toInt); omega)⟩⟩
        · refine En_Ps 1 (pc' := 50) (lv' := [(2, .int z7), (0, .ref 3), (1, .int a)]) (st' := [.int ((Int32.ofInt 2))]) rfl ?_
          refine En_top (by decide : (Int32.ofInt 2).toInt = 2) (fun z21 h22 => ?_)
          exact En_ret (v := some (.int z21)) rfl rfl rfl ⟨hσ0, hF0, z21, rfl, ⟨by first | exact q_1984c8b6d4 h22 | omega, by first | exact q_6a1f4978ed h22 | omega, fun hh => by first | exact q_1be5a5166e h3 | omega, (by have k9 := kA_c hT h_m (fun _ => h6) (by omega : 0 ≤ a.toInt); omega)⟩⟩
    · refine En_Ps 2 (pc' := 32) (lv' := [(2, .int z7), (0, .ref 3), (1, .int a)]) (st' := [.int (((Int8.ofInt 122).toInt32)), .int z7]) rfl ?_
      refine En_icGt _ rfl (by decide : ((Int8.ofInt 122).toInt32).toInt = 122) rfl (fun h23 => ?_) (fun h23 => ?_)
      · refine En_Ps 2 (pc' := 40) (lv' := [(2, .int z7), (0, .ref 3), (1, .int a)]) (st' := [.int (((Int8.ofInt 48).toInt32)), .int z7]) rfl ?_
        refine En_icLt _ rfl (by decide : ((Int8.ofInt 48).toInt32).toInt = 48) rfl (fun hx => by first | exact (q_c3c8561073 h23 hx).elim | (exfalso; omega)) (fun h24 => ?_)
        refine En_Ps 2 (pc' := 46) (lv' := [(2, .int z7), (0, .ref 3), (1, .int a)]) (st' := [.int (((Int8.ofInt 57).toInt32)), .int z7]) rfl ?_
        refine En_icGt _ rfl (by decide : ((Int8.ofInt 57).toInt32).toInt = 57) rfl (fun h25 => ?_) (fun hx => by first | exact (q_97de91e8fb h23 hx).elim | (exfalso; omega))
        refine En_Ps 2 (pc' := 54) (lv' := [(2, .int z7), (0, .ref 3), (1, .int a)]) (st' := [.int (((Int8.ofInt 59).toInt32)), .int z7]) rfl ?_
        refine En_icNe _ rfl (by decide : ((Int8.ofInt 59).toInt32).toInt = 59) rfl (fun h26 => ?_) (fun hx => by first | exact (q_8f7866e711 h23 hx).elim | (exfalso; omega))
        refine En_Ps 1 (pc' := 62) (lv' := [(2, .int z7), (0, .ref 3), (1, .int a)]) (st' := [.int ((Int32.ofInt 4))]) rfl ?_
        refine En_top (by decide : (Int32.ofInt 4).toInt = 4) (fun z27 h28 => ?_)
        exact En_ret (v := some (.int z27)) rfl rfl rfl ⟨hσ0, hF0, z27, rfl, ⟨by first | exact q_405755f924 h28 | omega, by first | exact q_ddd5c72b0d h28 | omega, fun hh => by first | exact q_1be5a5166e h3 | omega, (by have k9 := kA_c hT h_m (fun _ => h6) (by omega : 0 ≤ a.toInt); omega)⟩⟩
      · refine En_Ps 1 (pc' := 36) (lv' := [(2, .int z7), (0, .ref 3), (1, .int a)]) (st' := [.int ((Int32.ofInt 1))]) rfl ?_
        refine En_top (by decide : (Int32.ofInt 1).toInt = 1) (fun z29 h30 => ?_)
        exact En_ret (v := some (.int z29)) rfl rfl rfl ⟨hσ0, hF0, z29, rfl, ⟨by first | exact q_ad3eee31ca h30 | omega, by first | exact q_494aa80098 h30 | omega, fun hh => by first | exact q_1be5a5166e h3 | omega, (by have k9 := kA_c hT h_m (fun _ => h6) (by omega : 0 ≤ a.toInt); omega)⟩⟩
  · refine En_Ps 1 (pc' := 12) (lv' := [(0, .ref 3), (1, .int a)]) (st' := [.int ((Int32.ofInt 0))]) rfl ?_
    refine En_top (by decide : (Int32.ofInt 0).toInt = 0) (fun z31 h32 => ?_)
    exact En_ret (v := some (.int z31)) rfl rfl rfl ⟨hσ0, hF0, z31, rfl, ⟨by first | exact q_097a37c2ae h32 | omega, by first | exact q_d4b5472250 h32 | omega, fun _ => by omega, kA_end hT h_m (by omega) (by omega)⟩⟩
/-- DoorSchool$Reader.numberHere(II)I -/
abbrev P_58x (σ0 : SG) (By : Int → Int) (Nb : Int) (Sp : PS) (a : Int32) (b : Int32) (f : Int32) : PO := fun v σ => WT σ ∧ Fr [(3, 5), (3, 6)] σ0 σ ∧ ∃ f1 : Int32, (σ 3)[5]? = some (.int f1) ∧ ∃ ret : Int32, v = some (.int ret) ∧ ret.toInt - 1000000 ≤ 0 ∧ -f1.toInt ≤ 0 ∧ f1.toInt - 3 ≤ 0 ∧ -f1.toInt + f.toInt ≤ 0 ∧ f.toInt - f1.toInt ≤ 0 ∧ Imp (f1.toInt ≤ 0) (a.toInt - ret.toInt ≤ 0 ∧ ret.toInt - b.toInt ≤ 0) ∧ Imp (-f1.toInt + 1 ≤ 0) (ret.toInt + 1 ≤ 0 ∧ -ret.toInt - 1 ≤ 0) ∧ Imp (-b.toInt - 1 ≤ 0) (ret.toInt - b.toInt ≤ 0) ∧ Imp (-a.toInt - 1 ≤ 0) (-ret.toInt - 1 ≤ 0) ∧ (CT By Nb σ (nH By Nb a.toInt b.toInt Sp) ∧ Imp ((nH By Nb a.toInt b.toInt Sp).1 = 0) (ret.toInt = tV By Nb Sp.2.2.1))
set_option maxRecDepth 10000 in
set_option maxHeartbeats 4000000 in
theorem c_58x {By : Int → Int} {Nb : Int} {Sp : PS} (σ0 : SG) (hσ0 : WT σ0) (a : Int32) (b : Int32) (f : Int32) (h_f : (σ0 3)[5]? = some (.int f)) (hC : CT By Nb σ0 Sp) : En 1 21 none mr_58 (P_58x σ0 By Nb Sp a b f) 0 [(0, .ref 3), (1, .int a), (2, .int b)] [] σ0 := by
  obtain ⟨hl_f, hu_f⟩ := WT_int hσ0 (g := 3) (by decide +kernel) (by decide +kernel) (l := 0) (u := 3) (by decide +kernel) h_f
  have hF0 : Fr [(3, 5), (3, 6)] σ0 σ0 := Fr_rfl
  obtain ⟨z2, h1, h3, h4⟩ := WT_peekI hσ0 tgz_3 (by decide +kernel : FT 3 1 = (0, 0, 4)) (by decide +kernel)
  obtain ⟨z6, h5, h7, h8⟩ := WT_peekI hσ0 tgz_3 (by decide +kernel : FT 3 4 = (0, (-2147483648), 1000000)) (by decide +kernel)
  have h9 := CT_k hC h_f
  have h10 : Imp (Sp.1 = 0) (tK By Nb Sp.2.2.1 = z2.toInt) := CT_t hC h1
  have h11 : Imp (Sp.1 = 0 ∧ tK By Nb Sp.2.2.1 = 2) (z6.toInt = tV By Nb Sp.2.2.1 ∧ 0 ≤ tV By Nb Sp.2.2.1) := fun q => CT_u hC h5 q.1 q.2
  refine En_Ps 1 (pc' := 1) (lv' := [(0, .ref 3), (1, .int a), (2, .int b)]) (st' := [.ref 3]) rfl ?_
  refine En_getK (j := 1) h1 rfl rfl rfl tgz_3 (by decide +kernel) ?_
  refine En_Ps 1 (pc' := 5) (lv' := [(0, .ref 3), (1, .int a), (2, .int b)]) (st' := [.int ((Int32.ofInt 2)), .int z2]) rfl ?_
  refine En_icEq _ rfl (by decide : (Int32.ofInt 2).toInt = 2) rfl (fun h12 => ?_) (fun h12 => ?_)
  · refine En_Ps 1 (pc' := 17) (lv' := [(0, .ref 3), (1, .int a), (2, .int b)]) (st' := [.ref 3]) rfl ?_
    refine En_getK (j := 4) h5 rfl rfl rfl tgz_3 (by decide +kernel) ?_
    refine En_Ps 1 (pc' := 21) (lv' := [(0, .ref 3), (1, .int a), (2, .int b)]) (st' := [.int a, .int z6]) rfl ?_
    refine En_icLt _ rfl rfl rfl (fun h13 => ?_) (fun h13 => ?_)
    · refine En_Ps 2 (pc' := 34) (lv' := [(0, .ref 3), (1, .int a), (2, .int b)]) (st' := [.int ((Int32.ofInt 2)), .ref 3]) rfl ?_
      have := (by decide : ((Int32.ofInt 2)).toInt = 2)
      refine En_callV rfl rfl rfl rfl rfl rfl rfl rfl tgz_3 (by decide +kernel) rfl (c_54x σ0 hσ0 ((Int32.ofInt 2)) (geI (by decide : (Int32.ofInt 2).toInt = 2) (by decide)) (leI (by decide : (Int32.ofInt 2).toInt = 2) (by decide)) f h_f hC) (by decide) (by decide) (fun v15 σ16 h14 => ?_)
      obtain ⟨h17, h18, z20, h21, rfl, h19⟩ := h14
      have h22 := h19.2.2.2.2.2
      have h23 := Fr_trans hF0 h18 (by decide +kernel)
      obtain ⟨S24, h25⟩ : ∃ q : PS, q = err By Nb 2 Sp := ⟨_, rfl⟩
      have h26 : CT By Nb σ16 S24 := by rw [h25]; exact (CT_eq h22 (err_cg (by omega)))
      have h27 := CT_k h26 h21
      have h28 : Imp (S24.1 = 0) (tK By Nb S24.2.2.1 = z2.toInt) := CT_t h26 ((h18 _ _ (inW tgz_3 (by decide +kernel))).trans h1)
      have h29 : Imp (S24.1 = 0 ∧ tK By Nb S24.2.2.1 = 2) (z6.toInt = tV By Nb S24.2.2.1 ∧ 0 ≤ tV By Nb S24.2.2.1) := fun q => CT_u h26 ((h18 _ _ (inW tgz_3 (by decide +kernel))).trans h5) q.1 q.2
      have h30 : S24.2.2.2 = Sp.2.2.2 := by rw [h25]; exact err_w
      refine En_Ps 1 (pc' := 38) (lv' := [(0, .ref 3), (1, .int a), (2, .int b)]) (st' := [.ref 3]) rfl ?_
      refine En_getK (j := 5) h21 rfl rfl rfl tgz_3 (by decide +kernel) ?_
      refine En_iNe _ rfl rfl (fun h31 => ?_) (fun hx => by exfalso; have := Imp_m h19.2.2.2.1 (by omega); have := Imp_m h19.2.2.2.2.1 (by omega); omega)
      refine En_Ps 1 (pc' := 52) (lv' := [(0, .ref 3), (1, .int a), (2, .int b)]) (st' := [.int ((Int32.ofInt (-1)))]) rfl ?_
      refine En_top (by decide : (Int32.ofInt (-1)).toInt = -1) (fun z32 h33 => ?_)
      exact En_ret (v := some (.int z32)) rfl rfl rfl ⟨h17, h23, z20, h21, z32, rfl, ⟨by first | exact q_fa25b07a5c h33 | omega, by first | exact q_1a6ee862c1 h19.1 | omega, by first | exact q_c733b715bf h19.2.1 | omega, by first | exact q_d22b102a8e h19.2.2.1 | omega, by first | exact q_83f4b1e050 h19.2.2.1 | omega, fun _ => by have := Imp_m h19.2.2.2.1 (by omega); have := Imp_m h19.2.2.2.2.1 (by omega); omega, fun hh => by first | exact ⟨q_4eb6dac66d h33, q_6ba54b61e9 h33⟩ | omega, fun hh => by first | exact q_6e3f7f1a8e h33 hh | omega, fun hh => by first | exact q_6ba54b61e9 h33 | omega, (by first | (subst h25; have q := nHc_1 (By := By) (Nb := Nb) (lo := a.toInt) (hi := b.toInt) (S := Sp) (fun zz => by (try have i0 := Imp_m h28 (by omega)); (try have i1 := Imp_m h10 (by omega)); (try have i2 := Imp_m h11 (by omega)); (try have i3 := Imp_m h29 (by omega)); (try have i4 := Imp_m h19.2.2.2.1 (by omega)); (try have i5 := Imp_m h19.2.2.2.2.1 (by omega)); omega); rw [q]; exact ⟨h26, fun zz => by (try have i0 := Imp_m h28 (by omega)); (try have i1 := Imp_m h10 (by omega)); (try have i2 := Imp_m h11 (by omega)); (try have i3 := Imp_m h29 (by omega)); (try have i4 := Imp_m h19.2.2.2.1 (by omega)); (try have i5 := Imp_m h19.2.2.2.2.1 (by omega)); omega⟩) | (subst h25; have q := nHc_2 (By := By) (Nb := Nb) (lo := a.toInt) (hi := b.toInt) (S := Sp) (fun zz => by (try have i0 := Imp_m h28 (by omega)); (try have i1 := Imp_m h10 (by omega)); (try have i2 := Imp_m h11 (by omega)); (try have i3 := Imp_m h29 (by omega)); (try have i4 := Imp_m h19.2.2.2.1 (by omega)); (try have i5 := Imp_m h19.2.2.2.2.1 (by omega)); omega); rw [q]; exact ⟨h26, fun zz => by (try have i0 := Imp_m h28 (by omega)); (try have i1 := Imp_m h10 (by omega)); (try have i2 := Imp_m h11 (by omega)); (try have i3 := Imp_m h29 (by omega)); (try have i4 := Imp_m h19.2.2.2.1 (by omega)); (try have i5 := Imp_m h19.2.2.2.2.1 (by omega)); omega⟩) | (subst h25; have q := nHc_0 (By := By) (Nb := Nb) (lo := a.toInt) (hi := b.toInt) (S := Sp) (fun zz => by (try have i0 := Imp_m h28 (by omega)); (try have i1 := Imp_m h10 (by omega)); (try have i2 := Imp_m h11 (by omega)); (try have i3 := Imp_m h29 (by omega)); (try have i4 := Imp_m h19.2.2.2.1 (by omega)); (try have i5 := Imp_m h19.2.2.2.2.1 (by omega)); omega); rw [q]; exact ⟨h26, fun zz => by (try have i0 := Imp_m h28 (by omega)); (try have i1 := Imp_m h10 (by omega)); (try have i2 := Imp_m h11 (by omega)); (try have i3 := Imp_m h29 (by omega)); (try have i4 := Imp_m h19.2.2.2.1 (by omega)); (try have i5 := Imp_m h19.2.2.2.2.1 (by omega)); omega⟩))⟩⟩
    · refine En_Ps 1 (pc' := 25) (lv' := [(0, .ref 3), (1, .int a), (2, .int b)]) (st' := [.ref 3]) rfl ?_
      refine En_getK (j := 4) h5 rfl rfl rfl tgz_3 (by decide +kernel) ?_
      refine En_Ps 1 (pc' := 29) (lv' := [(0, .ref 3), (1, .int a), (2, .int b)]) (st' := [.int b, .int z6]) rfl ?_
      refine En_icLe _ rfl rfl rfl (fun h34 => ?_) (fun h34 => ?_)
      · refine En_Ps 1 (pc' := 38) (lv' := [(0, .ref 3), (1, .int a), (2, .int b)]) (st' := [.ref 3]) rfl ?_
        refine En_getK (j := 5) h_f rfl rfl rfl tgz_3 (by decide +kernel) ?_
        refine En_iNe _ rfl rfl (fun h35 => ?_) (fun h35 => ?_)
        · refine En_Ps 1 (pc' := 52) (lv' := [(0, .ref 3), (1, .int a), (2, .int b)]) (st' := [.int ((Int32.ofInt (-1)))]) rfl ?_
          refine En_top (by decide : (Int32.ofInt (-1)).toInt = -1) (fun z36 h37 => ?_)
          exact En_ret (v := some (.int z36)) rfl rfl rfl ⟨hσ0, hF0, f, h_f, z36, rfl, ⟨by first | exact q_fa25b07a5c h37 | omega, by first | exact q_787f1164f6 h35 hl_f | omega, by first | exact q_e9a8eec0c4 hu_f | omega, by first | exact q_857069189f | omega, by first | exact q_1bb76abeaf | omega, fun _ => by omega, fun hh => by first | exact ⟨q_4eb6dac66d h37, q_6ba54b61e9 h37⟩ | omega, fun hh => by first | exact q_6e3f7f1a8e h37 hh | omega, fun hh => by first | exact q_6ba54b61e9 h37 | omega, (by first | (have q := nHc_1 (By := By) (Nb := Nb) (lo := a.toInt) (hi := b.toInt) (S := Sp) (fun zz => by (try have i0 := Imp_m h10 (by omega)); (try have i1 := Imp_m h11 (by omega)); omega); rw [q]; exact ⟨hC, fun zz => by (try have i0 := Imp_m h10 (by omega)); (try have i1 := Imp_m h11 (by omega)); omega⟩) | (have q := nHc_2 (By := By) (Nb := Nb) (lo := a.toInt) (hi := b.toInt) (S := Sp) (fun zz => by (try have i0 := Imp_m h10 (by omega)); (try have i1 := Imp_m h11 (by omega)); omega); rw [q]; exact ⟨hC, fun zz => by (try have i0 := Imp_m h10 (by omega)); (try have i1 := Imp_m h11 (by omega)); omega⟩) | (have q := nHc_0 (By := By) (Nb := Nb) (lo := a.toInt) (hi := b.toInt) (S := Sp) (fun zz => by (try have i0 := Imp_m h10 (by omega)); (try have i1 := Imp_m h11 (by omega)); omega); rw [q]; exact ⟨hC, fun zz => by (try have i0 := Imp_m h10 (by omega)); (try have i1 := Imp_m h11 (by omega)); omega⟩))⟩⟩
        · refine En_Ps 1 (pc' := 45) (lv' := [(0, .ref 3), (1, .int a), (2, .int b)]) (st' := [.ref 3]) rfl ?_
          refine En_getK (j := 4) h5 rfl rfl rfl tgz_3 (by decide +kernel) ?_
          refine En_Ps 1 (pc' := 52) (lv' := [(0, .ref 3), (1, .int a), (2, .int b)]) (st' := [.int z6]) rfl ?_
          exact En_ret (v := some (.int z6)) rfl rfl rfl ⟨hσ0, hF0, f, h_f, z6, rfl, ⟨by first | exact q_b319b3558a h8 | omega, by first | exact q_c803b490ef hl_f | omega, by first | exact q_bd3fa30443 h35 | omega, by first | exact q_857069189f | omega, by first | exact q_1bb76abeaf | omega, fun hh => by first | exact ⟨q_15b82e7ad8 h13, q_15b82e7ad8 h34⟩ | omega, fun _ => by omega, fun hh => by first | exact q_15b82e7ad8 h34 | omega, fun hh => by first | exact q_a393f6e16a h13 hh | omega, (by first | (have q := nHc_1 (By := By) (Nb := Nb) (lo := a.toInt) (hi := b.toInt) (S := Sp) (fun zz => by (try have i0 := Imp_m h10 (by omega)); (try have i1 := Imp_m h11 (by omega)); omega); rw [q]; exact ⟨hC, fun zz => by (try have i0 := Imp_m h10 (by omega)); (try have i1 := Imp_m h11 (by omega)); omega⟩) | (have q := nHc_2 (By := By) (Nb := Nb) (lo := a.toInt) (hi := b.toInt) (S := Sp) (fun zz => by (try have i0 := Imp_m h10 (by omega)); (try have i1 := Imp_m h11 (by omega)); omega); rw [q]; exact ⟨hC, fun zz => by (try have i0 := Imp_m h10 (by omega)); (try have i1 := Imp_m h11 (by omega)); omega⟩) | (have q := nHc_0 (By := By) (Nb := Nb) (lo := a.toInt) (hi := b.toInt) (S := Sp) (fun zz => by (try have i0 := Imp_m h10 (by omega)); (try have i1 := Imp_m h11 (by omega)); omega); rw [q]; exact ⟨hC, fun zz => by (try have i0 := Imp_m h10 (by omega)); (try have i1 := Imp_m h11 (by omega)); omega⟩))⟩⟩
      · refine En_Ps 2 (pc' := 34) (lv' := [(0, .ref 3), (1, .int a), (2, .int b)]) (st' := [.int ((Int32.ofInt 2)), .ref 3]) rfl ?_
        have := (by decide : ((Int32.ofInt 2)).toInt = 2)
        refine En_callV rfl rfl rfl rfl rfl rfl rfl rfl tgz_3 (by decide +kernel) rfl (c_54x σ0 hσ0 ((Int32.ofInt 2)) (geI (by decide : (Int32.ofInt 2).toInt = 2) (by decide)) (leI (by decide : (Int32.ofInt 2).toInt = 2) (by decide)) f h_f hC) (by decide) (by decide) (fun v39 σ40 h38 => ?_)
        obtain ⟨h41, h42, z44, h45, rfl, h43⟩ := h38
        have h46 := h43.2.2.2.2.2
        have h47 := Fr_trans hF0 h42 (by decide +kernel)
        obtain ⟨S48, h49⟩ : ∃ q : PS, q = err By Nb 2 Sp := ⟨_, rfl⟩
        have h50 : CT By Nb σ40 S48 := by rw [h49]; exact (CT_eq h46 (err_cg (by omega)))
        have h51 := CT_k h50 h45
        have h52 : Imp (S48.1 = 0) (tK By Nb S48.2.2.1 = z2.toInt) := CT_t h50 ((h42 _ _ (inW tgz_3 (by decide +kernel))).trans h1)
        have h53 : Imp (S48.1 = 0 ∧ tK By Nb S48.2.2.1 = 2) (z6.toInt = tV By Nb S48.2.2.1 ∧ 0 ≤ tV By Nb S48.2.2.1) := fun q => CT_u h50 ((h42 _ _ (inW tgz_3 (by decide +kernel))).trans h5) q.1 q.2
        have h54 : S48.2.2.2 = Sp.2.2.2 := by rw [h49]; exact err_w
        refine En_Ps 1 (pc' := 38) (lv' := [(0, .ref 3), (1, .int a), (2, .int b)]) (st' := [.ref 3]) rfl ?_
        refine En_getK (j := 5) h45 rfl rfl rfl tgz_3 (by decide +kernel) ?_
        refine En_iNe _ rfl rfl (fun h55 => ?_) (fun hx => by exfalso; have := Imp_m h43.2.2.2.1 (by omega); have := Imp_m h43.2.2.2.2.1 (by omega); omega)
        refine En_Ps 1 (pc' := 52) (lv' := [(0, .ref 3), (1, .int a), (2, .int b)]) (st' := [.int ((Int32.ofInt (-1)))]) rfl ?_
        refine En_top (by decide : (Int32.ofInt (-1)).toInt = -1) (fun z56 h57 => ?_)
        exact En_ret (v := some (.int z56)) rfl rfl rfl ⟨h41, h47, z44, h45, z56, rfl, ⟨by first | exact q_fa25b07a5c h57 | omega, by first | exact q_1a6ee862c1 h43.1 | omega, by first | exact q_c733b715bf h43.2.1 | omega, by first | exact q_d22b102a8e h43.2.2.1 | omega, by first | exact q_83f4b1e050 h43.2.2.1 | omega, fun _ => by have := Imp_m h43.2.2.2.1 (by omega); have := Imp_m h43.2.2.2.2.1 (by omega); omega, fun hh => by first | exact ⟨q_4eb6dac66d h57, q_6ba54b61e9 h57⟩ | omega, fun hh => by first | exact q_6e3f7f1a8e h57 hh | omega, fun hh => by first | exact q_6ba54b61e9 h57 | omega, (by first | (subst h49; have q := nHc_1 (By := By) (Nb := Nb) (lo := a.toInt) (hi := b.toInt) (S := Sp) (fun zz => by (try have i0 := Imp_m h52 (by omega)); (try have i1 := Imp_m h10 (by omega)); (try have i2 := Imp_m h11 (by omega)); (try have i3 := Imp_m h53 (by omega)); (try have i4 := Imp_m h43.2.2.2.1 (by omega)); (try have i5 := Imp_m h43.2.2.2.2.1 (by omega)); omega); rw [q]; exact ⟨h50, fun zz => by (try have i0 := Imp_m h52 (by omega)); (try have i1 := Imp_m h10 (by omega)); (try have i2 := Imp_m h11 (by omega)); (try have i3 := Imp_m h53 (by omega)); (try have i4 := Imp_m h43.2.2.2.1 (by omega)); (try have i5 := Imp_m h43.2.2.2.2.1 (by omega)); omega⟩) | (subst h49; have q := nHc_2 (By := By) (Nb := Nb) (lo := a.toInt) (hi := b.toInt) (S := Sp) (fun zz => by (try have i0 := Imp_m h52 (by omega)); (try have i1 := Imp_m h10 (by omega)); (try have i2 := Imp_m h11 (by omega)); (try have i3 := Imp_m h53 (by omega)); (try have i4 := Imp_m h43.2.2.2.1 (by omega)); (try have i5 := Imp_m h43.2.2.2.2.1 (by omega)); omega); rw [q]; exact ⟨h50, fun zz => by (try have i0 := Imp_m h52 (by omega)); (try have i1 := Imp_m h10 (by omega)); (try have i2 := Imp_m h11 (by omega)); (try have i3 := Imp_m h53 (by omega)); (try have i4 := Imp_m h43.2.2.2.1 (by omega)); (try have i5 := Imp_m h43.2.2.2.2.1 (by omega)); omega⟩) | (subst h49; have q := nHc_0 (By := By) (Nb := Nb) (lo := a.toInt) (hi := b.toInt) (S := Sp) (fun zz => by (try have i0 := Imp_m h52 (by omega)); (try have i1 := Imp_m h10 (by omega)); (try have i2 := Imp_m h11 (by omega)); (try have i3 := Imp_m h53 (by omega)); (try have i4 := Imp_m h43.2.2.2.1 (by omega)); (try have i5 := Imp_m h43.2.2.2.2.1 (by omega)); omega); rw [q]; exact ⟨h50, fun zz => by (try have i0 := Imp_m h52 (by omega)); (try have i1 := Imp_m h10 (by omega)); (try have i2 := Imp_m h11 (by omega)); (try have i3 := Imp_m h53 (by omega)); (try have i4 := Imp_m h43.2.2.2.1 (by omega)); (try have i5 := Imp_m h43.2.2.2.2.1 (by omega)); omega⟩))⟩⟩
  · refine En_Ps 2 (pc' := 10) (lv' := [(0, .ref 3), (1, .int a), (2, .int b)]) (st' := [.int ((Int32.ofInt 1)), .ref 3]) rfl ?_
    have := (by decide : ((Int32.ofInt 1)).toInt = 1)
    refine En_callV rfl rfl rfl rfl rfl rfl rfl rfl tgz_3 (by decide +kernel) rfl (c_54x σ0 hσ0 ((Int32.ofInt 1)) (geI (by decide : (Int32.ofInt 1).toInt = 1) (by decide)) (leI (by decide : (Int32.ofInt 1).toInt = 1) (by decide)) f h_f hC) (by decide) (by decide) (fun v59 σ60 h58 => ?_)
    obtain ⟨h61, h62, z64, h65, rfl, h63⟩ := h58
    have h66 := h63.2.2.2.2.2
    have h67 := Fr_trans hF0 h62 (by decide +kernel)
    obtain ⟨S68, h69⟩ : ∃ q : PS, q = err By Nb 1 Sp := ⟨_, rfl⟩
    have h70 : CT By Nb σ60 S68 := by rw [h69]; exact (CT_eq h66 (err_cg (by omega)))
    have h71 := CT_k h70 h65
    have h72 : Imp (S68.1 = 0) (tK By Nb S68.2.2.1 = z2.toInt) := CT_t h70 ((h62 _ _ (inW tgz_3 (by decide +kernel))).trans h1)
    have h73 : Imp (S68.1 = 0 ∧ tK By Nb S68.2.2.1 = 2) (z6.toInt = tV By Nb S68.2.2.1 ∧ 0 ≤ tV By Nb S68.2.2.1) := fun q => CT_u h70 ((h62 _ _ (inW tgz_3 (by decide +kernel))).trans h5) q.1 q.2
    have h74 : S68.2.2.2 = Sp.2.2.2 := by rw [h69]; exact err_w
    refine En_Ps 2 (pc' := 38) (lv' := [(0, .ref 3), (1, .int a), (2, .int b)]) (st' := [.ref 3]) rfl ?_
    refine En_getK (j := 5) h65 rfl rfl rfl tgz_3 (by decide +kernel) ?_
    refine En_iNe _ rfl rfl (fun h75 => ?_) (fun hx => by exfalso; have := Imp_m h63.2.2.2.1 (by omega); have := Imp_m h63.2.2.2.2.1 (by omega); omega)
    refine En_Ps 1 (pc' := 52) (lv' := [(0, .ref 3), (1, .int a), (2, .int b)]) (st' := [.int ((Int32.ofInt (-1)))]) rfl ?_
    refine En_top (by decide : (Int32.ofInt (-1)).toInt = -1) (fun z76 h77 => ?_)
    exact En_ret (v := some (.int z76)) rfl rfl rfl ⟨h61, h67, z64, h65, z76, rfl, ⟨by first | exact q_fa25b07a5c h77 | omega, by first | exact q_1a6ee862c1 h63.1 | omega, by first | exact q_c733b715bf h63.2.1 | omega, by first | exact q_d22b102a8e h63.2.2.1 | omega, by first | exact q_83f4b1e050 h63.2.2.1 | omega, fun _ => by have := Imp_m h63.2.2.2.1 (by omega); have := Imp_m h63.2.2.2.2.1 (by omega); omega, fun hh => by first | exact ⟨q_4eb6dac66d h77, q_6ba54b61e9 h77⟩ | omega, fun hh => by first | exact q_6e3f7f1a8e h77 hh | omega, fun hh => by first | exact q_6ba54b61e9 h77 | omega, (by first | (subst h69; have q := nHc_1 (By := By) (Nb := Nb) (lo := a.toInt) (hi := b.toInt) (S := Sp) (fun zz => by (try have i0 := Imp_m h72 (by omega)); (try have i1 := Imp_m h10 (by omega)); (try have i2 := Imp_m h11 (by omega)); (try have i3 := Imp_m h73 (by omega)); (try have i4 := Imp_m h63.2.2.2.1 (by omega)); (try have i5 := Imp_m h63.2.2.2.2.1 (by omega)); omega); rw [q]; exact ⟨h70, fun zz => by (try have i0 := Imp_m h72 (by omega)); (try have i1 := Imp_m h10 (by omega)); (try have i2 := Imp_m h11 (by omega)); (try have i3 := Imp_m h73 (by omega)); (try have i4 := Imp_m h63.2.2.2.1 (by omega)); (try have i5 := Imp_m h63.2.2.2.2.1 (by omega)); omega⟩) | (subst h69; have q := nHc_2 (By := By) (Nb := Nb) (lo := a.toInt) (hi := b.toInt) (S := Sp) (fun zz => by (try have i0 := Imp_m h72 (by omega)); (try have i1 := Imp_m h10 (by omega)); (try have i2 := Imp_m h11 (by omega)); (try have i3 := Imp_m h73 (by omega)); (try have i4 := Imp_m h63.2.2.2.1 (by omega)); (try have i5 := Imp_m h63.2.2.2.2.1 (by omega)); omega); rw [q]; exact ⟨h70, fun zz => by (try have i0 := Imp_m h72 (by omega)); (try have i1 := Imp_m h10 (by omega)); (try have i2 := Imp_m h11 (by omega)); (try have i3 := Imp_m h73 (by omega)); (try have i4 := Imp_m h63.2.2.2.1 (by omega)); (try have i5 := Imp_m h63.2.2.2.2.1 (by omega)); omega⟩) | (subst h69; have q := nHc_0 (By := By) (Nb := Nb) (lo := a.toInt) (hi := b.toInt) (S := Sp) (fun zz => by (try have i0 := Imp_m h72 (by omega)); (try have i1 := Imp_m h10 (by omega)); (try have i2 := Imp_m h11 (by omega)); (try have i3 := Imp_m h73 (by omega)); (try have i4 := Imp_m h63.2.2.2.1 (by omega)); (try have i5 := Imp_m h63.2.2.2.2.1 (by omega)); omega); rw [q]; exact ⟨h70, fun zz => by (try have i0 := Imp_m h72 (by omega)); (try have i1 := Imp_m h10 (by omega)); (try have i2 := Imp_m h11 (by omega)); (try have i3 := Imp_m h73 (by omega)); (try have i4 := Imp_m h63.2.2.2.1 (by omega)); (try have i5 := Imp_m h63.2.2.2.2.1 (by omega)); omega⟩))⟩⟩
/-- DoorSchool$Reader.step()V -/
abbrev P_72x (σ0 : SG) (By : Int → Int) (Nb : Int) (p : Int32) : PO := fun v σ => WT σ ∧ Fr [(3, 1), (3, 2), (3, 3), (3, 4)] σ0 σ ∧ v = none ∧ (TPc By Nb σ ∧ TKc By Nb p.toInt σ)
set_option maxRecDepth 10000 in
set_option maxHeartbeats 4000000 in
theorem c_72x {By : Int → Int} {Nb : Int} (σ0 : SG) (hσ0 : WT σ0) (p : Int32) (h_p : (σ0 3)[3]? = some (.int p)) (hT : TPc By Nb σ0) (hf : p.toInt ≤ Nb) : En 1 22 none mr_72 (P_72x σ0 By Nb p) 0 [(0, .ref 3)] [] σ0 := by
  obtain ⟨hl_p, hu_p⟩ := WT_int hσ0 (g := 3) (by decide +kernel) (by decide +kernel) (l := 0) (u := 1600) (by decide +kernel) h_p
  have hF0 : Fr [(3, 1), (3, 2), (3, 3), (3, 4)] σ0 σ0 := Fr_rfl
  refine En_Ps 2 (pc' := 2) (lv' := [(0, .ref 3)]) (st' := [.ref 3, .ref 3]) rfl ?_
  refine En_getK (j := 3) h_p rfl rfl rfl tgz_3 (by decide +kernel) ?_
  refine En_put (j := 2) rfl rfl rfl tgz_3 (by decide +kernel) rfl (vI (l := 0) (u := 1600) (by decide +kernel) rfl (by first | exact q_58e6e51dcc hl_p | omega) (by first | exact q_246f9048f8 hu_p | omega)) hσ0 hF0 (by decide +kernel) (fun σ1 h2 h3 h4 h5 => ?_)
  have key8 : ∀ (n8 : Nat) (σ7 : SG) (y6 : Int32), WT σ7 → Fr [(3, 1), (3, 2), (3, 3), (3, 4)] σ0 σ7 → (σ7 3)[3]? = some (.int p) → (σ7 3)[2]? = some (.int y6) → 0 ≤ y6.toInt → y6.toInt ≤ 1600 → p.toInt - y6.toInt ≤ 0 → -y6.toInt + 1600 < (n8 : Int) → tS By Nb (y6.toInt) = tS By Nb p.toInt → y6.toInt ≤ Nb → En 1 22 none mr_72 (P_72x σ0 By Nb p) 8 [(0, .ref 3)] [] σ7 := by
    intro n8
    induction n8 with
    | zero =>
      intro σ7 y6 h8 h9 h10 h11 h12 h13 h14 h15 h16 h17
      first | exact (q_46bc035002 h15 h13).elim | (exfalso; omega)
    | succ n8 ih8 =>
      intro σ7 y6 h8 h9 h10 h11 h12 h13 h14 h15 h16 h17
      refine En_Ps 1 (pc' := 9) (lv' := [(0, .ref 3)]) (st' := [.ref 3]) rfl ?_
      refine En_getK (j := 2) h11 rfl rfl rfl tgz_3 (by decide +kernel) ?_
      refine En_Ps 1 (pc' := 13) (lv' := [(0, .ref 3)]) (st' := [.ref 3, .int y6]) rfl ?_
      refine En_getU (j := 0) (u := 1) (g' := 1) (q := 0) rfl rfl rfl tgz_3 (by decide +kernel) h8 (by decide +kernel) (by decide +kernel) (fun h18 => ?_)
      refine En_getI (j := 1) (l := 0) (u := 1600) rfl rfl rfl tgz_1 (by decide +kernel) h8 (by decide +kernel) (fun z21 h20 h22 h23 => ?_)
      refine En_icGe _ rfl rfl rfl (fun h24 => ?_) (fun h24 => ?_)
      · have h25 := Nb_c (TPc_fr hT h9 (by decide +kernel)) h20
        have h26 : tS By Nb p.toInt = y6.toInt := BLc_no h16 (by omega)
        refine En_Ps 3 (pc' := 56) (lv' := [(0, .ref 3)]) (st' := [.ref 3, .ref 3, .ref 3]) rfl ?_
        refine En_getK (j := 2) h11 rfl rfl rfl tgz_3 (by decide +kernel) ?_
        refine En_callV rfl rfl rfl rfl rfl rfl rfl rfl tgz_3 (by decide +kernel) rfl (c_57x σ7 h8 y6 (geI rfl (by first | exact q_58e6e51dcc h12 | omega)) (leI rfl (by first | exact q_246f9048f8 h13 | omega)) z21 h20 (TPc_fr hT h9 (by decide +kernel))) (by decide) (by decide) (fun v28 σ29 h27 => ?_)
        obtain ⟨h30, h31, z33, rfl, h32⟩ := h27
        have h34 := h32.2.2.2
        obtain rfl : σ7 = σ29 := Fr_nil h31
        have h35 := h34
        refine En_put (j := 1) rfl rfl rfl tgz_3 (by decide +kernel) rfl (vI (l := 0) (u := 4) (by decide +kernel) rfl (by first | exact q_ef1e8e38bf h32.1 | omega) (by first | exact q_3b0dd79e8e h32.2.1 | omega)) h8 h9 (by decide +kernel) (fun σ36 h37 h38 h39 h40 => ?_)
        refine En_Ps 2 (pc' := 67) (lv' := [(0, .ref 3)]) (st' := [.int ((Int32.ofInt 0)), .ref 3]) rfl ?_
        have := fullI ((Int32.ofInt 0))
        refine En_put (j := 4) rfl rfl rfl tgz_3 (by decide +kernel) rfl (vI (l := (-2147483648)) (u := 1000000) (by decide +kernel) (by decide : (Int32.ofInt 0).toInt = 0) (by decide) (by decide)) h37 h38 (by decide +kernel) (fun σ41 h42 h43 h44 h45 => ?_)
        refine En_Ps 2 (pc' := 72) (lv' := [(0, .ref 3)]) (st' := [.ref 3, .ref 3]) rfl ?_
        refine En_getK (j := 2) ((h45 _ _ (Or.inr (by decide))).trans ((h40 _ _ (Or.inr (by decide))).trans h11)) rfl rfl rfl tgz_3 (by decide +kernel) ?_
        refine En_put (j := 3) rfl rfl rfl tgz_3 (by decide +kernel) rfl (vI (l := 0) (u := 1600) (by decide +kernel) rfl (by first | exact q_58e6e51dcc h12 | omega) (by first | exact q_246f9048f8 h13 | omega)) h42 h43 (by decide +kernel) (fun σ46 h47 h48 h49 h50 => ?_)
        refine En_Ps 1 (pc' := 79) (lv' := [(0, .ref 3)]) (st' := [.ref 3]) rfl ?_
        refine En_getK (j := 1) ((h50 _ _ (Or.inr (by decide))).trans ((h45 _ _ (Or.inr (by decide))).trans h39)) rfl rfl rfl tgz_3 (by decide +kernel) ?_
        refine En_Ps 1 (pc' := 83) (lv' := [(0, .ref 3)]) (st' := [.int ((Int32.ofInt 3)), .int z33]) rfl ?_
        refine En_icEq _ rfl (by decide : (Int32.ofInt 3).toInt = 3) rfl (fun hx => by exfalso; have := Imp_m h32.2.2.1 (by omega); omega) (fun h51 => ?_)
        refine En_Ps 1 (pc' := 87) (lv' := [(0, .ref 3)]) (st' := [.ref 3]) rfl ?_
        refine En_getK (j := 1) ((h50 _ _ (Or.inr (by decide))).trans ((h45 _ _ (Or.inr (by decide))).trans h39)) rfl rfl rfl tgz_3 (by decide +kernel) ?_
        refine En_Ps 1 (pc' := 91) (lv' := [(0, .ref 3)]) (st' := [.int ((Int32.ofInt 4)), .int z33]) rfl ?_
        refine En_icNe _ rfl (by decide : (Int32.ofInt 4).toInt = 4) rfl (fun h52 => ?_) (fun hx => by exfalso; have := Imp_m h32.2.2.1 (by omega); omega)
        have key104 : ∀ (n104 : Nat) (σ55 : SG) (y53 : Int32) (y54 : Int32), WT σ55 → Fr [(3, 1), (3, 2), (3, 3), (3, 4)] σ0 σ55 → (σ55 3)[2]? = some (.int y6) → (σ55 3)[0]? = some (.ref 1) → (σ55 1)[1]? = some (.int z21) → (σ55 3)[1]? = some (.int z33) → (σ55 3)[4]? = some (.int y53) → (σ55 3)[3]? = some (.int y54) → 0 ≤ y53.toInt → y53.toInt ≤ 1000000 → 0 ≤ y54.toInt → y54.toInt ≤ 1600 → 1600 - y54.toInt < (n104 : Int) → STL By Nb (z33.toInt) (y6.toInt) (y54.toInt) (y53.toInt) → y54.toInt ≤ 1600 → En 1 22 none mr_72 (P_72x σ0 By Nb p) 104 [(0, .ref 3)] [] σ55 := by
          intro n104
          induction n104 with
          | zero =>
            intro σ55 y53 y54 h56 h57 h58 h59 h60 h61 h62 h63 h64 h65 h66 h67 h68 h69 h70
            exfalso; omega
          | succ n104 ih104 =>
            intro σ55 y53 y54 h56 h57 h58 h59 h60 h61 h62 h63 h64 h65 h66 h67 h68 h69 h70
            refine En_Ps 1 (pc' := 105) (lv' := [(0, .ref 3)]) (st' := [.ref 3]) rfl ?_
            refine En_getK (j := 1) h61 rfl rfl rfl tgz_3 (by decide +kernel) ?_
            refine En_Ps 1 (pc' := 109) (lv' := [(0, .ref 3)]) (st' := [.int ((Int32.ofInt 1)), .int z33]) rfl ?_
            refine En_icEq _ rfl (by decide : (Int32.ofInt 1).toInt = 1) rfl (fun hx => by exfalso; have := Imp_m h32.2.2.1 (by omega); omega) (fun h71 => ?_)
            refine En_Ps 1 (pc' := 113) (lv' := [(0, .ref 3)]) (st' := [.ref 3]) rfl ?_
            refine En_getK (j := 1) h61 rfl rfl rfl tgz_3 (by decide +kernel) ?_
            refine En_Ps 1 (pc' := 117) (lv' := [(0, .ref 3)]) (st' := [.int ((Int32.ofInt 2)), .int z33]) rfl ?_
            refine En_icNe _ rfl (by decide : (Int32.ofInt 2).toInt = 2) rfl (fun h72 => ?_) (fun hx => by exfalso; have := Imp_m h32.2.2.1 (by omega); omega)
            have h73 := Nb_c (TPc_fr hT h57 (by decide +kernel)) h60
            have h74 := kA_ge (By := By) (Nb := Nb) (i := y54.toInt)
            exact En_ret (v := none) rfl rfl rfl ⟨h56, h57, rfl, ⟨(TPc_fr hT h57 (by decide +kernel)), TKc_of (y := y6.toInt) (k := z33.toInt) (e := y54.toInt) (by omega) hf h26 (by omega) (STL_x h69 (by omega) (by omega)) ((ci_at (j := 3) h63 rfl)) ((ci_at (j := 2) h58 rfl)) ((ci_at (j := 1) h61 rfl)) (fun zz => ((ci_at (j := 4) h62 rfl)).trans (h69.2.1 zz))⟩⟩
        have := (by decide : (Int32.ofInt 0).toInt = 0)
        exact key104 (Int.toNat (1600 - y6.toInt) + 1) σ46 ((Int32.ofInt 0)) y6 h47 h48 ((h50 _ _ (Or.inr (by decide))).trans ((h45 _ _ (Or.inr (by decide))).trans ((h40 _ _ (Or.inr (by decide))).trans h11))) ((h50 _ _ (Or.inr (by decide))).trans ((h45 _ _ (Or.inr (by decide))).trans ((h40 _ _ (Or.inr (by decide))).trans h18))) ((h50 _ _ (Or.inr (by decide))).trans ((h45 _ _ (Or.inr (by decide))).trans ((h40 _ _ (Or.inl (neTG tgz_1 tgz_3 (by decide)))).trans h20))) ((h50 _ _ (Or.inr (by decide))).trans ((h45 _ _ (Or.inr (by decide))).trans h39)) ((h50 _ _ (Or.inr (by decide))).trans h44) h49 (by decide) (by decide) (by first | exact q_58e6e51dcc h12 | omega) (by first | exact q_246f9048f8 h13 | omega) (by omega) (STL_0 (by omega)) (by omega)
      · refine En_Ps 1 (pc' := 23) (lv' := [(0, .ref 3)]) (st' := [.ref 3]) rfl ?_
        refine En_getK (j := 0) h18 rfl rfl rfl tgz_3 (by decide +kernel) ?_
        refine En_getU (j := 0) (u := 2) (g' := 2) (q := 0) rfl rfl rfl tgz_1 (by decide +kernel) h8 (by decide +kernel) (by decide +kernel) (fun h75 => ?_)
        refine En_Ps 1 (pc' := 30) (lv' := [(0, .ref 3)]) (st' := [.ref 3, .ref 2]) rfl ?_
        refine En_getK (j := 2) h11 rfl rfl rfl tgz_3 (by decide +kernel) ?_
        refine En_bald (l := (-128)) (u := 127) rfl rfl tgz_2 (by decide +kernel) h8 (by first | exact q_58e6e51dcc h12 | omega) (lnI (by decide +kernel : LN _ = 1600) (by first | exact q_dde7d71509 h24 h23 | omega)) (FTsgl (by decide +kernel)) (fun z78 h77 h79 h80 => ?_)
        refine En_callS rfl rfl rfl rfl rfl rfl rfl rfl rfl (c_56x σ7 h8 z78 (geI rfl (by first | exact q_2d836ce3e1 h79 | omega)) (leI rfl (by first | exact q_a18ee2e349 h80 | omega))) (by decide) (by decide) (fun v82 σ83 h81 => ?_)
        obtain ⟨h84, h85, z87, rfl, h86⟩ := h81
        have h88 := h86.2.2.2
        obtain rfl : σ7 = σ83 := Fr_nil h85
        have h89 := By_c (i := y6.toInt) (TPc_fr hT h9 (by decide +kernel)) h20 (by omega) (by omega) h77
        have h90 := h88
        refine En_iEq _ rfl rfl (fun h91 => ?_) (fun h91 => ?_)
        · have h92 := Nb_c (TPc_fr hT h9 (by decide +kernel)) h20
          have h93 : tS By Nb p.toInt = y6.toInt := BLc_no h16 (by omega)
          refine En_Ps 3 (pc' := 56) (lv' := [(0, .ref 3)]) (st' := [.ref 3, .ref 3, .ref 3]) rfl ?_
          refine En_getK (j := 2) h11 rfl rfl rfl tgz_3 (by decide +kernel) ?_
          refine En_callV rfl rfl rfl rfl rfl rfl rfl rfl tgz_3 (by decide +kernel) rfl (c_57x σ7 h8 y6 (geI rfl (by first | exact q_58e6e51dcc h12 | omega)) (leI rfl (by first | exact q_246f9048f8 h13 | omega)) z21 h20 (TPc_fr hT h9 (by decide +kernel))) (by decide) (by decide) (fun v95 σ96 h94 => ?_)
          obtain ⟨h97, h98, z100, rfl, h99⟩ := h94
          have h101 := h99.2.2.2
          obtain rfl : σ7 = σ96 := Fr_nil h98
          have h102 := h101
          refine En_put (j := 1) rfl rfl rfl tgz_3 (by decide +kernel) rfl (vI (l := 0) (u := 4) (by decide +kernel) rfl (by first | exact q_ef1e8e38bf h99.1 | omega) (by first | exact q_3b0dd79e8e h99.2.1 | omega)) h8 h9 (by decide +kernel) (fun σ103 h104 h105 h106 h107 => ?_)
          refine En_Ps 2 (pc' := 67) (lv' := [(0, .ref 3)]) (st' := [.int ((Int32.ofInt 0)), .ref 3]) rfl ?_
          have := fullI ((Int32.ofInt 0))
          refine En_put (j := 4) rfl rfl rfl tgz_3 (by decide +kernel) rfl (vI (l := (-2147483648)) (u := 1000000) (by decide +kernel) (by decide : (Int32.ofInt 0).toInt = 0) (by decide) (by decide)) h104 h105 (by decide +kernel) (fun σ108 h109 h110 h111 h112 => ?_)
          refine En_Ps 2 (pc' := 72) (lv' := [(0, .ref 3)]) (st' := [.ref 3, .ref 3]) rfl ?_
          refine En_getK (j := 2) ((h112 _ _ (Or.inr (by decide))).trans ((h107 _ _ (Or.inr (by decide))).trans h11)) rfl rfl rfl tgz_3 (by decide +kernel) ?_
          refine En_put (j := 3) rfl rfl rfl tgz_3 (by decide +kernel) rfl (vI (l := 0) (u := 1600) (by decide +kernel) rfl (by first | exact q_58e6e51dcc h12 | omega) (by first | exact q_246f9048f8 h13 | omega)) h109 h110 (by decide +kernel) (fun σ113 h114 h115 h116 h117 => ?_)
          refine En_Ps 1 (pc' := 79) (lv' := [(0, .ref 3)]) (st' := [.ref 3]) rfl ?_
          refine En_getK (j := 1) ((h117 _ _ (Or.inr (by decide))).trans ((h112 _ _ (Or.inr (by decide))).trans h106)) rfl rfl rfl tgz_3 (by decide +kernel) ?_
          refine En_Ps 1 (pc' := 83) (lv' := [(0, .ref 3)]) (st' := [.int ((Int32.ofInt 3)), .int z100]) rfl ?_
          refine En_icEq _ rfl (by decide : (Int32.ofInt 3).toInt = 3) rfl (fun h118 => ?_) (fun h118 => ?_)
          · have h119 := Imp_m h99.2.2.1 (by first | exact q_e843bd7aad h118 | omega)
            refine En_Ps 2 (pc' := 96) (lv' := [(0, .ref 3)]) (st' := [.ref 3, .ref 3]) rfl ?_
            refine En_getK (j := 3) h116 rfl rfl rfl tgz_3 (by decide +kernel) ?_
            refine En_Ps 2 (pc' := 101) (lv' := [(0, .ref 3)]) (st' := [.int ((y6 + ((Int32.ofInt 1)))), .ref 3]) rfl ?_
            refine En_top (addI rfl (by decide : (Int32.ofInt 1).toInt = 1) (by first | exact q_465ab79ac1 h12 | omega) (by first | exact q_1c9c6c18a7 h13 | omega)) (fun z120 h121 => ?_)
            refine En_put (j := 3) rfl rfl rfl tgz_3 (by decide +kernel) rfl (vI (l := 0) (u := 1600) (by decide +kernel) rfl (by first | exact q_35104ce9d3 h121 h12 | omega) (by first | exact q_ad9a5f3bc2 h121 h24 h23 | omega)) h114 h115 (by decide +kernel) (fun σ122 h123 h124 h125 h126 => ?_)
            have key104 : ∀ (n104 : Nat) (σ129 : SG) (y127 : Int32) (y128 : Int32), WT σ129 → Fr [(3, 1), (3, 2), (3, 3), (3, 4)] σ0 σ129 → (σ129 3)[2]? = some (.int y6) → (σ129 3)[0]? = some (.ref 1) → (σ129 1)[1]? = some (.int z21) → (σ129 1)[0]? = some (.ref 2) → (σ129 2)[(y6.toInt).toNat]? = some (.int z78) → (σ129 3)[1]? = some (.int z100) → (σ129 3)[4]? = some (.int y127) → (σ129 3)[3]? = some (.int y128) → 0 ≤ y127.toInt → y127.toInt ≤ 1000000 → 0 ≤ y128.toInt → y128.toInt ≤ 1600 → 1600 - y128.toInt < (n104 : Int) → STL By Nb (z100.toInt) (y6.toInt) (y128.toInt) (y127.toInt) → y128.toInt ≤ 1600 → En 1 22 none mr_72 (P_72x σ0 By Nb p) 104 [(0, .ref 3)] [] σ129 := by
              intro n104
              induction n104 with
              | zero =>
                intro σ129 y127 y128 h130 h131 h132 h133 h134 h135 h136 h137 h138 h139 h140 h141 h142 h143 h144 h145 h146
                exfalso; omega
              | succ n104 ih104 =>
                intro σ129 y127 y128 h130 h131 h132 h133 h134 h135 h136 h137 h138 h139 h140 h141 h142 h143 h144 h145 h146
                refine En_Ps 1 (pc' := 105) (lv' := [(0, .ref 3)]) (st' := [.ref 3]) rfl ?_
                refine En_getK (j := 1) h137 rfl rfl rfl tgz_3 (by decide +kernel) ?_
                refine En_Ps 1 (pc' := 109) (lv' := [(0, .ref 3)]) (st' := [.int ((Int32.ofInt 1)), .int z100]) rfl ?_
                refine En_icEq _ rfl (by decide : (Int32.ofInt 1).toInt = 1) rfl (fun hx => by first | exact (q_5098fe9510 h118 hx).elim | (exfalso; omega)) (fun h147 => ?_)
                refine En_Ps 1 (pc' := 113) (lv' := [(0, .ref 3)]) (st' := [.ref 3]) rfl ?_
                refine En_getK (j := 1) h137 rfl rfl rfl tgz_3 (by decide +kernel) ?_
                refine En_Ps 1 (pc' := 117) (lv' := [(0, .ref 3)]) (st' := [.int ((Int32.ofInt 2)), .int z100]) rfl ?_
                refine En_icNe _ rfl (by decide : (Int32.ofInt 2).toInt = 2) rfl (fun h148 => ?_) (fun hx => by first | exact (q_fcd27edbae h118 hx).elim | (exfalso; omega))
                have h149 := Nb_c (TPc_fr hT h131 (by decide +kernel)) h134
                have h150 := kA_ge (By := By) (Nb := Nb) (i := y128.toInt)
                exact En_ret (v := none) rfl rfl rfl ⟨h130, h131, rfl, ⟨(TPc_fr hT h131 (by decide +kernel)), TKc_of (y := y6.toInt) (k := z100.toInt) (e := y128.toInt) (by omega) hf h93 (by omega) (STL_x h145 (by omega) (by omega)) ((ci_at (j := 3) h139 rfl)) ((ci_at (j := 2) h132 rfl)) ((ci_at (j := 1) h137 rfl)) (fun zz => ((ci_at (j := 4) h138 rfl)).trans (h145.2.1 zz))⟩⟩
            have := (by decide : (Int32.ofInt 0).toInt = 0)
            exact key104 (Int.toNat (1600 - z120.toInt) + 1) σ122 ((Int32.ofInt 0)) z120 h123 h124 ((h126 _ _ (Or.inr (by decide))).trans ((h117 _ _ (Or.inr (by decide))).trans ((h112 _ _ (Or.inr (by decide))).trans ((h107 _ _ (Or.inr (by decide))).trans h11)))) ((h126 _ _ (Or.inr (by decide))).trans ((h117 _ _ (Or.inr (by decide))).trans ((h112 _ _ (Or.inr (by decide))).trans ((h107 _ _ (Or.inr (by decide))).trans h18)))) ((h126 _ _ (Or.inr (by decide))).trans ((h117 _ _ (Or.inr (by decide))).trans ((h112 _ _ (Or.inr (by decide))).trans ((h107 _ _ (Or.inl (neTG tgz_1 tgz_3 (by decide)))).trans h20)))) ((h126 _ _ (Or.inr (by decide))).trans ((h117 _ _ (Or.inr (by decide))).trans ((h112 _ _ (Or.inr (by decide))).trans ((h107 _ _ (Or.inr (by decide))).trans h75)))) ((h126 _ _ (Or.inl (neTG tgz_2 tgz_3 (by decide)))).trans ((h117 _ _ (Or.inl (neTG tgz_2 tgz_3 (by decide)))).trans ((h112 _ _ (Or.inl (neTG tgz_2 tgz_3 (by decide)))).trans ((h107 _ _ (Or.inl (neTG tgz_2 tgz_3 (by decide)))).trans h77)))) ((h126 _ _ (Or.inr (by decide))).trans ((h117 _ _ (Or.inr (by decide))).trans ((h112 _ _ (Or.inr (by decide))).trans h106))) ((h126 _ _ (Or.inr (by decide))).trans ((h117 _ _ (Or.inr (by decide))).trans h111)) h125 (by decide) (by decide) (by first | exact q_35104ce9d3 h121 h12 | omega) (by first | exact q_ad9a5f3bc2 h121 h24 h23 | omega) (by omega) (STL_0 (by omega)) (by omega)
          · refine En_Ps 1 (pc' := 87) (lv' := [(0, .ref 3)]) (st' := [.ref 3]) rfl ?_
            refine En_getK (j := 1) ((h117 _ _ (Or.inr (by decide))).trans ((h112 _ _ (Or.inr (by decide))).trans h106)) rfl rfl rfl tgz_3 (by decide +kernel) ?_
            refine En_Ps 1 (pc' := 91) (lv' := [(0, .ref 3)]) (st' := [.int ((Int32.ofInt 4)), .int z100]) rfl ?_
            refine En_icNe _ rfl (by decide : (Int32.ofInt 4).toInt = 4) rfl (fun h151 => ?_) (fun h151 => ?_)
            · have key104 : ∀ (n104 : Nat) (σ154 : SG) (y152 : Int32) (y153 : Int32), WT σ154 → Fr [(3, 1), (3, 2), (3, 3), (3, 4)] σ0 σ154 → (σ154 3)[2]? = some (.int y6) → (σ154 3)[0]? = some (.ref 1) → (σ154 1)[1]? = some (.int z21) → (σ154 1)[0]? = some (.ref 2) → (σ154 2)[(y6.toInt).toNat]? = some (.int z78) → (σ154 3)[1]? = some (.int z100) → (σ154 3)[4]? = some (.int y152) → (σ154 3)[3]? = some (.int y153) → 0 ≤ y152.toInt → y152.toInt ≤ 1000000 → 0 ≤ y153.toInt → y153.toInt ≤ 1600 → 1600 - y153.toInt < (n104 : Int) → STL By Nb (z100.toInt) (y6.toInt) (y153.toInt) (y152.toInt) → y153.toInt ≤ 1600 → En 1 22 none mr_72 (P_72x σ0 By Nb p) 104 [(0, .ref 3)] [] σ154 := by
                intro n104
                induction n104 with
                | zero =>
                  intro σ154 y152 y153 h155 h156 h157 h158 h159 h160 h161 h162 h163 h164 h165 h166 h167 h168 h169 h170 h171
                  exfalso; omega
                | succ n104 ih104 =>
                  intro σ154 y152 y153 h155 h156 h157 h158 h159 h160 h161 h162 h163 h164 h165 h166 h167 h168 h169 h170 h171
                  refine En_Ps 1 (pc' := 105) (lv' := [(0, .ref 3)]) (st' := [.ref 3]) rfl ?_
                  refine En_getK (j := 1) h162 rfl rfl rfl tgz_3 (by decide +kernel) ?_
                  refine En_Ps 1 (pc' := 109) (lv' := [(0, .ref 3)]) (st' := [.int ((Int32.ofInt 1)), .int z100]) rfl ?_
                  refine En_icEq _ rfl (by decide : (Int32.ofInt 1).toInt = 1) rfl (fun h172 => ?_) (fun h172 => ?_)
                  · have h173 := Imp_m h99.2.2.1 (by first | exact q_a439be255a h172 | omega)
                    refine En_Ps 1 (pc' := 121) (lv' := [(0, .ref 3)]) (st' := [.ref 3]) rfl ?_
                    refine En_getK (j := 3) h164 rfl rfl rfl tgz_3 (by decide +kernel) ?_
                    refine En_Ps 1 (pc' := 125) (lv' := [(0, .ref 3)]) (st' := [.ref 3, .int y153]) rfl ?_
                    refine En_getK (j := 0) h158 rfl rfl rfl tgz_3 (by decide +kernel) ?_
                    refine En_getK (j := 1) h159 rfl rfl rfl tgz_1 (by decide +kernel) ?_
                    refine En_icGe _ rfl rfl rfl (fun h174 => ?_) (fun h174 => ?_)
                    · have h175 := Nb_c (TPc_fr hT h156 (by decide +kernel)) h159
                      have h176 := kA_ge (By := By) (Nb := Nb) (i := y153.toInt)
                      exact En_ret (v := none) rfl rfl rfl ⟨h155, h156, rfl, ⟨(TPc_fr hT h156 (by decide +kernel)), TKc_of (y := y6.toInt) (k := z100.toInt) (e := y153.toInt) (by omega) hf h93 (by omega) (STL_x h170 (by omega) (by omega)) ((ci_at (j := 3) h164 rfl)) ((ci_at (j := 2) h157 rfl)) ((ci_at (j := 1) h162 rfl)) (fun zz => ((ci_at (j := 4) h163 rfl)).trans (h170.2.1 zz))⟩⟩
                    · refine En_Ps 2 (pc' := 136) (lv' := [(0, .ref 3)]) (st' := [.ref 3, .ref 3]) rfl ?_
                      refine En_getK (j := 3) h164 rfl rfl rfl tgz_3 (by decide +kernel) ?_
                      refine En_callV rfl rfl rfl rfl rfl rfl rfl rfl tgz_3 (by decide +kernel) rfl (c_57x σ154 h155 y153 (geI rfl (by first | exact q_58e6e51dcc h167 | omega)) (leI rfl (by first | exact q_246f9048f8 h168 | omega)) z21 h159 (TPc_fr hT h156 (by decide +kernel))) (by decide) (by decide) (fun v178 σ179 h177 => ?_)
                      obtain ⟨h180, h181, z183, rfl, h182⟩ := h177
                      have h184 := h182.2.2.2
                      obtain rfl : σ154 = σ179 := Fr_nil h181
                      have h185 := h184
                      refine En_Ps 1 (pc' := 143) (lv' := [(0, .ref 3)]) (st' := [.ref 3, .int z183]) rfl ?_
                      refine En_getK (j := 1) h162 rfl rfl rfl tgz_3 (by decide +kernel) ?_
                      refine En_icNe _ rfl rfl rfl (fun h186 => ?_) (fun h186 => ?_)
                      · have h187 := Nb_c (TPc_fr hT h156 (by decide +kernel)) h159
                        have h188 := kA_ge (By := By) (Nb := Nb) (i := y153.toInt)
                        exact En_ret (v := none) rfl rfl rfl ⟨h155, h156, rfl, ⟨(TPc_fr hT h156 (by decide +kernel)), TKc_of (y := y6.toInt) (k := z100.toInt) (e := y153.toInt) (by omega) hf h93 (by omega) (STL_x h170 (by omega) (by omega)) ((ci_at (j := 3) h164 rfl)) ((ci_at (j := 2) h157 rfl)) ((ci_at (j := 1) h162 rfl)) (fun zz => ((ci_at (j := 4) h163 rfl)).trans (h170.2.1 zz))⟩⟩
                      · have h189 := Imp_m h182.2.2.1 (by first | exact q_05a4ec538e h186 h172 | omega)
                        refine En_Ps 1 (pc' := 150) (lv' := [(0, .ref 3)]) (st' := [.ref 3]) rfl ?_
                        refine En_getK (j := 1) h162 rfl rfl rfl tgz_3 (by decide +kernel) ?_
                        refine En_Ps 1 (pc' := 154) (lv' := [(0, .ref 3)]) (st' := [.int ((Int32.ofInt 2)), .int z100]) rfl ?_
                        refine En_icNe _ rfl (by decide : (Int32.ofInt 2).toInt = 2) rfl (fun h190 => ?_) (fun hx => by first | exact (q_561217d961 hx h172).elim | (exfalso; omega))
                        have h191 : z100.toInt = 2 → y152.toInt = min 1000000 (10 * y152.toInt + By (y153.toInt) - 48) := fun zz => by omega
                        refine En_Ps 2 (pc' := 191) (lv' := [(0, .ref 3)]) (st' := [.ref 3, .ref 3]) rfl ?_
                        refine En_getK (j := 3) h164 rfl rfl rfl tgz_3 (by decide +kernel) ?_
                        refine En_Ps 2 (pc' := 196) (lv' := [(0, .ref 3)]) (st' := [.int ((y153 + ((Int32.ofInt 1)))), .ref 3]) rfl ?_
                        refine En_top (addI rfl (by decide : (Int32.ofInt 1).toInt = 1) (by first | exact q_465ab79ac1 h167 | omega) (by first | exact q_1c9c6c18a7 h168 | omega)) (fun z192 h193 => ?_)
                        refine En_put (j := 3) rfl rfl rfl tgz_3 (by decide +kernel) rfl (vI (l := 0) (u := 1600) (by decide +kernel) rfl (by first | exact q_35104ce9d3 h193 h167 | omega) (by first | exact q_ad9a5f3bc2 h193 h174 h23 | omega)) h155 h156 (by decide +kernel) (fun σ194 h195 h196 h197 h198 => ?_)
                        refine En_Ps 1 (pc' := 104) (lv' := [(0, .ref 3)]) (st' := []) rfl ?_
                        exact ih104 σ194 y152 z192 h195 h196 ((h198 _ _ (Or.inr (by decide))).trans h157) ((h198 _ _ (Or.inr (by decide))).trans h158) ((h198 _ _ (Or.inr (by decide))).trans h159) ((h198 _ _ (Or.inr (by decide))).trans h160) ((h198 _ _ (Or.inl (neTG tgz_2 tgz_3 (by decide)))).trans h161) ((h198 _ _ (Or.inr (by decide))).trans h162) ((h198 _ _ (Or.inr (by decide))).trans h163) h197 (by first | exact q_58e6e51dcc h165 | omega) (by first | exact q_2507c1a77a h166 | omega) (by first | exact q_35104ce9d3 h193 h167 | omega) (by first | exact q_ad9a5f3bc2 h193 h174 h23 | omega) (by omega) (STL_s (e := y153.toInt) h170 (by omega) (by omega) (by omega) (fun zz => h191 zz)) (by omega)
                  · refine En_Ps 1 (pc' := 113) (lv' := [(0, .ref 3)]) (st' := [.ref 3]) rfl ?_
                    refine En_getK (j := 1) h162 rfl rfl rfl tgz_3 (by decide +kernel) ?_
                    refine En_Ps 1 (pc' := 117) (lv' := [(0, .ref 3)]) (st' := [.int ((Int32.ofInt 2)), .int z100]) rfl ?_
                    refine En_icNe _ rfl (by decide : (Int32.ofInt 2).toInt = 2) rfl (fun h199 => ?_) (fun h199 => ?_)
                    · have h200 := Nb_c (TPc_fr hT h156 (by decide +kernel)) h159
                      have h201 := kA_ge (By := By) (Nb := Nb) (i := y153.toInt)
                      exact En_ret (v := none) rfl rfl rfl ⟨h155, h156, rfl, ⟨(TPc_fr hT h156 (by decide +kernel)), TKc_of (y := y6.toInt) (k := z100.toInt) (e := y153.toInt) (by omega) hf h93 (by omega) (STL_x h170 (by omega) (by omega)) ((ci_at (j := 3) h164 rfl)) ((ci_at (j := 2) h157 rfl)) ((ci_at (j := 1) h162 rfl)) (fun zz => ((ci_at (j := 4) h163 rfl)).trans (h170.2.1 zz))⟩⟩
                    · have h202 := Imp_m h99.2.2.1 (by first | exact q_dc003f84d1 h199 | omega)
                      refine En_Ps 1 (pc' := 121) (lv' := [(0, .ref 3)]) (st' := [.ref 3]) rfl ?_
                      refine En_getK (j := 3) h164 rfl rfl rfl tgz_3 (by decide +kernel) ?_
                      refine En_Ps 1 (pc' := 125) (lv' := [(0, .ref 3)]) (st' := [.ref 3, .int y153]) rfl ?_
                      refine En_getK (j := 0) h158 rfl rfl rfl tgz_3 (by decide +kernel) ?_
                      refine En_getK (j := 1) h159 rfl rfl rfl tgz_1 (by decide +kernel) ?_
                      refine En_icGe _ rfl rfl rfl (fun h203 => ?_) (fun h203 => ?_)
                      · have h204 := Nb_c (TPc_fr hT h156 (by decide +kernel)) h159
                        have h205 := kA_ge (By := By) (Nb := Nb) (i := y153.toInt)
                        exact En_ret (v := none) rfl rfl rfl ⟨h155, h156, rfl, ⟨(TPc_fr hT h156 (by decide +kernel)), TKc_of (y := y6.toInt) (k := z100.toInt) (e := y153.toInt) (by omega) hf h93 (by omega) (STL_x h170 (by omega) (by omega)) ((ci_at (j := 3) h164 rfl)) ((ci_at (j := 2) h157 rfl)) ((ci_at (j := 1) h162 rfl)) (fun zz => ((ci_at (j := 4) h163 rfl)).trans (h170.2.1 zz))⟩⟩
                      · refine En_Ps 2 (pc' := 136) (lv' := [(0, .ref 3)]) (st' := [.ref 3, .ref 3]) rfl ?_
                        refine En_getK (j := 3) h164 rfl rfl rfl tgz_3 (by decide +kernel) ?_
                        refine En_callV rfl rfl rfl rfl rfl rfl rfl rfl tgz_3 (by decide +kernel) rfl (c_57x σ154 h155 y153 (geI rfl (by first | exact q_58e6e51dcc h167 | omega)) (leI rfl (by first | exact q_246f9048f8 h168 | omega)) z21 h159 (TPc_fr hT h156 (by decide +kernel))) (by decide) (by decide) (fun v207 σ208 h206 => ?_)
                        obtain ⟨h209, h210, z212, rfl, h211⟩ := h206
                        have h213 := h211.2.2.2
                        obtain rfl : σ154 = σ208 := Fr_nil h210
                        have h214 := h213
                        refine En_Ps 1 (pc' := 143) (lv' := [(0, .ref 3)]) (st' := [.ref 3, .int z212]) rfl ?_
                        refine En_getK (j := 1) h162 rfl rfl rfl tgz_3 (by decide +kernel) ?_
                        refine En_icNe _ rfl rfl rfl (fun h215 => ?_) (fun h215 => ?_)
                        · have h216 := Nb_c (TPc_fr hT h156 (by decide +kernel)) h159
                          have h217 := kA_ge (By := By) (Nb := Nb) (i := y153.toInt)
                          exact En_ret (v := none) rfl rfl rfl ⟨h155, h156, rfl, ⟨(TPc_fr hT h156 (by decide +kernel)), TKc_of (y := y6.toInt) (k := z100.toInt) (e := y153.toInt) (by omega) hf h93 (by omega) (STL_x h170 (by omega) (by omega)) ((ci_at (j := 3) h164 rfl)) ((ci_at (j := 2) h157 rfl)) ((ci_at (j := 1) h162 rfl)) (fun zz => ((ci_at (j := 4) h163 rfl)).trans (h170.2.1 zz))⟩⟩
                        · have h218 := Imp_m h211.2.2.1 (by first | exact q_07cb94ee96 h215 h199 | omega)
                          refine En_Ps 1 (pc' := 150) (lv' := [(0, .ref 3)]) (st' := [.ref 3]) rfl ?_
                          refine En_getK (j := 1) h162 rfl rfl rfl tgz_3 (by decide +kernel) ?_
                          refine En_Ps 1 (pc' := 154) (lv' := [(0, .ref 3)]) (st' := [.int ((Int32.ofInt 2)), .int z100]) rfl ?_
                          refine En_icNe _ rfl (by decide : (Int32.ofInt 2).toInt = 2) rfl (fun hx => by first | exact (q_d5d2ccb19c h199 hx).elim | (exfalso; omega)) (fun h219 => ?_)
                          refine En_Ps 3 (pc' := 161) (lv' := [(0, .ref 3)]) (st' := [.ref 3, .int (((Int8.ofInt 10).toInt32)), .ref 3]) rfl ?_
                          refine En_getK (j := 4) h163 rfl rfl rfl tgz_3 (by decide +kernel) ?_
                          refine En_Ps 1 (pc' := 165) (lv' := [(0, .ref 3)]) (st' := [.int (((((Int8.ofInt 10).toInt32)) * y152)), .ref 3]) rfl ?_
                          refine En_top (mulI (by decide : ((Int8.ofInt 10).toInt32).toInt = 10) rfl (Z := 10 * y152.toInt) (by first | exact q_9f72b99036 | omega) (by first | exact q_66aa5f5af3 h165 | omega) (by first | exact q_f11460079f h166 | omega)) (fun z220 h221 => ?_)
                          refine En_Ps 1 (pc' := 166) (lv' := [(0, .ref 3)]) (st' := [.ref 3, .int z220, .ref 3]) rfl ?_
                          refine En_getK (j := 0) h158 rfl rfl rfl tgz_3 (by decide +kernel) ?_
                          refine En_getK (j := 0) h160 rfl rfl rfl tgz_1 (by decide +kernel) ?_
                          refine En_Ps 1 (pc' := 173) (lv' := [(0, .ref 3)]) (st' := [.ref 3, .ref 2, .int z220, .ref 3]) rfl ?_
                          refine En_getK (j := 3) h164 rfl rfl rfl tgz_3 (by decide +kernel) ?_
                          refine En_bald (l := (-128)) (u := 127) rfl rfl tgz_2 (by decide +kernel) h155 (by first | exact q_58e6e51dcc h167 | omega) (lnI (by decide +kernel : LN _ = 1600) (by first | exact q_dde7d71509 h203 h23 | omega)) (FTsgl (by decide +kernel)) (fun z223 h222 h224 h225 => ?_)
                          have h226 := kA_c (i := y153.toInt) (TPc_fr hT h156 (by decide +kernel)) h159 (fun _ => h222) (by omega)
                          refine En_Ps 1 (pc' := 178) (lv' := [(0, .ref 3)]) (st' := [.int ((z220 + z223)), .ref 3]) rfl ?_
                          refine En_top (addI rfl rfl (by first | exact q_0908e1ebf2 h221 h224 h165 | omega) (by first | exact q_ab63a7cdb5 h221 h225 h166 | omega)) (fun z227 h228 => ?_)
                          refine En_Ps 2 (pc' := 181) (lv' := [(0, .ref 3)]) (st' := [.int ((z227 - (((Int8.ofInt 48).toInt32)))), .ref 3]) rfl ?_
                          refine En_top (subI rfl (by decide : ((Int8.ofInt 48).toInt32).toInt = 48) (by first | exact q_2fda172f3e h228 h221 h224 h165 | omega) (by first | exact q_08fe8bd518 h228 h221 h225 h166 | omega)) (fun z229 h230 => ?_)
                          refine En_Ps 1 (pc' := 183) (lv' := [(0, .ref 3)]) (st' := [.int ((1000000 : Int32)), .int z229, .ref 3]) rfl ?_
                          have := (by decide : ((1000000 : Int32)).toInt = 1000000)
                          refine En_callS rfl rfl rfl rfl rfl rfl rfl rfl rfl (c_11 σ154 h155 z229 ((1000000 : Int32))) (by decide) (by decide) (fun v232 σ233 h231 => ?_)
                          obtain ⟨h234, h235, z237, rfl, h236⟩ := h231
                          obtain rfl : σ154 = σ233 := Fr_nil h235
                          have := fullI z237
                          refine En_put (j := 4) rfl rfl rfl tgz_3 (by decide +kernel) rfl (vI (l := (-2147483648)) (u := 1000000) (by decide +kernel) rfl (by omega) (by omega)) h155 h156 (by decide +kernel) (fun σ238 h239 h240 h241 h242 => ?_)
                          have h244 := By_c (i := y153.toInt) (TPc_fr hT h240 (by decide +kernel)) ((h242 _ _ (Or.inr (by decide))).trans h159) (by omega) (by omega) ((h242 _ _ (Or.inl (neTG tgz_2 tgz_3 (by decide)))).trans h222)
                          have h243 : z100.toInt = 2 → z237.toInt = min 1000000 (10 * y152.toInt + By (y153.toInt) - 48) := fun zz => by omega
                          refine En_Ps 2 (pc' := 191) (lv' := [(0, .ref 3)]) (st' := [.ref 3, .ref 3]) rfl ?_
                          refine En_getK (j := 3) ((h242 _ _ (Or.inr (by decide))).trans h164) rfl rfl rfl tgz_3 (by decide +kernel) ?_
                          refine En_Ps 2 (pc' := 196) (lv' := [(0, .ref 3)]) (st' := [.int ((y153 + ((Int32.ofInt 1)))), .ref 3]) rfl ?_
                          refine En_top (addI rfl (by decide : (Int32.ofInt 1).toInt = 1) (by first | exact q_465ab79ac1 h167 | omega) (by first | exact q_1c9c6c18a7 h168 | omega)) (fun z245 h246 => ?_)
                          refine En_put (j := 3) rfl rfl rfl tgz_3 (by decide +kernel) rfl (vI (l := 0) (u := 1600) (by decide +kernel) rfl (by first | exact q_35104ce9d3 h246 h167 | omega) (by first | exact q_ad9a5f3bc2 h246 h203 h23 | omega)) h239 h240 (by decide +kernel) (fun σ247 h248 h249 h250 h251 => ?_)
                          refine En_Ps 1 (pc' := 104) (lv' := [(0, .ref 3)]) (st' := []) rfl ?_
                          exact ih104 σ247 z237 z245 h248 h249 ((h251 _ _ (Or.inr (by decide))).trans ((h242 _ _ (Or.inr (by decide))).trans h157)) ((h251 _ _ (Or.inr (by decide))).trans ((h242 _ _ (Or.inr (by decide))).trans h158)) ((h251 _ _ (Or.inr (by decide))).trans ((h242 _ _ (Or.inr (by decide))).trans h159)) ((h251 _ _ (Or.inr (by decide))).trans ((h242 _ _ (Or.inr (by decide))).trans h160)) ((h251 _ _ (Or.inl (neTG tgz_2 tgz_3 (by decide)))).trans ((h242 _ _ (Or.inl (neTG tgz_2 tgz_3 (by decide)))).trans h161)) ((h251 _ _ (Or.inr (by decide))).trans ((h242 _ _ (Or.inr (by decide))).trans h162)) ((h251 _ _ (Or.inr (by decide))).trans h241) h250 (by omega) (by omega) (by first | exact q_35104ce9d3 h246 h167 | omega) (by first | exact q_ad9a5f3bc2 h246 h203 h23 | omega) (by omega) (STL_s (e := y153.toInt) h170 (by omega) (by omega) (by omega) (fun zz => h243 zz)) (by omega)
              have := (by decide : (Int32.ofInt 0).toInt = 0)
              exact key104 (Int.toNat (1600 - y6.toInt) + 1) σ113 ((Int32.ofInt 0)) y6 h114 h115 ((h117 _ _ (Or.inr (by decide))).trans ((h112 _ _ (Or.inr (by decide))).trans ((h107 _ _ (Or.inr (by decide))).trans h11))) ((h117 _ _ (Or.inr (by decide))).trans ((h112 _ _ (Or.inr (by decide))).trans ((h107 _ _ (Or.inr (by decide))).trans h18))) ((h117 _ _ (Or.inr (by decide))).trans ((h112 _ _ (Or.inr (by decide))).trans ((h107 _ _ (Or.inl (neTG tgz_1 tgz_3 (by decide)))).trans h20))) ((h117 _ _ (Or.inr (by decide))).trans ((h112 _ _ (Or.inr (by decide))).trans ((h107 _ _ (Or.inr (by decide))).trans h75))) ((h117 _ _ (Or.inl (neTG tgz_2 tgz_3 (by decide)))).trans ((h112 _ _ (Or.inl (neTG tgz_2 tgz_3 (by decide)))).trans ((h107 _ _ (Or.inl (neTG tgz_2 tgz_3 (by decide)))).trans h77))) ((h117 _ _ (Or.inr (by decide))).trans ((h112 _ _ (Or.inr (by decide))).trans h106)) ((h117 _ _ (Or.inr (by decide))).trans h111) h116 (by decide) (by decide) (by first | exact q_58e6e51dcc h12 | omega) (by first | exact q_246f9048f8 h13 | omega) (by omega) (STL_0 (by omega)) (by omega)
            · have h252 := Imp_m h99.2.2.1 (by first | exact q_50239dc789 h151 | omega)
              refine En_Ps 2 (pc' := 96) (lv' := [(0, .ref 3)]) (st' := [.ref 3, .ref 3]) rfl ?_
              refine En_getK (j := 3) h116 rfl rfl rfl tgz_3 (by decide +kernel) ?_
              refine En_Ps 2 (pc' := 101) (lv' := [(0, .ref 3)]) (st' := [.int ((y6 + ((Int32.ofInt 1)))), .ref 3]) rfl ?_
              refine En_top (addI rfl (by decide : (Int32.ofInt 1).toInt = 1) (by first | exact q_465ab79ac1 h12 | omega) (by first | exact q_1c9c6c18a7 h13 | omega)) (fun z253 h254 => ?_)
              refine En_put (j := 3) rfl rfl rfl tgz_3 (by decide +kernel) rfl (vI (l := 0) (u := 1600) (by decide +kernel) rfl (by first | exact q_35104ce9d3 h254 h12 | omega) (by first | exact q_ad9a5f3bc2 h254 h24 h23 | omega)) h114 h115 (by decide +kernel) (fun σ255 h256 h257 h258 h259 => ?_)
              have key104 : ∀ (n104 : Nat) (σ262 : SG) (y260 : Int32) (y261 : Int32), WT σ262 → Fr [(3, 1), (3, 2), (3, 3), (3, 4)] σ0 σ262 → (σ262 3)[2]? = some (.int y6) → (σ262 3)[0]? = some (.ref 1) → (σ262 1)[1]? = some (.int z21) → (σ262 1)[0]? = some (.ref 2) → (σ262 2)[(y6.toInt).toNat]? = some (.int z78) → (σ262 3)[1]? = some (.int z100) → (σ262 3)[4]? = some (.int y260) → (σ262 3)[3]? = some (.int y261) → 0 ≤ y260.toInt → y260.toInt ≤ 1000000 → 0 ≤ y261.toInt → y261.toInt ≤ 1600 → 1600 - y261.toInt < (n104 : Int) → STL By Nb (z100.toInt) (y6.toInt) (y261.toInt) (y260.toInt) → y261.toInt ≤ 1600 → En 1 22 none mr_72 (P_72x σ0 By Nb p) 104 [(0, .ref 3)] [] σ262 := by
                intro n104
                induction n104 with
                | zero =>
                  intro σ262 y260 y261 h263 h264 h265 h266 h267 h268 h269 h270 h271 h272 h273 h274 h275 h276 h277 h278 h279
                  exfalso; omega
                | succ n104 ih104 =>
                  intro σ262 y260 y261 h263 h264 h265 h266 h267 h268 h269 h270 h271 h272 h273 h274 h275 h276 h277 h278 h279
                  refine En_Ps 1 (pc' := 105) (lv' := [(0, .ref 3)]) (st' := [.ref 3]) rfl ?_
                  refine En_getK (j := 1) h270 rfl rfl rfl tgz_3 (by decide +kernel) ?_
                  refine En_Ps 1 (pc' := 109) (lv' := [(0, .ref 3)]) (st' := [.int ((Int32.ofInt 1)), .int z100]) rfl ?_
                  refine En_icEq _ rfl (by decide : (Int32.ofInt 1).toInt = 1) rfl (fun hx => by first | exact (q_976dd12763 h151 hx).elim | (exfalso; omega)) (fun h280 => ?_)
                  refine En_Ps 1 (pc' := 113) (lv' := [(0, .ref 3)]) (st' := [.ref 3]) rfl ?_
                  refine En_getK (j := 1) h270 rfl rfl rfl tgz_3 (by decide +kernel) ?_
                  refine En_Ps 1 (pc' := 117) (lv' := [(0, .ref 3)]) (st' := [.int ((Int32.ofInt 2)), .int z100]) rfl ?_
                  refine En_icNe _ rfl (by decide : (Int32.ofInt 2).toInt = 2) rfl (fun h281 => ?_) (fun hx => by first | exact (q_683ea544d9 h151 hx).elim | (exfalso; omega))
                  have h282 := Nb_c (TPc_fr hT h264 (by decide +kernel)) h267
                  have h283 := kA_ge (By := By) (Nb := Nb) (i := y261.toInt)
                  exact En_ret (v := none) rfl rfl rfl ⟨h263, h264, rfl, ⟨(TPc_fr hT h264 (by decide +kernel)), TKc_of (y := y6.toInt) (k := z100.toInt) (e := y261.toInt) (by omega) hf h93 (by omega) (STL_x h278 (by omega) (by omega)) ((ci_at (j := 3) h272 rfl)) ((ci_at (j := 2) h265 rfl)) ((ci_at (j := 1) h270 rfl)) (fun zz => ((ci_at (j := 4) h271 rfl)).trans (h278.2.1 zz))⟩⟩
              have := (by decide : (Int32.ofInt 0).toInt = 0)
              exact key104 (Int.toNat (1600 - z253.toInt) + 1) σ255 ((Int32.ofInt 0)) z253 h256 h257 ((h259 _ _ (Or.inr (by decide))).trans ((h117 _ _ (Or.inr (by decide))).trans ((h112 _ _ (Or.inr (by decide))).trans ((h107 _ _ (Or.inr (by decide))).trans h11)))) ((h259 _ _ (Or.inr (by decide))).trans ((h117 _ _ (Or.inr (by decide))).trans ((h112 _ _ (Or.inr (by decide))).trans ((h107 _ _ (Or.inr (by decide))).trans h18)))) ((h259 _ _ (Or.inr (by decide))).trans ((h117 _ _ (Or.inr (by decide))).trans ((h112 _ _ (Or.inr (by decide))).trans ((h107 _ _ (Or.inl (neTG tgz_1 tgz_3 (by decide)))).trans h20)))) ((h259 _ _ (Or.inr (by decide))).trans ((h117 _ _ (Or.inr (by decide))).trans ((h112 _ _ (Or.inr (by decide))).trans ((h107 _ _ (Or.inr (by decide))).trans h75)))) ((h259 _ _ (Or.inl (neTG tgz_2 tgz_3 (by decide)))).trans ((h117 _ _ (Or.inl (neTG tgz_2 tgz_3 (by decide)))).trans ((h112 _ _ (Or.inl (neTG tgz_2 tgz_3 (by decide)))).trans ((h107 _ _ (Or.inl (neTG tgz_2 tgz_3 (by decide)))).trans h77)))) ((h259 _ _ (Or.inr (by decide))).trans ((h117 _ _ (Or.inr (by decide))).trans ((h112 _ _ (Or.inr (by decide))).trans h106))) ((h259 _ _ (Or.inr (by decide))).trans ((h117 _ _ (Or.inr (by decide))).trans h111)) h258 (by decide) (by decide) (by first | exact q_35104ce9d3 h254 h12 | omega) (by first | exact q_ad9a5f3bc2 h254 h24 h23 | omega) (by omega) (STL_0 (by omega)) (by omega)
        · have h284 := Imp_m h86.2.2.1 (by first | exact ⟨q_ad5b726bf8 h86.2.1, q_e3350da514 h91 h86.1⟩ | omega)
          refine En_Ps 2 (pc' := 42) (lv' := [(0, .ref 3)]) (st' := [.ref 3, .ref 3]) rfl ?_
          refine En_getK (j := 2) h11 rfl rfl rfl tgz_3 (by decide +kernel) ?_
          refine En_Ps 2 (pc' := 47) (lv' := [(0, .ref 3)]) (st' := [.int ((y6 + ((Int32.ofInt 1)))), .ref 3]) rfl ?_
          refine En_top (addI rfl (by decide : (Int32.ofInt 1).toInt = 1) (by first | exact q_465ab79ac1 h12 | omega) (by first | exact q_1c9c6c18a7 h13 | omega)) (fun z285 h286 => ?_)
          refine En_put (j := 2) rfl rfl rfl tgz_3 (by decide +kernel) rfl (vI (l := 0) (u := 1600) (by decide +kernel) rfl (by first | exact q_35104ce9d3 h286 h12 | omega) (by first | exact q_ad9a5f3bc2 h286 h24 h23 | omega)) h8 h9 (by decide +kernel) (fun σ287 h288 h289 h290 h291 => ?_)
          have h292 := BLc_go (y := y6.toInt) (z := z285.toInt) (by omega) (by omega) (by omega) h16
          refine En_Ps 1 (pc' := 8) (lv' := [(0, .ref 3)]) (st' := []) rfl ?_
          exact ih8 σ287 z285 h288 h289 ((h291 _ _ (Or.inr (by decide))).trans h10) h290 (by first | exact q_35104ce9d3 h286 h12 | omega) (by first | exact q_ad9a5f3bc2 h286 h24 h23 | omega) (by first | exact q_3a5e225620 h14 h286 | omega) (by first | exact q_98eaa778fc h286 h15 | omega) (h292.1) (h292.2)
  exact key8 (Int.toNat (-p.toInt + 1600) + 1) σ1 p h2 h3 ((h5 _ _ (Or.inr (by decide))).trans h_p) h4 (by first | exact q_58e6e51dcc hl_p | omega) (by first | exact q_246f9048f8 hu_p | omega) (by first | exact q_1bb76abeaf | omega) (by first | exact toN_lt _ | omega) (rfl) (hf)

