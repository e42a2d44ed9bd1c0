/-! 32.n01 -/
section
/-- DoorSchool$Plan.isKnock(I)Z -/
abbrev P_49x (σ0 : SG) (s : Nat) (a : Int32) (l : Int32) (sg : Int32) : PO := fun v σ => WT σ ∧ Fr [] σ0 σ ∧ ∃ ret : Int32, v = some (Value.int ret) ∧ -ret.toInt ≤ 0 ∧ ret.toInt - 1 ≤ 0 ∧ Imp (ret.toInt - 1 ≤ 0 ∧ -ret.toInt + 1 ≤ 0) (-a.toInt ≤ 0 ∧ a.toInt - 15 ≤ 0) ∧ ((ret.toInt = 1 ∧ 0 < l.toInt ∧ 0 ≤ a.toInt ∧ a.toInt < pI sg.toInt) ∨ (ret.toInt = 0 ∧ (l.toInt ≤ 0 ∨ a.toInt < 0 ∨ pI sg.toInt ≤ a.toInt)))
set_option maxRecDepth 10000 in
set_option maxHeartbeats 4000000 in
theorem c_49x (σ0 : SG) (hσ0 : WT σ0) (s : Nat) (hs : TG s = 18) (a : Int32) (l : Int32) (h_l : (σ0 s)[0]? = some (Value.int l)) (sg : Int32) (h_sg : (σ0 s)[1]? = some (Value.int sg)) (hp0 : -sg.toInt ≤ 0) : En 1 20 none mr_49 (P_49x σ0 s a l sg) 0 [(0, .ref s), (1, .int a)] [] σ0 := by
  obtain ⟨hl_l, hu_l⟩ := WT_int hσ0 (g := 18) hs (by decide +kernel) (l := 0) (u := 1601) (by decide +kernel) h_l
  obtain ⟨hl_sg, hu_sg⟩ := WT_int hσ0 (g := 18) hs (by decide +kernel) (l := (-1)) (u := 4) (by decide +kernel) h_sg
  have hF0 : Fr [] σ0 σ0 := Fr_rfl
  refine En_Ps 1 (pc' := 1) (lv' := [(0, .ref s), (1, .int a)]) (st' := [.ref s]) rfl ?_
  refine En_callV rfl rfl rfl rfl rfl rfl rfl rfl hs (by decide +kernel) rfl (c_43x σ0 hσ0 s hs l h_l) (by decide) (by decide) (fun v2 σ3 h1 => ?_)
  obtain ⟨h4, h5, z7, rfl, h6⟩ := h1
  have h8 := Fr_trans hF0 h5 (by decide +kernel)
  have h9 := Imp_m h6.2.2.1
  have h10 := Imp_m h6.2.2.2
  refine En_iEq _ rfl rfl (fun h11 => ?_) (fun h11 => ?_)
  · refine En_Ps 1 (pc' := 24) (lv' := [(0, .ref s), (1, .int a)]) (st' := [.int ((Int32.ofInt 0))]) rfl ?_
    refine En_top (by decide : (Int32.ofInt 0).toInt = 0) (fun z12 h13 => ?_)
    exact En_ret (v := some (Value.int z12)) rfl rfl (retZ rfl rfl (by first | exact q_55451d0a83 h13 | omega) (by first | exact q_87849c3859 h13 | omega)) ⟨h4, h8, z12, rfl, ⟨by first | exact q_097a37c2ae h13 | omega, by first | exact q_e269517bee h13 | omega, fun _ => by omega, (by (first | exact q_ae4aed3c30 h13 h10 h11 | omega))⟩⟩
  · have h14 := Imp_m h6.2.2.1 (by first | exact q_e3350da514 h11 h6.1 | omega)
    have h15 := Imp_m h6.2.2.2 (by first | exact q_68fbff215b h14 | omega)
    refine En_Ps 1 (pc' := 8) (lv' := [(0, .ref s), (1, .int a)]) (st' := [.int a]) rfl ?_
    refine En_iLt _ rfl rfl (fun h16 => ?_) (fun h16 => ?_)
    · refine En_Ps 1 (pc' := 24) (lv' := [(0, .ref s), (1, .int a)]) (st' := [.int ((Int32.ofInt 0))]) rfl ?_
      refine En_top (by decide : (Int32.ofInt 0).toInt = 0) (fun z17 h18 => ?_)
      exact En_ret (v := some (Value.int z17)) rfl rfl (retZ rfl rfl (by first | exact q_55451d0a83 h18 | omega) (by first | exact q_87849c3859 h18 | omega)) ⟨h4, h8, z17, rfl, ⟨by first | exact q_097a37c2ae h18 | omega, by first | exact q_e269517bee h18 | omega, fun _ => by omega, (by (first | exact q_012ba17f3e h18 h16 | omega))⟩⟩
    · refine En_Ps 2 (pc' := 13) (lv' := [(0, .ref s), (1, .int a)]) (st' := [.ref s, .int a]) rfl ?_
      refine En_callV rfl rfl rfl rfl rfl rfl rfl rfl hs (by decide +kernel) rfl (c_51x σ3 h4 s hs sg ((h5 _ _ (inW hs (by decide +kernel))).trans h_sg) (by first | exact q_a555021d16 hp0 | omega)) (by decide) (by decide) (fun v20 σ21 h19 => ?_)
      obtain ⟨h22, h23, z25, rfl, h24⟩ := h19
      have h26 := h24.2.2
      have h27 := Fr_trans h8 h23 (by decide +kernel)
      have h28 := h26
      refine En_icGe _ rfl rfl rfl (fun h29 => ?_) (fun h29 => ?_)
      · refine En_Ps 1 (pc' := 24) (lv' := [(0, .ref s), (1, .int a)]) (st' := [.int ((Int32.ofInt 0))]) rfl ?_
        refine En_top (by decide : (Int32.ofInt 0).toInt = 0) (fun z30 h31 => ?_)
        exact En_ret (v := some (Value.int z30)) rfl rfl (retZ rfl rfl (by first | exact q_55451d0a83 h31 | omega) (by first | exact q_87849c3859 h31 | omega)) ⟨h22, h27, z30, rfl, ⟨by first | exact q_097a37c2ae h31 | omega, by first | exact q_e269517bee h31 | omega, fun _ => by omega, (by (first | exact q_5fa0ee3959 h31 h29 h28 | omega))⟩⟩
      · refine En_Ps 2 (pc' := 24) (lv' := [(0, .ref s), (1, .int a)]) (st' := [.int ((Int32.ofInt 1))]) rfl ?_
        refine En_top (by decide : (Int32.ofInt 1).toInt = 1) (fun z32 h33 => ?_)
        exact En_ret (v := some (Value.int z32)) rfl rfl (retZ rfl rfl (by first | exact q_2b07c97645 h33 | omega) (by first | exact q_d9e7cbb253 h33 | omega)) ⟨h22, h27, z32, rfl, ⟨by first | exact q_ad3eee31ca h33 | omega, by first | exact q_81cf297dc4 h33 | omega, fun hh => by first | exact ⟨q_c803b490ef h16, q_5cc51917cd h29 h24.2.1⟩ | omega, (by (first | exact q_bcfd16039b h33 h14 h16 h29 h28 | omega))⟩⟩
/-- DoorSchool$Plan.isRule(II)Z -/
abbrev P_50x (σ0 : SG) (s : Nat) (a : Int32) (b : Int32) (l : Int32) (sg : Int32) : PO := fun v σ => WT σ ∧ Fr [] σ0 σ ∧ ∃ ret : Int32, v = some (Value.int ret) ∧ -ret.toInt ≤ 0 ∧ ret.toInt - 1 ≤ 0 ∧ Imp (ret.toInt - 1 ≤ 0 ∧ -ret.toInt + 1 ≤ 0) (-a.toInt ≤ 0 ∧ a.toInt - 15 ≤ 0 ∧ -b.toInt ≤ 0 ∧ b.toInt - 15 ≤ 0) ∧ ((ret.toInt = 1 ∧ 0 < l.toInt ∧ 0 ≤ a.toInt ∧ a.toInt < pI sg.toInt ∧ 0 ≤ b.toInt ∧ b.toInt ≤ a.toInt ∧ sbI b.toInt a.toInt = 1) ∨ (ret.toInt = 0 ∧ (l.toInt ≤ 0 ∨ a.toInt < 0 ∨ pI sg.toInt ≤ a.toInt ∨ b.toInt < 0 ∨ 15 < b.toInt ∨ sbI b.toInt a.toInt ≠ 1)))
set_option maxRecDepth 10000 in
set_option maxHeartbeats 4000000 in
theorem c_50x (σ0 : SG) (hσ0 : WT σ0) (s : Nat) (hs : TG s = 18) (a : Int32) (b : Int32) (l : Int32) (h_l : (σ0 s)[0]? = some (Value.int l)) (sg : Int32) (h_sg : (σ0 s)[1]? = some (Value.int sg)) (hp0 : -sg.toInt ≤ 0) : En 2 41 none mr_50 (P_50x σ0 s a b l sg) 0 [(0, .ref s), (1, .int a), (2, .int b)] [] σ0 := by
  obtain ⟨hl_l, hu_l⟩ := WT_int hσ0 (g := 18) hs (by decide +kernel) (l := 0) (u := 1601) (by decide +kernel) h_l
  obtain ⟨hl_sg, hu_sg⟩ := WT_int hσ0 (g := 18) hs (by decide +kernel) (l := (-1)) (u := 4) (by decide +kernel) h_sg
  have hF0 : Fr [] σ0 σ0 := Fr_rfl
  refine En_Ps 2 (pc' := 2) (lv' := [(0, .ref s), (1, .int a), (2, .int b)]) (st' := [.int a, .ref s]) rfl ?_
  refine En_callV rfl rfl rfl rfl rfl rfl rfl rfl hs (by decide +kernel) rfl (c_49x σ0 hσ0 s hs a l h_l sg h_sg (by first | exact q_a555021d16 hp0 | omega)) (by decide) (by decide) (fun v2 σ3 h1 => ?_)
  obtain ⟨h4, h5, z7, rfl, h6⟩ := h1
  have h8 := h6.2.2.2
  have h9 := Fr_trans hF0 h5 (by decide +kernel)
  have h10 := Imp_m h6.2.2.1
  have h11 := h8
  refine En_iEq _ rfl rfl (fun h12 => ?_) (fun h12 => ?_)
  · refine En_Ps 1 (pc' := 21) (lv' := [(0, .ref s), (1, .int a), (2, .int b)]) (st' := [.int ((Int32.ofInt 0))]) rfl ?_
    refine En_top (by decide : (Int32.ofInt 0).toInt = 0) (fun z13 h14 => ?_)
    exact En_ret (v := some (Value.int z13)) rfl rfl (retZ rfl rfl (by first | exact q_55451d0a83 h14 | omega) (by first | exact q_87849c3859 h14 | omega)) ⟨h4, h9, z13, rfl, ⟨by first | exact q_097a37c2ae h14 | omega, by first | exact q_e269517bee h14 | omega, fun _ => by omega, (by (first | exact q_8a6a88a492 h11 h12 h14 | omega))⟩⟩
  · have h15 := Imp_m h6.2.2.1 (by first | exact ⟨q_ad5b726bf8 h6.2.1, q_e3350da514 h12 h6.1⟩ | omega)
    refine En_Ps 4 (pc' := 12) (lv' := [(0, .ref s), (1, .int a), (2, .int b)]) (st' := [.int ((a ^^^ ((Int32.ofInt (-1))))), .int b]) rfl ?_
    refine En_nam (fun z16 h17 => ?_)
    refine En_Ps 1 (pc' := 13) (lv' := [(0, .ref s), (1, .int a), (2, .int b)]) (st' := [.int ((b &&& z16))]) rfl ?_
    refine En_nam (fun z18 h19 => ?_)
    refine En_iNe _ rfl rfl (fun h20 => ?_) (fun h20 => ?_)
    · have := fun (q9 : 0 ≤ b.toInt) => sub_sbw h19 h17 rfl rfl q9 (by (first | exact q_ef1e8e38bf h15.1 | omega)) (by (first | exact q_5a5f544404 h15.2 | omega))
      refine En_Ps 1 (pc' := 21) (lv' := [(0, .ref s), (1, .int a), (2, .int b)]) (st' := [.int ((Int32.ofInt 0))]) rfl ?_
      refine En_top (by decide : (Int32.ofInt 0).toInt = 0) (fun z21 h22 => ?_)
      exact En_ret (v := some (Value.int z21)) rfl rfl (retZ rfl rfl (by first | exact q_55451d0a83 h22 | omega) (by first | exact q_87849c3859 h22 | omega)) ⟨h4, h9, z21, rfl, ⟨by first | exact q_097a37c2ae h22 | omega, by first | exact q_e269517bee h22 | omega, fun _ => by omega, (by (first | exact q_bda1ddf0a3 h20 this h22 | omega))⟩⟩
    · obtain ⟨h23, h24⟩ := andn_zero h19 h17 h20 rfl rfl (by (first | exact q_ef1e8e38bf h15.1 | omega))
      have := sub_sbw h19 h17 rfl rfl (by (first | exact q_58e6e51dcc h23 | omega)) (by (first | exact q_ef1e8e38bf h15.1 | omega)) (by (first | exact q_5a5f544404 h15.2 | omega))
      refine En_Ps 2 (pc' := 21) (lv' := [(0, .ref s), (1, .int a), (2, .int b)]) (st' := [.int ((Int32.ofInt 1))]) rfl ?_
      refine En_top (by decide : (Int32.ofInt 1).toInt = 1) (fun z25 h26 => ?_)
      exact En_ret (v := some (Value.int z25)) rfl rfl (retZ rfl rfl (by first | exact q_2b07c97645 h26 | omega) (by first | exact q_d9e7cbb253 h26 | omega)) ⟨h4, h9, z25, rfl, ⟨by first | exact q_ad3eee31ca h26 | omega, by first | exact q_81cf297dc4 h26 | omega, fun _ => by (first | exact q_1cde2393fd h15.1 h15.2 h23 h24 | omega), (by (first | exact q_33b4757e7f h26 h11 h12 h6.1 h15.1 h23 h24 this.1 h20 | omega))⟩⟩
/-- DoorSchool$Plan.takeFrom(LDoorSchool$Plan;)V -/
abbrev P_53ax (σ0 : SG) (s : Nat) (a : Nat) (sg : Int32) : PO := fun v σ => WT σ ∧ Fr [(20, 2), (21, 0), (22, 0), (23, 0), (24, 0), (25, 0), (26, 0), (27, 0), (28, 1), (28, 2), (28, 3), (31, 0), (31, 1), (31, 2), (31, 3), (31, 6), (31, 7), (31, 8), (31, 11), (31, 14)] σ0 σ ∧ v = none ∧ CPD σ0 σ s a (fun _ => True)
set_option maxRecDepth 10000 in
set_option maxHeartbeats 4000000 in
theorem c_53ax (σ0 : SG) (hσ0 : WT σ0) (s : Nat) (hs : TG s = 31) (a : Nat) (ha : TG a = 18) (sg : Int32) (h_sg : (σ0 a)[1]? = some (Value.int sg)) (hp0 : -sg.toInt ≤ 0) (hS : SEP s a) (hX : FXP σ0 s) (hY : FXP σ0 a) : En 3 102 none mr_53 (P_53ax σ0 s a sg) 0 [(0, .ref s), (1, .ref a)] [] σ0 := by
  obtain ⟨hl_sg, hu_sg⟩ := WT_int hσ0 (g := 18) ha (by decide +kernel) (l := (-1)) (u := 4) (by decide +kernel) h_sg
  have hF0 : Fr [(20, 2), (21, 0), (22, 0), (23, 0), (24, 0), (25, 0), (26, 0), (27, 0), (28, 1), (28, 2), (28, 3), (31, 0), (31, 1), (31, 2), (31, 3), (31, 6), (31, 7), (31, 8), (31, 11), (31, 14)] σ0 σ0 := Fr_rfl
  have sep := SEP_d hS
  refine En_Ps 2 (pc' := 2) (lv' := [(0, .ref s), (1, .ref a)]) (st' := [.ref a, .ref s]) rfl ?_
  refine En_getI (j := 0) (l := 0) (u := 1601) rfl rfl rfl ha (by decide +kernel) hσ0 (by decide +kernel) (fun z2 h1 h3 h4 => ?_)
  refine En_put (j := 0) rfl rfl rfl hs (by decide +kernel) rfl (vI (l := 0) (u := 1601) (by decide +kernel) rfl (by first | exact q_58e6e51dcc h3 | omega) (by first | exact q_3232882bcd h4 | omega)) hσ0 hF0 (by decide +kernel) (fun σ5 h6 h7 h8 h9 => ?_)
  have c10 := CPD_put (i0 := 7) (CPD_0 (σ := σ0)) hS h1 h8 h9 (by decide) (by decide) (by decide) (by decide)
  refine En_Ps 2 (pc' := 10) (lv' := [(0, .ref s), (1, .ref a)]) (st' := [.ref a, .ref s]) rfl ?_
  refine En_getK (j := 1) ((h9 _ _ (Or.inr (by decide))).trans h_sg) rfl rfl rfl ha (by decide +kernel) ?_
  refine En_put (j := 1) rfl rfl rfl hs (by decide +kernel) rfl (vI (l := 0) (u := 4) (by decide +kernel) rfl (by first | exact q_ef1e8e38bf hp0 | omega) (by first | exact q_c82ed93a8c hu_sg | omega)) h6 h7 (by decide +kernel) (fun σ11 h12 h13 h14 h15 => ?_)
  have c16 := CPD_put (i0 := 0) c10 hS ((h9 _ _ (Or.inr (by decide))).trans h_sg) h14 h15 (by decide) (by decide) (by decide) (by decide)
  refine En_Ps 2 (pc' := 18) (lv' := [(0, .ref s), (1, .ref a)]) (st' := [.ref a, .ref s]) rfl ?_
  refine En_getI (j := 2) (l := (-1)) (u := 3) rfl rfl rfl ha (by decide +kernel) h12 (by decide +kernel) (fun z18 h17 h19 h20 => ?_)
  refine En_put (j := 2) rfl rfl rfl hs (by decide +kernel) rfl (vI (l := (-1)) (u := 3) (by decide +kernel) rfl (by first | exact q_77b189e83d h19 | omega) (by first | exact q_da5e9b976f h20 | omega)) h12 h13 (by decide +kernel) (fun σ21 h22 h23 h24 h25 => ?_)
  have c26 := CPD_put (i0 := 1) c16 hS h17 h24 h25 (by decide) (by decide) (by decide) (by decide)
  refine En_Ps 2 (pc' := 26) (lv' := [(0, .ref s), (1, .ref a)]) (st' := [.ref a, .ref s]) rfl ?_
  refine En_getI (j := 3) (l := 0) (u := 4) rfl rfl rfl ha (by decide +kernel) h22 (by decide +kernel) (fun z28 h27 h29 h30 => ?_)
  refine En_put (j := 3) rfl rfl rfl hs (by decide +kernel) rfl (vI (l := 0) (u := 4) (by decide +kernel) rfl (by first | exact q_58e6e51dcc h29 | omega) (by first | exact q_c82ed93a8c h30 | omega)) h22 h23 (by decide +kernel) (fun σ31 h32 h33 h34 h35 => ?_)
  have c36 := CPD_put (i0 := 2) c26 hS h27 h34 h35 (by decide) (by decide) (by decide) (by decide)
  refine En_Ps 2 (pc' := 34) (lv' := [(2, .int ((Int32.ofInt 0))), (0, .ref s), (1, .ref a)]) (st' := []) rfl ?_
  have key34 : ∀ (n34 : Nat) (σ38 : SG) (y37 : Int32), WT σ38 → Fr [(20, 2), (21, 0), (22, 0), (23, 0), (24, 0), (25, 0), (26, 0), (27, 0), (28, 1), (28, 2), (28, 3), (31, 0), (31, 1), (31, 2), (31, 3), (31, 6), (31, 7), (31, 8), (31, 11), (31, 14)] σ0 σ38 → (σ38 a)[1]? = some (Value.int sg) → (σ38 a)[0]? = some (Value.int z2) → (σ38 s)[0]? = some (Value.int z2) → (σ38 s)[1]? = some (Value.int sg) → (σ38 a)[2]? = some (Value.int z18) → (σ38 s)[2]? = some (Value.int z18) → (σ38 a)[3]? = some (Value.int z28) → (σ38 s)[3]? = some (Value.int z28) → 0 ≤ y37.toInt → y37.toInt ≤ 4 → -y37.toInt + 4 < (n34 : Int) → CPL σ0 σ38 s a y37.toInt → En 3 102 none mr_53 (P_53ax σ0 s a sg) 34 [(0, .ref s), (1, .ref a), (2, .int y37)] [] σ38 := by
    intro n34
    induction n34 with
    | zero =>
      intro σ38 y37 h39 h40 h41 h42 h43 h44 h45 h46 h47 h48 h49 h50 h51 h52
      first | exact (q_20d6385c6f h51 h50).elim | (exfalso; omega)
    | succ n34 ih34 =>
      intro σ38 y37 h39 h40 h41 h42 h43 h44 h45 h46 h47 h48 h49 h50 h51 h52
      refine En_Ps 2 (pc' := 36) (lv' := [(0, .ref s), (1, .ref a), (2, .int y37)]) (st' := [.int ((Int32.ofInt 4)), .int y37]) rfl ?_
      refine En_icGe _ rfl (by decide : (Int32.ofInt 4).toInt = 4) rfl (fun h53 => ?_) (fun h53 => ?_)
      · have c54 := CPL_4 h52 (by (first | exact q_d5be2e3227 h53 h50 | omega))
        refine En_Ps 1 (pc' := 61) (lv' := [(0, .ref s), (1, .ref a), (2, .int y37)]) (st' := [.ref s]) rfl ?_
        refine En_getR (j := 5) (g' := 20) (u := 0) rfl rfl rfl hs (by decide +kernel) h39 (by decide +kernel) (fun a56 h55 ha56 => ?_)
        have t57 : a56 = s + 2 := ref_uniq h55 (FXI_fr (PLI_of hs) hX h40 (by decide +kernel)).2.1
        refine En_Ps 1 (pc' := 65) (lv' := [(0, .ref s), (1, .ref a), (2, .int y37)]) (st' := [.ref a, .ref a56]) rfl ?_
        refine En_getR (j := 5) (g' := 20) (u := 0) rfl rfl rfl ha (by decide +kernel) h39 (by decide +kernel) (fun a59 h58 ha59 => ?_)
        have t60 : a59 = a + 2 := ref_uniq h58 (FXP_fr (PLA_of ha) hY h40 (by decide +kernel)).2.1
        obtain ⟨a62, h61, ha62⟩ := WT_peekR (g := 20) (j := 0) (g' := 21) (u := 0) h39 ha56 (by decide +kernel) (by decide +kernel)
        have t63 : a62 = s + 3 := EKk (FXI_fr (PLI_of hs) hX h40 (by decide +kernel)) t57 h61
        obtain ⟨a65, h64, ha65⟩ := WT_peekR (g := 20) (j := 1) (g' := 22) (u := 0) h39 ha56 (by decide +kernel) (by decide +kernel)
        have t66 : a65 = s + 4 := EKo (FXI_fr (PLI_of hs) hX h40 (by decide +kernel)) t57 h64
        obtain ⟨a68, h67, ha68⟩ := WT_peekR (g := 20) (j := 0) (g' := 21) (u := 0) h39 ha59 (by decide +kernel) (by decide +kernel)
        have t69 : a68 = a + 3 := EKk (FXP_fr (PLA_of ha) hY h40 (by decide +kernel)) t60 h67
        obtain ⟨a71, h70, ha71⟩ := WT_peekR (g := 20) (j := 1) (g' := 22) (u := 0) h39 ha59 (by decide +kernel) (by decide +kernel)
        have t72 : a71 = a + 4 := EKo (FXP_fr (PLA_of ha) hY h40 (by decide +kernel)) t60 h70
        obtain ⟨z74, h73, h75, h76⟩ := WT_peekI h39 ha59 (by decide +kernel : FT 20 2 = (0, 0, 13)) (by decide +kernel)
        refine En_callV rfl rfl rfl rfl rfl rfl rfl rfl ha56 (by decide +kernel) rfl (c_40x σ38 h39 a56 ha56 a59 ha59 a62 ha62 h61 a65 ha65 h64 a68 ha68 h67 a71 ha71 h70 z74 h73 (by omega) (by omega) (by omega)) (by decide) (by decide) (fun v78 σ79 h77 => ?_)
        obtain ⟨h80, h81, rfl, h82⟩ := h77
        have h83 := h82
        have h84 := Fr_trans h40 h81 (by decide +kernel)
        have c85 := CPD_ex c54 hS h83 (by omega) (by omega) (by omega) (by omega) (by omega) (by omega)
        refine En_Ps 2 (pc' := 73) (lv' := [(0, .ref s), (1, .ref a), (2, .int y37)]) (st' := [.ref a, .ref s]) rfl ?_
        refine En_getI (j := 6) (l := 0) (u := 15) rfl rfl rfl ha (by decide +kernel) h80 (by decide +kernel) (fun z87 h86 h88 h89 => ?_)
        refine En_put (j := 6) rfl rfl rfl hs (by decide +kernel) rfl (vI (l := 0) (u := 15) (by decide +kernel) rfl (by first | exact q_58e6e51dcc h88 | omega) (by first | exact q_5a4d8a7e08 h89 | omega)) h80 h84 (by decide +kernel) (fun σ90 h91 h92 h93 h94 => ?_)
        have c95 := CPD_put (i0 := 8) c85 hS h86 h93 h94 (by decide) (by decide) (by decide) (by decide)
        refine En_Ps 2 (pc' := 81) (lv' := [(0, .ref s), (1, .ref a), (2, .int y37)]) (st' := [.ref a, .ref s]) rfl ?_
        refine En_getI (j := 7) (l := 0) (u := 15) rfl rfl rfl ha (by decide +kernel) h91 (by decide +kernel) (fun z97 h96 h98 h99 => ?_)
        refine En_put (j := 7) rfl rfl rfl hs (by decide +kernel) rfl (vI (l := 0) (u := 15) (by decide +kernel) rfl (by first | exact q_58e6e51dcc h98 | omega) (by first | exact q_5a4d8a7e08 h99 | omega)) h91 h92 (by decide +kernel) (fun σ100 h101 h102 h103 h104 => ?_)
        have c105 := CPD_put (i0 := 9) c95 hS h96 h103 h104 (by decide) (by decide) (by decide) (by decide)
        refine En_Ps 2 (pc' := 89) (lv' := [(0, .ref s), (1, .ref a), (2, .int y37)]) (st' := [.ref a, .ref s]) rfl ?_
        refine En_getI (j := 8) (l := 0) (u := 4) rfl rfl rfl ha (by decide +kernel) h101 (by decide +kernel) (fun z107 h106 h108 h109 => ?_)
        refine En_put (j := 8) rfl rfl rfl hs (by decide +kernel) rfl (vI (l := 0) (u := 4) (by decide +kernel) rfl (by first | exact q_58e6e51dcc h108 | omega) (by first | exact q_c82ed93a8c h109 | omega)) h101 h102 (by decide +kernel) (fun σ110 h111 h112 h113 h114 => ?_)
        have c115 := CPD_put (i0 := 4) c105 hS h106 h113 h114 (by decide) (by decide) (by decide) (by decide)
        refine En_Ps 1 (pc' := 96) (lv' := [(0, .ref s), (1, .ref a), (2, .int y37)]) (st' := [.ref a]) rfl ?_
        refine En_getR (j := 9) (g' := 23) (u := 0) rfl rfl rfl ha (by decide +kernel) h111 (by decide +kernel) (fun a117 h116 ha117 => ?_)
        have t118 : a117 = a + 5 := ref_uniq h116 (FXP_fr (PLA_of ha) hY h112 (by decide +kernel)).2.2.1
        refine En_Ps 2 (pc' := 101) (lv' := [(0, .ref s), (1, .ref a), (2, .int y37)]) (st' := [.ref s, .int ((Int32.ofInt 0)), .ref a117]) rfl ?_
        refine En_getR (j := 9) (g' := 23) (u := 0) rfl rfl rfl hs (by decide +kernel) h111 (by decide +kernel) (fun a120 h119 ha120 => ?_)
        have t121 : a120 = s + 5 := ref_uniq h119 (FXI_fr (PLI_of hs) hX h112 (by decide +kernel)).2.2.1
        refine En_Ps 2 (pc' := 106) (lv' := [(0, .ref s), (1, .ref a), (2, .int y37)]) (st' := [.int ((Int32.ofInt 4)), .int ((Int32.ofInt 0)), .ref a120, .int ((Int32.ofInt 0)), .ref a117]) rfl ?_
        refine En_copyX (n0 := 4) (n1 := 4) (by decide : (Int32.ofInt 4).toInt = 4) (by decide : (Int32.ofInt 0).toInt = 0) (by decide : (Int32.ofInt 0).toInt = 0) rfl rfl rfl rfl ha117 ha120 (by decide +kernel) (by decide +kernel) (by decide +kernel) (by decide +kernel) (by decide +kernel) (by (first | decide | omega)) (by (first | decide | omega)) (by (first | decide | omega)) (by (first | decide | omega)) (by (first | decide | omega)) h111 h112 (by decide +kernel) (fun σ122 h123 h124 h125 h126 => ?_)
        have h127 := ROW_mk (n := 4) h125 h126 (by decide) (by decide) (by decide)
        have c128 := CPD_row c115 hS h127 t121 t118 (by decide) (by decide +kernel)
        refine En_Ps 1 (pc' := 110) (lv' := [(0, .ref s), (1, .ref a), (2, .int y37)]) (st' := [.ref a]) rfl ?_
        refine En_getR (j := 10) (g' := 24) (u := 0) rfl rfl rfl ha (by decide +kernel) h123 (by decide +kernel) (fun a130 h129 ha130 => ?_)
        have t131 : a130 = a + 6 := ref_uniq h129 (FXP_fr (PLA_of ha) hY h124 (by decide +kernel)).2.2.2.1
        refine En_Ps 2 (pc' := 115) (lv' := [(0, .ref s), (1, .ref a), (2, .int y37)]) (st' := [.ref s, .int ((Int32.ofInt 0)), .ref a130]) rfl ?_
        refine En_getR (j := 10) (g' := 24) (u := 0) rfl rfl rfl hs (by decide +kernel) h123 (by decide +kernel) (fun a133 h132 ha133 => ?_)
        have t134 : a133 = s + 6 := ref_uniq h132 (FXI_fr (PLI_of hs) hX h124 (by decide +kernel)).2.2.2.1
        refine En_Ps 2 (pc' := 120) (lv' := [(0, .ref s), (1, .ref a), (2, .int y37)]) (st' := [.int ((Int32.ofInt 4)), .int ((Int32.ofInt 0)), .ref a133, .int ((Int32.ofInt 0)), .ref a130]) rfl ?_
        refine En_copyX (n0 := 4) (n1 := 4) (by decide : (Int32.ofInt 4).toInt = 4) (by decide : (Int32.ofInt 0).toInt = 0) (by decide : (Int32.ofInt 0).toInt = 0) rfl rfl rfl rfl ha130 ha133 (by decide +kernel) (by decide +kernel) (by decide +kernel) (by decide +kernel) (by decide +kernel) (by (first | decide | omega)) (by (first | decide | omega)) (by (first | decide | omega)) (by (first | decide | omega)) (by (first | decide | omega)) h123 h124 (by decide +kernel) (fun σ135 h136 h137 h138 h139 => ?_)
        have h140 := ROW_mk (n := 4) h138 h139 (by decide) (by decide) (by decide)
        have c141 := CPD_row c128 hS h140 t134 t131 (by decide) (by decide +kernel)
        refine En_Ps 2 (pc' := 125) (lv' := [(0, .ref s), (1, .ref a), (2, .int y37)]) (st' := [.ref a, .ref s]) rfl ?_
        refine En_getI (j := 11) (l := 0) (u := 6) rfl rfl rfl ha (by decide +kernel) h136 (by decide +kernel) (fun z143 h142 h144 h145 => ?_)
        refine En_put (j := 11) rfl rfl rfl hs (by decide +kernel) rfl (vI (l := 0) (u := 6) (by decide +kernel) rfl (by first | exact q_58e6e51dcc h144 | omega) (by first | exact q_615333d33f h145 | omega)) h136 h137 (by decide +kernel) (fun σ146 h147 h148 h149 h150 => ?_)
        have c151 := CPD_put (i0 := 5) c141 hS h142 h149 h150 (by decide) (by decide) (by decide) (by decide)
        refine En_Ps 1 (pc' := 132) (lv' := [(0, .ref s), (1, .ref a), (2, .int y37)]) (st' := [.ref a]) rfl ?_
        refine En_getR (j := 12) (g' := 25) (u := 0) rfl rfl rfl ha (by decide +kernel) h147 (by decide +kernel) (fun a153 h152 ha153 => ?_)
        have t154 : a153 = a + 7 := ref_uniq h152 (FXP_fr (PLA_of ha) hY h148 (by decide +kernel)).2.2.2.2.1
        refine En_Ps 2 (pc' := 137) (lv' := [(0, .ref s), (1, .ref a), (2, .int y37)]) (st' := [.ref s, .int ((Int32.ofInt 0)), .ref a153]) rfl ?_
        refine En_getR (j := 12) (g' := 25) (u := 0) rfl rfl rfl hs (by decide +kernel) h147 (by decide +kernel) (fun a156 h155 ha156 => ?_)
        have t157 : a156 = s + 7 := ref_uniq h155 (FXI_fr (PLI_of hs) hX h148 (by decide +kernel)).2.2.2.2.1
        refine En_Ps 2 (pc' := 143) (lv' := [(0, .ref s), (1, .ref a), (2, .int y37)]) (st' := [.int (((Int8.ofInt 6).toInt32)), .int ((Int32.ofInt 0)), .ref a156, .int ((Int32.ofInt 0)), .ref a153]) rfl ?_
        refine En_copyX (n0 := 6) (n1 := 6) (by decide : ((Int8.ofInt 6).toInt32).toInt = 6) (by decide : (Int32.ofInt 0).toInt = 0) (by decide : (Int32.ofInt 0).toInt = 0) rfl rfl rfl rfl ha153 ha156 (by decide +kernel) (by decide +kernel) (by decide +kernel) (by decide +kernel) (by decide +kernel) (by (first | decide | omega)) (by (first | decide | omega)) (by (first | decide | omega)) (by (first | decide | omega)) (by (first | decide | omega)) h147 h148 (by decide +kernel) (fun σ158 h159 h160 h161 h162 => ?_)
        have h163 := ROW_mk (n := 6) h161 h162 (by decide) (by decide) (by decide)
        have c164 := CPD_row c151 hS h163 t157 t154 (by decide) (by decide +kernel)
        refine En_Ps 1 (pc' := 147) (lv' := [(0, .ref s), (1, .ref a), (2, .int y37)]) (st' := [.ref a]) rfl ?_
        refine En_getR (j := 13) (g' := 26) (u := 0) rfl rfl rfl ha (by decide +kernel) h159 (by decide +kernel) (fun a166 h165 ha166 => ?_)
        have t167 : a166 = a + 8 := ref_uniq h165 (FXP_fr (PLA_of ha) hY h160 (by decide +kernel)).2.2.2.2.2.1
        refine En_Ps 2 (pc' := 152) (lv' := [(0, .ref s), (1, .ref a), (2, .int y37)]) (st' := [.ref s, .int ((Int32.ofInt 0)), .ref a166]) rfl ?_
        refine En_getR (j := 13) (g' := 26) (u := 0) rfl rfl rfl hs (by decide +kernel) h159 (by decide +kernel) (fun a169 h168 ha169 => ?_)
        have t170 : a169 = s + 8 := ref_uniq h168 (FXI_fr (PLI_of hs) hX h160 (by decide +kernel)).2.2.2.2.2.1
        refine En_Ps 2 (pc' := 158) (lv' := [(0, .ref s), (1, .ref a), (2, .int y37)]) (st' := [.int (((Int8.ofInt 6).toInt32)), .int ((Int32.ofInt 0)), .ref a169, .int ((Int32.ofInt 0)), .ref a166]) rfl ?_
        refine En_copyX (n0 := 6) (n1 := 6) (by decide : ((Int8.ofInt 6).toInt32).toInt = 6) (by decide : (Int32.ofInt 0).toInt = 0) (by decide : (Int32.ofInt 0).toInt = 0) rfl rfl rfl rfl ha166 ha169 (by decide +kernel) (by decide +kernel) (by decide +kernel) (by decide +kernel) (by decide +kernel) (by (first | decide | omega)) (by (first | decide | omega)) (by (first | decide | omega)) (by (first | decide | omega)) (by (first | decide | omega)) h159 h160 (by decide +kernel) (fun σ171 h172 h173 h174 h175 => ?_)
        have h176 := ROW_mk (n := 6) h174 h175 (by decide) (by decide) (by decide)
        have c177 := CPD_row c164 hS h176 t170 t167 (by decide) (by decide +kernel)
        refine En_Ps 2 (pc' := 163) (lv' := [(0, .ref s), (1, .ref a), (2, .int y37)]) (st' := [.ref a, .ref s]) rfl ?_
        refine En_getI (j := 14) (l := 0) (u := 60) rfl rfl rfl ha (by decide +kernel) h172 (by decide +kernel) (fun z179 h178 h180 h181 => ?_)
        refine En_put (j := 14) rfl rfl rfl hs (by decide +kernel) rfl (vI (l := 0) (u := 60) (by decide +kernel) rfl (by first | exact q_58e6e51dcc h180 | omega) (by first | exact q_d3912a5755 h181 | omega)) h172 h173 (by decide +kernel) (fun σ182 h183 h184 h185 h186 => ?_)
        have c187 := CPD_put (i0 := 6) c177 hS h178 h185 h186 (by decide) (by decide) (by decide) (by decide)
        refine En_Ps 1 (pc' := 170) (lv' := [(0, .ref s), (1, .ref a), (2, .int y37)]) (st' := [.ref a]) rfl ?_
        refine En_getR (j := 15) (g' := 27) (u := 0) rfl rfl rfl ha (by decide +kernel) h183 (by decide +kernel) (fun a189 h188 ha189 => ?_)
        have t190 : a189 = a + 9 := ref_uniq h188 (FXP_fr (PLA_of ha) hY h184 (by decide +kernel)).2.2.2.2.2.2.1
        refine En_Ps 2 (pc' := 175) (lv' := [(0, .ref s), (1, .ref a), (2, .int y37)]) (st' := [.ref s, .int ((Int32.ofInt 0)), .ref a189]) rfl ?_
        refine En_getR (j := 15) (g' := 27) (u := 0) rfl rfl rfl hs (by decide +kernel) h183 (by decide +kernel) (fun a192 h191 ha192 => ?_)
        have t193 : a192 = s + 9 := ref_uniq h191 (FXI_fr (PLI_of hs) hX h184 (by decide +kernel)).2.2.2.2.2.2.1
        refine En_Ps 2 (pc' := 181) (lv' := [(0, .ref s), (1, .ref a), (2, .int y37)]) (st' := [.int (((Int8.ofInt 60).toInt32)), .int ((Int32.ofInt 0)), .ref a192, .int ((Int32.ofInt 0)), .ref a189]) rfl ?_
        refine En_copyX (n0 := 60) (n1 := 60) (by decide : ((Int8.ofInt 60).toInt32).toInt = 60) (by decide : (Int32.ofInt 0).toInt = 0) (by decide : (Int32.ofInt 0).toInt = 0) rfl rfl rfl rfl ha189 ha192 (by decide +kernel) (by decide +kernel) (by decide +kernel) (by decide +kernel) (by decide +kernel) (by (first | decide | omega)) (by (first | decide | omega)) (by (first | decide | omega)) (by (first | decide | omega)) (by (first | decide | omega)) h183 h184 (by decide +kernel) (fun σ194 h195 h196 h197 h198 => ?_)
        have h199 := ROW_mk (n := 60) h197 h198 (by decide) (by decide) (by decide)
        have c200 := CPD_row c187 hS h199 t193 t190 (by decide) (by decide +kernel)
        exact En_ret (v := none) rfl rfl rfl ⟨h195, h196, rfl, CPD_all c200⟩
      · refine En_Ps 1 (pc' := 40) (lv' := [(0, .ref s), (1, .ref a), (2, .int y37)]) (st' := [.ref s]) rfl ?_
        refine En_getR (j := 4) (g' := 19) (u := 0) rfl rfl rfl hs (by decide +kernel) h39 (by decide +kernel) (fun a202 h201 ha202 => ?_)
        have t203 : a202 = s + 1 := ref_uniq h201 (FXI_fr (PLI_of hs) hX h40 (by decide +kernel)).1
        refine En_Ps 1 (pc' := 44) (lv' := [(0, .ref s), (1, .ref a), (2, .int y37)]) (st' := [.int y37, .ref a202]) rfl ?_
        refine En_aald (g' := 28) (u := 0) rfl rfl ha202 (by decide +kernel) h39 (by first | exact q_58e6e51dcc h49 | omega) (lnI (by decide +kernel : LN _ = 4) (by first | exact q_074a8b422d h53 | omega)) (FTsgl (by decide +kernel)) (fun a205 h204 ha205 => ?_)
        have t206 : a205 = s + 10 + 4 * (y37.toInt).toNat := DRe (d := y37.toInt) (FXI_fr (PLI_of hs) hX h40 (by decide +kernel)) t203 h204 (by (first | exact q_58e6e51dcc h49 | omega)) (by (first | exact q_d7767d4ccc h53 | omega))
        have t207 := lc_d (d := y37.toInt) (by (first | exact q_58e6e51dcc h49 | omega)) (by (first | exact q_d7767d4ccc h53 | omega))
        refine En_Ps 1 (pc' := 46) (lv' := [(0, .ref s), (1, .ref a), (2, .int y37)]) (st' := [.ref a, .ref a205]) rfl ?_
        refine En_getR (j := 4) (g' := 19) (u := 0) rfl rfl rfl ha (by decide +kernel) h39 (by decide +kernel) (fun a209 h208 ha209 => ?_)
        have t210 : a209 = a + 1 := ref_uniq h208 (FXP_fr (PLA_of ha) hY h40 (by decide +kernel)).1
        refine En_Ps 1 (pc' := 50) (lv' := [(0, .ref s), (1, .ref a), (2, .int y37)]) (st' := [.int y37, .ref a209, .ref a205]) rfl ?_
        refine En_aald (g' := 28) (u := 0) rfl rfl ha209 (by decide +kernel) h39 (by first | exact q_58e6e51dcc h49 | omega) (lnI (by decide +kernel : LN _ = 4) (by first | exact q_074a8b422d h53 | omega)) (FTsgl (by decide +kernel)) (fun a212 h211 ha212 => ?_)
        have t213 : a212 = a + 10 + 4 * (y37.toInt).toNat := DRe (d := y37.toInt) (FXP_fr (PLA_of ha) hY h40 (by decide +kernel)) t210 h211 (by (first | exact q_58e6e51dcc h49 | omega)) (by (first | exact q_d7767d4ccc h53 | omega))
        have t214 := lc_d (d := y37.toInt) (by (first | exact q_58e6e51dcc h49 | omega)) (by (first | exact q_d7767d4ccc h53 | omega))
        obtain ⟨a216, h215, ha216⟩ := WT_peekR (g := 28) (j := 0) (g' := 20) (u := 0) h39 ha205 (by decide +kernel) (by decide +kernel)
        have t217 : a216 = s + 11 + 4 * (y37.toInt).toNat := DLc (d := y37.toInt) (FXI_fr (PLI_of hs) hX h40 (by decide +kernel)) t206 h215 (by (first | exact q_58e6e51dcc h49 | omega)) (by (first | exact q_d7767d4ccc h53 | omega))
        obtain ⟨a219, h218, ha219⟩ := WT_peekR (g := 20) (j := 0) (g' := 21) (u := 0) h39 ha216 (by decide +kernel) (by decide +kernel)
        have t220 : a219 = s + 12 + 4 * (y37.toInt).toNat := DKk (d := y37.toInt) (FXI_fr (PLI_of hs) hX h40 (by decide +kernel)) t217 h218 (by (first | exact q_58e6e51dcc h49 | omega)) (by (first | exact q_d7767d4ccc h53 | omega))
        obtain ⟨a222, h221, ha222⟩ := WT_peekR (g := 20) (j := 1) (g' := 22) (u := 0) h39 ha216 (by decide +kernel) (by decide +kernel)
        have t223 : a222 = s + 13 + 4 * (y37.toInt).toNat := DKo (d := y37.toInt) (FXI_fr (PLI_of hs) hX h40 (by decide +kernel)) t217 h221 (by (first | exact q_58e6e51dcc h49 | omega)) (by (first | exact q_d7767d4ccc h53 | omega))
        obtain ⟨a225, h224, ha225⟩ := WT_peekR (g := 28) (j := 0) (g' := 20) (u := 0) h39 ha212 (by decide +kernel) (by decide +kernel)
        have t226 : a225 = a + 11 + 4 * (y37.toInt).toNat := DLc (d := y37.toInt) (FXP_fr (PLA_of ha) hY h40 (by decide +kernel)) t213 h224 (by (first | exact q_58e6e51dcc h49 | omega)) (by (first | exact q_d7767d4ccc h53 | omega))
        obtain ⟨a228, h227, ha228⟩ := WT_peekR (g := 20) (j := 0) (g' := 21) (u := 0) h39 ha225 (by decide +kernel) (by decide +kernel)
        have t229 : a228 = a + 12 + 4 * (y37.toInt).toNat := DKk (d := y37.toInt) (FXP_fr (PLA_of ha) hY h40 (by decide +kernel)) t226 h227 (by (first | exact q_58e6e51dcc h49 | omega)) (by (first | exact q_d7767d4ccc h53 | omega))
        obtain ⟨a231, h230, ha231⟩ := WT_peekR (g := 20) (j := 1) (g' := 22) (u := 0) h39 ha225 (by decide +kernel) (by decide +kernel)
        have t232 : a231 = a + 13 + 4 * (y37.toInt).toNat := DKo (d := y37.toInt) (FXP_fr (PLA_of ha) hY h40 (by decide +kernel)) t226 h230 (by (first | exact q_58e6e51dcc h49 | omega)) (by (first | exact q_d7767d4ccc h53 | omega))
        refine En_callV rfl rfl rfl rfl rfl rfl rfl rfl ha205 (by decide +kernel) rfl (c_14x σ38 h39 a205 ha205 a212 ha212 a216 ha216 h215 a219 ha219 h218 a222 ha222 h221 a225 ha225 h224 a228 ha228 h227 a231 ha231 h230 (by omega) (by omega) (by omega)) (by decide) (by decide) (fun v234 σ235 h233 => ?_)
        obtain ⟨h236, h237, rfl, h238⟩ := h233
        have h239 := h238
        have h240 := Fr_trans h40 h237 (by decide +kernel)
        have c241 := CPL_s (y' := y37.toInt + 1) h52 hS h239 (by omega) (by omega) (by omega) (by omega) (by omega) (by omega) (by omega) (by omega) (by (first | exact q_58e6e51dcc h49 | omega)) (by (first | exact q_d7767d4ccc h53 | omega)) rfl
        refine En_Ps 1 (pc' := 57) (lv' := [(2, .int ((y37 + Int32.ofInt 1))), (0, .ref s), (1, .ref a)]) (st' := []) rfl ?_
        refine En_lv1 (addI rfl (by decide : (Int32.ofInt 1).toInt = 1) (by first | exact q_465ab79ac1 h49 | omega) (by first | exact q_d8bf7f475a h53 | omega)) (fun z242 h243 => ?_)
        refine En_Ps 1 (pc' := 34) (lv' := [(2, .int z242), (0, .ref s), (1, .ref a)]) (st' := []) rfl ?_
        refine En_lv (lv := [(0, .ref s), (1, .ref a), (2, .int z242)]) ⟨rfl, rfl, rfl, trivial⟩ ?_
        exact ih34 σ235 z242 h236 h240 ((h237 _ _ (inW ha (by decide +kernel))).trans h41) ((h237 _ _ (inW ha (by decide +kernel))).trans h42) ((h237 _ _ (inW hs (by decide +kernel))).trans h43) ((h237 _ _ (inW hs (by decide +kernel))).trans h44) ((h237 _ _ (inW ha (by decide +kernel))).trans h45) ((h237 _ _ (inW hs (by decide +kernel))).trans h46) ((h237 _ _ (inW ha (by decide +kernel))).trans h47) ((h237 _ _ (inW hs (by decide +kernel))).trans h48) (by first | exact q_35104ce9d3 h243 h49 | omega) (by first | exact q_ddc5c16a68 h243 h53 | omega) (by first | exact q_3d8d70ace2 h243 h51 | omega) (CPL_e c241 (by (first | exact q_dd63493976 h243 | omega)))
  have := (by decide : (Int32.ofInt 0).toInt = 0)
  refine En_lv (lv := [(0, .ref s), (1, .ref a), (2, .int ((Int32.ofInt 0)))]) ⟨rfl, rfl, rfl, trivial⟩ ?_
  exact key34 (Int.toNat (4) + 1) σ31 ((Int32.ofInt 0)) h32 h33 ((h35 _ _ (Or.inr (by decide))).trans ((h25 _ _ (Or.inr (by decide))).trans ((h15 _ _ (Or.inl (neTG ha hs (by decide)))).trans ((h9 _ _ (Or.inr (by decide))).trans h_sg)))) ((h35 _ _ (Or.inr (by decide))).trans ((h25 _ _ (Or.inr (by decide))).trans ((h15 _ _ (Or.inr (by decide))).trans ((h9 _ _ (Or.inl (neTG ha hs (by decide)))).trans h1)))) ((h35 _ _ (Or.inr (by decide))).trans ((h25 _ _ (Or.inr (by decide))).trans ((h15 _ _ (Or.inr (by decide))).trans h8))) ((h35 _ _ (Or.inr (by decide))).trans ((h25 _ _ (Or.inr (by decide))).trans h14)) ((h35 _ _ (Or.inr (by decide))).trans ((h25 _ _ (Or.inl (neTG ha hs (by decide)))).trans h17)) ((h35 _ _ (Or.inr (by decide))).trans h24) ((h35 _ _ (Or.inl (neTG ha hs (by decide)))).trans h27) h34 (by decide) (by decide) (by first | exact toN_lt _ | omega) (CPL_0 c36 (by decide))
/-- DoorSchool$Plan.takeFrom(LDoorSchool$Plan;)V -/
abbrev P_53bx (σ0 : SG) (s : Nat) (a : Nat) : PO := fun v σ => WT σ ∧ Fr [(18, 0), (18, 1), (18, 2), (18, 3), (18, 6), (18, 7), (18, 8), (18, 11), (18, 14), (20, 2), (21, 0), (22, 0), (23, 0), (24, 0), (25, 0), (26, 0), (27, 0), (28, 1), (28, 2), (28, 3)] σ0 σ ∧ ∃ sh : Int32, (σ s)[1]? = some (Value.int sh) ∧ v = none ∧ -sh.toInt ≤ 0 ∧ sh.toInt - 4 ≤ 0 ∧ CPD σ0 σ s a (fun _ => True)
set_option maxRecDepth 10000 in
set_option maxHeartbeats 4000000 in
theorem c_53bx (σ0 : SG) (hσ0 : WT σ0) (s : Nat) (hs : TG s = 18) (a : Nat) (ha : TG a = 31) (hS : SEP s a) (hX : FXP σ0 s) (hY : FXP σ0 a) : En 3 102 none mr_53 (P_53bx σ0 s a) 0 [(0, .ref s), (1, .ref a)] [] σ0 := by
  have hF0 : Fr [(18, 0), (18, 1), (18, 2), (18, 3), (18, 6), (18, 7), (18, 8), (18, 11), (18, 14), (20, 2), (21, 0), (22, 0), (23, 0), (24, 0), (25, 0), (26, 0), (27, 0), (28, 1), (28, 2), (28, 3)] σ0 σ0 := Fr_rfl
  have sep := SEP_d hS
  refine En_Ps 2 (pc' := 2) (lv' := [(0, .ref s), (1, .ref a)]) (st' := [.ref a, .ref s]) rfl ?_
  refine En_getI (j := 0) (l := 0) (u := 1601) rfl rfl rfl ha (by decide +kernel) hσ0 (by decide +kernel) (fun z2 h1 h3 h4 => ?_)
  refine En_put (j := 0) rfl rfl rfl hs (by decide +kernel) rfl (vI (l := 0) (u := 1601) (by decide +kernel) rfl (by first | exact q_58e6e51dcc h3 | omega) (by first | exact q_3232882bcd h4 | omega)) hσ0 hF0 (by decide +kernel) (fun σ5 h6 h7 h8 h9 => ?_)
  have c10 := CPD_put (i0 := 7) (CPD_0 (σ := σ0)) hS h1 h8 h9 (by decide) (by decide) (by decide) (by decide)
  refine En_Ps 2 (pc' := 10) (lv' := [(0, .ref s), (1, .ref a)]) (st' := [.ref a, .ref s]) rfl ?_
  refine En_getI (j := 1) (l := 0) (u := 4) rfl rfl rfl ha (by decide +kernel) h6 (by decide +kernel) (fun z12 h11 h13 h14 => ?_)
  refine En_put (j := 1) rfl rfl rfl hs (by decide +kernel) rfl (vI (l := (-1)) (u := 4) (by decide +kernel) rfl (by first | exact q_5b439548fc h13 | omega) (by first | exact q_c82ed93a8c h14 | omega)) h6 h7 (by decide +kernel) (fun σ15 h16 h17 h18 h19 => ?_)
  have c20 := CPD_put (i0 := 0) c10 hS h11 h18 h19 (by decide) (by decide) (by decide) (by decide)
  refine En_Ps 2 (pc' := 18) (lv' := [(0, .ref s), (1, .ref a)]) (st' := [.ref a, .ref s]) rfl ?_
  refine En_getI (j := 2) (l := (-1)) (u := 3) rfl rfl rfl ha (by decide +kernel) h16 (by decide +kernel) (fun z22 h21 h23 h24 => ?_)
  refine En_put (j := 2) rfl rfl rfl hs (by decide +kernel) rfl (vI (l := (-1)) (u := 3) (by decide +kernel) rfl (by first | exact q_77b189e83d h23 | omega) (by first | exact q_da5e9b976f h24 | omega)) h16 h17 (by decide +kernel) (fun σ25 h26 h27 h28 h29 => ?_)
  have c30 := CPD_put (i0 := 1) c20 hS h21 h28 h29 (by decide) (by decide) (by decide) (by decide)
  refine En_Ps 2 (pc' := 26) (lv' := [(0, .ref s), (1, .ref a)]) (st' := [.ref a, .ref s]) rfl ?_
  refine En_getI (j := 3) (l := 0) (u := 4) rfl rfl rfl ha (by decide +kernel) h26 (by decide +kernel) (fun z32 h31 h33 h34 => ?_)
  refine En_put (j := 3) rfl rfl rfl hs (by decide +kernel) rfl (vI (l := 0) (u := 4) (by decide +kernel) rfl (by first | exact q_58e6e51dcc h33 | omega) (by first | exact q_c82ed93a8c h34 | omega)) h26 h27 (by decide +kernel) (fun σ35 h36 h37 h38 h39 => ?_)
  have c40 := CPD_put (i0 := 2) c30 hS h31 h38 h39 (by decide) (by decide) (by decide) (by decide)
  refine En_Ps 2 (pc' := 34) (lv' := [(2, .int ((Int32.ofInt 0))), (0, .ref s), (1, .ref a)]) (st' := []) rfl ?_
  have key34 : ∀ (n34 : Nat) (σ42 : SG) (y41 : Int32), WT σ42 → Fr [(18, 0), (18, 1), (18, 2), (18, 3), (18, 6), (18, 7), (18, 8), (18, 11), (18, 14), (20, 2), (21, 0), (22, 0), (23, 0), (24, 0), (25, 0), (26, 0), (27, 0), (28, 1), (28, 2), (28, 3)] σ0 σ42 → (σ42 a)[0]? = some (Value.int z2) → (σ42 s)[0]? = some (Value.int z2) → (σ42 a)[1]? = some (Value.int z12) → (σ42 s)[1]? = some (Value.int z12) → (σ42 a)[2]? = some (Value.int z22) → (σ42 s)[2]? = some (Value.int z22) → (σ42 a)[3]? = some (Value.int z32) → (σ42 s)[3]? = some (Value.int z32) → 0 ≤ y41.toInt → y41.toInt ≤ 4 → -y41.toInt + 4 < (n34 : Int) → CPL σ0 σ42 s a y41.toInt → En 3 102 none mr_53 (P_53bx σ0 s a) 34 [(0, .ref s), (1, .ref a), (2, .int y41)] [] σ42 := by
    intro n34
    induction n34 with
    | zero =>
      intro σ42 y41 h43 h44 h45 h46 h47 h48 h49 h50 h51 h52 h53 h54 h55 h56
      first | exact (q_20d6385c6f h55 h54).elim | (exfalso; omega)
    | succ n34 ih34 =>
      intro σ42 y41 h43 h44 h45 h46 h47 h48 h49 h50 h51 h52 h53 h54 h55 h56
      refine En_Ps 2 (pc' := 36) (lv' := [(0, .ref s), (1, .ref a), (2, .int y41)]) (st' := [.int ((Int32.ofInt 4)), .int y41]) rfl ?_
      refine En_icGe _ rfl (by decide : (Int32.ofInt 4).toInt = 4) rfl (fun h57 => ?_) (fun h57 => ?_)
      · have c58 := CPL_4 h56 (by (first | exact q_d5be2e3227 h57 h54 | omega))
        refine En_Ps 1 (pc' := 61) (lv' := [(0, .ref s), (1, .ref a), (2, .int y41)]) (st' := [.ref s]) rfl ?_
        refine En_getR (j := 5) (g' := 20) (u := 0) rfl rfl rfl hs (by decide +kernel) h43 (by decide +kernel) (fun a60 h59 ha60 => ?_)
        have t61 : a60 = s + 2 := ref_uniq h59 (FXP_fr (PLA_of hs) hX h44 (by decide +kernel)).2.1
        refine En_Ps 1 (pc' := 65) (lv' := [(0, .ref s), (1, .ref a), (2, .int y41)]) (st' := [.ref a, .ref a60]) rfl ?_
        refine En_getR (j := 5) (g' := 20) (u := 0) rfl rfl rfl ha (by decide +kernel) h43 (by decide +kernel) (fun a63 h62 ha63 => ?_)
        have t64 : a63 = a + 2 := ref_uniq h62 (FXI_fr (PLI_of ha) hY h44 (by decide +kernel)).2.1
        obtain ⟨a66, h65, ha66⟩ := WT_peekR (g := 20) (j := 0) (g' := 21) (u := 0) h43 ha60 (by decide +kernel) (by decide +kernel)
        have t67 : a66 = s + 3 := EKk (FXP_fr (PLA_of hs) hX h44 (by decide +kernel)) t61 h65
        obtain ⟨a69, h68, ha69⟩ := WT_peekR (g := 20) (j := 1) (g' := 22) (u := 0) h43 ha60 (by decide +kernel) (by decide +kernel)
        have t70 : a69 = s + 4 := EKo (FXP_fr (PLA_of hs) hX h44 (by decide +kernel)) t61 h68
        obtain ⟨a72, h71, ha72⟩ := WT_peekR (g := 20) (j := 0) (g' := 21) (u := 0) h43 ha63 (by decide +kernel) (by decide +kernel)
        have t73 : a72 = a + 3 := EKk (FXI_fr (PLI_of ha) hY h44 (by decide +kernel)) t64 h71
        obtain ⟨a75, h74, ha75⟩ := WT_peekR (g := 20) (j := 1) (g' := 22) (u := 0) h43 ha63 (by decide +kernel) (by decide +kernel)
        have t76 : a75 = a + 4 := EKo (FXI_fr (PLI_of ha) hY h44 (by decide +kernel)) t64 h74
        obtain ⟨z78, h77, h79, h80⟩ := WT_peekI h43 ha63 (by decide +kernel : FT 20 2 = (0, 0, 13)) (by decide +kernel)
        refine En_callV rfl rfl rfl rfl rfl rfl rfl rfl ha60 (by decide +kernel) rfl (c_40x σ42 h43 a60 ha60 a63 ha63 a66 ha66 h65 a69 ha69 h68 a72 ha72 h71 a75 ha75 h74 z78 h77 (by omega) (by omega) (by omega)) (by decide) (by decide) (fun v82 σ83 h81 => ?_)
        obtain ⟨h84, h85, rfl, h86⟩ := h81
        have h87 := h86
        have h88 := Fr_trans h44 h85 (by decide +kernel)
        have c89 := CPD_ex c58 hS h87 (by omega) (by omega) (by omega) (by omega) (by omega) (by omega)
        refine En_Ps 2 (pc' := 73) (lv' := [(0, .ref s), (1, .ref a), (2, .int y41)]) (st' := [.ref a, .ref s]) rfl ?_
        refine En_getI (j := 6) (l := 0) (u := 15) rfl rfl rfl ha (by decide +kernel) h84 (by decide +kernel) (fun z91 h90 h92 h93 => ?_)
        refine En_put (j := 6) rfl rfl rfl hs (by decide +kernel) rfl (vI (l := 0) (u := 15) (by decide +kernel) rfl (by first | exact q_58e6e51dcc h92 | omega) (by first | exact q_5a4d8a7e08 h93 | omega)) h84 h88 (by decide +kernel) (fun σ94 h95 h96 h97 h98 => ?_)
        have c99 := CPD_put (i0 := 8) c89 hS h90 h97 h98 (by decide) (by decide) (by decide) (by decide)
        refine En_Ps 2 (pc' := 81) (lv' := [(0, .ref s), (1, .ref a), (2, .int y41)]) (st' := [.ref a, .ref s]) rfl ?_
        refine En_getI (j := 7) (l := 0) (u := 15) rfl rfl rfl ha (by decide +kernel) h95 (by decide +kernel) (fun z101 h100 h102 h103 => ?_)
        refine En_put (j := 7) rfl rfl rfl hs (by decide +kernel) rfl (vI (l := 0) (u := 15) (by decide +kernel) rfl (by first | exact q_58e6e51dcc h102 | omega) (by first | exact q_5a4d8a7e08 h103 | omega)) h95 h96 (by decide +kernel) (fun σ104 h105 h106 h107 h108 => ?_)
        have c109 := CPD_put (i0 := 9) c99 hS h100 h107 h108 (by decide) (by decide) (by decide) (by decide)
        refine En_Ps 2 (pc' := 89) (lv' := [(0, .ref s), (1, .ref a), (2, .int y41)]) (st' := [.ref a, .ref s]) rfl ?_
        refine En_getI (j := 8) (l := 0) (u := 4) rfl rfl rfl ha (by decide +kernel) h105 (by decide +kernel) (fun z111 h110 h112 h113 => ?_)
        refine En_put (j := 8) rfl rfl rfl hs (by decide +kernel) rfl (vI (l := 0) (u := 4) (by decide +kernel) rfl (by first | exact q_58e6e51dcc h112 | omega) (by first | exact q_c82ed93a8c h113 | omega)) h105 h106 (by decide +kernel) (fun σ114 h115 h116 h117 h118 => ?_)
        have c119 := CPD_put (i0 := 4) c109 hS h110 h117 h118 (by decide) (by decide) (by decide) (by decide)
        refine En_Ps 1 (pc' := 96) (lv' := [(0, .ref s), (1, .ref a), (2, .int y41)]) (st' := [.ref a]) rfl ?_
        refine En_getR (j := 9) (g' := 23) (u := 0) rfl rfl rfl ha (by decide +kernel) h115 (by decide +kernel) (fun a121 h120 ha121 => ?_)
        have t122 : a121 = a + 5 := ref_uniq h120 (FXI_fr (PLI_of ha) hY h116 (by decide +kernel)).2.2.1
        refine En_Ps 2 (pc' := 101) (lv' := [(0, .ref s), (1, .ref a), (2, .int y41)]) (st' := [.ref s, .int ((Int32.ofInt 0)), .ref a121]) rfl ?_
        refine En_getR (j := 9) (g' := 23) (u := 0) rfl rfl rfl hs (by decide +kernel) h115 (by decide +kernel) (fun a124 h123 ha124 => ?_)
        have t125 : a124 = s + 5 := ref_uniq h123 (FXP_fr (PLA_of hs) hX h116 (by decide +kernel)).2.2.1
        refine En_Ps 2 (pc' := 106) (lv' := [(0, .ref s), (1, .ref a), (2, .int y41)]) (st' := [.int ((Int32.ofInt 4)), .int ((Int32.ofInt 0)), .ref a124, .int ((Int32.ofInt 0)), .ref a121]) rfl ?_
        refine En_copyX (n0 := 4) (n1 := 4) (by decide : (Int32.ofInt 4).toInt = 4) (by decide : (Int32.ofInt 0).toInt = 0) (by decide : (Int32.ofInt 0).toInt = 0) rfl rfl rfl rfl ha121 ha124 (by decide +kernel) (by decide +kernel) (by decide +kernel) (by decide +kernel) (by decide +kernel) (by (first | decide | omega)) (by (first | decide | omega)) (by (first | decide | omega)) (by (first | decide | omega)) (by (first | decide | omega)) h115 h116 (by decide +kernel) (fun σ126 h127 h128 h129 h130 => ?_)
        have h131 := ROW_mk (n := 4) h129 h130 (by decide) (by decide) (by decide)
        have c132 := CPD_row c119 hS h131 t125 t122 (by decide) (by decide +kernel)
        refine En_Ps 1 (pc' := 110) (lv' := [(0, .ref s), (1, .ref a), (2, .int y41)]) (st' := [.ref a]) rfl ?_
        refine En_getR (j := 10) (g' := 24) (u := 0) rfl rfl rfl ha (by decide +kernel) h127 (by decide +kernel) (fun a134 h133 ha134 => ?_)
        have t135 : a134 = a + 6 := ref_uniq h133 (FXI_fr (PLI_of ha) hY h128 (by decide +kernel)).2.2.2.1
        refine En_Ps 2 (pc' := 115) (lv' := [(0, .ref s), (1, .ref a), (2, .int y41)]) (st' := [.ref s, .int ((Int32.ofInt 0)), .ref a134]) rfl ?_
        refine En_getR (j := 10) (g' := 24) (u := 0) rfl rfl rfl hs (by decide +kernel) h127 (by decide +kernel) (fun a137 h136 ha137 => ?_)
        have t138 : a137 = s + 6 := ref_uniq h136 (FXP_fr (PLA_of hs) hX h128 (by decide +kernel)).2.2.2.1
        refine En_Ps 2 (pc' := 120) (lv' := [(0, .ref s), (1, .ref a), (2, .int y41)]) (st' := [.int ((Int32.ofInt 4)), .int ((Int32.ofInt 0)), .ref a137, .int ((Int32.ofInt 0)), .ref a134]) rfl ?_
        refine En_copyX (n0 := 4) (n1 := 4) (by decide : (Int32.ofInt 4).toInt = 4) (by decide : (Int32.ofInt 0).toInt = 0) (by decide : (Int32.ofInt 0).toInt = 0) rfl rfl rfl rfl ha134 ha137 (by decide +kernel) (by decide +kernel) (by decide +kernel) (by decide +kernel) (by decide +kernel) (by (first | decide | omega)) (by (first | decide | omega)) (by (first | decide | omega)) (by (first | decide | omega)) (by (first | decide | omega)) h127 h128 (by decide +kernel) (fun σ139 h140 h141 h142 h143 => ?_)
        have h144 := ROW_mk (n := 4) h142 h143 (by decide) (by decide) (by decide)
        have c145 := CPD_row c132 hS h144 t138 t135 (by decide) (by decide +kernel)
        refine En_Ps 2 (pc' := 125) (lv' := [(0, .ref s), (1, .ref a), (2, .int y41)]) (st' := [.ref a, .ref s]) rfl ?_
        refine En_getI (j := 11) (l := 0) (u := 6) rfl rfl rfl ha (by decide +kernel) h140 (by decide +kernel) (fun z147 h146 h148 h149 => ?_)
        refine En_put (j := 11) rfl rfl rfl hs (by decide +kernel) rfl (vI (l := 0) (u := 6) (by decide +kernel) rfl (by first | exact q_58e6e51dcc h148 | omega) (by first | exact q_615333d33f h149 | omega)) h140 h141 (by decide +kernel) (fun σ150 h151 h152 h153 h154 => ?_)
        have c155 := CPD_put (i0 := 5) c145 hS h146 h153 h154 (by decide) (by decide) (by decide) (by decide)
        refine En_Ps 1 (pc' := 132) (lv' := [(0, .ref s), (1, .ref a), (2, .int y41)]) (st' := [.ref a]) rfl ?_
        refine En_getR (j := 12) (g' := 25) (u := 0) rfl rfl rfl ha (by decide +kernel) h151 (by decide +kernel) (fun a157 h156 ha157 => ?_)
        have t158 : a157 = a + 7 := ref_uniq h156 (FXI_fr (PLI_of ha) hY h152 (by decide +kernel)).2.2.2.2.1
        refine En_Ps 2 (pc' := 137) (lv' := [(0, .ref s), (1, .ref a), (2, .int y41)]) (st' := [.ref s, .int ((Int32.ofInt 0)), .ref a157]) rfl ?_
        refine En_getR (j := 12) (g' := 25) (u := 0) rfl rfl rfl hs (by decide +kernel) h151 (by decide +kernel) (fun a160 h159 ha160 => ?_)
        have t161 : a160 = s + 7 := ref_uniq h159 (FXP_fr (PLA_of hs) hX h152 (by decide +kernel)).2.2.2.2.1
        refine En_Ps 2 (pc' := 143) (lv' := [(0, .ref s), (1, .ref a), (2, .int y41)]) (st' := [.int (((Int8.ofInt 6).toInt32)), .int ((Int32.ofInt 0)), .ref a160, .int ((Int32.ofInt 0)), .ref a157]) rfl ?_
        refine En_copyX (n0 := 6) (n1 := 6) (by decide : ((Int8.ofInt 6).toInt32).toInt = 6) (by decide : (Int32.ofInt 0).toInt = 0) (by decide : (Int32.ofInt 0).toInt = 0) rfl rfl rfl rfl ha157 ha160 (by decide +kernel) (by decide +kernel) (by decide +kernel) (by decide +kernel) (by decide +kernel) (by (first | decide | omega)) (by (first | decide | omega)) (by (first | decide | omega)) (by (first | decide | omega)) (by (first | decide | omega)) h151 h152 (by decide +kernel) (fun σ162 h163 h164 h165 h166 => ?_)
        have h167 := ROW_mk (n := 6) h165 h166 (by decide) (by decide) (by decide)
        have c168 := CPD_row c155 hS h167 t161 t158 (by decide) (by decide +kernel)
        refine En_Ps 1 (pc' := 147) (lv' := [(0, .ref s), (1, .ref a), (2, .int y41)]) (st' := [.ref a]) rfl ?_
        refine En_getR (j := 13) (g' := 26) (u := 0) rfl rfl rfl ha (by decide +kernel) h163 (by decide +kernel) (fun a170 h169 ha170 => ?_)
        have t171 : a170 = a + 8 := ref_uniq h169 (FXI_fr (PLI_of ha) hY h164 (by decide +kernel)).2.2.2.2.2.1
        refine En_Ps 2 (pc' := 152) (lv' := [(0, .ref s), (1, .ref a), (2, .int y41)]) (st' := [.ref s, .int ((Int32.ofInt 0)), .ref a170]) rfl ?_
        refine En_getR (j := 13) (g' := 26) (u := 0) rfl rfl rfl hs (by decide +kernel) h163 (by decide +kernel) (fun a173 h172 ha173 => ?_)
        have t174 : a173 = s + 8 := ref_uniq h172 (FXP_fr (PLA_of hs) hX h164 (by decide +kernel)).2.2.2.2.2.1
        refine En_Ps 2 (pc' := 158) (lv' := [(0, .ref s), (1, .ref a), (2, .int y41)]) (st' := [.int (((Int8.ofInt 6).toInt32)), .int ((Int32.ofInt 0)), .ref a173, .int ((Int32.ofInt 0)), .ref a170]) rfl ?_
        refine En_copyX (n0 := 6) (n1 := 6) (by decide : ((Int8.ofInt 6).toInt32).toInt = 6) (by decide : (Int32.ofInt 0).toInt = 0) (by decide : (Int32.ofInt 0).toInt = 0) rfl rfl rfl rfl ha170 ha173 (by decide +kernel) (by decide +kernel) (by decide +kernel) (by decide +kernel) (by decide +kernel) (by (first | decide | omega)) (by (first | decide | omega)) (by (first | decide | omega)) (by (first | decide | omega)) (by (first | decide | omega)) h163 h164 (by decide +kernel) (fun σ175 h176 h177 h178 h179 => ?_)
        have h180 := ROW_mk (n := 6) h178 h179 (by decide) (by decide) (by decide)
        have c181 := CPD_row c168 hS h180 t174 t171 (by decide) (by decide +kernel)
        refine En_Ps 2 (pc' := 163) (lv' := [(0, .ref s), (1, .ref a), (2, .int y41)]) (st' := [.ref a, .ref s]) rfl ?_
        refine En_getI (j := 14) (l := 0) (u := 60) rfl rfl rfl ha (by decide +kernel) h176 (by decide +kernel) (fun z183 h182 h184 h185 => ?_)
        refine En_put (j := 14) rfl rfl rfl hs (by decide +kernel) rfl (vI (l := 0) (u := 60) (by decide +kernel) rfl (by first | exact q_58e6e51dcc h184 | omega) (by first | exact q_d3912a5755 h185 | omega)) h176 h177 (by decide +kernel) (fun σ186 h187 h188 h189 h190 => ?_)
        have c191 := CPD_put (i0 := 6) c181 hS h182 h189 h190 (by decide) (by decide) (by decide) (by decide)
        refine En_Ps 1 (pc' := 170) (lv' := [(0, .ref s), (1, .ref a), (2, .int y41)]) (st' := [.ref a]) rfl ?_
        refine En_getR (j := 15) (g' := 27) (u := 0) rfl rfl rfl ha (by decide +kernel) h187 (by decide +kernel) (fun a193 h192 ha193 => ?_)
        have t194 : a193 = a + 9 := ref_uniq h192 (FXI_fr (PLI_of ha) hY h188 (by decide +kernel)).2.2.2.2.2.2.1
        refine En_Ps 2 (pc' := 175) (lv' := [(0, .ref s), (1, .ref a), (2, .int y41)]) (st' := [.ref s, .int ((Int32.ofInt 0)), .ref a193]) rfl ?_
        refine En_getR (j := 15) (g' := 27) (u := 0) rfl rfl rfl hs (by decide +kernel) h187 (by decide +kernel) (fun a196 h195 ha196 => ?_)
        have t197 : a196 = s + 9 := ref_uniq h195 (FXP_fr (PLA_of hs) hX h188 (by decide +kernel)).2.2.2.2.2.2.1
        refine En_Ps 2 (pc' := 181) (lv' := [(0, .ref s), (1, .ref a), (2, .int y41)]) (st' := [.int (((Int8.ofInt 60).toInt32)), .int ((Int32.ofInt 0)), .ref a196, .int ((Int32.ofInt 0)), .ref a193]) rfl ?_
        refine En_copyX (n0 := 60) (n1 := 60) (by decide : ((Int8.ofInt 60).toInt32).toInt = 60) (by decide : (Int32.ofInt 0).toInt = 0) (by decide : (Int32.ofInt 0).toInt = 0) rfl rfl rfl rfl ha193 ha196 (by decide +kernel) (by decide +kernel) (by decide +kernel) (by decide +kernel) (by decide +kernel) (by (first | decide | omega)) (by (first | decide | omega)) (by (first | decide | omega)) (by (first | decide | omega)) (by (first | decide | omega)) h187 h188 (by decide +kernel) (fun σ198 h199 h200 h201 h202 => ?_)
        have h203 := ROW_mk (n := 60) h201 h202 (by decide) (by decide) (by decide)
        have c204 := CPD_row c191 hS h203 t197 t194 (by decide) (by decide +kernel)
        exact En_ret (v := none) rfl rfl rfl ⟨h199, h200, z12, ((h201 _ _ (neTG hs ha196 (by decide))).trans ((h190 _ _ (Or.inr (by decide))).trans ((h178 _ _ (neTG hs ha173 (by decide))).trans ((h165 _ _ (neTG hs ha160 (by decide))).trans ((h154 _ _ (Or.inr (by decide))).trans ((h142 _ _ (neTG hs ha137 (by decide))).trans ((h129 _ _ (neTG hs ha124 (by decide))).trans ((h118 _ _ (Or.inr (by decide))).trans ((h108 _ _ (Or.inr (by decide))).trans ((h98 _ _ (Or.inr (by decide))).trans ((h85 _ _ (inW hs (by decide +kernel))).trans h48))))))))))), rfl, ⟨by first | exact q_c803b490ef h13 | omega, by first | exact q_3919a0a4ce h14 | omega, CPD_all c204⟩⟩
      · refine En_Ps 1 (pc' := 40) (lv' := [(0, .ref s), (1, .ref a), (2, .int y41)]) (st' := [.ref s]) rfl ?_
        refine En_getR (j := 4) (g' := 19) (u := 0) rfl rfl rfl hs (by decide +kernel) h43 (by decide +kernel) (fun a206 h205 ha206 => ?_)
        have t207 : a206 = s + 1 := ref_uniq h205 (FXP_fr (PLA_of hs) hX h44 (by decide +kernel)).1
        refine En_Ps 1 (pc' := 44) (lv' := [(0, .ref s), (1, .ref a), (2, .int y41)]) (st' := [.int y41, .ref a206]) rfl ?_
        refine En_aald (g' := 28) (u := 0) rfl rfl ha206 (by decide +kernel) h43 (by first | exact q_58e6e51dcc h53 | omega) (lnI (by decide +kernel : LN _ = 4) (by first | exact q_074a8b422d h57 | omega)) (FTsgl (by decide +kernel)) (fun a209 h208 ha209 => ?_)
        have t210 : a209 = s + 10 + 4 * (y41.toInt).toNat := DRe (d := y41.toInt) (FXP_fr (PLA_of hs) hX h44 (by decide +kernel)) t207 h208 (by (first | exact q_58e6e51dcc h53 | omega)) (by (first | exact q_d7767d4ccc h57 | omega))
        have t211 := lc_d (d := y41.toInt) (by (first | exact q_58e6e51dcc h53 | omega)) (by (first | exact q_d7767d4ccc h57 | omega))
        refine En_Ps 1 (pc' := 46) (lv' := [(0, .ref s), (1, .ref a), (2, .int y41)]) (st' := [.ref a, .ref a209]) rfl ?_
        refine En_getR (j := 4) (g' := 19) (u := 0) rfl rfl rfl ha (by decide +kernel) h43 (by decide +kernel) (fun a213 h212 ha213 => ?_)
        have t214 : a213 = a + 1 := ref_uniq h212 (FXI_fr (PLI_of ha) hY h44 (by decide +kernel)).1
        refine En_Ps 1 (pc' := 50) (lv' := [(0, .ref s), (1, .ref a), (2, .int y41)]) (st' := [.int y41, .ref a213, .ref a209]) rfl ?_
        refine En_aald (g' := 28) (u := 0) rfl rfl ha213 (by decide +kernel) h43 (by first | exact q_58e6e51dcc h53 | omega) (lnI (by decide +kernel : LN _ = 4) (by first | exact q_074a8b422d h57 | omega)) (FTsgl (by decide +kernel)) (fun a216 h215 ha216 => ?_)
        have t217 : a216 = a + 10 + 4 * (y41.toInt).toNat := DRe (d := y41.toInt) (FXI_fr (PLI_of ha) hY h44 (by decide +kernel)) t214 h215 (by (first | exact q_58e6e51dcc h53 | omega)) (by (first | exact q_d7767d4ccc h57 | omega))
        have t218 := lc_d (d := y41.toInt) (by (first | exact q_58e6e51dcc h53 | omega)) (by (first | exact q_d7767d4ccc h57 | omega))
        obtain ⟨a220, h219, ha220⟩ := WT_peekR (g := 28) (j := 0) (g' := 20) (u := 0) h43 ha209 (by decide +kernel) (by decide +kernel)
        have t221 : a220 = s + 11 + 4 * (y41.toInt).toNat := DLc (d := y41.toInt) (FXP_fr (PLA_of hs) hX h44 (by decide +kernel)) t210 h219 (by (first | exact q_58e6e51dcc h53 | omega)) (by (first | exact q_d7767d4ccc h57 | omega))
        obtain ⟨a223, h222, ha223⟩ := WT_peekR (g := 20) (j := 0) (g' := 21) (u := 0) h43 ha220 (by decide +kernel) (by decide +kernel)
        have t224 : a223 = s + 12 + 4 * (y41.toInt).toNat := DKk (d := y41.toInt) (FXP_fr (PLA_of hs) hX h44 (by decide +kernel)) t221 h222 (by (first | exact q_58e6e51dcc h53 | omega)) (by (first | exact q_d7767d4ccc h57 | omega))
        obtain ⟨a226, h225, ha226⟩ := WT_peekR (g := 20) (j := 1) (g' := 22) (u := 0) h43 ha220 (by decide +kernel) (by decide +kernel)
        have t227 : a226 = s + 13 + 4 * (y41.toInt).toNat := DKo (d := y41.toInt) (FXP_fr (PLA_of hs) hX h44 (by decide +kernel)) t221 h225 (by (first | exact q_58e6e51dcc h53 | omega)) (by (first | exact q_d7767d4ccc h57 | omega))
        obtain ⟨a229, h228, ha229⟩ := WT_peekR (g := 28) (j := 0) (g' := 20) (u := 0) h43 ha216 (by decide +kernel) (by decide +kernel)
        have t230 : a229 = a + 11 + 4 * (y41.toInt).toNat := DLc (d := y41.toInt) (FXI_fr (PLI_of ha) hY h44 (by decide +kernel)) t217 h228 (by (first | exact q_58e6e51dcc h53 | omega)) (by (first | exact q_d7767d4ccc h57 | omega))
        obtain ⟨a232, h231, ha232⟩ := WT_peekR (g := 20) (j := 0) (g' := 21) (u := 0) h43 ha229 (by decide +kernel) (by decide +kernel)
        have t233 : a232 = a + 12 + 4 * (y41.toInt).toNat := DKk (d := y41.toInt) (FXI_fr (PLI_of ha) hY h44 (by decide +kernel)) t230 h231 (by (first | exact q_58e6e51dcc h53 | omega)) (by (first | exact q_d7767d4ccc h57 | omega))
        obtain ⟨a235, h234, ha235⟩ := WT_peekR (g := 20) (j := 1) (g' := 22) (u := 0) h43 ha229 (by decide +kernel) (by decide +kernel)
        have t236 : a235 = a + 13 + 4 * (y41.toInt).toNat := DKo (d := y41.toInt) (FXI_fr (PLI_of ha) hY h44 (by decide +kernel)) t230 h234 (by (first | exact q_58e6e51dcc h53 | omega)) (by (first | exact q_d7767d4ccc h57 | omega))
        refine En_callV rfl rfl rfl rfl rfl rfl rfl rfl ha209 (by decide +kernel) rfl (c_14x σ42 h43 a209 ha209 a216 ha216 a220 ha220 h219 a223 ha223 h222 a226 ha226 h225 a229 ha229 h228 a232 ha232 h231 a235 ha235 h234 (by omega) (by omega) (by omega)) (by decide) (by decide) (fun v238 σ239 h237 => ?_)
        obtain ⟨h240, h241, rfl, h242⟩ := h237
        have h243 := h242
        have h244 := Fr_trans h44 h241 (by decide +kernel)
        have c245 := CPL_s (y' := y41.toInt + 1) h56 hS h243 (by omega) (by omega) (by omega) (by omega) (by omega) (by omega) (by omega) (by omega) (by (first | exact q_58e6e51dcc h53 | omega)) (by (first | exact q_d7767d4ccc h57 | omega)) rfl
        refine En_Ps 1 (pc' := 57) (lv' := [(2, .int ((y41 + Int32.ofInt 1))), (0, .ref s), (1, .ref a)]) (st' := []) rfl ?_
        refine En_lv1 (addI rfl (by decide : (Int32.ofInt 1).toInt = 1) (by first | exact q_465ab79ac1 h53 | omega) (by first | exact q_d8bf7f475a h57 | omega)) (fun z246 h247 => ?_)
        refine En_Ps 1 (pc' := 34) (lv' := [(2, .int z246), (0, .ref s), (1, .ref a)]) (st' := []) rfl ?_
        refine En_lv (lv := [(0, .ref s), (1, .ref a), (2, .int z246)]) ⟨rfl, rfl, rfl, trivial⟩ ?_
        exact ih34 σ239 z246 h240 h244 ((h241 _ _ (inW ha (by decide +kernel))).trans h45) ((h241 _ _ (inW hs (by decide +kernel))).trans h46) ((h241 _ _ (inW ha (by decide +kernel))).trans h47) ((h241 _ _ (inW hs (by decide +kernel))).trans h48) ((h241 _ _ (inW ha (by decide +kernel))).trans h49) ((h241 _ _ (inW hs (by decide +kernel))).trans h50) ((h241 _ _ (inW ha (by decide +kernel))).trans h51) ((h241 _ _ (inW hs (by decide +kernel))).trans h52) (by first | exact q_35104ce9d3 h247 h53 | omega) (by first | exact q_ddc5c16a68 h247 h57 | omega) (by first | exact q_3d8d70ace2 h247 h55 | omega) (CPL_e c245 (by (first | exact q_dd63493976 h247 | omega)))
  have := (by decide : (Int32.ofInt 0).toInt = 0)
  refine En_lv (lv := [(0, .ref s), (1, .ref a), (2, .int ((Int32.ofInt 0)))]) ⟨rfl, rfl, rfl, trivial⟩ ?_
  exact key34 (Int.toNat (4) + 1) σ35 ((Int32.ofInt 0)) h36 h37 ((h39 _ _ (Or.inr (by decide))).trans ((h29 _ _ (Or.inr (by decide))).trans ((h19 _ _ (Or.inr (by decide))).trans ((h9 _ _ (Or.inl (neTG ha hs (by decide)))).trans h1)))) ((h39 _ _ (Or.inr (by decide))).trans ((h29 _ _ (Or.inr (by decide))).trans ((h19 _ _ (Or.inr (by decide))).trans h8))) ((h39 _ _ (Or.inr (by decide))).trans ((h29 _ _ (Or.inr (by decide))).trans ((h19 _ _ (Or.inl (neTG ha hs (by decide)))).trans h11))) ((h39 _ _ (Or.inr (by decide))).trans ((h29 _ _ (Or.inr (by decide))).trans h18)) ((h39 _ _ (Or.inr (by decide))).trans ((h29 _ _ (Or.inl (neTG ha hs (by decide)))).trans h21)) ((h39 _ _ (Or.inr (by decide))).trans h28) ((h39 _ _ (Or.inl (neTG ha hs (by decide)))).trans h31) h38 (by decide) (by decide) (by first | exact toN_lt _ | omega) (CPL_0 c40 (by decide))
/-- DoorSchool$Reader.blame(I)V -/
abbrev P_54x (σ0 : SG) (By : Int → Int) (Nb : Int) (Sp : PS) (a : Int32) (f : Int32) : PO := fun v σ => WT σ ∧ Fr [(3, 5), (3, 6)] σ0 σ ∧ ∃ f1 : Int32, (σ 3)[5]? = some (Value.int f1) ∧ v = none ∧ -f1.toInt + 1 ≤ 0 ∧ f1.toInt - 3 ≤ 0 ∧ -f1.toInt + f.toInt ≤ 0 ∧ Imp (f.toInt ≤ 0) (f1.toInt - a.toInt ≤ 0 ∧ -f1.toInt + a.toInt ≤ 0) ∧ Imp (-f.toInt + 1 ≤ 0) (f1.toInt - f.toInt ≤ 0 ∧ -f1.toInt + f.toInt ≤ 0) ∧ CT By Nb σ (err By Nb a.toInt Sp)
set_option maxRecDepth 10000 in
set_option maxHeartbeats 4000000 in
theorem c_54x {By : Int → Int} {Nb : Int} {Sp : PS} (σ0 : SG) (hσ0 : WT σ0) (a : Int32) (hl_a : 1 ≤ a.toInt) (hu_a : a.toInt ≤ 3) (f : Int32) (h_f : (σ0 3)[5]? = some (Value.int f)) (hC : CT By Nb σ0 Sp) : En 0 0 none mr_54 (P_54x σ0 By Nb Sp a f) 0 [(0, .ref 3), (1, .int a)] [] σ0 := by
  obtain ⟨hl_f, hu_f⟩ := WT_int hσ0 (g := 3) (by decide +kernel) (by decide +kernel) (l := 0) (u := 3) (by decide +kernel) h_f
  have hF0 : Fr [(3, 5), (3, 6)] σ0 σ0 := Fr_rfl
  have h1 := CT_k hC h_f
  obtain ⟨z3, h2, h4, h5⟩ := WT_peekI hσ0 tgz_3 (by decide +kernel : FT 3 2 = (0, 0, 1600)) (by decide +kernel)
  refine En_Ps 1 (pc' := 1) (lv' := [(0, .ref 3), (1, .int a)]) (st' := [.ref 3]) rfl ?_
  refine En_getK (j := 5) h_f rfl rfl rfl tgz_3 (by decide +kernel) ?_
  refine En_iNe _ rfl rfl (fun h6 => ?_) (fun h6 => ?_)
  · exact En_ret (v := none) rfl rfl rfl ⟨hσ0, hF0, f, h_f, rfl, ⟨by first | exact q_e74c65d0a8 h6 hl_f | omega, by first | exact q_e9a8eec0c4 hu_f | omega, by first | exact q_857069189f | omega, fun hh => by first | exact ⟨q_f1b4405731 hl_a hh, q_6030c79a6f h6 hl_f hh⟩ | omega, fun hh => by first | exact ⟨q_1bb76abeaf, q_857069189f⟩ | omega, (by rw [err_bad (by (first | exact q_957696b956 h6 hl_f h1 | omega))]; exact hC)⟩⟩
  · refine En_Ps 2 (pc' := 9) (lv' := [(0, .ref 3), (1, .int a)]) (st' := [.int a, .ref 3]) rfl ?_
    refine En_put (j := 5) rfl rfl rfl tgz_3 (by decide +kernel) rfl (vI (l := 0) (u := 3) (by decide +kernel) rfl (by first | exact q_337a85e294 hl_a | omega) (by first | exact q_da5e9b976f hu_a | omega)) hσ0 hF0 (by decide +kernel) (fun σ7 h8 h9 h10 h11 => ?_)
    refine En_Ps 2 (pc' := 14) (lv' := [(0, .ref 3), (1, .int a)]) (st' := [.ref 3, .ref 3]) rfl ?_
    refine En_getK (j := 2) ((h11 _ _ (Or.inr (by decide))).trans h2) rfl rfl rfl tgz_3 (by decide +kernel) ?_
    refine En_put (j := 6) rfl rfl rfl tgz_3 (by decide +kernel) rfl (vI (l := (-1)) (u := 1600) (by decide +kernel) rfl (by first | exact q_5b439548fc h4 | omega) (by first | exact q_246f9048f8 h5 | omega)) h8 h9 (by decide +kernel) (fun σ12 h13 h14 h15 h16 => ?_)
    exact En_ret (v := none) rfl rfl rfl ⟨h13, h14, a, ((h16 _ _ (Or.inr (by decide))).trans h10), rfl, ⟨by first | exact q_996bab80f3 hl_a | omega, by first | exact q_e9a8eec0c4 hu_a | omega, by first | exact q_6caa29d3e5 hl_a h6 | omega, fun hh => by first | exact ⟨q_1bb76abeaf, q_857069189f⟩ | omega, fun hh => by first | exact ⟨q_9f4a304547 hh h6, q_6caa29d3e5 hl_a h6⟩ | omega, CT_err hC (by (first | exact q_ca23768860 h1 h6 | omega)) (by (first | exact q_5135621b52 hl_a | omega)) h14 (by decide +kernel) (ci_at (j := 5) ((h16 _ _ (Or.inr (by decide))).trans h10) rfl) h2 (ci_at (j := 6) h15 rfl)⟩⟩
/-- DoorSchool$Reader.isBlank(B)Z -/
abbrev P_56x (σ0 : SG) (a : Int32) : PO := fun v σ => WT σ ∧ Fr [] σ0 σ ∧ ∃ ret : Int32, v = some (Value.int ret) ∧ -ret.toInt ≤ 0 ∧ ret.toInt - 1 ≤ 0 ∧ Imp (ret.toInt - 1 ≤ 0 ∧ -ret.toInt + 1 ≤ 0) (-a.toInt + 10 ≤ 0 ∧ a.toInt - 32 ≤ 0) ∧ ((ret.toInt = 1 ∧ (a.toInt = 32 ∨ a.toInt = 10)) ∨ (ret.toInt = 0 ∧ a.toInt ≠ 32 ∧ a.toInt ≠ 10))
set_option maxRecDepth 10000 in
set_option maxHeartbeats 4000000 in
theorem c_56x (σ0 : SG) (hσ0 : WT σ0) (a : Int32) (hl_a : (-128) ≤ a.toInt) (hu_a : a.toInt ≤ 127) : En 0 0 none mr_56 (P_56x σ0 a) 0 [(0, .int a)] [] σ0 := by
  have hF0 : Fr [] σ0 σ0 := Fr_rfl
  refine En_Ps 2 (pc' := 3) (lv' := [(0, .int a)]) (st' := [.int (((Int8.ofInt 32).toInt32)), .int a]) rfl ?_
  refine En_icEq _ rfl (by decide : ((Int8.ofInt 32).toInt32).toInt = 32) rfl (fun h1 => ?_) (fun h1 => ?_)
  · refine En_Ps 2 (pc' := 17) (lv' := [(0, .int a)]) (st' := [.int ((Int32.ofInt 1))]) rfl ?_
    refine En_top (by decide : (Int32.ofInt 1).toInt = 1) (fun z2 h3 => ?_)
    exact En_ret (v := some (Value.int z2)) rfl rfl (retZ rfl rfl (by first | exact q_2b07c97645 h3 | omega) (by first | exact q_d9e7cbb253 h3 | omega)) ⟨hσ0, hF0, z2, rfl, ⟨by first | exact q_ad3eee31ca h3 | omega, by first | exact q_81cf297dc4 h3 | omega, fun hh => by first | exact ⟨q_c7bbab7bf1 h1, q_9db9c28d84 h1⟩ | omega, (by (first | exact q_71f8192873 h3 h1 | omega))⟩⟩
  · refine En_Ps 2 (pc' := 9) (lv' := [(0, .int a)]) (st' := [.int (((Int8.ofInt 10).toInt32)), .int a]) rfl ?_
    refine En_icNe _ rfl (by decide : ((Int8.ofInt 10).toInt32).toInt = 10) rfl (fun h4 => ?_) (fun h4 => ?_)
    · refine En_Ps 1 (pc' := 17) (lv' := [(0, .int a)]) (st' := [.int ((Int32.ofInt 0))]) rfl ?_
      refine En_top (by decide : (Int32.ofInt 0).toInt = 0) (fun z5 h6 => ?_)
      exact En_ret (v := some (Value.int z5)) rfl rfl (retZ rfl rfl (by first | exact q_55451d0a83 h6 | omega) (by first | exact q_87849c3859 h6 | omega)) ⟨hσ0, hF0, z5, rfl, ⟨by first | exact q_097a37c2ae h6 | omega, by first | exact q_e269517bee h6 | omega, fun _ => by omega, (by (first | exact q_fc41398999 h6 h4 h1 | omega))⟩⟩
    · refine En_Ps 2 (pc' := 17) (lv' := [(0, .int a)]) (st' := [.int ((Int32.ofInt 1))]) rfl ?_
      refine En_top (by decide : (Int32.ofInt 1).toInt = 1) (fun z7 h8 => ?_)
      exact En_ret (v := some (Value.int z7)) rfl rfl (retZ rfl rfl (by first | exact q_2b07c97645 h8 | omega) (by first | exact q_d9e7cbb253 h8 | omega)) ⟨hσ0, hF0, z7, rfl, ⟨by first | exact q_ad3eee31ca h8 | omega, by first | exact q_81cf297dc4 h8 | omega, fun hh => by first | exact ⟨q_bda69c322b h4, q_cc78147568 h4⟩ | omega, (by (first | exact q_b9c8b6ef91 h8 h4 | omega))⟩⟩
/-- DoorSchool$Reader.kindAt(I)I -/
abbrev P_57x (σ0 : SG) (By : Int → Int) (Nb : Int) (a : Int32) (m : Int32) : PO := fun v σ => WT σ ∧ Fr [] σ0 σ ∧ ∃ ret : Int32, v = some (Value.int ret) ∧ -ret.toInt ≤ 0 ∧ ret.toInt - 4 ≤ 0 ∧ Imp (-ret.toInt + 1 ≤ 0) (a.toInt - m.toInt + 1 ≤ 0) ∧ ret.toInt = kA By Nb a.toInt
set_option maxRecDepth 10000 in
set_option maxHeartbeats 4000000 in
theorem c_57x {By : Int → Int} {Nb : Int} (σ0 : SG) (hσ0 : WT σ0) (a : Int32) (hl_a : 0 ≤ a.toInt) (hu_a : a.toInt ≤ 1600) (m : Int32) (h_m : (σ0 1)[1]? = some (Value.int m)) (hT : TPc By Nb σ0) : En 0 0 none mr_57 (P_57x σ0 By Nb a m) 0 [(0, .ref 3), (1, .int a)] [] σ0 := by
  obtain ⟨hl_m, hu_m⟩ := WT_int hσ0 (g := 1) (by decide +kernel) (by decide +kernel) (l := 0) (u := 1600) (by decide +kernel) h_m
  have hF0 : Fr [] σ0 σ0 := Fr_rfl
  refine En_Ps 2 (pc' := 2) (lv' := [(0, .ref 3), (1, .int a)]) (st' := [.ref 3, .int a]) rfl ?_
  refine En_getU (j := 0) (u := 1) (g' := 1) (q := 0) rfl rfl rfl tgz_3 (by decide +kernel) hσ0 (by decide +kernel) un_1_1 (fun h1 => ?_)
  refine En_getK (j := 1) h_m rfl rfl rfl tgz_1 (by decide +kernel) ?_
  refine En_icLt _ rfl rfl rfl (fun h3 => ?_) (fun h3 => ?_)
  · refine En_Ps 1 (pc' := 14) (lv' := [(0, .ref 3), (1, .int a)]) (st' := [.ref 3]) rfl ?_
    refine En_getK (j := 0) h1 rfl rfl rfl tgz_3 (by decide +kernel) ?_
    refine En_getU (j := 0) (u := 2) (g' := 2) (q := 0) rfl rfl rfl tgz_1 (by decide +kernel) hσ0 (by decide +kernel) un_2_2 (fun h4 => ?_)
    refine En_Ps 1 (pc' := 21) (lv' := [(0, .ref 3), (1, .int a)]) (st' := [.int a, .ref 2]) rfl ?_
    refine En_bald (l := (-128)) (u := 127) rfl rfl tgz_2 (by decide +kernel) hσ0 (by first | exact q_58e6e51dcc hl_a | omega) (lnI (by decide +kernel : LN _ = 1600) (by first | exact q_dde7d71509 h3 hu_m | omega)) (FTsgl (by decide +kernel)) (fun z7 h6 h8 h9 => ?_)
    refine En_Ps 3 (pc' := 26) (lv' := [(2, .int z7), (0, .ref 3), (1, .int a)]) (st' := [.int (((Int8.ofInt 97).toInt32)), .int z7]) rfl ?_
    refine En_icLt _ rfl (by decide : ((Int8.ofInt 97).toInt32).toInt = 97) rfl (fun h10 => ?_) (fun h10 => ?_)
    · refine En_Ps 2 (pc' := 40) (lv' := [(2, .int z7), (0, .ref 3), (1, .int a)]) (st' := [.int (((Int8.ofInt 48).toInt32)), .int z7]) rfl ?_
      refine En_icLt _ rfl (by decide : ((Int8.ofInt 48).toInt32).toInt = 48) rfl (fun h11 => ?_) (fun h11 => ?_)
      · refine En_Ps 2 (pc' := 54) (lv' := [(2, .int z7), (0, .ref 3), (1, .int a)]) (st' := [.int (((Int8.ofInt 59).toInt32)), .int z7]) rfl ?_
        refine En_icNe _ rfl (by decide : ((Int8.ofInt 59).toInt32).toInt = 59) rfl (fun h12 => ?_) (fun hx => by first | exact (q_fbe680e378 hx h11).elim | (exfalso; omega))
        refine En_Ps 1 (pc' := 62) (lv' := [(2, .int z7), (0, .ref 3), (1, .int a)]) (st' := [.int ((Int32.ofInt 4))]) rfl ?_
        refine En_top (by decide : (Int32.ofInt 4).toInt = 4) (fun z13 h14 => ?_)
        exact En_ret (v := some (Value.int z13)) rfl rfl rfl ⟨hσ0, hF0, z13, rfl, ⟨by first | exact q_405755f924 h14 | omega, by first | exact q_ddd5c72b0d h14 | omega, fun hh => by first | exact q_1be5a5166e h3 | omega, (by have k9 := kA_c hT h_m (fun _ => h6) (by (first | exact q_58e6e51dcc hl_a | omega) : 0 ≤ a.toInt); (first | exact q_cf7e15aa5d k9 h3 h11 h14 | omega))⟩⟩
      · refine En_Ps 2 (pc' := 46) (lv' := [(2, .int z7), (0, .ref 3), (1, .int a)]) (st' := [.int (((Int8.ofInt 57).toInt32)), .int z7]) rfl ?_
        refine En_icGt _ rfl (by decide : ((Int8.ofInt 57).toInt32).toInt = 57) rfl (fun h15 => ?_) (fun h15 => ?_)
        · refine En_Ps 2 (pc' := 54) (lv' := [(2, .int z7), (0, .ref 3), (1, .int a)]) (st' := [.int (((Int8.ofInt 59).toInt32)), .int z7]) rfl ?_
          refine En_icNe _ rfl (by decide : ((Int8.ofInt 59).toInt32).toInt = 59) rfl (fun h16 => ?_) (fun h16 => ?_)
          · refine En_Ps 1 (pc' := 62) (lv' := [(2, .int z7), (0, .ref 3), (1, .int a)]) (st' := [.int ((Int32.ofInt 4))]) rfl ?_
            refine En_top (by decide : (Int32.ofInt 4).toInt = 4) (fun z17 h18 => ?_)
            exact En_ret (v := some (Value.int z17)) rfl rfl rfl ⟨hσ0, hF0, z17, rfl, ⟨by first | exact q_405755f924 h18 | omega, by first | exact q_ddd5c72b0d h18 | omega, fun hh => by first | exact q_1be5a5166e h3 | omega, (by have k9 := kA_c hT h_m (fun _ => h6) (by (first | exact q_58e6e51dcc hl_a | omega) : 0 ≤ a.toInt); (first | exact q_951faedaef k9 h3 h10 h15 h18 h16 | omega))⟩⟩
          · refine En_Ps 2 (pc' := 62) (lv' := [(2, .int z7), (0, .ref 3), (1, .int a)]) (st' := [.int ((Int32.ofInt 3))]) rfl ?_
            refine En_top (by decide : (Int32.ofInt 3).toInt = 3) (fun z19 h20 => ?_)
            exact En_ret (v := some (Value.int z19)) rfl rfl rfl ⟨hσ0, hF0, z19, rfl, ⟨by first | exact q_8a7bb54a7c h20 | omega, by first | exact q_3c1765b54d h20 | omega, fun hh => by first | exact q_1be5a5166e h3 | omega, (by have k9 := kA_c hT h_m (fun _ => h6) (by (first | exact q_58e6e51dcc hl_a | omega) : 0 ≤ a.toInt); (first | exact q_08aa0d6e90 k9 h3 h16 h20 | omega))⟩⟩
        · refine En_Ps 1 (pc' := 50) (lv' := [(2, .int z7), (0, .ref 3), (1, .int a)]) (st' := [.int ((Int32.ofInt 2))]) rfl ?_
          refine En_top (by decide : (Int32.ofInt 2).toInt = 2) (fun z21 h22 => ?_)
          exact En_ret (v := some (Value.int z21)) rfl rfl rfl ⟨hσ0, hF0, z21, rfl, ⟨by first | exact q_1984c8b6d4 h22 | omega, by first | exact q_6a1f4978ed h22 | omega, fun hh => by first | exact q_1be5a5166e h3 | omega, (by have k9 := kA_c hT h_m (fun _ => h6) (by (first | exact q_58e6e51dcc hl_a | omega) : 0 ≤ a.toInt); (first | exact q_505e45d4bf k9 h3 h15 h22 h11 | omega))⟩⟩
    · refine En_Ps 2 (pc' := 32) (lv' := [(2, .int z7), (0, .ref 3), (1, .int a)]) (st' := [.int (((Int8.ofInt 122).toInt32)), .int z7]) rfl ?_
      refine En_icGt _ rfl (by decide : ((Int8.ofInt 122).toInt32).toInt = 122) rfl (fun h23 => ?_) (fun h23 => ?_)
      · refine En_Ps 2 (pc' := 40) (lv' := [(2, .int z7), (0, .ref 3), (1, .int a)]) (st' := [.int (((Int8.ofInt 48).toInt32)), .int z7]) rfl ?_
        refine En_icLt _ rfl (by decide : ((Int8.ofInt 48).toInt32).toInt = 48) rfl (fun hx => by first | exact (q_c3c8561073 h23 hx).elim | (exfalso; omega)) (fun h24 => ?_)
        refine En_Ps 2 (pc' := 46) (lv' := [(2, .int z7), (0, .ref 3), (1, .int a)]) (st' := [.int (((Int8.ofInt 57).toInt32)), .int z7]) rfl ?_
        refine En_icGt _ rfl (by decide : ((Int8.ofInt 57).toInt32).toInt = 57) rfl (fun h25 => ?_) (fun hx => by first | exact (q_97de91e8fb h23 hx).elim | (exfalso; omega))
        refine En_Ps 2 (pc' := 54) (lv' := [(2, .int z7), (0, .ref 3), (1, .int a)]) (st' := [.int (((Int8.ofInt 59).toInt32)), .int z7]) rfl ?_
        refine En_icNe _ rfl (by decide : ((Int8.ofInt 59).toInt32).toInt = 59) rfl (fun h26 => ?_) (fun hx => by first | exact (q_8f7866e711 h23 hx).elim | (exfalso; omega))
        refine En_Ps 1 (pc' := 62) (lv' := [(2, .int z7), (0, .ref 3), (1, .int a)]) (st' := [.int ((Int32.ofInt 4))]) rfl ?_
        refine En_top (by decide : (Int32.ofInt 4).toInt = 4) (fun z27 h28 => ?_)
        exact En_ret (v := some (Value.int z27)) rfl rfl rfl ⟨hσ0, hF0, z27, rfl, ⟨by first | exact q_405755f924 h28 | omega, by first | exact q_ddd5c72b0d h28 | omega, fun hh => by first | exact q_1be5a5166e h3 | omega, (by have k9 := kA_c hT h_m (fun _ => h6) (by (first | exact q_58e6e51dcc hl_a | omega) : 0 ≤ a.toInt); (first | exact q_adaaa6054f k9 h3 h23 h28 | omega))⟩⟩
      · refine En_Ps 1 (pc' := 36) (lv' := [(2, .int z7), (0, .ref 3), (1, .int a)]) (st' := [.int ((Int32.ofInt 1))]) rfl ?_
        refine En_top (by decide : (Int32.ofInt 1).toInt = 1) (fun z29 h30 => ?_)
        exact En_ret (v := some (Value.int z29)) rfl rfl rfl ⟨hσ0, hF0, z29, rfl, ⟨by first | exact q_ad3eee31ca h30 | omega, by first | exact q_494aa80098 h30 | omega, fun hh => by first | exact q_1be5a5166e h3 | omega, (by have k9 := kA_c hT h_m (fun _ => h6) (by (first | exact q_58e6e51dcc hl_a | omega) : 0 ≤ a.toInt); (first | exact q_60ff90b603 k9 h3 h30 h10 h23 | omega))⟩⟩
  · refine En_Ps 1 (pc' := 12) (lv' := [(0, .ref 3), (1, .int a)]) (st' := [.int ((Int32.ofInt 0))]) rfl ?_
    refine En_top (by decide : (Int32.ofInt 0).toInt = 0) (fun z31 h32 => ?_)
    exact En_ret (v := some (Value.int z31)) rfl rfl rfl ⟨hσ0, hF0, z31, rfl, ⟨by first | exact q_097a37c2ae h32 | omega, by first | exact q_d4b5472250 h32 | omega, fun _ => by omega, kA_end hT h_m (by (first | exact q_7b14c78c18 h3 | omega)) (by (first | exact q_d2dcd30e56 h32 | omega))⟩⟩
/-- DoorSchool$Reader.numberHere(II)I -/
abbrev P_58x (σ0 : SG) (By : Int → Int) (Nb : Int) (Sp : PS) (a : Int32) (b : Int32) (f : Int32) : PO := fun v σ => WT σ ∧ Fr [(3, 5), (3, 6)] σ0 σ ∧ ∃ f1 : Int32, (σ 3)[5]? = some (Value.int f1) ∧ ∃ ret : Int32, v = some (Value.int ret) ∧ ret.toInt - 1000000 ≤ 0 ∧ -f1.toInt ≤ 0 ∧ f1.toInt - 3 ≤ 0 ∧ -f1.toInt + f.toInt ≤ 0 ∧ f.toInt - f1.toInt ≤ 0 ∧ Imp (f1.toInt ≤ 0) (a.toInt - ret.toInt ≤ 0 ∧ ret.toInt - b.toInt ≤ 0) ∧ Imp (-f1.toInt + 1 ≤ 0) (ret.toInt + 1 ≤ 0 ∧ -ret.toInt - 1 ≤ 0) ∧ Imp (-b.toInt - 1 ≤ 0) (ret.toInt - b.toInt ≤ 0) ∧ Imp (-a.toInt - 1 ≤ 0) (-ret.toInt - 1 ≤ 0) ∧ (CT By Nb σ (nH By Nb a.toInt b.toInt Sp) ∧ Imp ((nH By Nb a.toInt b.toInt Sp).1 = 0) (ret.toInt = tV By Nb Sp.2.2.1))
set_option maxRecDepth 10000 in
set_option maxHeartbeats 4000000 in
theorem c_58x {By : Int → Int} {Nb : Int} {Sp : PS} (σ0 : SG) (hσ0 : WT σ0) (a : Int32) (b : Int32) (f : Int32) (h_f : (σ0 3)[5]? = some (Value.int f)) (hC : CT By Nb σ0 Sp) : En 1 21 none mr_58 (P_58x σ0 By Nb Sp a b f) 0 [(0, .ref 3), (1, .int a), (2, .int b)] [] σ0 := by
  obtain ⟨hl_f, hu_f⟩ := WT_int hσ0 (g := 3) (by decide +kernel) (by decide +kernel) (l := 0) (u := 3) (by decide +kernel) h_f
  have hF0 : Fr [(3, 5), (3, 6)] σ0 σ0 := Fr_rfl
  obtain ⟨z2, h1, h3, h4⟩ := WT_peekI hσ0 tgz_3 (by decide +kernel : FT 3 1 = (0, 0, 4)) (by decide +kernel)
  obtain ⟨z6, h5, h7, h8⟩ := WT_peekI hσ0 tgz_3 (by decide +kernel : FT 3 4 = (0, (-2147483648), 1000000)) (by decide +kernel)
  have h9 := CT_k hC h_f
  have h10 : Imp (Sp.1 = 0) (tK By Nb Sp.2.2.1 = z2.toInt) := CT_t hC h1
  have h11 : Imp (Sp.1 = 0 ∧ tK By Nb Sp.2.2.1 = 2) (z6.toInt = tV By Nb Sp.2.2.1 ∧ 0 ≤ tV By Nb Sp.2.2.1) := fun q => CT_u hC h5 q.1 q.2
  refine En_Ps 1 (pc' := 1) (lv' := [(0, .ref 3), (1, .int a), (2, .int b)]) (st' := [.ref 3]) rfl ?_
  refine En_getK (j := 1) h1 rfl rfl rfl tgz_3 (by decide +kernel) ?_
  refine En_Ps 1 (pc' := 5) (lv' := [(0, .ref 3), (1, .int a), (2, .int b)]) (st' := [.int ((Int32.ofInt 2)), .int z2]) rfl ?_
  refine En_icEq _ rfl (by decide : (Int32.ofInt 2).toInt = 2) rfl (fun h12 => ?_) (fun h12 => ?_)
  · refine En_Ps 1 (pc' := 17) (lv' := [(0, .ref 3), (1, .int a), (2, .int b)]) (st' := [.ref 3]) rfl ?_
    refine En_getK (j := 4) h5 rfl rfl rfl tgz_3 (by decide +kernel) ?_
    refine En_Ps 1 (pc' := 21) (lv' := [(0, .ref 3), (1, .int a), (2, .int b)]) (st' := [.int a, .int z6]) rfl ?_
    refine En_icLt _ rfl rfl rfl (fun h13 => ?_) (fun h13 => ?_)
    · refine En_Ps 2 (pc' := 34) (lv' := [(0, .ref 3), (1, .int a), (2, .int b)]) (st' := [.int ((Int32.ofInt 2)), .ref 3]) rfl ?_
      have := (by decide : ((Int32.ofInt 2)).toInt = 2)
      refine En_callV rfl rfl rfl rfl rfl rfl rfl rfl tgz_3 (by decide +kernel) rfl (c_54x σ0 hσ0 ((Int32.ofInt 2)) (geI (by decide : (Int32.ofInt 2).toInt = 2) (by decide)) (leI (by decide : (Int32.ofInt 2).toInt = 2) (by decide)) f h_f hC) (by decide) (by decide) (fun v15 σ16 h14 => ?_)
      obtain ⟨h17, h18, z20, h21, rfl, h19⟩ := h14
      have h22 := h19.2.2.2.2.2
      have h23 := Fr_trans hF0 h18 (by decide +kernel)
      obtain ⟨S24, h25⟩ : ∃ q : PS, q = err By Nb 2 Sp := ⟨_, rfl⟩
      have h26 : CT By Nb σ16 S24 := by rw [h25]; exact (CT_eq h22 (err_cg (by (first | exact q_bef0c64981 this | omega))))
      have h27 := CT_k h26 h21
      have h28 : Imp (S24.1 = 0) (tK By Nb S24.2.2.1 = z2.toInt) := CT_t h26 ((h18 _ _ (inW tgz_3 (by decide +kernel))).trans h1)
      have h29 : Imp (S24.1 = 0 ∧ tK By Nb S24.2.2.1 = 2) (z6.toInt = tV By Nb S24.2.2.1 ∧ 0 ≤ tV By Nb S24.2.2.1) := fun q => CT_u h26 ((h18 _ _ (inW tgz_3 (by decide +kernel))).trans h5) q.1 q.2
      have h30 : S24.2.2.2 = Sp.2.2.2 := by rw [h25]; exact err_w
      refine En_Ps 1 (pc' := 38) (lv' := [(0, .ref 3), (1, .int a), (2, .int b)]) (st' := [.ref 3]) rfl ?_
      refine En_getK (j := 5) h21 rfl rfl rfl tgz_3 (by decide +kernel) ?_
      refine En_iNe _ rfl rfl (fun h31 => ?_) (fun hx => by exfalso; have := Imp_m h19.2.2.2.1 (by (first | exact q_e3adf33a46 h19.1 hx | omega)); have := Imp_m h19.2.2.2.2.1 (by (first | exact q_f4f2768de0 h19.1 hx | omega)); (first | exact q_a0b22f2d75 h19.1 hx | omega))
      refine En_Ps 1 (pc' := 52) (lv' := [(0, .ref 3), (1, .int a), (2, .int b)]) (st' := [.int ((Int32.ofInt (-1)))]) rfl ?_
      refine En_top (by decide : (Int32.ofInt (-1)).toInt = -1) (fun z32 h33 => ?_)
      exact En_ret (v := some (Value.int z32)) rfl rfl rfl ⟨h17, h23, z20, h21, z32, rfl, ⟨by first | exact q_fa25b07a5c h33 | omega, by first | exact q_1a6ee862c1 h19.1 | omega, by first | exact q_c733b715bf h19.2.1 | omega, by first | exact q_d22b102a8e h19.2.2.1 | omega, by first | exact q_83f4b1e050 h19.2.2.1 | omega, fun _ => by have := Imp_m h19.2.2.2.1 (by omega); have := Imp_m h19.2.2.2.2.1 (by omega); omega, fun hh => by first | exact ⟨q_4eb6dac66d h33, q_6ba54b61e9 h33⟩ | omega, fun hh => by first | exact q_6e3f7f1a8e h33 hh | omega, fun hh => by first | exact q_6ba54b61e9 h33 | omega, (by first | (subst h25; have q := nHc_1 (By := By) (Nb := Nb) (lo := a.toInt) (hi := b.toInt) (S := Sp) (fun zz => by (try have i0 := Imp_m h28 (by omega)); (try have i1 := Imp_m h10 (by (first | exact q_d2dcd30e56 zz | omega))); (try have i2 := Imp_m h11 (by (first | exact q_49ee5a0449 zz i1 h12 | omega))); (try have i3 := Imp_m h29 (by omega)); (try have i4 := Imp_m h19.2.2.2.1 (by (first | exact q_d8d8e6600d h9 zz | omega))); (try have i5 := Imp_m h19.2.2.2.2.1 (by omega)); (first | exact q_2aa498dba4 i5.1 i4.2 zz this h9 | omega)); rw [q]; exact ⟨h26, fun zz => by (try have i0 := Imp_m h28 (by omega)); (try have i1 := Imp_m h10 (by omega)); (try have i2 := Imp_m h11 (by omega)); (try have i3 := Imp_m h29 (by omega)); (try have i4 := Imp_m h19.2.2.2.1 (by omega)); (try have i5 := Imp_m h19.2.2.2.2.1 (by omega)); omega⟩) | (subst h25; have q := nHc_2 (By := By) (Nb := Nb) (lo := a.toInt) (hi := b.toInt) (S := Sp) (fun zz => by (try have i0 := Imp_m h28 (by omega)); (try have i1 := Imp_m h10 (by (first | exact q_d2dcd30e56 zz | omega))); (try have i2 := Imp_m h11 (by (first | exact q_49ee5a0449 zz i1 h12 | omega))); (try have i3 := Imp_m h29 (by omega)); (try have i4 := Imp_m h19.2.2.2.1 (by (first | exact q_d8d8e6600d h9 zz | omega))); (try have i5 := Imp_m h19.2.2.2.2.1 (by omega)); (first | exact q_f2743a0358 i1 h12 i2.1 h13 | omega)); rw [q]; exact ⟨h26, fun zz => by (try have i0 := Imp_m h28 (by (first | exact q_d2dcd30e56 zz | omega))); (try have i1 := Imp_m h10 (by (first | exact q_f5e4ebb229 h9 hl_f h27 h19.1 zz | omega))); (try have i2 := Imp_m h11 (by (first | exact q_9e8c1888a1 h27 h19.1 zz h31 | omega))); (try have i3 := Imp_m h29 (by (first | exact q_10a482fe3d zz h27 h19.1 h31 | omega))); (try have i4 := Imp_m h19.2.2.2.1 (by (first | exact q_3383951b80 h27 h19.1 zz | omega))); (try have i5 := Imp_m h19.2.2.2.2.1 (by (first | exact q_eb7bcac33b i4.2 h27 this zz | omega))); (first | exact q_a611b7c660 h31 h19.1 h27 zz i2.2 h33 | omega)⟩) | (subst h25; have q := nHc_0 (By := By) (Nb := Nb) (lo := a.toInt) (hi := b.toInt) (S := Sp) (fun zz => by (try have i0 := Imp_m h28 (by omega)); (try have i1 := Imp_m h10 (by omega)); (try have i2 := Imp_m h11 (by omega)); (try have i3 := Imp_m h29 (by omega)); (try have i4 := Imp_m h19.2.2.2.1 (by omega)); (try have i5 := Imp_m h19.2.2.2.2.1 (by omega)); omega); rw [q]; exact ⟨h26, fun zz => by (try have i0 := Imp_m h28 (by omega)); (try have i1 := Imp_m h10 (by omega)); (try have i2 := Imp_m h11 (by omega)); (try have i3 := Imp_m h29 (by omega)); (try have i4 := Imp_m h19.2.2.2.1 (by omega)); (try have i5 := Imp_m h19.2.2.2.2.1 (by omega)); omega⟩))⟩⟩
    · refine En_Ps 1 (pc' := 25) (lv' := [(0, .ref 3), (1, .int a), (2, .int b)]) (st' := [.ref 3]) rfl ?_
      refine En_getK (j := 4) h5 rfl rfl rfl tgz_3 (by decide +kernel) ?_
      refine En_Ps 1 (pc' := 29) (lv' := [(0, .ref 3), (1, .int a), (2, .int b)]) (st' := [.int b, .int z6]) rfl ?_
      refine En_icLe _ rfl rfl rfl (fun h34 => ?_) (fun h34 => ?_)
      · refine En_Ps 1 (pc' := 38) (lv' := [(0, .ref 3), (1, .int a), (2, .int b)]) (st' := [.ref 3]) rfl ?_
        refine En_getK (j := 5) h_f rfl rfl rfl tgz_3 (by decide +kernel) ?_
        refine En_iNe _ rfl rfl (fun h35 => ?_) (fun h35 => ?_)
        · refine En_Ps 1 (pc' := 52) (lv' := [(0, .ref 3), (1, .int a), (2, .int b)]) (st' := [.int ((Int32.ofInt (-1)))]) rfl ?_
          refine En_top (by decide : (Int32.ofInt (-1)).toInt = -1) (fun z36 h37 => ?_)
          exact En_ret (v := some (Value.int z36)) rfl rfl rfl ⟨hσ0, hF0, f, h_f, z36, rfl, ⟨by first | exact q_fa25b07a5c h37 | omega, by first | exact q_787f1164f6 h35 hl_f | omega, by first | exact q_e9a8eec0c4 hu_f | omega, by first | exact q_857069189f | omega, by first | exact q_1bb76abeaf | omega, fun _ => by omega, fun hh => by first | exact ⟨q_4eb6dac66d h37, q_6ba54b61e9 h37⟩ | omega, fun hh => by first | exact q_6e3f7f1a8e h37 hh | omega, fun hh => by first | exact q_6ba54b61e9 h37 | omega, (by first | (have q := nHc_1 (By := By) (Nb := Nb) (lo := a.toInt) (hi := b.toInt) (S := Sp) (fun zz => by (try have i0 := Imp_m h10 (by (first | exact q_d2dcd30e56 zz | omega))); (try have i1 := Imp_m h11 (by (first | exact q_42063cbd06 h35 hl_f h9 zz | omega))); (first | exact q_8e42d3661a h35 hl_f h9 zz | omega)); rw [q]; exact ⟨hC, fun zz => by (try have i0 := Imp_m h10 (by omega)); (try have i1 := Imp_m h11 (by omega)); omega⟩) | (have q := nHc_2 (By := By) (Nb := Nb) (lo := a.toInt) (hi := b.toInt) (S := Sp) (fun zz => by (try have i0 := Imp_m h10 (by (first | exact q_d2dcd30e56 zz | omega))); (try have i1 := Imp_m h11 (by (first | exact q_42063cbd06 h35 hl_f h9 zz | omega))); (first | exact q_3d9d4aca6d h35 hl_f h9 zz | omega)); rw [q]; exact ⟨hC, fun zz => by (try have i0 := Imp_m h10 (by omega)); (try have i1 := Imp_m h11 (by omega)); omega⟩) | (have q := nHc_0 (By := By) (Nb := Nb) (lo := a.toInt) (hi := b.toInt) (S := Sp) (fun zz => by (try have i0 := Imp_m h10 (by (first | exact q_d2dcd30e56 zz | omega))); (try have i1 := Imp_m h11 (by (first | exact q_42063cbd06 h35 hl_f h9 zz | omega))); (first | exact q_6099250a5e h35 hl_f h9 zz | omega)); rw [q]; exact ⟨hC, fun zz => by (try have i0 := Imp_m h10 (by (first | exact q_d2dcd30e56 zz | omega))); (try have i1 := Imp_m h11 (by (first | exact q_42063cbd06 h35 hl_f h9 zz | omega))); (first | exact q_bba9b97ba6 h35 hl_f h9 zz i1.2 h37 | omega)⟩))⟩⟩
        · refine En_Ps 1 (pc' := 45) (lv' := [(0, .ref 3), (1, .int a), (2, .int b)]) (st' := [.ref 3]) rfl ?_
          refine En_getK (j := 4) h5 rfl rfl rfl tgz_3 (by decide +kernel) ?_
          refine En_Ps 1 (pc' := 52) (lv' := [(0, .ref 3), (1, .int a), (2, .int b)]) (st' := [.int z6]) rfl ?_
          exact En_ret (v := some (Value.int z6)) rfl rfl rfl ⟨hσ0, hF0, f, h_f, z6, rfl, ⟨by first | exact q_b319b3558a h8 | omega, by first | exact q_c803b490ef hl_f | omega, by first | exact q_bd3fa30443 h35 | omega, by first | exact q_857069189f | omega, by first | exact q_1bb76abeaf | omega, fun hh => by first | exact ⟨q_15b82e7ad8 h13, q_15b82e7ad8 h34⟩ | omega, fun _ => by omega, fun hh => by first | exact q_15b82e7ad8 h34 | omega, fun hh => by first | exact q_a393f6e16a h13 hh | omega, (by first | (have q := nHc_1 (By := By) (Nb := Nb) (lo := a.toInt) (hi := b.toInt) (S := Sp) (fun zz => by (try have i0 := Imp_m h10 (by (first | exact q_d2dcd30e56 zz | omega))); (try have i1 := Imp_m h11 (by (first | exact q_49ee5a0449 zz i0 h12 | omega))); omega); rw [q]; exact ⟨hC, fun zz => by (try have i0 := Imp_m h10 (by omega)); (try have i1 := Imp_m h11 (by omega)); omega⟩) | (have q := nHc_2 (By := By) (Nb := Nb) (lo := a.toInt) (hi := b.toInt) (S := Sp) (fun zz => by (try have i0 := Imp_m h10 (by (first | exact q_d2dcd30e56 zz | omega))); (try have i1 := Imp_m h11 (by (first | exact q_49ee5a0449 zz i0 h12 | omega))); omega); rw [q]; exact ⟨hC, fun zz => by (try have i0 := Imp_m h10 (by omega)); (try have i1 := Imp_m h11 (by omega)); omega⟩) | (have q := nHc_0 (By := By) (Nb := Nb) (lo := a.toInt) (hi := b.toInt) (S := Sp) (fun zz => by (try have i0 := Imp_m h10 (by (first | exact q_d2dcd30e56 zz | omega))); (try have i1 := Imp_m h11 (by (first | exact q_49ee5a0449 zz i0 h12 | omega))); (first | exact q_18d359cf1d i0 h12 i1.1 h13 h34 | omega)); rw [q]; exact ⟨hC, fun zz => by (try have i0 := Imp_m h10 (by (first | exact q_d2dcd30e56 zz | omega))); (try have i1 := Imp_m h11 (by (first | exact q_49ee5a0449 zz i0 h12 | omega))); (first | exact q_b1495600e7 i1.1 | omega)⟩))⟩⟩
      · refine En_Ps 2 (pc' := 34) (lv' := [(0, .ref 3), (1, .int a), (2, .int b)]) (st' := [.int ((Int32.ofInt 2)), .ref 3]) rfl ?_
        have := (by decide : ((Int32.ofInt 2)).toInt = 2)
        refine En_callV rfl rfl rfl rfl rfl rfl rfl rfl tgz_3 (by decide +kernel) rfl (c_54x σ0 hσ0 ((Int32.ofInt 2)) (geI (by decide : (Int32.ofInt 2).toInt = 2) (by decide)) (leI (by decide : (Int32.ofInt 2).toInt = 2) (by decide)) f h_f hC) (by decide) (by decide) (fun v39 σ40 h38 => ?_)
        obtain ⟨h41, h42, z44, h45, rfl, h43⟩ := h38
        have h46 := h43.2.2.2.2.2
        have h47 := Fr_trans hF0 h42 (by decide +kernel)
        obtain ⟨S48, h49⟩ : ∃ q : PS, q = err By Nb 2 Sp := ⟨_, rfl⟩
        have h50 : CT By Nb σ40 S48 := by rw [h49]; exact (CT_eq h46 (err_cg (by (first | exact q_bef0c64981 this | omega))))
        have h51 := CT_k h50 h45
        have h52 : Imp (S48.1 = 0) (tK By Nb S48.2.2.1 = z2.toInt) := CT_t h50 ((h42 _ _ (inW tgz_3 (by decide +kernel))).trans h1)
        have h53 : Imp (S48.1 = 0 ∧ tK By Nb S48.2.2.1 = 2) (z6.toInt = tV By Nb S48.2.2.1 ∧ 0 ≤ tV By Nb S48.2.2.1) := fun q => CT_u h50 ((h42 _ _ (inW tgz_3 (by decide +kernel))).trans h5) q.1 q.2
        have h54 : S48.2.2.2 = Sp.2.2.2 := by rw [h49]; exact err_w
        refine En_Ps 1 (pc' := 38) (lv' := [(0, .ref 3), (1, .int a), (2, .int b)]) (st' := [.ref 3]) rfl ?_
        refine En_getK (j := 5) h45 rfl rfl rfl tgz_3 (by decide +kernel) ?_
        refine En_iNe _ rfl rfl (fun h55 => ?_) (fun hx => by exfalso; have := Imp_m h43.2.2.2.1 (by (first | exact q_e3adf33a46 h43.1 hx | omega)); have := Imp_m h43.2.2.2.2.1 (by (first | exact q_f4f2768de0 h43.1 hx | omega)); (first | exact q_a0b22f2d75 h43.1 hx | omega))
        refine En_Ps 1 (pc' := 52) (lv' := [(0, .ref 3), (1, .int a), (2, .int b)]) (st' := [.int ((Int32.ofInt (-1)))]) rfl ?_
        refine En_top (by decide : (Int32.ofInt (-1)).toInt = -1) (fun z56 h57 => ?_)
        exact En_ret (v := some (Value.int z56)) rfl rfl rfl ⟨h41, h47, z44, h45, z56, rfl, ⟨by first | exact q_fa25b07a5c h57 | omega, by first | exact q_1a6ee862c1 h43.1 | omega, by first | exact q_c733b715bf h43.2.1 | omega, by first | exact q_d22b102a8e h43.2.2.1 | omega, by first | exact q_83f4b1e050 h43.2.2.1 | omega, fun _ => by have := Imp_m h43.2.2.2.1 (by omega); have := Imp_m h43.2.2.2.2.1 (by omega); omega, fun hh => by first | exact ⟨q_4eb6dac66d h57, q_6ba54b61e9 h57⟩ | omega, fun hh => by first | exact q_6e3f7f1a8e h57 hh | omega, fun hh => by first | exact q_6ba54b61e9 h57 | omega, (by first | (subst h49; have q := nHc_1 (By := By) (Nb := Nb) (lo := a.toInt) (hi := b.toInt) (S := Sp) (fun zz => by (try have i0 := Imp_m h52 (by omega)); (try have i1 := Imp_m h10 (by (first | exact q_d2dcd30e56 zz | omega))); (try have i2 := Imp_m h11 (by (first | exact q_49ee5a0449 zz i1 h12 | omega))); (try have i3 := Imp_m h53 (by omega)); (try have i4 := Imp_m h43.2.2.2.1 (by (first | exact q_d8d8e6600d h9 zz | omega))); (try have i5 := Imp_m h43.2.2.2.2.1 (by omega)); (first | exact q_2aa498dba4 i5.1 i4.2 zz this h9 | omega)); rw [q]; exact ⟨h50, fun zz => by (try have i0 := Imp_m h52 (by omega)); (try have i1 := Imp_m h10 (by omega)); (try have i2 := Imp_m h11 (by omega)); (try have i3 := Imp_m h53 (by omega)); (try have i4 := Imp_m h43.2.2.2.1 (by omega)); (try have i5 := Imp_m h43.2.2.2.2.1 (by omega)); omega⟩) | (subst h49; have q := nHc_2 (By := By) (Nb := Nb) (lo := a.toInt) (hi := b.toInt) (S := Sp) (fun zz => by (try have i0 := Imp_m h52 (by omega)); (try have i1 := Imp_m h10 (by (first | exact q_d2dcd30e56 zz | omega))); (try have i2 := Imp_m h11 (by (first | exact q_49ee5a0449 zz i1 h12 | omega))); (try have i3 := Imp_m h53 (by omega)); (try have i4 := Imp_m h43.2.2.2.1 (by (first | exact q_d8d8e6600d h9 zz | omega))); (try have i5 := Imp_m h43.2.2.2.2.1 (by omega)); (first | exact q_12c362bdec i1 h12 i2.1 h34 | omega)); rw [q]; exact ⟨h50, fun zz => by (try have i0 := Imp_m h52 (by (first | exact q_d2dcd30e56 zz | omega))); (try have i1 := Imp_m h10 (by (first | exact q_f5e4ebb229 h9 hl_f h51 h43.1 zz | omega))); (try have i2 := Imp_m h11 (by (first | exact q_9e8c1888a1 h51 h43.1 zz h55 | omega))); (try have i3 := Imp_m h53 (by (first | exact q_10a482fe3d zz h51 h43.1 h55 | omega))); (try have i4 := Imp_m h43.2.2.2.1 (by (first | exact q_3383951b80 h51 h43.1 zz | omega))); (try have i5 := Imp_m h43.2.2.2.2.1 (by (first | exact q_eb7bcac33b i4.2 h51 this zz | omega))); (first | exact q_a611b7c660 h55 h43.1 h51 zz i2.2 h57 | omega)⟩) | (subst h49; have q := nHc_0 (By := By) (Nb := Nb) (lo := a.toInt) (hi := b.toInt) (S := Sp) (fun zz => by (try have i0 := Imp_m h52 (by omega)); (try have i1 := Imp_m h10 (by omega)); (try have i2 := Imp_m h11 (by omega)); (try have i3 := Imp_m h53 (by omega)); (try have i4 := Imp_m h43.2.2.2.1 (by omega)); (try have i5 := Imp_m h43.2.2.2.2.1 (by omega)); omega); rw [q]; exact ⟨h50, fun zz => by (try have i0 := Imp_m h52 (by omega)); (try have i1 := Imp_m h10 (by omega)); (try have i2 := Imp_m h11 (by omega)); (try have i3 := Imp_m h53 (by omega)); (try have i4 := Imp_m h43.2.2.2.1 (by omega)); (try have i5 := Imp_m h43.2.2.2.2.1 (by omega)); omega⟩))⟩⟩
  · refine En_Ps 2 (pc' := 10) (lv' := [(0, .ref 3), (1, .int a), (2, .int b)]) (st' := [.int ((Int32.ofInt 1)), .ref 3]) rfl ?_
    have := (by decide : ((Int32.ofInt 1)).toInt = 1)
    refine En_callV rfl rfl rfl rfl rfl rfl rfl rfl tgz_3 (by decide +kernel) rfl (c_54x σ0 hσ0 ((Int32.ofInt 1)) (geI (by decide : (Int32.ofInt 1).toInt = 1) (by decide)) (leI (by decide : (Int32.ofInt 1).toInt = 1) (by decide)) f h_f hC) (by decide) (by decide) (fun v59 σ60 h58 => ?_)
    obtain ⟨h61, h62, z64, h65, rfl, h63⟩ := h58
    have h66 := h63.2.2.2.2.2
    have h67 := Fr_trans hF0 h62 (by decide +kernel)
    obtain ⟨S68, h69⟩ : ∃ q : PS, q = err By Nb 1 Sp := ⟨_, rfl⟩
    have h70 : CT By Nb σ60 S68 := by rw [h69]; exact (CT_eq h66 (err_cg (by (first | exact q_0bfa10f27c this | omega))))
    have h71 := CT_k h70 h65
    have h72 : Imp (S68.1 = 0) (tK By Nb S68.2.2.1 = z2.toInt) := CT_t h70 ((h62 _ _ (inW tgz_3 (by decide +kernel))).trans h1)
    have h73 : Imp (S68.1 = 0 ∧ tK By Nb S68.2.2.1 = 2) (z6.toInt = tV By Nb S68.2.2.1 ∧ 0 ≤ tV By Nb S68.2.2.1) := fun q => CT_u h70 ((h62 _ _ (inW tgz_3 (by decide +kernel))).trans h5) q.1 q.2
    have h74 : S68.2.2.2 = Sp.2.2.2 := by rw [h69]; exact err_w
    refine En_Ps 2 (pc' := 38) (lv' := [(0, .ref 3), (1, .int a), (2, .int b)]) (st' := [.ref 3]) rfl ?_
    refine En_getK (j := 5) h65 rfl rfl rfl tgz_3 (by decide +kernel) ?_
    refine En_iNe _ rfl rfl (fun h75 => ?_) (fun hx => by exfalso; have := Imp_m h63.2.2.2.1 (by (first | exact q_e3adf33a46 h63.1 hx | omega)); have := Imp_m h63.2.2.2.2.1 (by (first | exact q_f4f2768de0 h63.1 hx | omega)); (first | exact q_a0b22f2d75 h63.1 hx | omega))
    refine En_Ps 1 (pc' := 52) (lv' := [(0, .ref 3), (1, .int a), (2, .int b)]) (st' := [.int ((Int32.ofInt (-1)))]) rfl ?_
    refine En_top (by decide : (Int32.ofInt (-1)).toInt = -1) (fun z76 h77 => ?_)
    exact En_ret (v := some (Value.int z76)) rfl rfl rfl ⟨h61, h67, z64, h65, z76, rfl, ⟨by first | exact q_fa25b07a5c h77 | omega, by first | exact q_1a6ee862c1 h63.1 | omega, by first | exact q_c733b715bf h63.2.1 | omega, by first | exact q_d22b102a8e h63.2.2.1 | omega, by first | exact q_83f4b1e050 h63.2.2.1 | omega, fun _ => by have := Imp_m h63.2.2.2.1 (by omega); have := Imp_m h63.2.2.2.2.1 (by omega); omega, fun hh => by first | exact ⟨q_4eb6dac66d h77, q_6ba54b61e9 h77⟩ | omega, fun hh => by first | exact q_6e3f7f1a8e h77 hh | omega, fun hh => by first | exact q_6ba54b61e9 h77 | omega, (by first | (subst h69; have q := nHc_1 (By := By) (Nb := Nb) (lo := a.toInt) (hi := b.toInt) (S := Sp) (fun zz => by (try have i0 := Imp_m h72 (by omega)); (try have i1 := Imp_m h10 (by (first | exact q_d2dcd30e56 zz | omega))); (try have i2 := Imp_m h11 (by omega)); (try have i3 := Imp_m h73 (by omega)); (try have i4 := Imp_m h63.2.2.2.1 (by (first | exact q_d8d8e6600d h9 zz | omega))); (try have i5 := Imp_m h63.2.2.2.2.1 (by omega)); (first | exact q_b9ac7352ba h12 i1 | omega)); rw [q]; exact ⟨h70, fun zz => by (try have i0 := Imp_m h72 (by (first | exact q_d2dcd30e56 zz | omega))); (try have i1 := Imp_m h10 (by (first | exact q_f5e4ebb229 h9 hl_f h71 h63.1 zz | omega))); (try have i2 := Imp_m h11 (by (first | exact q_9e8c1888a1 h71 h63.1 zz h75 | omega))); (try have i3 := Imp_m h73 (by (first | exact q_10a482fe3d zz h71 h63.1 h75 | omega))); (try have i4 := Imp_m h63.2.2.2.1 (by (first | exact q_3383951b80 h71 h63.1 zz | omega))); (try have i5 := Imp_m h63.2.2.2.2.1 (by (first | exact q_c1d968cc7e h71 h63.1 zz | omega))); (first | exact q_a611b7c660 h75 h63.1 h71 zz i2.2 h77 | omega)⟩) | (subst h69; have q := nHc_2 (By := By) (Nb := Nb) (lo := a.toInt) (hi := b.toInt) (S := Sp) (fun zz => by (try have i0 := Imp_m h72 (by omega)); (try have i1 := Imp_m h10 (by omega)); (try have i2 := Imp_m h11 (by omega)); (try have i3 := Imp_m h73 (by omega)); (try have i4 := Imp_m h63.2.2.2.1 (by omega)); (try have i5 := Imp_m h63.2.2.2.2.1 (by omega)); omega); rw [q]; exact ⟨h70, fun zz => by (try have i0 := Imp_m h72 (by omega)); (try have i1 := Imp_m h10 (by omega)); (try have i2 := Imp_m h11 (by omega)); (try have i3 := Imp_m h73 (by omega)); (try have i4 := Imp_m h63.2.2.2.1 (by omega)); (try have i5 := Imp_m h63.2.2.2.2.1 (by omega)); omega⟩) | (subst h69; have q := nHc_0 (By := By) (Nb := Nb) (lo := a.toInt) (hi := b.toInt) (S := Sp) (fun zz => by (try have i0 := Imp_m h72 (by omega)); (try have i1 := Imp_m h10 (by omega)); (try have i2 := Imp_m h11 (by omega)); (try have i3 := Imp_m h73 (by omega)); (try have i4 := Imp_m h63.2.2.2.1 (by omega)); (try have i5 := Imp_m h63.2.2.2.2.1 (by omega)); omega); rw [q]; exact ⟨h70, fun zz => by (try have i0 := Imp_m h72 (by omega)); (try have i1 := Imp_m h10 (by omega)); (try have i2 := Imp_m h11 (by omega)); (try have i3 := Imp_m h73 (by omega)); (try have i4 := Imp_m h63.2.2.2.1 (by omega)); (try have i5 := Imp_m h63.2.2.2.2.1 (by omega)); omega⟩))⟩⟩
end
/-! 32.n02 -/
section
/-- DoorSchool$Reader.step()V -/
abbrev P_72x (σ0 : SG) (By : Int → Int) (Nb : Int) (p : Int32) : PO := fun v σ => WT σ ∧ Fr [(3, 1), (3, 2), (3, 3), (3, 4)] σ0 σ ∧ v = none ∧ (TPc By Nb σ ∧ TKc By Nb p.toInt σ)
set_option maxRecDepth 10000 in
set_option maxHeartbeats 4000000 in
theorem c_72x {By : Int → Int} {Nb : Int} (σ0 : SG) (hσ0 : WT σ0) (p : Int32) (h_p : (σ0 3)[3]? = some (Value.int p)) (hT : TPc By Nb σ0) (hf : p.toInt ≤ Nb) : En 1 22 none mr_72 (P_72x σ0 By Nb p) 0 [(0, .ref 3)] [] σ0 := by
  obtain ⟨hl_p, hu_p⟩ := WT_int hσ0 (g := 3) (by decide +kernel) (by decide +kernel) (l := 0) (u := 1600) (by decide +kernel) h_p
  have hF0 : Fr [(3, 1), (3, 2), (3, 3), (3, 4)] σ0 σ0 := Fr_rfl
  refine En_Ps 2 (pc' := 2) (lv' := [(0, .ref 3)]) (st' := [.ref 3, .ref 3]) rfl ?_
  refine En_getK (j := 3) h_p rfl rfl rfl tgz_3 (by decide +kernel) ?_
  refine En_put (j := 2) rfl rfl rfl tgz_3 (by decide +kernel) rfl (vI (l := 0) (u := 1600) (by decide +kernel) rfl (by first | exact q_58e6e51dcc hl_p | omega) (by first | exact q_246f9048f8 hu_p | omega)) hσ0 hF0 (by decide +kernel) (fun σ1 h2 h3 h4 h5 => ?_)
  have key8 : ∀ (n8 : Nat) (σ7 : SG) (y6 : Int32), WT σ7 → Fr [(3, 1), (3, 2), (3, 3), (3, 4)] σ0 σ7 → (σ7 3)[3]? = some (Value.int p) → (σ7 3)[2]? = some (Value.int y6) → 0 ≤ y6.toInt → y6.toInt ≤ 1600 → p.toInt - y6.toInt ≤ 0 → -y6.toInt + 1600 < (n8 : Int) → tS By Nb (y6.toInt) = tS By Nb p.toInt → y6.toInt ≤ Nb → En 1 22 none mr_72 (P_72x σ0 By Nb p) 8 [(0, .ref 3)] [] σ7 := by
    intro n8
    induction n8 with
    | zero =>
      intro σ7 y6 h8 h9 h10 h11 h12 h13 h14 h15 h16 h17
      first | exact (q_46bc035002 h15 h13).elim | (exfalso; omega)
    | succ n8 ih8 =>
      intro σ7 y6 h8 h9 h10 h11 h12 h13 h14 h15 h16 h17
      refine En_Ps 1 (pc' := 9) (lv' := [(0, .ref 3)]) (st' := [.ref 3]) rfl ?_
      refine En_getK (j := 2) h11 rfl rfl rfl tgz_3 (by decide +kernel) ?_
      refine En_Ps 1 (pc' := 13) (lv' := [(0, .ref 3)]) (st' := [.ref 3, .int y6]) rfl ?_
      refine En_getU (j := 0) (u := 1) (g' := 1) (q := 0) rfl rfl rfl tgz_3 (by decide +kernel) h8 (by decide +kernel) un_1_1 (fun h18 => ?_)
      refine En_getI (j := 1) (l := 0) (u := 1600) rfl rfl rfl tgz_1 (by decide +kernel) h8 (by decide +kernel) (fun z21 h20 h22 h23 => ?_)
      refine En_icGe _ rfl rfl rfl (fun h24 => ?_) (fun h24 => ?_)
      · have h25 := Nb_c (TPc_fr hT h9 (by decide +kernel)) h20
        have h26 : tS By Nb p.toInt = y6.toInt := BLc_no h16 (by (first | exact q_fdc1636a7f h25 h24 | omega))
        refine En_Ps 3 (pc' := 56) (lv' := [(0, .ref 3)]) (st' := [.ref 3, .ref 3, .ref 3]) rfl ?_
        refine En_getK (j := 2) h11 rfl rfl rfl tgz_3 (by decide +kernel) ?_
        refine En_callV rfl rfl rfl rfl rfl rfl rfl rfl tgz_3 (by decide +kernel) rfl (c_57x σ7 h8 y6 (geI rfl (by first | exact q_58e6e51dcc h12 | omega)) (leI rfl (by first | exact q_246f9048f8 h13 | omega)) z21 h20 (TPc_fr hT h9 (by decide +kernel))) (by decide) (by decide) (fun v28 σ29 h27 => ?_)
        obtain ⟨h30, h31, z33, rfl, h32⟩ := h27
        have h34 := h32.2.2.2
        obtain rfl : σ7 = σ29 := Fr_nil h31
        have h35 := h34
        refine En_put (j := 1) rfl rfl rfl tgz_3 (by decide +kernel) rfl (vI (l := 0) (u := 4) (by decide +kernel) rfl (by first | exact q_ef1e8e38bf h32.1 | omega) (by first | exact q_3b0dd79e8e h32.2.1 | omega)) h8 h9 (by decide +kernel) (fun σ36 h37 h38 h39 h40 => ?_)
        refine En_Ps 2 (pc' := 67) (lv' := [(0, .ref 3)]) (st' := [.int ((Int32.ofInt 0)), .ref 3]) rfl ?_
        have := fullI ((Int32.ofInt 0))
        refine En_put (j := 4) rfl rfl rfl tgz_3 (by decide +kernel) rfl (vI (l := (-2147483648)) (u := 1000000) (by decide +kernel) (by decide : (Int32.ofInt 0).toInt = 0) (by decide) (by decide)) h37 h38 (by decide +kernel) (fun σ41 h42 h43 h44 h45 => ?_)
        refine En_Ps 2 (pc' := 72) (lv' := [(0, .ref 3)]) (st' := [.ref 3, .ref 3]) rfl ?_
        refine En_getK (j := 2) ((h45 _ _ (Or.inr (by decide))).trans ((h40 _ _ (Or.inr (by decide))).trans h11)) rfl rfl rfl tgz_3 (by decide +kernel) ?_
        refine En_put (j := 3) rfl rfl rfl tgz_3 (by decide +kernel) rfl (vI (l := 0) (u := 1600) (by decide +kernel) rfl (by first | exact q_58e6e51dcc h12 | omega) (by first | exact q_246f9048f8 h13 | omega)) h42 h43 (by decide +kernel) (fun σ46 h47 h48 h49 h50 => ?_)
        refine En_Ps 1 (pc' := 79) (lv' := [(0, .ref 3)]) (st' := [.ref 3]) rfl ?_
        refine En_getK (j := 1) ((h50 _ _ (Or.inr (by decide))).trans ((h45 _ _ (Or.inr (by decide))).trans h39)) rfl rfl rfl tgz_3 (by decide +kernel) ?_
        refine En_Ps 1 (pc' := 83) (lv' := [(0, .ref 3)]) (st' := [.int ((Int32.ofInt 3)), .int z33]) rfl ?_
        refine En_icEq _ rfl (by decide : (Int32.ofInt 3).toInt = 3) rfl (fun hx => by exfalso; have := Imp_m h32.2.2.1 (by (first | exact q_e843bd7aad hx | omega)); (first | exact q_22002202d7 h24 this | omega)) (fun h51 => ?_)
        refine En_Ps 1 (pc' := 87) (lv' := [(0, .ref 3)]) (st' := [.ref 3]) rfl ?_
        refine En_getK (j := 1) ((h50 _ _ (Or.inr (by decide))).trans ((h45 _ _ (Or.inr (by decide))).trans h39)) rfl rfl rfl tgz_3 (by decide +kernel) ?_
        refine En_Ps 1 (pc' := 91) (lv' := [(0, .ref 3)]) (st' := [.int ((Int32.ofInt 4)), .int z33]) rfl ?_
        refine En_icNe _ rfl (by decide : (Int32.ofInt 4).toInt = 4) rfl (fun h52 => ?_) (fun hx => by exfalso; have := Imp_m h32.2.2.1 (by (first | exact q_50239dc789 hx | omega)); (first | exact q_22002202d7 h24 this | omega))
        have key104 : ∀ (n104 : Nat) (σ55 : SG) (y53 : Int32) (y54 : Int32), WT σ55 → Fr [(3, 1), (3, 2), (3, 3), (3, 4)] σ0 σ55 → (σ55 3)[2]? = some (Value.int y6) → (σ55 3)[0]? = some (Value.ref 1) → (σ55 1)[1]? = some (Value.int z21) → (σ55 3)[1]? = some (Value.int z33) → (σ55 3)[4]? = some (Value.int y53) → (σ55 3)[3]? = some (Value.int y54) → 0 ≤ y53.toInt → y53.toInt ≤ 1000000 → 0 ≤ y54.toInt → y54.toInt ≤ 1600 → 1600 - y54.toInt < (n104 : Int) → STL By Nb (z33.toInt) (y6.toInt) (y54.toInt) (y53.toInt) → y54.toInt ≤ 1600 → En 1 22 none mr_72 (P_72x σ0 By Nb p) 104 [(0, .ref 3)] [] σ55 := by
          intro n104
          induction n104 with
          | zero =>
            intro σ55 y53 y54 h56 h57 h58 h59 h60 h61 h62 h63 h64 h65 h66 h67 h68 h69 h70
            exfalso; (first | exact q_1fb3d2be5b h68 h70 | omega)
          | succ n104 ih104 =>
            intro σ55 y53 y54 h56 h57 h58 h59 h60 h61 h62 h63 h64 h65 h66 h67 h68 h69 h70
            refine En_Ps 1 (pc' := 105) (lv' := [(0, .ref 3)]) (st' := [.ref 3]) rfl ?_
            refine En_getK (j := 1) h61 rfl rfl rfl tgz_3 (by decide +kernel) ?_
            refine En_Ps 1 (pc' := 109) (lv' := [(0, .ref 3)]) (st' := [.int ((Int32.ofInt 1)), .int z33]) rfl ?_
            refine En_icEq _ rfl (by decide : (Int32.ofInt 1).toInt = 1) rfl (fun hx => by exfalso; have := Imp_m h32.2.2.1 (by (first | exact q_a439be255a hx | omega)); (first | exact q_22002202d7 h24 this | omega)) (fun h71 => ?_)
            refine En_Ps 1 (pc' := 113) (lv' := [(0, .ref 3)]) (st' := [.ref 3]) rfl ?_
            refine En_getK (j := 1) h61 rfl rfl rfl tgz_3 (by decide +kernel) ?_
            refine En_Ps 1 (pc' := 117) (lv' := [(0, .ref 3)]) (st' := [.int ((Int32.ofInt 2)), .int z33]) rfl ?_
            refine En_icNe _ rfl (by decide : (Int32.ofInt 2).toInt = 2) rfl (fun h72 => ?_) (fun hx => by exfalso; have := Imp_m h32.2.2.1 (by (first | exact q_dc003f84d1 hx | omega)); (first | exact q_22002202d7 h24 this | omega))
            have h73 := Nb_c (TPc_fr hT h57 (by decide +kernel)) h60
            have h74 := kA_ge (By := By) (Nb := Nb) (i := y54.toInt)
            exact En_ret (v := none) rfl rfl rfl ⟨h56, h57, rfl, ⟨(TPc_fr hT h57 (by decide +kernel)), TKc_of (y := y6.toInt) (k := z33.toInt) (e := y54.toInt) (by (first | exact q_58e6e51dcc hl_p | omega)) hf h26 (by (first | exact q_a8fb2024c1 h35 | omega)) (STL_x h69 (by (first | exact q_d81bb5e69c h32.1 h32.2.1 | omega)) (by (first | exact q_b150d257f8 h71 h72 h51 h52 h32.2.1 | omega))) ((ci_at (j := 3) h63 rfl)) ((ci_at (j := 2) h58 rfl)) ((ci_at (j := 1) h61 rfl)) (fun zz => ((ci_at (j := 4) h62 rfl)).trans (h69.2.1 zz))⟩⟩
        have := (by decide : (Int32.ofInt 0).toInt = 0)
        exact key104 (Int.toNat (1600 - y6.toInt) + 1) σ46 ((Int32.ofInt 0)) y6 h47 h48 ((h50 _ _ (Or.inr (by decide))).trans ((h45 _ _ (Or.inr (by decide))).trans ((h40 _ _ (Or.inr (by decide))).trans h11))) ((h50 _ _ (Or.inr (by decide))).trans ((h45 _ _ (Or.inr (by decide))).trans ((h40 _ _ (Or.inr (by decide))).trans h18))) ((h50 _ _ (Or.inr (by decide))).trans ((h45 _ _ (Or.inr (by decide))).trans ((h40 _ _ (Or.inl (neTG tgz_1 tgz_3 (by decide)))).trans h20))) ((h50 _ _ (Or.inr (by decide))).trans ((h45 _ _ (Or.inr (by decide))).trans h39)) ((h50 _ _ (Or.inr (by decide))).trans h44) h49 (by decide) (by decide) (by first | exact q_58e6e51dcc h12 | omega) (by first | exact q_246f9048f8 h13 | omega) (by omega) (STL_0 (by (first | exact q_f80612ac51 this h32.1 h51 h52 h32.2.1 | omega))) (by (first | exact q_246f9048f8 h13 | omega))
      · refine En_Ps 1 (pc' := 23) (lv' := [(0, .ref 3)]) (st' := [.ref 3]) rfl ?_
        refine En_getK (j := 0) h18 rfl rfl rfl tgz_3 (by decide +kernel) ?_
        refine En_getU (j := 0) (u := 2) (g' := 2) (q := 0) rfl rfl rfl tgz_1 (by decide +kernel) h8 (by decide +kernel) un_2_2 (fun h75 => ?_)
        refine En_Ps 1 (pc' := 30) (lv' := [(0, .ref 3)]) (st' := [.ref 3, .ref 2]) rfl ?_
        refine En_getK (j := 2) h11 rfl rfl rfl tgz_3 (by decide +kernel) ?_
        refine En_bald (l := (-128)) (u := 127) rfl rfl tgz_2 (by decide +kernel) h8 (by first | exact q_58e6e51dcc h12 | omega) (lnI (by decide +kernel : LN _ = 1600) (by first | exact q_dde7d71509 h24 h23 | omega)) (FTsgl (by decide +kernel)) (fun z78 h77 h79 h80 => ?_)
        refine En_callS rfl rfl rfl rfl rfl rfl rfl rfl rfl (c_56x σ7 h8 z78 (geI rfl (by first | exact q_2d836ce3e1 h79 | omega)) (leI rfl (by first | exact q_a18ee2e349 h80 | omega))) (by decide) (by decide) (fun v82 σ83 h81 => ?_)
        obtain ⟨h84, h85, z87, rfl, h86⟩ := h81
        have h88 := h86.2.2.2
        obtain rfl : σ7 = σ83 := Fr_nil h85
        have h89 := By_c (i := y6.toInt) (TPc_fr hT h9 (by decide +kernel)) h20 (by (first | exact q_58e6e51dcc h12 | omega)) (by (first | exact q_114b7bcb5b h24 | omega)) h77
        have h90 := h88
        refine En_iEq _ rfl rfl (fun h91 => ?_) (fun h91 => ?_)
        · have h92 := Nb_c (TPc_fr hT h9 (by decide +kernel)) h20
          have h93 : tS By Nb p.toInt = y6.toInt := BLc_no h16 (by (first | exact q_ce056194e4 h90 h91 h89.2 | omega))
          refine En_Ps 3 (pc' := 56) (lv' := [(0, .ref 3)]) (st' := [.ref 3, .ref 3, .ref 3]) rfl ?_
          refine En_getK (j := 2) h11 rfl rfl rfl tgz_3 (by decide +kernel) ?_
          refine En_callV rfl rfl rfl rfl rfl rfl rfl rfl tgz_3 (by decide +kernel) rfl (c_57x σ7 h8 y6 (geI rfl (by first | exact q_58e6e51dcc h12 | omega)) (leI rfl (by first | exact q_246f9048f8 h13 | omega)) z21 h20 (TPc_fr hT h9 (by decide +kernel))) (by decide) (by decide) (fun v95 σ96 h94 => ?_)
          obtain ⟨h97, h98, z100, rfl, h99⟩ := h94
          have h101 := h99.2.2.2
          obtain rfl : σ7 = σ96 := Fr_nil h98
          have h102 := h101
          refine En_put (j := 1) rfl rfl rfl tgz_3 (by decide +kernel) rfl (vI (l := 0) (u := 4) (by decide +kernel) rfl (by first | exact q_ef1e8e38bf h99.1 | omega) (by first | exact q_3b0dd79e8e h99.2.1 | omega)) h8 h9 (by decide +kernel) (fun σ103 h104 h105 h106 h107 => ?_)
          refine En_Ps 2 (pc' := 67) (lv' := [(0, .ref 3)]) (st' := [.int ((Int32.ofInt 0)), .ref 3]) rfl ?_
          have := fullI ((Int32.ofInt 0))
          refine En_put (j := 4) rfl rfl rfl tgz_3 (by decide +kernel) rfl (vI (l := (-2147483648)) (u := 1000000) (by decide +kernel) (by decide : (Int32.ofInt 0).toInt = 0) (by decide) (by decide)) h104 h105 (by decide +kernel) (fun σ108 h109 h110 h111 h112 => ?_)
          refine En_Ps 2 (pc' := 72) (lv' := [(0, .ref 3)]) (st' := [.ref 3, .ref 3]) rfl ?_
          refine En_getK (j := 2) ((h112 _ _ (Or.inr (by decide))).trans ((h107 _ _ (Or.inr (by decide))).trans h11)) rfl rfl rfl tgz_3 (by decide +kernel) ?_
          refine En_put (j := 3) rfl rfl rfl tgz_3 (by decide +kernel) rfl (vI (l := 0) (u := 1600) (by decide +kernel) rfl (by first | exact q_58e6e51dcc h12 | omega) (by first | exact q_246f9048f8 h13 | omega)) h109 h110 (by decide +kernel) (fun σ113 h114 h115 h116 h117 => ?_)
          refine En_Ps 1 (pc' := 79) (lv' := [(0, .ref 3)]) (st' := [.ref 3]) rfl ?_
          refine En_getK (j := 1) ((h117 _ _ (Or.inr (by decide))).trans ((h112 _ _ (Or.inr (by decide))).trans h106)) rfl rfl rfl tgz_3 (by decide +kernel) ?_
          refine En_Ps 1 (pc' := 83) (lv' := [(0, .ref 3)]) (st' := [.int ((Int32.ofInt 3)), .int z100]) rfl ?_
          refine En_icEq _ rfl (by decide : (Int32.ofInt 3).toInt = 3) rfl (fun h118 => ?_) (fun h118 => ?_)
          · have h119 := Imp_m h99.2.2.1 (by first | exact q_e843bd7aad h118 | omega)
            refine En_Ps 2 (pc' := 96) (lv' := [(0, .ref 3)]) (st' := [.ref 3, .ref 3]) rfl ?_
            refine En_getK (j := 3) h116 rfl rfl rfl tgz_3 (by decide +kernel) ?_
            refine En_Ps 2 (pc' := 101) (lv' := [(0, .ref 3)]) (st' := [.int ((y6 + ((Int32.ofInt 1)))), .ref 3]) rfl ?_
            refine En_top (addI rfl (by decide : (Int32.ofInt 1).toInt = 1) (by first | exact q_465ab79ac1 h12 | omega) (by first | exact q_1c9c6c18a7 h13 | omega)) (fun z120 h121 => ?_)
            refine En_put (j := 3) rfl rfl rfl tgz_3 (by decide +kernel) rfl (vI (l := 0) (u := 1600) (by decide +kernel) rfl (by first | exact q_35104ce9d3 h121 h12 | omega) (by first | exact q_ad9a5f3bc2 h121 h24 h23 | omega)) h114 h115 (by decide +kernel) (fun σ122 h123 h124 h125 h126 => ?_)
            have key104 : ∀ (n104 : Nat) (σ129 : SG) (y127 : Int32) (y128 : Int32), WT σ129 → Fr [(3, 1), (3, 2), (3, 3), (3, 4)] σ0 σ129 → (σ129 3)[2]? = some (Value.int y6) → (σ129 3)[0]? = some (Value.ref 1) → (σ129 1)[1]? = some (Value.int z21) → (σ129 1)[0]? = some (Value.ref 2) → (σ129 2)[(y6.toInt).toNat]? = some (Value.int z78) → (σ129 3)[1]? = some (Value.int z100) → (σ129 3)[4]? = some (Value.int y127) → (σ129 3)[3]? = some (Value.int y128) → 0 ≤ y127.toInt → y127.toInt ≤ 1000000 → 0 ≤ y128.toInt → y128.toInt ≤ 1600 → 1600 - y128.toInt < (n104 : Int) → STL By Nb (z100.toInt) (y6.toInt) (y128.toInt) (y127.toInt) → y128.toInt ≤ 1600 → En 1 22 none mr_72 (P_72x σ0 By Nb p) 104 [(0, .ref 3)] [] σ129 := by
              intro n104
              induction n104 with
              | zero =>
                intro σ129 y127 y128 h130 h131 h132 h133 h134 h135 h136 h137 h138 h139 h140 h141 h142 h143 h144 h145 h146
                exfalso; (first | exact q_1fb3d2be5b h144 h146 | omega)
              | succ n104 ih104 =>
                intro σ129 y127 y128 h130 h131 h132 h133 h134 h135 h136 h137 h138 h139 h140 h141 h142 h143 h144 h145 h146
                refine En_Ps 1 (pc' := 105) (lv' := [(0, .ref 3)]) (st' := [.ref 3]) rfl ?_
                refine En_getK (j := 1) h137 rfl rfl rfl tgz_3 (by decide +kernel) ?_
                refine En_Ps 1 (pc' := 109) (lv' := [(0, .ref 3)]) (st' := [.int ((Int32.ofInt 1)), .int z100]) rfl ?_
                refine En_icEq _ rfl (by decide : (Int32.ofInt 1).toInt = 1) rfl (fun hx => by first | exact (q_5098fe9510 h118 hx).elim | (exfalso; omega)) (fun h147 => ?_)
                refine En_Ps 1 (pc' := 113) (lv' := [(0, .ref 3)]) (st' := [.ref 3]) rfl ?_
                refine En_getK (j := 1) h137 rfl rfl rfl tgz_3 (by decide +kernel) ?_
                refine En_Ps 1 (pc' := 117) (lv' := [(0, .ref 3)]) (st' := [.int ((Int32.ofInt 2)), .int z100]) rfl ?_
                refine En_icNe _ rfl (by decide : (Int32.ofInt 2).toInt = 2) rfl (fun h148 => ?_) (fun hx => by first | exact (q_fcd27edbae h118 hx).elim | (exfalso; omega))
                have h149 := Nb_c (TPc_fr hT h131 (by decide +kernel)) h134
                have h150 := kA_ge (By := By) (Nb := Nb) (i := y128.toInt)
                exact En_ret (v := none) rfl rfl rfl ⟨h130, h131, rfl, ⟨(TPc_fr hT h131 (by decide +kernel)), TKc_of (y := y6.toInt) (k := z100.toInt) (e := y128.toInt) (by (first | exact q_58e6e51dcc hl_p | omega)) hf h93 (by (first | exact q_a8fb2024c1 h102 | omega)) (STL_x h145 (by (first | exact q_d48175bf3d h118 | omega)) (by (first | exact q_56ff3b8fea h118 | omega))) ((ci_at (j := 3) h139 rfl)) ((ci_at (j := 2) h132 rfl)) ((ci_at (j := 1) h137 rfl)) (fun zz => ((ci_at (j := 4) h138 rfl)).trans (h145.2.1 zz))⟩⟩
            have := (by decide : (Int32.ofInt 0).toInt = 0)
            exact key104 (Int.toNat (1600 - z120.toInt) + 1) σ122 ((Int32.ofInt 0)) z120 h123 h124 ((h126 _ _ (Or.inr (by decide))).trans ((h117 _ _ (Or.inr (by decide))).trans ((h112 _ _ (Or.inr (by decide))).trans ((h107 _ _ (Or.inr (by decide))).trans h11)))) ((h126 _ _ (Or.inr (by decide))).trans ((h117 _ _ (Or.inr (by decide))).trans ((h112 _ _ (Or.inr (by decide))).trans ((h107 _ _ (Or.inr (by decide))).trans h18)))) ((h126 _ _ (Or.inr (by decide))).trans ((h117 _ _ (Or.inr (by decide))).trans ((h112 _ _ (Or.inr (by decide))).trans ((h107 _ _ (Or.inl (neTG tgz_1 tgz_3 (by decide)))).trans h20)))) ((h126 _ _ (Or.inr (by decide))).trans ((h117 _ _ (Or.inr (by decide))).trans ((h112 _ _ (Or.inr (by decide))).trans ((h107 _ _ (Or.inr (by decide))).trans h75)))) ((h126 _ _ (Or.inl (neTG tgz_2 tgz_3 (by decide)))).trans ((h117 _ _ (Or.inl (neTG tgz_2 tgz_3 (by decide)))).trans ((h112 _ _ (Or.inl (neTG tgz_2 tgz_3 (by decide)))).trans ((h107 _ _ (Or.inl (neTG tgz_2 tgz_3 (by decide)))).trans h77)))) ((h126 _ _ (Or.inr (by decide))).trans ((h117 _ _ (Or.inr (by decide))).trans ((h112 _ _ (Or.inr (by decide))).trans h106))) ((h126 _ _ (Or.inr (by decide))).trans ((h117 _ _ (Or.inr (by decide))).trans h111)) h125 (by decide) (by decide) (by first | exact q_35104ce9d3 h121 h12 | omega) (by first | exact q_ad9a5f3bc2 h121 h24 h23 | omega) (by omega) (STL_0 (by (first | exact q_e33a0f5396 h118 h121 | omega))) (by (first | exact q_02c0cd8258 h121 h119 h23 | omega))
          · refine En_Ps 1 (pc' := 87) (lv' := [(0, .ref 3)]) (st' := [.ref 3]) rfl ?_
            refine En_getK (j := 1) ((h117 _ _ (Or.inr (by decide))).trans ((h112 _ _ (Or.inr (by decide))).trans h106)) rfl rfl rfl tgz_3 (by decide +kernel) ?_
            refine En_Ps 1 (pc' := 91) (lv' := [(0, .ref 3)]) (st' := [.int ((Int32.ofInt 4)), .int z100]) rfl ?_
            refine En_icNe _ rfl (by decide : (Int32.ofInt 4).toInt = 4) rfl (fun h151 => ?_) (fun h151 => ?_)
            · have key104 : ∀ (n104 : Nat) (σ154 : SG) (y152 : Int32) (y153 : Int32), WT σ154 → Fr [(3, 1), (3, 2), (3, 3), (3, 4)] σ0 σ154 → (σ154 3)[2]? = some (Value.int y6) → (σ154 3)[0]? = some (Value.ref 1) → (σ154 1)[1]? = some (Value.int z21) → (σ154 1)[0]? = some (Value.ref 2) → (σ154 2)[(y6.toInt).toNat]? = some (Value.int z78) → (σ154 3)[1]? = some (Value.int z100) → (σ154 3)[4]? = some (Value.int y152) → (σ154 3)[3]? = some (Value.int y153) → 0 ≤ y152.toInt → y152.toInt ≤ 1000000 → 0 ≤ y153.toInt → y153.toInt ≤ 1600 → 1600 - y153.toInt < (n104 : Int) → STL By Nb (z100.toInt) (y6.toInt) (y153.toInt) (y152.toInt) → y153.toInt ≤ 1600 → En 1 22 none mr_72 (P_72x σ0 By Nb p) 104 [(0, .ref 3)] [] σ154 := by
                intro n104
                induction n104 with
                | zero =>
                  intro σ154 y152 y153 h155 h156 h157 h158 h159 h160 h161 h162 h163 h164 h165 h166 h167 h168 h169 h170 h171
                  exfalso; (first | exact q_1fb3d2be5b h169 h171 | omega)
                | succ n104 ih104 =>
                  intro σ154 y152 y153 h155 h156 h157 h158 h159 h160 h161 h162 h163 h164 h165 h166 h167 h168 h169 h170 h171
                  refine En_Ps 1 (pc' := 105) (lv' := [(0, .ref 3)]) (st' := [.ref 3]) rfl ?_
                  refine En_getK (j := 1) h162 rfl rfl rfl tgz_3 (by decide +kernel) ?_
                  refine En_Ps 1 (pc' := 109) (lv' := [(0, .ref 3)]) (st' := [.int ((Int32.ofInt 1)), .int z100]) rfl ?_
                  refine En_icEq _ rfl (by decide : (Int32.ofInt 1).toInt = 1) rfl (fun h172 => ?_) (fun h172 => ?_)
                  · have h173 := Imp_m h99.2.2.1 (by first | exact q_a439be255a h172 | omega)
                    refine En_Ps 1 (pc' := 121) (lv' := [(0, .ref 3)]) (st' := [.ref 3]) rfl ?_
                    refine En_getK (j := 3) h164 rfl rfl rfl tgz_3 (by decide +kernel) ?_
                    refine En_Ps 1 (pc' := 125) (lv' := [(0, .ref 3)]) (st' := [.ref 3, .int y153]) rfl ?_
                    refine En_getK (j := 0) h158 rfl rfl rfl tgz_3 (by decide +kernel) ?_
                    refine En_getK (j := 1) h159 rfl rfl rfl tgz_1 (by decide +kernel) ?_
                    refine En_icGe _ rfl rfl rfl (fun h174 => ?_) (fun h174 => ?_)
                    · have h175 := Nb_c (TPc_fr hT h156 (by decide +kernel)) h159
                      have h176 := kA_ge (By := By) (Nb := Nb) (i := y153.toInt)
                      exact En_ret (v := none) rfl rfl rfl ⟨h155, h156, rfl, ⟨(TPc_fr hT h156 (by decide +kernel)), TKc_of (y := y6.toInt) (k := z100.toInt) (e := y153.toInt) (by (first | exact q_58e6e51dcc hl_p | omega)) hf h93 (by (first | exact q_a8fb2024c1 h102 | omega)) (STL_x h170 (by (first | exact q_250cf38408 h172 | omega)) (by (first | exact q_aa6af27ffd h176 h175 h174 h172 | omega))) ((ci_at (j := 3) h164 rfl)) ((ci_at (j := 2) h157 rfl)) ((ci_at (j := 1) h162 rfl)) (fun zz => ((ci_at (j := 4) h163 rfl)).trans (h170.2.1 zz))⟩⟩
                    · refine En_Ps 2 (pc' := 136) (lv' := [(0, .ref 3)]) (st' := [.ref 3, .ref 3]) rfl ?_
                      refine En_getK (j := 3) h164 rfl rfl rfl tgz_3 (by decide +kernel) ?_
                      refine En_callV rfl rfl rfl rfl rfl rfl rfl rfl tgz_3 (by decide +kernel) rfl (c_57x σ154 h155 y153 (geI rfl (by first | exact q_58e6e51dcc h167 | omega)) (leI rfl (by first | exact q_246f9048f8 h168 | omega)) z21 h159 (TPc_fr hT h156 (by decide +kernel))) (by decide) (by decide) (fun v178 σ179 h177 => ?_)
                      obtain ⟨h180, h181, z183, rfl, h182⟩ := h177
                      have h184 := h182.2.2.2
                      obtain rfl : σ154 = σ179 := Fr_nil h181
                      have h185 := h184
                      refine En_Ps 1 (pc' := 143) (lv' := [(0, .ref 3)]) (st' := [.ref 3, .int z183]) rfl ?_
                      refine En_getK (j := 1) h162 rfl rfl rfl tgz_3 (by decide +kernel) ?_
                      refine En_icNe _ rfl rfl rfl (fun h186 => ?_) (fun h186 => ?_)
                      · have h187 := Nb_c (TPc_fr hT h156 (by decide +kernel)) h159
                        have h188 := kA_ge (By := By) (Nb := Nb) (i := y153.toInt)
                        exact En_ret (v := none) rfl rfl rfl ⟨h155, h156, rfl, ⟨(TPc_fr hT h156 (by decide +kernel)), TKc_of (y := y6.toInt) (k := z100.toInt) (e := y153.toInt) (by (first | exact q_58e6e51dcc hl_p | omega)) hf h93 (by (first | exact q_a8fb2024c1 h102 | omega)) (STL_x h170 (by (first | exact q_250cf38408 h172 | omega)) (by (first | exact q_6e3b33692d h186 h185 | omega))) ((ci_at (j := 3) h164 rfl)) ((ci_at (j := 2) h157 rfl)) ((ci_at (j := 1) h162 rfl)) (fun zz => ((ci_at (j := 4) h163 rfl)).trans (h170.2.1 zz))⟩⟩
                      · have h189 := Imp_m h182.2.2.1 (by first | exact q_05a4ec538e h186 h172 | omega)
                        refine En_Ps 1 (pc' := 150) (lv' := [(0, .ref 3)]) (st' := [.ref 3]) rfl ?_
                        refine En_getK (j := 1) h162 rfl rfl rfl tgz_3 (by decide +kernel) ?_
                        refine En_Ps 1 (pc' := 154) (lv' := [(0, .ref 3)]) (st' := [.int ((Int32.ofInt 2)), .int z100]) rfl ?_
                        refine En_icNe _ rfl (by decide : (Int32.ofInt 2).toInt = 2) rfl (fun h190 => ?_) (fun hx => by first | exact (q_561217d961 hx h172).elim | (exfalso; omega))
                        have h191 : z100.toInt = 2 → y152.toInt = min 1000000 (10 * y152.toInt + By (y153.toInt) - 48) := fun zz => by (first | exact q_19c20cd1e7 zz h172 | omega)
                        refine En_Ps 2 (pc' := 191) (lv' := [(0, .ref 3)]) (st' := [.ref 3, .ref 3]) rfl ?_
                        refine En_getK (j := 3) h164 rfl rfl rfl tgz_3 (by decide +kernel) ?_
                        refine En_Ps 2 (pc' := 196) (lv' := [(0, .ref 3)]) (st' := [.int ((y153 + ((Int32.ofInt 1)))), .ref 3]) rfl ?_
                        refine En_top (addI rfl (by decide : (Int32.ofInt 1).toInt = 1) (by first | exact q_465ab79ac1 h167 | omega) (by first | exact q_1c9c6c18a7 h168 | omega)) (fun z192 h193 => ?_)
                        refine En_put (j := 3) rfl rfl rfl tgz_3 (by decide +kernel) rfl (vI (l := 0) (u := 1600) (by decide +kernel) rfl (by first | exact q_35104ce9d3 h193 h167 | omega) (by first | exact q_ad9a5f3bc2 h193 h174 h23 | omega)) h155 h156 (by decide +kernel) (fun σ194 h195 h196 h197 h198 => ?_)
                        refine En_Ps 1 (pc' := 104) (lv' := [(0, .ref 3)]) (st' := []) rfl ?_
                        exact ih104 σ194 y152 z192 h195 h196 ((h198 _ _ (Or.inr (by decide))).trans h157) ((h198 _ _ (Or.inr (by decide))).trans h158) ((h198 _ _ (Or.inr (by decide))).trans h159) ((h198 _ _ (Or.inr (by decide))).trans h160) ((h198 _ _ (Or.inl (neTG tgz_2 tgz_3 (by decide)))).trans h161) ((h198 _ _ (Or.inr (by decide))).trans h162) ((h198 _ _ (Or.inr (by decide))).trans h163) h197 (by first | exact q_58e6e51dcc h165 | omega) (by first | exact q_2507c1a77a h166 | omega) (by first | exact q_35104ce9d3 h193 h167 | omega) (by first | exact q_ad9a5f3bc2 h193 h174 h23 | omega) (by omega) (STL_s (e := y153.toInt) h170 (by (first | exact q_8666eeb13d h172 | omega)) (by (first | exact q_aeeede310e h186 h185 | omega)) (by (first | exact q_ba1b2c713b h193 | omega)) (fun zz => h191 zz)) (by (first | exact q_02c0cd8258 h193 h189 h23 | omega))
                  · refine En_Ps 1 (pc' := 113) (lv' := [(0, .ref 3)]) (st' := [.ref 3]) rfl ?_
                    refine En_getK (j := 1) h162 rfl rfl rfl tgz_3 (by decide +kernel) ?_
                    refine En_Ps 1 (pc' := 117) (lv' := [(0, .ref 3)]) (st' := [.int ((Int32.ofInt 2)), .int z100]) rfl ?_
                    refine En_icNe _ rfl (by decide : (Int32.ofInt 2).toInt = 2) rfl (fun h199 => ?_) (fun h199 => ?_)
                    · have h200 := Nb_c (TPc_fr hT h156 (by decide +kernel)) h159
                      have h201 := kA_ge (By := By) (Nb := Nb) (i := y153.toInt)
                      exact En_ret (v := none) rfl rfl rfl ⟨h155, h156, rfl, ⟨(TPc_fr hT h156 (by decide +kernel)), TKc_of (y := y6.toInt) (k := z100.toInt) (e := y153.toInt) (by (first | exact q_58e6e51dcc hl_p | omega)) hf h93 (by (first | exact q_a8fb2024c1 h102 | omega)) (STL_x h170 (by (first | exact q_d81bb5e69c h99.1 h99.2.1 | omega)) (by (first | exact q_b150d257f8 h172 h199 h118 h151 h99.2.1 | omega))) ((ci_at (j := 3) h164 rfl)) ((ci_at (j := 2) h157 rfl)) ((ci_at (j := 1) h162 rfl)) (fun zz => ((ci_at (j := 4) h163 rfl)).trans (h170.2.1 zz))⟩⟩
                    · have h202 := Imp_m h99.2.2.1 (by first | exact q_dc003f84d1 h199 | omega)
                      refine En_Ps 1 (pc' := 121) (lv' := [(0, .ref 3)]) (st' := [.ref 3]) rfl ?_
                      refine En_getK (j := 3) h164 rfl rfl rfl tgz_3 (by decide +kernel) ?_
                      refine En_Ps 1 (pc' := 125) (lv' := [(0, .ref 3)]) (st' := [.ref 3, .int y153]) rfl ?_
                      refine En_getK (j := 0) h158 rfl rfl rfl tgz_3 (by decide +kernel) ?_
                      refine En_getK (j := 1) h159 rfl rfl rfl tgz_1 (by decide +kernel) ?_
                      refine En_icGe _ rfl rfl rfl (fun h203 => ?_) (fun h203 => ?_)
                      · have h204 := Nb_c (TPc_fr hT h156 (by decide +kernel)) h159
                        have h205 := kA_ge (By := By) (Nb := Nb) (i := y153.toInt)
                        exact En_ret (v := none) rfl rfl rfl ⟨h155, h156, rfl, ⟨(TPc_fr hT h156 (by decide +kernel)), TKc_of (y := y6.toInt) (k := z100.toInt) (e := y153.toInt) (by (first | exact q_58e6e51dcc hl_p | omega)) hf h93 (by (first | exact q_a8fb2024c1 h102 | omega)) (STL_x h170 (by (first | exact q_9540a50c34 h199 | omega)) (by (first | exact q_02d4de1beb h205 h204 h203 h199 | omega))) ((ci_at (j := 3) h164 rfl)) ((ci_at (j := 2) h157 rfl)) ((ci_at (j := 1) h162 rfl)) (fun zz => ((ci_at (j := 4) h163 rfl)).trans (h170.2.1 zz))⟩⟩
                      · refine En_Ps 2 (pc' := 136) (lv' := [(0, .ref 3)]) (st' := [.ref 3, .ref 3]) rfl ?_
                        refine En_getK (j := 3) h164 rfl rfl rfl tgz_3 (by decide +kernel) ?_
                        refine En_callV rfl rfl rfl rfl rfl rfl rfl rfl tgz_3 (by decide +kernel) rfl (c_57x σ154 h155 y153 (geI rfl (by first | exact q_58e6e51dcc h167 | omega)) (leI rfl (by first | exact q_246f9048f8 h168 | omega)) z21 h159 (TPc_fr hT h156 (by decide +kernel))) (by decide) (by decide) (fun v207 σ208 h206 => ?_)
                        obtain ⟨h209, h210, z212, rfl, h211⟩ := h206
                        have h213 := h211.2.2.2
                        obtain rfl : σ154 = σ208 := Fr_nil h210
                        have h214 := h213
                        refine En_Ps 1 (pc' := 143) (lv' := [(0, .ref 3)]) (st' := [.ref 3, .int z212]) rfl ?_
                        refine En_getK (j := 1) h162 rfl rfl rfl tgz_3 (by decide +kernel) ?_
                        refine En_icNe _ rfl rfl rfl (fun h215 => ?_) (fun h215 => ?_)
                        · have h216 := Nb_c (TPc_fr hT h156 (by decide +kernel)) h159
                          have h217 := kA_ge (By := By) (Nb := Nb) (i := y153.toInt)
                          exact En_ret (v := none) rfl rfl rfl ⟨h155, h156, rfl, ⟨(TPc_fr hT h156 (by decide +kernel)), TKc_of (y := y6.toInt) (k := z100.toInt) (e := y153.toInt) (by (first | exact q_58e6e51dcc hl_p | omega)) hf h93 (by (first | exact q_a8fb2024c1 h102 | omega)) (STL_x h170 (by (first | exact q_9540a50c34 h199 | omega)) (by (first | exact q_6e3b33692d h215 h214 | omega))) ((ci_at (j := 3) h164 rfl)) ((ci_at (j := 2) h157 rfl)) ((ci_at (j := 1) h162 rfl)) (fun zz => ((ci_at (j := 4) h163 rfl)).trans (h170.2.1 zz))⟩⟩
                        · have h218 := Imp_m h211.2.2.1 (by first | exact q_07cb94ee96 h215 h199 | omega)
                          refine En_Ps 1 (pc' := 150) (lv' := [(0, .ref 3)]) (st' := [.ref 3]) rfl ?_
                          refine En_getK (j := 1) h162 rfl rfl rfl tgz_3 (by decide +kernel) ?_
                          refine En_Ps 1 (pc' := 154) (lv' := [(0, .ref 3)]) (st' := [.int ((Int32.ofInt 2)), .int z100]) rfl ?_
                          refine En_icNe _ rfl (by decide : (Int32.ofInt 2).toInt = 2) rfl (fun hx => by first | exact (q_d5d2ccb19c h199 hx).elim | (exfalso; omega)) (fun h219 => ?_)
                          refine En_Ps 3 (pc' := 161) (lv' := [(0, .ref 3)]) (st' := [.ref 3, .int (((Int8.ofInt 10).toInt32)), .ref 3]) rfl ?_
                          refine En_getK (j := 4) h163 rfl rfl rfl tgz_3 (by decide +kernel) ?_
                          refine En_Ps 1 (pc' := 165) (lv' := [(0, .ref 3)]) (st' := [.int (((((Int8.ofInt 10).toInt32)) * y152)), .ref 3]) rfl ?_
                          refine En_top (mulI (by decide : ((Int8.ofInt 10).toInt32).toInt = 10) rfl (Z := 10 * y152.toInt) (by first | exact q_9f72b99036 | omega) (by first | exact q_66aa5f5af3 h165 | omega) (by first | exact q_f11460079f h166 | omega)) (fun z220 h221 => ?_)
                          refine En_Ps 1 (pc' := 166) (lv' := [(0, .ref 3)]) (st' := [.ref 3, .int z220, .ref 3]) rfl ?_
                          refine En_getK (j := 0) h158 rfl rfl rfl tgz_3 (by decide +kernel) ?_
                          refine En_getK (j := 0) h160 rfl rfl rfl tgz_1 (by decide +kernel) ?_
                          refine En_Ps 1 (pc' := 173) (lv' := [(0, .ref 3)]) (st' := [.ref 3, .ref 2, .int z220, .ref 3]) rfl ?_
                          refine En_getK (j := 3) h164 rfl rfl rfl tgz_3 (by decide +kernel) ?_
                          refine En_bald (l := (-128)) (u := 127) rfl rfl tgz_2 (by decide +kernel) h155 (by first | exact q_58e6e51dcc h167 | omega) (lnI (by decide +kernel : LN _ = 1600) (by first | exact q_dde7d71509 h203 h23 | omega)) (FTsgl (by decide +kernel)) (fun z223 h222 h224 h225 => ?_)
                          have h226 := kA_c (i := y153.toInt) (TPc_fr hT h156 (by decide +kernel)) h159 (fun _ => h222) (by (first | exact q_58e6e51dcc h167 | omega))
                          refine En_Ps 1 (pc' := 178) (lv' := [(0, .ref 3)]) (st' := [.int ((z220 + z223)), .ref 3]) rfl ?_
                          refine En_top (addI rfl rfl (by first | exact q_0908e1ebf2 h221 h224 h165 | omega) (by first | exact q_ab63a7cdb5 h221 h225 h166 | omega)) (fun z227 h228 => ?_)
                          refine En_Ps 2 (pc' := 181) (lv' := [(0, .ref 3)]) (st' := [.int ((z227 - (((Int8.ofInt 48).toInt32)))), .ref 3]) rfl ?_
                          refine En_top (subI rfl (by decide : ((Int8.ofInt 48).toInt32).toInt = 48) (by first | exact q_2fda172f3e h228 h221 h224 h165 | omega) (by first | exact q_08fe8bd518 h228 h221 h225 h166 | omega)) (fun z229 h230 => ?_)
                          refine En_Ps 1 (pc' := 183) (lv' := [(0, .ref 3)]) (st' := [.int ((1000000 : Int32)), .int z229, .ref 3]) rfl ?_
                          have := (by decide : ((1000000 : Int32)).toInt = 1000000)
                          refine En_callS rfl rfl rfl rfl rfl rfl rfl rfl rfl (c_11 σ154 h155 z229 ((1000000 : Int32))) (by decide) (by decide) (fun v232 σ233 h231 => ?_)
                          obtain ⟨h234, h235, z237, rfl, h236⟩ := h231
                          obtain rfl : σ154 = σ233 := Fr_nil h235
                          have := fullI z237
                          refine En_put (j := 4) rfl rfl rfl tgz_3 (by decide +kernel) rfl (vI (l := (-2147483648)) (u := 1000000) (by decide +kernel) rfl (by (first | exact q_e1843a3ec8 this.1 | omega)) (by (first | exact q_538b9bf638 h236.2.1 (by decide) | omega))) h155 h156 (by decide +kernel) (fun σ238 h239 h240 h241 h242 => ?_)
                          have h244 := By_c (i := y153.toInt) (TPc_fr hT h240 (by decide +kernel)) ((h242 _ _ (Or.inr (by decide))).trans h159) (by (first | exact q_58e6e51dcc h167 | omega)) (by (first | exact q_fcb0714316 h218 | omega)) ((h242 _ _ (Or.inl (neTG tgz_2 tgz_3 (by decide)))).trans h222)
                          have h243 : z100.toInt = 2 → z237.toInt = min 1000000 (10 * y152.toInt + By (y153.toInt) - 48) := fun zz => by omega
                          refine En_Ps 2 (pc' := 191) (lv' := [(0, .ref 3)]) (st' := [.ref 3, .ref 3]) rfl ?_
                          refine En_getK (j := 3) ((h242 _ _ (Or.inr (by decide))).trans h164) rfl rfl rfl tgz_3 (by decide +kernel) ?_
                          refine En_Ps 2 (pc' := 196) (lv' := [(0, .ref 3)]) (st' := [.int ((y153 + ((Int32.ofInt 1)))), .ref 3]) rfl ?_
                          refine En_top (addI rfl (by decide : (Int32.ofInt 1).toInt = 1) (by first | exact q_465ab79ac1 h167 | omega) (by first | exact q_1c9c6c18a7 h168 | omega)) (fun z245 h246 => ?_)
                          refine En_put (j := 3) rfl rfl rfl tgz_3 (by decide +kernel) rfl (vI (l := 0) (u := 1600) (by decide +kernel) rfl (by first | exact q_35104ce9d3 h246 h167 | omega) (by first | exact q_ad9a5f3bc2 h246 h203 h23 | omega)) h239 h240 (by decide +kernel) (fun σ247 h248 h249 h250 h251 => ?_)
                          refine En_Ps 1 (pc' := 104) (lv' := [(0, .ref 3)]) (st' := []) rfl ?_
                          exact ih104 σ247 z237 z245 h248 h249 ((h251 _ _ (Or.inr (by decide))).trans ((h242 _ _ (Or.inr (by decide))).trans h157)) ((h251 _ _ (Or.inr (by decide))).trans ((h242 _ _ (Or.inr (by decide))).trans h158)) ((h251 _ _ (Or.inr (by decide))).trans ((h242 _ _ (Or.inr (by decide))).trans h159)) ((h251 _ _ (Or.inr (by decide))).trans ((h242 _ _ (Or.inr (by decide))).trans h160)) ((h251 _ _ (Or.inl (neTG tgz_2 tgz_3 (by decide)))).trans ((h242 _ _ (Or.inl (neTG tgz_2 tgz_3 (by decide)))).trans h161)) ((h251 _ _ (Or.inr (by decide))).trans ((h242 _ _ (Or.inr (by decide))).trans h162)) ((h251 _ _ (Or.inr (by decide))).trans h241) h250 (by omega) (by (first | exact q_538b9bf638 h236.2.1 (by decide) | omega)) (by first | exact q_35104ce9d3 h246 h167 | omega) (by first | exact q_ad9a5f3bc2 h246 h203 h23 | omega) (by omega) (STL_s (e := y153.toInt) h170 (by (first | exact q_2c796c762e h219 | omega)) (by (first | exact q_aeeede310e h215 h214 | omega)) (by (first | exact q_ba1b2c713b h246 | omega)) (fun zz => h243 zz)) (by (first | exact q_02c0cd8258 h246 h218 h23 | omega))
              have := (by decide : (Int32.ofInt 0).toInt = 0)
              exact key104 (Int.toNat (1600 - y6.toInt) + 1) σ113 ((Int32.ofInt 0)) y6 h114 h115 ((h117 _ _ (Or.inr (by decide))).trans ((h112 _ _ (Or.inr (by decide))).trans ((h107 _ _ (Or.inr (by decide))).trans h11))) ((h117 _ _ (Or.inr (by decide))).trans ((h112 _ _ (Or.inr (by decide))).trans ((h107 _ _ (Or.inr (by decide))).trans h18))) ((h117 _ _ (Or.inr (by decide))).trans ((h112 _ _ (Or.inr (by decide))).trans ((h107 _ _ (Or.inl (neTG tgz_1 tgz_3 (by decide)))).trans h20))) ((h117 _ _ (Or.inr (by decide))).trans ((h112 _ _ (Or.inr (by decide))).trans ((h107 _ _ (Or.inr (by decide))).trans h75))) ((h117 _ _ (Or.inl (neTG tgz_2 tgz_3 (by decide)))).trans ((h112 _ _ (Or.inl (neTG tgz_2 tgz_3 (by decide)))).trans ((h107 _ _ (Or.inl (neTG tgz_2 tgz_3 (by decide)))).trans h77))) ((h117 _ _ (Or.inr (by decide))).trans ((h112 _ _ (Or.inr (by decide))).trans h106)) ((h117 _ _ (Or.inr (by decide))).trans h111) h116 (by decide) (by decide) (by first | exact q_58e6e51dcc h12 | omega) (by first | exact q_246f9048f8 h13 | omega) (by omega) (STL_0 (by (first | exact q_f80612ac51 this h99.1 h118 h151 h99.2.1 | omega))) (by (first | exact q_246f9048f8 h13 | omega))
            · have h252 := Imp_m h99.2.2.1 (by first | exact q_50239dc789 h151 | omega)
              refine En_Ps 2 (pc' := 96) (lv' := [(0, .ref 3)]) (st' := [.ref 3, .ref 3]) rfl ?_
              refine En_getK (j := 3) h116 rfl rfl rfl tgz_3 (by decide +kernel) ?_
              refine En_Ps 2 (pc' := 101) (lv' := [(0, .ref 3)]) (st' := [.int ((y6 + ((Int32.ofInt 1)))), .ref 3]) rfl ?_
              refine En_top (addI rfl (by decide : (Int32.ofInt 1).toInt = 1) (by first | exact q_465ab79ac1 h12 | omega) (by first | exact q_1c9c6c18a7 h13 | omega)) (fun z253 h254 => ?_)
              refine En_put (j := 3) rfl rfl rfl tgz_3 (by decide +kernel) rfl (vI (l := 0) (u := 1600) (by decide +kernel) rfl (by first | exact q_35104ce9d3 h254 h12 | omega) (by first | exact q_ad9a5f3bc2 h254 h24 h23 | omega)) h114 h115 (by decide +kernel) (fun σ255 h256 h257 h258 h259 => ?_)
              have key104 : ∀ (n104 : Nat) (σ262 : SG) (y260 : Int32) (y261 : Int32), WT σ262 → Fr [(3, 1), (3, 2), (3, 3), (3, 4)] σ0 σ262 → (σ262 3)[2]? = some (Value.int y6) → (σ262 3)[0]? = some (Value.ref 1) → (σ262 1)[1]? = some (Value.int z21) → (σ262 1)[0]? = some (Value.ref 2) → (σ262 2)[(y6.toInt).toNat]? = some (Value.int z78) → (σ262 3)[1]? = some (Value.int z100) → (σ262 3)[4]? = some (Value.int y260) → (σ262 3)[3]? = some (Value.int y261) → 0 ≤ y260.toInt → y260.toInt ≤ 1000000 → 0 ≤ y261.toInt → y261.toInt ≤ 1600 → 1600 - y261.toInt < (n104 : Int) → STL By Nb (z100.toInt) (y6.toInt) (y261.toInt) (y260.toInt) → y261.toInt ≤ 1600 → En 1 22 none mr_72 (P_72x σ0 By Nb p) 104 [(0, .ref 3)] [] σ262 := by
                intro n104
                induction n104 with
                | zero =>
                  intro σ262 y260 y261 h263 h264 h265 h266 h267 h268 h269 h270 h271 h272 h273 h274 h275 h276 h277 h278 h279
                  exfalso; (first | exact q_1fb3d2be5b h277 h279 | omega)
                | succ n104 ih104 =>
                  intro σ262 y260 y261 h263 h264 h265 h266 h267 h268 h269 h270 h271 h272 h273 h274 h275 h276 h277 h278 h279
                  refine En_Ps 1 (pc' := 105) (lv' := [(0, .ref 3)]) (st' := [.ref 3]) rfl ?_
                  refine En_getK (j := 1) h270 rfl rfl rfl tgz_3 (by decide +kernel) ?_
                  refine En_Ps 1 (pc' := 109) (lv' := [(0, .ref 3)]) (st' := [.int ((Int32.ofInt 1)), .int z100]) rfl ?_
                  refine En_icEq _ rfl (by decide : (Int32.ofInt 1).toInt = 1) rfl (fun hx => by first | exact (q_976dd12763 h151 hx).elim | (exfalso; omega)) (fun h280 => ?_)
                  refine En_Ps 1 (pc' := 113) (lv' := [(0, .ref 3)]) (st' := [.ref 3]) rfl ?_
                  refine En_getK (j := 1) h270 rfl rfl rfl tgz_3 (by decide +kernel) ?_
                  refine En_Ps 1 (pc' := 117) (lv' := [(0, .ref 3)]) (st' := [.int ((Int32.ofInt 2)), .int z100]) rfl ?_
                  refine En_icNe _ rfl (by decide : (Int32.ofInt 2).toInt = 2) rfl (fun h281 => ?_) (fun hx => by first | exact (q_683ea544d9 h151 hx).elim | (exfalso; omega))
                  have h282 := Nb_c (TPc_fr hT h264 (by decide +kernel)) h267
                  have h283 := kA_ge (By := By) (Nb := Nb) (i := y261.toInt)
                  exact En_ret (v := none) rfl rfl rfl ⟨h263, h264, rfl, ⟨(TPc_fr hT h264 (by decide +kernel)), TKc_of (y := y6.toInt) (k := z100.toInt) (e := y261.toInt) (by (first | exact q_58e6e51dcc hl_p | omega)) hf h93 (by (first | exact q_a8fb2024c1 h102 | omega)) (STL_x h278 (by (first | exact q_0db62aa727 h151 | omega)) (by (first | exact q_b451212fd5 h151 | omega))) ((ci_at (j := 3) h272 rfl)) ((ci_at (j := 2) h265 rfl)) ((ci_at (j := 1) h270 rfl)) (fun zz => ((ci_at (j := 4) h271 rfl)).trans (h278.2.1 zz))⟩⟩
              have := (by decide : (Int32.ofInt 0).toInt = 0)
              exact key104 (Int.toNat (1600 - z253.toInt) + 1) σ255 ((Int32.ofInt 0)) z253 h256 h257 ((h259 _ _ (Or.inr (by decide))).trans ((h117 _ _ (Or.inr (by decide))).trans ((h112 _ _ (Or.inr (by decide))).trans ((h107 _ _ (Or.inr (by decide))).trans h11)))) ((h259 _ _ (Or.inr (by decide))).trans ((h117 _ _ (Or.inr (by decide))).trans ((h112 _ _ (Or.inr (by decide))).trans ((h107 _ _ (Or.inr (by decide))).trans h18)))) ((h259 _ _ (Or.inr (by decide))).trans ((h117 _ _ (Or.inr (by decide))).trans ((h112 _ _ (Or.inr (by decide))).trans ((h107 _ _ (Or.inl (neTG tgz_1 tgz_3 (by decide)))).trans h20)))) ((h259 _ _ (Or.inr (by decide))).trans ((h117 _ _ (Or.inr (by decide))).trans ((h112 _ _ (Or.inr (by decide))).trans ((h107 _ _ (Or.inr (by decide))).trans h75)))) ((h259 _ _ (Or.inl (neTG tgz_2 tgz_3 (by decide)))).trans ((h117 _ _ (Or.inl (neTG tgz_2 tgz_3 (by decide)))).trans ((h112 _ _ (Or.inl (neTG tgz_2 tgz_3 (by decide)))).trans ((h107 _ _ (Or.inl (neTG tgz_2 tgz_3 (by decide)))).trans h77)))) ((h259 _ _ (Or.inr (by decide))).trans ((h117 _ _ (Or.inr (by decide))).trans ((h112 _ _ (Or.inr (by decide))).trans h106))) ((h259 _ _ (Or.inr (by decide))).trans ((h117 _ _ (Or.inr (by decide))).trans h111)) h258 (by decide) (by decide) (by first | exact q_35104ce9d3 h254 h12 | omega) (by first | exact q_ad9a5f3bc2 h254 h24 h23 | omega) (by omega) (STL_0 (by (first | exact q_b4dc297ab6 h151 h254 | omega))) (by (first | exact q_02c0cd8258 h254 h252 h23 | omega))
        · have h284 := Imp_m h86.2.2.1 (by first | exact ⟨q_ad5b726bf8 h86.2.1, q_e3350da514 h91 h86.1⟩ | omega)
          refine En_Ps 2 (pc' := 42) (lv' := [(0, .ref 3)]) (st' := [.ref 3, .ref 3]) rfl ?_
          refine En_getK (j := 2) h11 rfl rfl rfl tgz_3 (by decide +kernel) ?_
          refine En_Ps 2 (pc' := 47) (lv' := [(0, .ref 3)]) (st' := [.int ((y6 + ((Int32.ofInt 1)))), .ref 3]) rfl ?_
          refine En_top (addI rfl (by decide : (Int32.ofInt 1).toInt = 1) (by first | exact q_465ab79ac1 h12 | omega) (by first | exact q_1c9c6c18a7 h13 | omega)) (fun z285 h286 => ?_)
          refine En_put (j := 2) rfl rfl rfl tgz_3 (by decide +kernel) rfl (vI (l := 0) (u := 1600) (by decide +kernel) rfl (by first | exact q_35104ce9d3 h286 h12 | omega) (by first | exact q_ad9a5f3bc2 h286 h24 h23 | omega)) h8 h9 (by decide +kernel) (fun σ287 h288 h289 h290 h291 => ?_)
          have h292 := BLc_go (y := y6.toInt) (z := z285.toInt) (by (first | exact q_114b7bcb5b h89.1 | omega)) (by (first | exact q_f4ce003da9 h90 h91 h86.1 h89.2 h284.2 h284.1 | omega)) (by (first | exact q_ba1b2c713b h286 | omega)) h16
          refine En_Ps 1 (pc' := 8) (lv' := [(0, .ref 3)]) (st' := []) rfl ?_
          exact ih8 σ287 z285 h288 h289 ((h291 _ _ (Or.inr (by decide))).trans h10) h290 (by first | exact q_35104ce9d3 h286 h12 | omega) (by first | exact q_ad9a5f3bc2 h286 h24 h23 | omega) (by first | exact q_3a5e225620 h14 h286 | omega) (by first | exact q_98eaa778fc h286 h15 | omega) (h292.1) (h292.2)
  exact key8 (Int.toNat (-p.toInt + 1600) + 1) σ1 p h2 h3 ((h5 _ _ (Or.inr (by decide))).trans h_p) h4 (by first | exact q_58e6e51dcc hl_p | omega) (by first | exact q_246f9048f8 hu_p | omega) (by first | exact q_1bb76abeaf | omega) (by first | exact toN_lt _ | omega) (rfl) (hf)
/-- DoorSchool$Reader.pass(Z)V -/
abbrev P_59x (σ0 : SG) (By : Int → Int) (Nb : Int) (Sp : PS) (a : Int32) (f : Int32) : PO := fun v σ => WT σ ∧ Fr [(3, 1), (3, 2), (3, 3), (3, 4), (3, 5), (3, 6)] σ0 σ ∧ ∃ f1 : Int32, (σ 3)[5]? = some (Value.int f1) ∧ v = none ∧ -f1.toInt ≤ 0 ∧ f1.toInt - 3 ≤ 0 ∧ -f1.toInt + f.toInt ≤ 0 ∧ Imp (-a.toInt + 1 ≤ 0) (f1.toInt - f.toInt ≤ 0 ∧ -f1.toInt + f.toInt ≤ 0) ∧ f.toInt - f1.toInt ≤ 0 ∧ Imp (a.toInt ≤ 0) (-f1.toInt + 1 ≤ 0) ∧ CT By Nb σ (pss By Nb a.toInt Sp)
set_option maxRecDepth 10000 in
set_option maxHeartbeats 4000000 in
theorem c_59x {By : Int → Int} {Nb : Int} {Sp : PS} (σ0 : SG) (hσ0 : WT σ0) (a : Int32) (hl_a : 0 ≤ a.toInt) (hu_a : a.toInt ≤ 1) (f : Int32) (h_f : (σ0 3)[5]? = some (Value.int f)) (hC : CT By Nb σ0 Sp) : En 2 42 none mr_59 (P_59x σ0 By Nb Sp a f) 0 [(0, .ref 3), (1, .int a)] [] σ0 := by
  obtain ⟨hl_f, hu_f⟩ := WT_int hσ0 (g := 3) (by decide +kernel) (by decide +kernel) (l := 0) (u := 3) (by decide +kernel) h_f
  have hF0 : Fr [(3, 1), (3, 2), (3, 3), (3, 4), (3, 5), (3, 6)] σ0 σ0 := Fr_rfl
  have h1 := CT_k hC h_f
  refine En_Ps 1 (pc' := 1) (lv' := [(0, .ref 3), (1, .int a)]) (st' := [.int a]) rfl ?_
  refine En_iNe _ rfl rfl (fun h2 => ?_) (fun h2 => ?_)
  · refine En_Ps 1 (pc' := 10) (lv' := [(0, .ref 3), (1, .int a)]) (st' := [.ref 3]) rfl ?_
    refine En_getK (j := 5) h_f rfl rfl rfl tgz_3 (by decide +kernel) ?_
    refine En_iNe _ rfl rfl (fun h3 => ?_) (fun h3 => ?_)
    · exact En_ret (v := none) rfl rfl rfl ⟨hσ0, hF0, f, h_f, rfl, ⟨by first | exact q_787f1164f6 h3 hl_f | omega, by first | exact q_e9a8eec0c4 hu_f | omega, by first | exact q_857069189f | omega, fun hh => by first | exact ⟨q_1bb76abeaf, q_857069189f⟩ | omega, by first | exact q_1bb76abeaf | omega, fun hh => by first | exact q_e74c65d0a8 h3 hl_f | omega, (by first | exact CT_eq hC (pss_bad (by (first | exact q_957696b956 h3 hl_f h1 | omega))).symm | exact CT_eq hC (psc_1 (by omega)) | exact CT_eq hC (psc_0 (by omega)))⟩⟩
    · refine En_Ps 1 (pc' := 17) (lv' := [(0, .ref 3), (1, .int a)]) (st' := [.ref 3]) rfl ?_
      obtain ⟨z5, h4, h6, h7⟩ := WT_peekI hσ0 tgz_3 (by decide +kernel : FT 3 3 = (0, 0, 1600)) (by decide +kernel)
      refine En_callV rfl rfl rfl rfl rfl rfl rfl rfl tgz_3 (by decide +kernel) rfl (c_72x σ0 hσ0 z5 h4 hC.1 (CT_at hC (by (first | exact q_ca23768860 h1 h3 | omega)) h4)) (by decide) (by decide) (fun v9 σ10 h8 => ?_)
      obtain ⟨h11, h12, rfl, h13⟩ := h8
      have h14 := h13
      have h15 := Fr_trans hF0 h12 (by decide +kernel)
      obtain ⟨S16, h17⟩ : ∃ q : PS, q = adv By Nb Sp := ⟨_, rfl⟩
      have h18 : CT By Nb σ10 S16 := by rw [h17]; exact (CT_adv hC (by (first | exact q_ca23768860 h1 h3 | omega)) h4 h12 (by decide +kernel) h14.2)
      have h19 := CT_k h18 ((h12 _ _ (inW tgz_3 (by decide +kernel))).trans h_f)
      have h20 : S16.2.2.2 = Sp.2.2.2 := by rw [h17]; exact adv_w
      have h21 : S16.1 = Sp.1 := by rw [h17]; exact adv_1
      exact En_ret (v := none) rfl rfl rfl ⟨h11, h15, f, ((h12 _ _ (inW tgz_3 (by decide +kernel))).trans h_f), rfl, ⟨by first | exact q_c803b490ef hl_f | omega, by first | exact q_bd3fa30443 h3 | omega, by first | exact q_857069189f | omega, fun hh => by first | exact ⟨q_1bb76abeaf, q_857069189f⟩ | omega, by first | exact q_1bb76abeaf | omega, fun _ => by omega, (by subst h17; first | exact CT_eq h18 (pss_bad (by omega)).symm | exact CT_eq h18 (psc_1 (by (first | exact q_f13d7d62c0 h2 hl_a hu_a | omega))) | exact CT_eq h18 (psc_0 (by omega)))⟩⟩
  · refine En_Ps 2 (pc' := 6) (lv' := [(0, .ref 3), (1, .int a)]) (st' := [.int ((Int32.ofInt 1)), .ref 3]) rfl ?_
    have := (by decide : ((Int32.ofInt 1)).toInt = 1)
    refine En_callV rfl rfl rfl rfl rfl rfl rfl rfl tgz_3 (by decide +kernel) rfl (c_54x σ0 hσ0 ((Int32.ofInt 1)) (geI (by decide : (Int32.ofInt 1).toInt = 1) (by decide)) (leI (by decide : (Int32.ofInt 1).toInt = 1) (by decide)) f h_f hC) (by decide) (by decide) (fun v23 σ24 h22 => ?_)
    obtain ⟨h25, h26, z28, h29, rfl, h27⟩ := h22
    have h30 := h27.2.2.2.2.2
    have h31 := Fr_trans hF0 h26 (by decide +kernel)
    obtain ⟨S32, h33⟩ : ∃ q : PS, q = err By Nb 1 Sp := ⟨_, rfl⟩
    have h34 : CT By Nb σ24 S32 := by rw [h33]; exact (CT_eq h30 (err_cg (by (first | exact q_0bfa10f27c this | omega))))
    have h35 := CT_k h34 h29
    have h36 : S32.2.2.2 = Sp.2.2.2 := by rw [h33]; exact err_w
    refine En_Ps 1 (pc' := 10) (lv' := [(0, .ref 3), (1, .int a)]) (st' := [.ref 3]) rfl ?_
    refine En_getK (j := 5) h29 rfl rfl rfl tgz_3 (by decide +kernel) ?_
    refine En_iNe _ rfl rfl (fun h37 => ?_) (fun hx => by exfalso; have := Imp_m h27.2.2.2.1 (by (first | exact q_e3adf33a46 h27.1 hx | omega)); have := Imp_m h27.2.2.2.2.1 (by (first | exact q_f4f2768de0 h27.1 hx | omega)); (first | exact q_a0b22f2d75 h27.1 hx | omega))
    exact En_ret (v := none) rfl rfl rfl ⟨h25, h31, z28, h29, rfl, ⟨by first | exact q_1a6ee862c1 h27.1 | omega, by first | exact q_c733b715bf h27.2.1 | omega, by first | exact q_d22b102a8e h27.2.2.1 | omega, fun _ => by omega, by first | exact q_83f4b1e050 h27.2.2.1 | omega, fun hh => by first | exact q_68fbff215b h27.1 | omega, (by subst h33; first | exact CT_eq h34 (pss_bad (by omega)).symm | exact CT_eq h34 (psc_1 (by omega)) | exact CT_eq h34 (psc_0 (by (first | exact q_5e94eb2bf7 h2 | omega))))⟩⟩
/-- DoorSchool$Reader.stands(Ljava/lang/String;)Z -/
abbrev P_71gx (iL : Nat) (σ0 : SG) (By : Int → Int) (Nb : Int) (Sp : PS) : PO := fun v σ => WT σ ∧ Fr [] σ0 σ ∧ ∃ ret : Int32, v = some (Value.int ret) ∧ -ret.toInt ≤ 0 ∧ ret.toInt - 1 ≤ 0 ∧ Imp (Sp.1 = 0) (ret.toInt = iW By Nb iL Sp)
set_option maxRecDepth 10000 in
set_option maxHeartbeats 4000000 in
theorem c_71gx (iL nL : Nat) (gn : (decide (iL < NSTR) && decide (LENS.getD iL 0 = nL)) = true) (gN : (Int32.ofNat nL).toInt = (nL : Int)) (gL : (LW iL).length = nL) (g1 : 1 ≤ nL) (g9 : nL ≤ 20) {By : Int → Int} {Nb : Int} {Sp : PS} (σ0 : SG) (hσ0 : WT σ0) (hC : CT By Nb σ0 Sp) : En 4 90 none mr_71 (P_71gx iL σ0 By Nb Sp) 0 [(0, .ref 3), (1, .retAddr (2 * iL + 1))] [] σ0 := by
  have hF0 : Fr [] σ0 σ0 := Fr_rfl
  obtain ⟨z2, h1, h3, h4⟩ := WT_peekI hσ0 tgz_3 (by decide +kernel : FT 3 1 = (0, 0, 4)) (by decide +kernel)
  obtain ⟨z6, h5, h7, h8⟩ := WT_peekI hσ0 tgz_3 (by decide +kernel : FT 3 3 = (0, 0, 1600)) (by decide +kernel)
  obtain ⟨z10, h9, h11, h12⟩ := WT_peekI hσ0 tgz_3 (by decide +kernel : FT 3 2 = (0, 0, 1600)) (by decide +kernel)
  have h13 : Imp (Sp.1 = 0) (tK By Nb Sp.2.2.1 = z2.toInt) := CT_t hC h1
  refine En_Ps 1 (pc' := 1) (lv' := [(0, .ref 3), (1, .retAddr (2 * iL + 1))]) (st' := [.ref 3]) rfl ?_
  refine En_getK (j := 1) h1 rfl rfl rfl tgz_3 (by decide +kernel) ?_
  refine En_Ps 1 (pc' := 5) (lv' := [(0, .ref 3), (1, .retAddr (2 * iL + 1))]) (st' := [.int ((Int32.ofInt 1)), .int z2]) rfl ?_
  refine En_icNe _ rfl (by decide : (Int32.ofInt 1).toInt = 1) rfl (fun h14 => ?_) (fun h14 => ?_)
  · refine En_Ps 1 (pc' := 25) (lv' := [(0, .ref 3), (1, .retAddr (2 * iL + 1))]) (st' := [.int ((Int32.ofInt 0))]) rfl ?_
    refine En_top (by decide : (Int32.ofInt 0).toInt = 0) (fun z15 h16 => ?_)
    exact En_ret (v := some (Value.int z15)) rfl rfl (retZ rfl rfl (by (first | exact q_55451d0a83 h16 | omega)) (by (first | exact q_87849c3859 h16 | omega))) ⟨hσ0, hF0, z15, rfl, ⟨by (first | exact q_097a37c2ae h16 | omega), by (first | exact q_e269517bee h16 | omega), fun z => by have q1 := CT_t hC h1 z; have q2 := CT_fa hC h5 h9 z; have q := iW_0 (By := By) (Nb := Nb) (i := iL) (S := Sp) (by simp only [gL]; omega); (first | exact q_324d2e55e5 q h16 | omega)⟩⟩
  · refine En_Ps 1 (pc' := 9) (lv' := [(0, .ref 3), (1, .retAddr (2 * iL + 1))]) (st' := [.ref 3]) rfl ?_
    refine En_getK (j := 3) h5 rfl rfl rfl tgz_3 (by decide +kernel) ?_
    refine En_Ps 1 (pc' := 13) (lv' := [(0, .ref 3), (1, .retAddr (2 * iL + 1))]) (st' := [.ref 3, .int z6]) rfl ?_
    refine En_getK (j := 2) h9 rfl rfl rfl tgz_3 (by decide +kernel) ?_
    refine En_Ps 1 (pc' := 17) (lv' := [(0, .ref 3), (1, .retAddr (2 * iL + 1))]) (st' := [.int ((z6 - z10))]) rfl ?_
    refine En_top (subI rfl rfl (by (first | exact q_263332819c h12 h7 | omega)) (by (first | exact q_cd9bb0c6c6 h11 h8 | omega))) (fun z17 h18 => ?_)
    refine En_Ps 1 (pc' := 18) (lv' := [(0, .ref 3), (1, .retAddr (2 * iL + 1))]) (st' := [.retAddr (2 * iL + 1), .int z17]) rfl ?_
    refine En_slen iL nL rfl rfl gn rfl ?_
    refine En_icEq _ rfl gN rfl (fun h19 => ?_) (fun h19 => ?_)
    · refine En_Ps 2 (pc' := 28) (lv' := [(2, .int ((Int32.ofInt 0))), (0, .ref 3), (1, .retAddr (2 * iL + 1))]) (st' := []) rfl ?_
      have key28 : ∀ (n28 : Nat) (σ21 : SG) (y20 : Int32), WT σ21 → Fr [] σ0 σ21 → (σ21 3)[1]? = some (Value.int z2) → (σ21 3)[3]? = some (Value.int z6) → (σ21 3)[2]? = some (Value.int z10) → 0 ≤ y20.toInt → y20.toInt ≤ nL → z6.toInt - y20.toInt < (n28 : Int) → Imp (Sp.1 = 0) (ISQ By Nb iL Sp 1 y20.toInt) → En 4 90 none mr_71 (P_71gx iL σ0 By Nb Sp) 28 [(0, .ref 3), (1, .retAddr (2 * iL + 1)), (2, .int y20)] [] σ21 := by
        intro n28
        induction n28 with
        | zero =>
          intro σ21 y20 h22 h23 h24 h25 h26 h27 h28 h29 h30
          exfalso; omega
        | succ n28 ih28 =>
          intro σ21 y20 h22 h23 h24 h25 h26 h27 h28 h29 h30
          refine En_Ps 2 (pc' := 30) (lv' := [(0, .ref 3), (1, .retAddr (2 * iL + 1)), (2, .int y20)]) (st' := [.retAddr (2 * iL + 1), .int y20]) rfl ?_
          refine En_slen iL nL rfl rfl gn rfl ?_
          refine En_icGe _ rfl gN rfl (fun h31 => ?_) (fun h31 => ?_)
          · refine En_Ps 1 (pc' := 67) (lv' := [(0, .ref 3), (1, .retAddr (2 * iL + 1)), (2, .int y20)]) (st' := [.int ((Int32.ofInt 1))]) rfl ?_
            refine En_top (by decide : (Int32.ofInt 1).toInt = 1) (fun z32 h33 => ?_)
            exact En_ret (v := some (Value.int z32)) rfl rfl (retZ rfl rfl (by (first | exact q_2b07c97645 h33 | omega)) (by (first | exact q_d9e7cbb253 h33 | omega))) ⟨h22, h23, z32, rfl, ⟨by (first | exact q_ad3eee31ca h33 | omega), by (first | exact q_81cf297dc4 h33 | omega), fun z => by have q := ISQ_x (Imp_m h30 z) (Or.inr (by simp only [gL]; omega)); (first | exact q_09d314a96c q h33 | omega)⟩⟩
          · refine En_Ps 1 (pc' := 37) (lv' := [(0, .ref 3), (1, .retAddr (2 * iL + 1)), (2, .int y20)]) (st' := [.ref 3]) rfl ?_
            refine En_getU (j := 0) (u := 1) (g' := 1) (q := 0) rfl rfl rfl tgz_3 (by decide +kernel) h22 (by decide +kernel) un_1_1 (fun h34 => ?_)
            refine En_getU (j := 0) (u := 2) (g' := 2) (q := 0) rfl rfl rfl tgz_1 (by decide +kernel) h22 (by decide +kernel) un_2_2 (fun h36 => ?_)
            refine En_Ps 1 (pc' := 44) (lv' := [(0, .ref 3), (1, .retAddr (2 * iL + 1)), (2, .int y20)]) (st' := [.ref 3, .ref 2]) rfl ?_
            refine En_getK (j := 2) h26 rfl rfl rfl tgz_3 (by decide +kernel) ?_
            refine En_Ps 2 (pc' := 49) (lv' := [(0, .ref 3), (1, .retAddr (2 * iL + 1)), (2, .int y20)]) (st' := [.int ((z10 + y20)), .ref 2]) rfl ?_
            refine En_top (addI rfl rfl (by (first | exact q_2da77528c2 h27 h11 | omega)) (by omega)) (fun z38 h39 => ?_)
            refine En_bald (l := (-128)) (u := 127) rfl rfl tgz_2 (by decide +kernel) h22 (by (first | exact q_7b8a1c11b3 h39 h27 h11 | omega)) (lnI (by decide +kernel : LN _ = 1600) (by omega)) (FTsgl (by decide +kernel)) (fun z41 h40 h42 h43 => ?_)
            refine En_Ps 2 (pc' := 52) (lv' := [(0, .ref 3), (1, .retAddr (2 * iL + 1)), (2, .int y20)]) (st' := [.int y20, .retAddr (2 * iL + 1), .int z41]) rfl ?_
            refine En_scharX iL nL rfl rfl rfl gn (by (first | exact q_58e6e51dcc h27 | omega)) (by omega) rfl (fun z44 h45 h46 h47 => ?_)
            refine En_icEq _ rfl rfl rfl (fun h48 => ?_) (fun h48 => ?_)
            · refine En_Ps 1 (pc' := 63) (lv' := [(2, .int ((y20 + Int32.ofInt 1))), (0, .ref 3), (1, .retAddr (2 * iL + 1))]) (st' := []) rfl ?_
              refine En_lv1 (addI rfl (by decide : (Int32.ofInt 1).toInt = 1) (by (first | exact q_465ab79ac1 h27 | omega)) (by omega)) (fun z49 h50 => ?_)
              refine En_Ps 1 (pc' := 28) (lv' := [(2, .int z49), (0, .ref 3), (1, .retAddr (2 * iL + 1))]) (st' := []) rfl ?_
              refine En_lv (lv := [(0, .ref 3), (1, .retAddr (2 * iL + 1)), (2, .int z49)]) ⟨rfl, rfl, rfl, trivial⟩ ?_
              exact ih28 σ21 z49 h22 h23 h24 h25 h26 (by (first | exact q_35104ce9d3 h50 h27 | omega)) (by omega) (by omega) (fun z => by have q1 := CT_t hC h1 z; have q2 := CT_fa hC h5 h9 z; exact ISQc_n (CT_fr hC h23 (by decide +kernel)) (Imp_m h30 z) (by simp only [gL]; omega) (by (first | exact q_77a4a34311 q2.2.1 h39 | omega)) h40 h47 (by (first | exact q_ba1b2c713b h50 | omega)) (by (first | exact q_b485ccbcd0 h48 | omega)))
            · refine En_Ps 1 (pc' := 59) (lv' := [(0, .ref 3), (1, .retAddr (2 * iL + 1)), (2, .int y20)]) (st' := [.int ((Int32.ofInt 0))]) rfl ?_
              refine En_top (by decide : (Int32.ofInt 0).toInt = 0) (fun z51 h52 => ?_)
              exact En_ret (v := some (Value.int z51)) rfl rfl (retZ rfl rfl (by (first | exact q_55451d0a83 h52 | omega)) (by (first | exact q_87849c3859 h52 | omega))) ⟨h22, h23, z51, rfl, ⟨by (first | exact q_097a37c2ae h52 | omega), by (first | exact q_e269517bee h52 | omega), fun z => by have q1 := CT_t hC h1 z; have q2 := CT_fa hC h5 h9 z; have q := ISQc_n (b' := 0) (CT_fr hC h23 (by decide +kernel)) (Imp_m h30 z) (by simp only [gL]; omega) (by (first | exact q_77a4a34311 q2.2.1 h39 | omega)) h40 h47 rfl (Or.inr ⟨rfl, by (first | exact q_f3cb68eaf4 h48 | omega)⟩); have q2 := ISQ_x q (Or.inl rfl); (first | exact q_09c5cf1202 q2 h52 | omega)⟩⟩
      have := (by decide : (Int32.ofInt 0).toInt = 0)
      refine En_lv (lv := [(0, .ref 3), (1, .retAddr (2 * iL + 1)), (2, .int ((Int32.ofInt 0)))]) ⟨rfl, rfl, rfl, trivial⟩ ?_
      exact key28 (Int.toNat (z6.toInt) + 1) σ0 ((Int32.ofInt 0)) hσ0 hF0 h1 h5 h9 (by (first | exact q_55451d0a83 this | omega)) (by omega) (by omega) (fun z => by have q1 := CT_t hC h1 z; have q2 := CT_fa hC h5 h9 z; exact ISQc_s (by decide) z (by (first | exact q_d82c26df7c q1 h14 | omega)) (by simp only [gL]; omega))
    · refine En_Ps 1 (pc' := 25) (lv' := [(0, .ref 3), (1, .retAddr (2 * iL + 1))]) (st' := [.int ((Int32.ofInt 0))]) rfl ?_
      refine En_top (by decide : (Int32.ofInt 0).toInt = 0) (fun z53 h54 => ?_)
      exact En_ret (v := some (Value.int z53)) rfl rfl (retZ rfl rfl (by (first | exact q_55451d0a83 h54 | omega)) (by (first | exact q_87849c3859 h54 | omega))) ⟨hσ0, hF0, z53, rfl, ⟨by (first | exact q_097a37c2ae h54 | omega), by (first | exact q_e269517bee h54 | omega), fun z => by have q1 := CT_t hC h1 z; have q2 := CT_fa hC h5 h9 z; have q := iW_0 (By := By) (Nb := Nb) (i := iL) (S := Sp) (by simp only [gL]; omega); (first | exact q_324d2e55e5 q h54 | omega)⟩⟩
/-- DoorSchool$Reader.stands(Ljava/lang/String;)Z -/
abbrev P_71s0x (σ0 : SG) (By : Int → Int) (Nb : Int) (Sp : PS) : PO := fun v σ => WT σ ∧ Fr [] σ0 σ ∧ ∃ ret : Int32, v = some (Value.int ret) ∧ -ret.toInt ≤ 0 ∧ ret.toInt - 1 ≤ 0 ∧ Imp (Sp.1 = 0) (ret.toInt = iW By Nb 0 Sp)
set_option maxRecDepth 10000 in
set_option maxHeartbeats 4000000 in
theorem c_71s0x {By : Int → Int} {Nb : Int} {Sp : PS} (σ0 : SG) (hσ0 : WT σ0) (hC : CT By Nb σ0 Sp) : En 4 90 none mr_71 (P_71s0x σ0 By Nb Sp) 0 [(0, .ref 3), (1, .retAddr 1)] [] σ0 := c_71gx 0 5 (by decide) (by decide) (by decide) (by decide) (by decide) σ0 hσ0 hC
/-- DoorSchool$Reader.stands(Ljava/lang/String;)Z -/
abbrev P_71s1x (σ0 : SG) (By : Int → Int) (Nb : Int) (Sp : PS) : PO := fun v σ => WT σ ∧ Fr [] σ0 σ ∧ ∃ ret : Int32, v = some (Value.int ret) ∧ -ret.toInt ≤ 0 ∧ ret.toInt - 1 ≤ 0 ∧ Imp (Sp.1 = 0) (ret.toInt = iW By Nb 1 Sp)
set_option maxRecDepth 10000 in
set_option maxHeartbeats 4000000 in
theorem c_71s1x {By : Int → Int} {Nb : Int} {Sp : PS} (σ0 : SG) (hσ0 : WT σ0) (hC : CT By Nb σ0 Sp) : En 4 90 none mr_71 (P_71s1x σ0 By Nb Sp) 0 [(0, .ref 3), (1, .retAddr 3)] [] σ0 := c_71gx 1 6 (by decide) (by decide) (by decide) (by decide) (by decide) σ0 hσ0 hC
/-- DoorSchool$Reader.stands(Ljava/lang/String;)Z -/
abbrev P_71s2x (σ0 : SG) (By : Int → Int) (Nb : Int) (Sp : PS) : PO := fun v σ => WT σ ∧ Fr [] σ0 σ ∧ ∃ ret : Int32, v = some (Value.int ret) ∧ -ret.toInt ≤ 0 ∧ ret.toInt - 1 ≤ 0 ∧ Imp (Sp.1 = 0) (ret.toInt = iW By Nb 2 Sp)
set_option maxRecDepth 10000 in
set_option maxHeartbeats 4000000 in
theorem c_71s2x {By : Int → Int} {Nb : Int} {Sp : PS} (σ0 : SG) (hσ0 : WT σ0) (hC : CT By Nb σ0 Sp) : En 4 90 none mr_71 (P_71s2x σ0 By Nb Sp) 0 [(0, .ref 3), (1, .retAddr 5)] [] σ0 := c_71gx 2 4 (by decide) (by decide) (by decide) (by decide) (by decide) σ0 hσ0 hC
/-- DoorSchool$Reader.stands(Ljava/lang/String;)Z -/
abbrev P_71s3x (σ0 : SG) (By : Int → Int) (Nb : Int) (Sp : PS) : PO := fun v σ => WT σ ∧ Fr [] σ0 σ ∧ ∃ ret : Int32, v = some (Value.int ret) ∧ -ret.toInt ≤ 0 ∧ ret.toInt - 1 ≤ 0 ∧ Imp (Sp.1 = 0) (ret.toInt = iW By Nb 3 Sp)
set_option maxRecDepth 10000 in
set_option maxHeartbeats 4000000 in
theorem c_71s3x {By : Int → Int} {Nb : Int} {Sp : PS} (σ0 : SG) (hσ0 : WT σ0) (hC : CT By Nb σ0 Sp) : En 4 90 none mr_71 (P_71s3x σ0 By Nb Sp) 0 [(0, .ref 3), (1, .retAddr 7)] [] σ0 := c_71gx 3 4 (by decide) (by decide) (by decide) (by decide) (by decide) σ0 hσ0 hC
/-- DoorSchool$Reader.stands(Ljava/lang/String;)Z -/
abbrev P_71s4x (σ0 : SG) (By : Int → Int) (Nb : Int) (Sp : PS) : PO := fun v σ => WT σ ∧ Fr [] σ0 σ ∧ ∃ ret : Int32, v = some (Value.int ret) ∧ -ret.toInt ≤ 0 ∧ ret.toInt - 1 ≤ 0 ∧ Imp (Sp.1 = 0) (ret.toInt = iW By Nb 4 Sp)
set_option maxRecDepth 10000 in
set_option maxHeartbeats 4000000 in
theorem c_71s4x {By : Int → Int} {Nb : Int} {Sp : PS} (σ0 : SG) (hσ0 : WT σ0) (hC : CT By Nb σ0 Sp) : En 4 90 none mr_71 (P_71s4x σ0 By Nb Sp) 0 [(0, .ref 3), (1, .retAddr 9)] [] σ0 := c_71gx 4 5 (by decide) (by decide) (by decide) (by decide) (by decide) σ0 hσ0 hC
/-- DoorSchool$Reader.stands(Ljava/lang/String;)Z -/
abbrev P_71s5x (σ0 : SG) (By : Int → Int) (Nb : Int) (Sp : PS) : PO := fun v σ => WT σ ∧ Fr [] σ0 σ ∧ ∃ ret : Int32, v = some (Value.int ret) ∧ -ret.toInt ≤ 0 ∧ ret.toInt - 1 ≤ 0 ∧ Imp (Sp.1 = 0) (ret.toInt = iW By Nb 5 Sp)
set_option maxRecDepth 10000 in
set_option maxHeartbeats 4000000 in
theorem c_71s5x {By : Int → Int} {Nb : Int} {Sp : PS} (σ0 : SG) (hσ0 : WT σ0) (hC : CT By Nb σ0 Sp) : En 4 90 none mr_71 (P_71s5x σ0 By Nb Sp) 0 [(0, .ref 3), (1, .retAddr 11)] [] σ0 := c_71gx 5 5 (by decide) (by decide) (by decide) (by decide) (by decide) σ0 hσ0 hC
/-- DoorSchool$Reader.stands(Ljava/lang/String;)Z -/
abbrev P_71s6x (σ0 : SG) (By : Int → Int) (Nb : Int) (Sp : PS) : PO := fun v σ => WT σ ∧ Fr [] σ0 σ ∧ ∃ ret : Int32, v = some (Value.int ret) ∧ -ret.toInt ≤ 0 ∧ ret.toInt - 1 ≤ 0 ∧ Imp (Sp.1 = 0) (ret.toInt = iW By Nb 6 Sp)
set_option maxRecDepth 10000 in
set_option maxHeartbeats 4000000 in
theorem c_71s6x {By : Int → Int} {Nb : Int} {Sp : PS} (σ0 : SG) (hσ0 : WT σ0) (hC : CT By Nb σ0 Sp) : En 4 90 none mr_71 (P_71s6x σ0 By Nb Sp) 0 [(0, .ref 3), (1, .retAddr 13)] [] σ0 := c_71gx 6 6 (by decide) (by decide) (by decide) (by decide) (by decide) σ0 hσ0 hC
/-- DoorSchool$Reader.stands(Ljava/lang/String;)Z -/
abbrev P_71s7x (σ0 : SG) (By : Int → Int) (Nb : Int) (Sp : PS) : PO := fun v σ => WT σ ∧ Fr [] σ0 σ ∧ ∃ ret : Int32, v = some (Value.int ret) ∧ -ret.toInt ≤ 0 ∧ ret.toInt - 1 ≤ 0 ∧ Imp (Sp.1 = 0) (ret.toInt = iW By Nb 7 Sp)
set_option maxRecDepth 10000 in
set_option maxHeartbeats 4000000 in
theorem c_71s7x {By : Int → Int} {Nb : Int} {Sp : PS} (σ0 : SG) (hσ0 : WT σ0) (hC : CT By Nb σ0 Sp) : En 4 90 none mr_71 (P_71s7x σ0 By Nb Sp) 0 [(0, .ref 3), (1, .retAddr 15)] [] σ0 := c_71gx 7 7 (by decide) (by decide) (by decide) (by decide) (by decide) σ0 hσ0 hC
/-- DoorSchool$Reader.stands(Ljava/lang/String;)Z -/
abbrev P_71s8x (σ0 : SG) (By : Int → Int) (Nb : Int) (Sp : PS) : PO := fun v σ => WT σ ∧ Fr [] σ0 σ ∧ ∃ ret : Int32, v = some (Value.int ret) ∧ -ret.toInt ≤ 0 ∧ ret.toInt - 1 ≤ 0 ∧ Imp (Sp.1 = 0) (ret.toInt = iW By Nb 8 Sp)
set_option maxRecDepth 10000 in
set_option maxHeartbeats 4000000 in
theorem c_71s8x {By : Int → Int} {Nb : Int} {Sp : PS} (σ0 : SG) (hσ0 : WT σ0) (hC : CT By Nb σ0 Sp) : En 4 90 none mr_71 (P_71s8x σ0 By Nb Sp) 0 [(0, .ref 3), (1, .retAddr 17)] [] σ0 := c_71gx 8 4 (by decide) (by decide) (by decide) (by decide) (by decide) σ0 hσ0 hC
/-- DoorSchool$Reader.stands(Ljava/lang/String;)Z -/
abbrev P_71s9x (σ0 : SG) (By : Int → Int) (Nb : Int) (Sp : PS) : PO := fun v σ => WT σ ∧ Fr [] σ0 σ ∧ ∃ ret : Int32, v = some (Value.int ret) ∧ -ret.toInt ≤ 0 ∧ ret.toInt - 1 ≤ 0 ∧ Imp (Sp.1 = 0) (ret.toInt = iW By Nb 9 Sp)
set_option maxRecDepth 10000 in
set_option maxHeartbeats 4000000 in
theorem c_71s9x {By : Int → Int} {Nb : Int} {Sp : PS} (σ0 : SG) (hσ0 : WT σ0) (hC : CT By Nb σ0 Sp) : En 4 90 none mr_71 (P_71s9x σ0 By Nb Sp) 0 [(0, .ref 3), (1, .retAddr 19)] [] σ0 := c_71gx 9 5 (by decide) (by decide) (by decide) (by decide) (by decide) σ0 hσ0 hC
/-- DoorSchool$Reader.stands(Ljava/lang/String;)Z -/
abbrev P_71s10x (σ0 : SG) (By : Int → Int) (Nb : Int) (Sp : PS) : PO := fun v σ => WT σ ∧ Fr [] σ0 σ ∧ ∃ ret : Int32, v = some (Value.int ret) ∧ -ret.toInt ≤ 0 ∧ ret.toInt - 1 ≤ 0 ∧ Imp (Sp.1 = 0) (ret.toInt = iW By Nb 10 Sp)
set_option maxRecDepth 10000 in
set_option maxHeartbeats 4000000 in
theorem c_71s10x {By : Int → Int} {Nb : Int} {Sp : PS} (σ0 : SG) (hσ0 : WT σ0) (hC : CT By Nb σ0 Sp) : En 4 90 none mr_71 (P_71s10x σ0 By Nb Sp) 0 [(0, .ref 3), (1, .retAddr 21)] [] σ0 := c_71gx 10 6 (by decide) (by decide) (by decide) (by decide) (by decide) σ0 hσ0 hC
/-- DoorSchool$Reader.stands(Ljava/lang/String;)Z -/
abbrev P_71s11x (σ0 : SG) (By : Int → Int) (Nb : Int) (Sp : PS) : PO := fun v σ => WT σ ∧ Fr [] σ0 σ ∧ ∃ ret : Int32, v = some (Value.int ret) ∧ -ret.toInt ≤ 0 ∧ ret.toInt - 1 ≤ 0 ∧ Imp (Sp.1 = 0) (ret.toInt = iW By Nb 11 Sp)
set_option maxRecDepth 10000 in
set_option maxHeartbeats 4000000 in
theorem c_71s11x {By : Int → Int} {Nb : Int} {Sp : PS} (σ0 : SG) (hσ0 : WT σ0) (hC : CT By Nb σ0 Sp) : En 4 90 none mr_71 (P_71s11x σ0 By Nb Sp) 0 [(0, .ref 3), (1, .retAddr 23)] [] σ0 := c_71gx 11 8 (by decide) (by decide) (by decide) (by decide) (by decide) σ0 hσ0 hC
/-- DoorSchool$Reader.stands(Ljava/lang/String;)Z -/
abbrev P_71s12x (σ0 : SG) (By : Int → Int) (Nb : Int) (Sp : PS) : PO := fun v σ => WT σ ∧ Fr [] σ0 σ ∧ ∃ ret : Int32, v = some (Value.int ret) ∧ -ret.toInt ≤ 0 ∧ ret.toInt - 1 ≤ 0 ∧ Imp (Sp.1 = 0) (ret.toInt = iW By Nb 12 Sp)
set_option maxRecDepth 10000 in
set_option maxHeartbeats 4000000 in
theorem c_71s12x {By : Int → Int} {Nb : Int} {Sp : PS} (σ0 : SG) (hσ0 : WT σ0) (hC : CT By Nb σ0 Sp) : En 4 90 none mr_71 (P_71s12x σ0 By Nb Sp) 0 [(0, .ref 3), (1, .retAddr 25)] [] σ0 := c_71gx 12 4 (by decide) (by decide) (by decide) (by decide) (by decide) σ0 hσ0 hC
/-- DoorSchool$Reader.stands(Ljava/lang/String;)Z -/
abbrev P_71s13x (σ0 : SG) (By : Int → Int) (Nb : Int) (Sp : PS) : PO := fun v σ => WT σ ∧ Fr [] σ0 σ ∧ ∃ ret : Int32, v = some (Value.int ret) ∧ -ret.toInt ≤ 0 ∧ ret.toInt - 1 ≤ 0 ∧ Imp (Sp.1 = 0) (ret.toInt = iW By Nb 13 Sp)
set_option maxRecDepth 10000 in
set_option maxHeartbeats 4000000 in
theorem c_71s13x {By : Int → Int} {Nb : Int} {Sp : PS} (σ0 : SG) (hσ0 : WT σ0) (hC : CT By Nb σ0 Sp) : En 4 90 none mr_71 (P_71s13x σ0 By Nb Sp) 0 [(0, .ref 3), (1, .retAddr 27)] [] σ0 := c_71gx 13 5 (by decide) (by decide) (by decide) (by decide) (by decide) σ0 hσ0 hC
/-- DoorSchool$Reader.stands(Ljava/lang/String;)Z -/
abbrev P_71s14x (σ0 : SG) (By : Int → Int) (Nb : Int) (Sp : PS) : PO := fun v σ => WT σ ∧ Fr [] σ0 σ ∧ ∃ ret : Int32, v = some (Value.int ret) ∧ -ret.toInt ≤ 0 ∧ ret.toInt - 1 ≤ 0 ∧ Imp (Sp.1 = 0) (ret.toInt = iW By Nb 14 Sp)
set_option maxRecDepth 10000 in
set_option maxHeartbeats 4000000 in
theorem c_71s14x {By : Int → Int} {Nb : Int} {Sp : PS} (σ0 : SG) (hσ0 : WT σ0) (hC : CT By Nb σ0 Sp) : En 4 90 none mr_71 (P_71s14x σ0 By Nb Sp) 0 [(0, .ref 3), (1, .retAddr 29)] [] σ0 := c_71gx 14 5 (by decide) (by decide) (by decide) (by decide) (by decide) σ0 hσ0 hC
/-- DoorSchool$Reader.stands(Ljava/lang/String;)Z -/
abbrev P_71s15x (σ0 : SG) (By : Int → Int) (Nb : Int) (Sp : PS) : PO := fun v σ => WT σ ∧ Fr [] σ0 σ ∧ ∃ ret : Int32, v = some (Value.int ret) ∧ -ret.toInt ≤ 0 ∧ ret.toInt - 1 ≤ 0 ∧ Imp (Sp.1 = 0) (ret.toInt = iW By Nb 15 Sp)
set_option maxRecDepth 10000 in
set_option maxHeartbeats 4000000 in
theorem c_71s15x {By : Int → Int} {Nb : Int} {Sp : PS} (σ0 : SG) (hσ0 : WT σ0) (hC : CT By Nb σ0 Sp) : En 4 90 none mr_71 (P_71s15x σ0 By Nb Sp) 0 [(0, .ref 3), (1, .retAddr 31)] [] σ0 := c_71gx 15 5 (by decide) (by decide) (by decide) (by decide) (by decide) σ0 hσ0 hC
/-- DoorSchool$Reader.stands(Ljava/lang/String;)Z -/
abbrev P_71s16x (σ0 : SG) (By : Int → Int) (Nb : Int) (Sp : PS) : PO := fun v σ => WT σ ∧ Fr [] σ0 σ ∧ ∃ ret : Int32, v = some (Value.int ret) ∧ -ret.toInt ≤ 0 ∧ ret.toInt - 1 ≤ 0 ∧ Imp (Sp.1 = 0) (ret.toInt = iW By Nb 16 Sp)
set_option maxRecDepth 10000 in
set_option maxHeartbeats 4000000 in
theorem c_71s16x {By : Int → Int} {Nb : Int} {Sp : PS} (σ0 : SG) (hσ0 : WT σ0) (hC : CT By Nb σ0 Sp) : En 4 90 none mr_71 (P_71s16x σ0 By Nb Sp) 0 [(0, .ref 3), (1, .retAddr 33)] [] σ0 := c_71gx 16 8 (by decide) (by decide) (by decide) (by decide) (by decide) σ0 hσ0 hC
/-- DoorSchool$Reader.stands(Ljava/lang/String;)Z -/
abbrev P_71s17x (σ0 : SG) (By : Int → Int) (Nb : Int) (Sp : PS) : PO := fun v σ => WT σ ∧ Fr [] σ0 σ ∧ ∃ ret : Int32, v = some (Value.int ret) ∧ -ret.toInt ≤ 0 ∧ ret.toInt - 1 ≤ 0 ∧ Imp (Sp.1 = 0) (ret.toInt = iW By Nb 17 Sp)
set_option maxRecDepth 10000 in
set_option maxHeartbeats 4000000 in
theorem c_71s17x {By : Int → Int} {Nb : Int} {Sp : PS} (σ0 : SG) (hσ0 : WT σ0) (hC : CT By Nb σ0 Sp) : En 4 90 none mr_71 (P_71s17x σ0 By Nb Sp) 0 [(0, .ref 3), (1, .retAddr 35)] [] σ0 := c_71gx 17 4 (by decide) (by decide) (by decide) (by decide) (by decide) σ0 hσ0 hC
/-- DoorSchool$Reader.takeNumber(II)I -/
abbrev P_73x (σ0 : SG) (By : Int → Int) (Nb : Int) (Sp : PS) (a : Int32) (b : Int32) (f : Int32) : PO := fun v σ => WT σ ∧ Fr [(3, 1), (3, 2), (3, 3), (3, 4), (3, 5), (3, 6)] σ0 σ ∧ ∃ f1 : Int32, (σ 3)[5]? = some (Value.int f1) ∧ ∃ ret : Int32, v = some (Value.int ret) ∧ ret.toInt - 1000000 ≤ 0 ∧ -f1.toInt ≤ 0 ∧ f1.toInt - 3 ≤ 0 ∧ -f1.toInt + f.toInt ≤ 0 ∧ f.toInt - f1.toInt ≤ 0 ∧ Imp (f1.toInt ≤ 0) (a.toInt - ret.toInt ≤ 0 ∧ ret.toInt - b.toInt ≤ 0) ∧ Imp (-f1.toInt + 1 ≤ 0) (ret.toInt + 1 ≤ 0 ∧ -ret.toInt - 1 ≤ 0) ∧ Imp (-b.toInt - 1 ≤ 0) (ret.toInt - b.toInt ≤ 0) ∧ Imp (-a.toInt - 1 ≤ 0) (-ret.toInt - 1 ≤ 0) ∧ (CT By Nb σ (tN By Nb a.toInt b.toInt Sp) ∧ Imp ((tN By Nb a.toInt b.toInt Sp).1 = 0) (ret.toInt = tV By Nb Sp.2.2.1))
set_option maxRecDepth 10000 in
set_option maxHeartbeats 4000000 in
theorem c_73x {By : Int → Int} {Nb : Int} {Sp : PS} (σ0 : SG) (hσ0 : WT σ0) (a : Int32) (b : Int32) (f : Int32) (h_f : (σ0 3)[5]? = some (Value.int f)) (hC : CT By Nb σ0 Sp) : En 2 43 none mr_73 (P_73x σ0 By Nb Sp a b f) 0 [(0, .ref 3), (1, .int a), (2, .int b)] [] σ0 := by
  obtain ⟨hl_f, hu_f⟩ := WT_int hσ0 (g := 3) (by decide +kernel) (by decide +kernel) (l := 0) (u := 3) (by decide +kernel) h_f
  have hF0 : Fr [(3, 1), (3, 2), (3, 3), (3, 4), (3, 5), (3, 6)] σ0 σ0 := Fr_rfl
  have h1 := CT_k hC h_f
  refine En_Ps 3 (pc' := 3) (lv' := [(0, .ref 3), (1, .int a), (2, .int b)]) (st' := [.int b, .int a, .ref 3]) rfl ?_
  refine En_callV rfl rfl rfl rfl rfl rfl rfl rfl tgz_3 (by decide +kernel) rfl (c_58x σ0 hσ0 a b f h_f hC) (by decide) (by decide) (fun v3 σ4 h2 => ?_)
  obtain ⟨h5, h6, z8, h9, z10, rfl, h7⟩ := h2
  have h11 := h7.2.2.2.2.2.2.2.2.2
  have h12 := Fr_trans hF0 h6 (by decide +kernel)
  have h13 : nH By Nb a.toInt b.toInt Sp = nH By Nb (a.toInt) (b.toInt) Sp := nH_cg2 (fun zz => by (first | exact q_61ddd2b576 | omega)) (fun zz => by (first | exact q_61ddd2b576 | omega))
  obtain ⟨S14, h15⟩ : ∃ q : PS, q = nH By Nb (a.toInt) (b.toInt) Sp := ⟨_, rfl⟩
  have h16 : CT By Nb σ4 S14 := by rw [h15]; exact (CT_eq h11.1 h13)
  have h17 := CT_k h16 h9
  have h18 : Imp (S14.1 = 0) (z10.toInt = tV By Nb Sp.2.2.1) := fun z => Imp_m h11.2 (by rw [h13, ← h15]; exact z)
  have h19 : Imp (S14.1 = 0) (Sp.1 = 0 ∧ tK By Nb Sp.2.2.1 = 2 ∧ a.toInt ≤ tV By Nb Sp.2.2.1 ∧ tV By Nb Sp.2.2.1 ≤ b.toInt) := fun z => nH_gg (by rw [← h15]; exact z)
  have h20 : S14.2.2.2 = Sp.2.2.2 := by rw [h15]; exact nH_w
  refine En_Ps 2 (pc' := 8) (lv' := [(3, .int z10), (0, .ref 3), (1, .int a), (2, .int b)]) (st' := [.ref 3]) rfl ?_
  refine En_getK (j := 5) h9 rfl rfl rfl tgz_3 (by decide +kernel) ?_
  refine En_iNe _ rfl rfl (fun h21 => ?_) (fun h21 => ?_)
  · have h22 := Imp_m h7.2.2.2.2.2.2.1 (by first | exact q_e3350da514 h21 h7.2.1 | omega)
    refine En_Ps 1 (pc' := 19) (lv' := [(3, .int z10), (0, .ref 3), (1, .int a), (2, .int b)]) (st' := [.int z10]) rfl ?_
    exact En_ret (v := some (Value.int z10)) rfl rfl rfl ⟨h5, h12, z8, h9, z10, rfl, ⟨by first | exact q_bd5229abc9 h22.1 | omega, by first | exact q_bc42505ae9 h21 h7.2.1 | omega, by first | exact q_c733b715bf h7.2.2.1 | omega, by first | exact q_d22b102a8e h7.2.2.2.1 | omega, by first | exact q_83f4b1e050 h7.2.2.2.1 | omega, fun _ => by have := Imp_m h7.2.2.2.2.2.1 (by omega); have := Imp_m h7.2.2.2.2.2.2.2.1 (by (first | exact q_edd4ae9b14 this.2 h22.2 | omega)); omega, fun hh => by first | exact ⟨q_b60e76ae01 h22.1, q_98e1bded96 h22.2⟩ | omega, fun hh => by first | exact q_26f50f4f39 h22.1 hh | omega, fun hh => by first | exact q_98e1bded96 h22.2 | omega, (by have q0 : tN By Nb a.toInt b.toInt Sp = S14 := (by first | (subst h15; rfl) | (subst h15; unfold tN; exact adv_bad (by (first | exact q_f23c6e8e00 h21 h7.2.1 h17 | omega)))); rw [q0]; exact ⟨h16, fun zz => by (try have i0 := Imp_m h19 (by (first | exact q_d2dcd30e56 zz | omega))); (try have i1 := Imp_m h18 (by (first | exact q_d2dcd30e56 zz | omega))); (try have i2 := Imp_m h7.2.2.2.2.2.1 (by (first | exact q_d8d8e6600d h17 zz | omega))); (try have i3 := Imp_m h7.2.2.2.2.2.2.2.1 (by (first | exact q_edd4ae9b14 i2.2 h22.2 | omega))); (try have i4 := Imp_m h7.2.2.2.2.2.2.2.2.1 (by (first | exact q_530e47224a h21 h7.2.1 h17 zz | omega))); (first | exact q_b1495600e7 i1 | omega)⟩)⟩⟩
  · have h23 := Imp_m h7.2.2.2.2.2.1 (by first | exact q_c5d285f1b9 h21 | omega)
    refine En_Ps 1 (pc' := 15) (lv' := [(3, .int z10), (0, .ref 3), (1, .int a), (2, .int b)]) (st' := [.ref 3]) rfl ?_
    obtain ⟨z25, h24, h26, h27⟩ := WT_peekI h5 tgz_3 (by decide +kernel : FT 3 3 = (0, 0, 1600)) (by decide +kernel)
    refine En_callV rfl rfl rfl rfl rfl rfl rfl rfl tgz_3 (by decide +kernel) rfl (c_72x σ4 h5 z25 h24 h16.1 (CT_at h16 (by (first | exact q_ca23768860 h17 h21 | omega)) h24)) (by decide) (by decide) (fun v29 σ30 h28 => ?_)
    obtain ⟨h31, h32, rfl, h33⟩ := h28
    have h34 := h33
    have h35 := Fr_trans h12 h32 (by decide +kernel)
    obtain ⟨S36, h37⟩ : ∃ q : PS, q = adv By Nb S14 := ⟨_, rfl⟩
    have h38 : CT By Nb σ30 S36 := by rw [h37]; exact (CT_adv h16 (by (first | exact q_ca23768860 h17 h21 | omega)) h24 h32 (by decide +kernel) h34.2)
    have h39 := CT_k h38 ((h32 _ _ (inW tgz_3 (by decide +kernel))).trans h9)
    have h40 : S36.2.2.2 = S14.2.2.2 := by rw [h37]; exact adv_w
    have h41 : S36.1 = S14.1 := by rw [h37]; exact adv_1
    refine En_Ps 1 (pc' := 19) (lv' := [(3, .int z10), (0, .ref 3), (1, .int a), (2, .int b)]) (st' := [.int z10]) rfl ?_
    exact En_ret (v := some (Value.int z10)) rfl rfl rfl ⟨h31, h35, z8, ((h32 _ _ (inW tgz_3 (by decide +kernel))).trans h9), z10, rfl, ⟨by first | exact q_1c284fde89 h7.1 | omega, by first | exact q_a555021d16 h7.2.1 | omega, by first | exact q_bd3fa30443 h21 | omega, by first | exact q_d22b102a8e h7.2.2.2.1 | omega, by first | exact q_83f4b1e050 h7.2.2.2.1 | omega, fun hh => by first | exact ⟨q_f67127b06c h23.1, q_f67127b06c h23.2⟩ | omega, fun _ => by have := Imp_m h7.2.2.2.2.2.2.1 (by omega); have := Imp_m h7.2.2.2.2.2.2.2.1 (by (first | exact q_edd4ae9b14 h23.2 this.2 | omega)); omega, fun hh => by first | exact q_f67127b06c h23.2 | omega, fun hh => by first | exact q_edd4ae9b14 h23.1 hh | omega, (by have q0 : tN By Nb a.toInt b.toInt Sp = S36 := (by first | (subst h37; subst h15; rfl) | (subst h37; subst h15; unfold tN; exact adv_bad (by omega))); rw [q0]; exact ⟨h38, fun zz => by (try have i0 := Imp_m h19 (by (first | exact q_7ed2936742 h41 zz | omega))); (try have i1 := Imp_m h18 (by (first | exact q_7ed2936742 h41 zz | omega))); (try have i2 := Imp_m h7.2.2.2.2.2.2.1 (by omega)); (try have i3 := Imp_m h7.2.2.2.2.2.2.2.1 (by (first | exact q_edd4ae9b14 h23.2 i2.2 | omega))); (try have i4 := Imp_m h7.2.2.2.2.2.2.2.2.1 (by omega)); (first | exact q_b1495600e7 i1 | omega)⟩)⟩⟩
/-- DoorSchool$Reader.readFirst(LDoorSchool$Plan;)V -/
abbrev P_65x (σ0 : SG) (By : Int → Int) (Nb : Int) (Sp : PS) (a : Nat) (f : Int32) : PO := fun v σ => WT σ ∧ Fr [(3, 1), (3, 2), (3, 3), (3, 4), (3, 5), (3, 6), (18, 1), (18, 2)] σ0 σ ∧ ∃ f1 : Int32, (σ 3)[5]? = some (Value.int f1) ∧ ∃ sg1 : Int32, (σ a)[1]? = some (Value.int sg1) ∧ v = none ∧ OUT σ0 σ a ∧ -f1.toInt ≤ 0 ∧ f1.toInt - 3 ≤ 0 ∧ -f1.toInt + f.toInt ≤ 0 ∧ -sg1.toInt - 1 ≤ 0 ∧ sg1.toInt - 4 ≤ 0 ∧ f.toInt - f1.toInt ≤ 0 ∧ -sg1.toInt - f1.toInt ≤ 0 ∧ (OTH a σ0 σ ∧ CT By Nb σ (fFirst By Nb Sp) ∧ ((fFirst By Nb Sp).1 = 0 → KN σ a (fFirst By Nb Sp).2.2.2 (act (fFirst By Nb Sp).2.2.2)))
set_option maxRecDepth 10000 in
set_option maxHeartbeats 4000000 in
theorem c_65x {By : Int → Int} {Nb : Int} {Sp : PS} (σ0 : SG) (hσ0 : WT σ0) (a : Nat) (ha : TG a = 18) (f : Int32) (h_f : (σ0 3)[5]? = some (Value.int f)) (hC : CT By Nb σ0 Sp) (hg : Sp.1 = 0) (hP : PLA a) (hX : FXP σ0 a) (hK : KN σ0 a Sp.2.2.2 (act Sp.2.2.2)) : En 5 112 none mr_65 (P_65x σ0 By Nb Sp a f) 0 [(0, .ref 3), (1, .ref a)] [] σ0 := by
  obtain ⟨hl_f, hu_f⟩ := WT_int hσ0 (g := 3) (by decide +kernel) (by decide +kernel) (l := 0) (u := 3) (by decide +kernel) h_f
  have hF0 : Fr [(3, 1), (3, 2), (3, 3), (3, 4), (3, 5), (3, 6), (18, 1), (18, 2)] σ0 σ0 := Fr_rfl
  have h1 := CT_k hC h_f
  have h2 : Imp (Sp.1 = 0) (KN σ0 a Sp.2.2.2 (fun t => act Sp.2.2.2 t)) := fun _ => hK
  refine En_Ps 2 (pc' := 2) (lv' := [(0, .ref 3), (1, .ref a)]) (st' := [.ref 3, .ref 3]) rfl ?_
  refine En_ldcS (i := 10) rfl rfl rfl ?_
  refine En_callV rfl rfl rfl rfl rfl rfl rfl rfl tgz_3 (by decide +kernel) rfl (c_71s10x σ0 hσ0 hC) (by decide) (by decide) (fun v4 σ5 h3 => ?_)
  obtain ⟨h6, h7, z9, rfl, h8⟩ := h3
  have h10 := h8.2.2
  obtain rfl : σ0 = σ5 := Fr_nil h7
  have h11 := h10
  refine En_callV rfl rfl rfl rfl rfl rfl rfl rfl tgz_3 (by decide +kernel) rfl (c_59x σ0 hσ0 z9 (geI rfl (by first | exact q_ef1e8e38bf h8.1 | omega)) (leI rfl (by first | exact q_733c8bfbae h8.2.1 | omega)) f h_f hC) (by decide) (by decide) (fun v13 σ14 h12 => ?_)
  obtain ⟨h15, h16, z18, h19, rfl, h17⟩ := h12
  have h20 := h17.2.2.2.2.2.2
  have h21 := Fr_trans hF0 h16 (by decide +kernel)
  have h22 := OTH_fr (OTH_0 (a := a) (σ := σ0)) h16 (by decide +kernel)
  have h23 : pss By Nb z9.toInt Sp = pss By Nb (iW By Nb 10 Sp) Sp := pss_cg2 (fun zz => by (try have i0 := Imp_m h11 (by (first | exact q_d2dcd30e56 zz | omega))); (first | exact q_b1495600e7 i0 | omega))
  obtain ⟨S24, h25⟩ : ∃ q : PS, q = pss By Nb (iW By Nb 10 Sp) Sp := ⟨_, rfl⟩
  have h26 : CT By Nb σ14 S24 := by rw [h25]; exact (CT_eq h20 h23)
  have h27 := CT_k h26 h19
  have h28 : S24.2.2.2 = Sp.2.2.2 := by rw [h25]; exact pss_w
  have h29 : Imp (S24.1 = 0) (Sp.1 = 0) := fun z => (pss_g (by rw [h23, ← h25]; exact z)).1
  have h30 : Imp (S24.1 = 0) (z9.toInt = 1) := fun z => (pss_g (by rw [h23, ← h25]; exact z)).2.1
  have h31 : Imp (S24.1 = 0) (KN σ14 a Sp.2.2.2 (fun t => act Sp.2.2.2 t)) := fun zz => KN_fr hP (Imp_m h2 (by (try have i0 := Imp_m h30 (by (first | exact q_d2dcd30e56 zz | omega))); (try have i1 := Imp_m h29 (by (first | exact q_d2dcd30e56 zz | omega))); (try have i2 := Imp_m h11 (by (first | exact q_d2dcd30e56 i1 | omega))); (first | exact q_d2dcd30e56 i1 | omega))) h16 (by decide +kernel)
  have h32 : S24.2.2.2 = Sp.2.2.2 := h28.trans (rfl : Sp.2.2.2 = Sp.2.2.2)
  have o33 : OUT σ0 σ14 a := OUT_fr OUT_0 h16 (by decide +kernel)
  refine En_Ps 2 (pc' := 12) (lv' := [(0, .ref 3), (1, .ref a)]) (st' := [.ref 3, .ref 3]) rfl ?_
  refine En_ldcS (i := 13) rfl rfl rfl ?_
  refine En_callV rfl rfl rfl rfl rfl rfl rfl rfl tgz_3 (by decide +kernel) rfl (c_71s13x σ14 h15 h26) (by decide) (by decide) (fun v35 σ36 h34 => ?_)
  obtain ⟨h37, h38, z40, rfl, h39⟩ := h34
  have h41 := h39.2.2
  obtain rfl : σ14 = σ36 := Fr_nil h38
  have h42 := h41
  refine En_callV rfl rfl rfl rfl rfl rfl rfl rfl tgz_3 (by decide +kernel) rfl (c_59x σ14 h15 z40 (geI rfl (by first | exact q_ef1e8e38bf h39.1 | omega)) (leI rfl (by first | exact q_733c8bfbae h39.2.1 | omega)) z18 h19 h26) (by decide) (by decide) (fun v44 σ45 h43 => ?_)
  obtain ⟨h46, h47, z49, h50, rfl, h48⟩ := h43
  have h51 := h48.2.2.2.2.2.2
  have h52 := Fr_trans h21 h47 (by decide +kernel)
  have h53 := OTH_fr h22 h47 (by decide +kernel)
  have h54 : pss By Nb z40.toInt S24 = pss By Nb (iW By Nb 13 S24) S24 := pss_cg2 (fun zz => by (try have i0 := Imp_m h42 (by (first | exact q_d2dcd30e56 zz | omega))); (try have i1 := Imp_m h30 (by (first | exact q_d2dcd30e56 zz | omega))); (try have i2 := Imp_m h29 (by (first | exact q_d2dcd30e56 zz | omega))); (try have i3 := Imp_m h11 (by (first | exact q_d2dcd30e56 i2 | omega))); (try have i4 := Imp_m h17.2.2.2.1 (by (first | exact q_a439be255a i1 | omega))); (try have i5 := Imp_m h17.2.2.2.2.2.1 (by omega)); (first | exact q_b1495600e7 i0 | omega))
  obtain ⟨S55, h56⟩ : ∃ q : PS, q = pss By Nb (iW By Nb 13 S24) S24 := ⟨_, rfl⟩
  have h57 : CT By Nb σ45 S55 := by rw [h56]; exact (CT_eq h51 h54)
  have h58 := CT_k h57 h50
  have h59 : S55.2.2.2 = S24.2.2.2 := by rw [h56]; exact pss_w
  have h60 : Imp (S55.1 = 0) (S24.1 = 0) := fun z => (pss_g (by rw [h54, ← h56]; exact z)).1
  have h61 : Imp (S55.1 = 0) (z40.toInt = 1) := fun z => (pss_g (by rw [h54, ← h56]; exact z)).2.1
  have h62 : Imp (S55.1 = 0) (KN σ45 a Sp.2.2.2 (fun t => act Sp.2.2.2 t)) := fun zz => KN_fr hP (Imp_m h31 (by (try have i0 := Imp_m h61 (by (first | exact q_d2dcd30e56 zz | omega))); (try have i1 := Imp_m h60 (by (first | exact q_d2dcd30e56 zz | omega))); (try have i2 := Imp_m h42 (by (first | exact q_d2dcd30e56 i1 | omega))); (try have i3 := Imp_m h30 (by (first | exact q_d2dcd30e56 i1 | omega))); (try have i4 := Imp_m h29 (by (first | exact q_d2dcd30e56 i1 | omega))); (try have i5 := Imp_m h11 (by (first | exact q_d2dcd30e56 i4 | omega))); (try have i6 := Imp_m h17.2.2.2.1 (by (first | exact q_a439be255a i3 | omega))); (try have i7 := Imp_m h17.2.2.2.2.2.1 (by omega)); (first | exact q_d2dcd30e56 i1 | omega))) h47 (by decide +kernel)
  have h63 : S55.2.2.2 = Sp.2.2.2 := h59.trans h32
  have o64 : OUT σ0 σ45 a := OUT_fr o33 h47 (by decide +kernel)
  refine En_Ps 4 (pc' := 24) (lv' := [(0, .ref 3), (1, .ref a)]) (st' := [.int ((Int32.ofInt 4)), .int ((Int32.ofInt 2)), .ref 3, .ref a]) rfl ?_
  have := (by decide : ((Int32.ofInt 2)).toInt = 2)
  have := (by decide : ((Int32.ofInt 4)).toInt = 4)
  refine En_callV rfl rfl rfl rfl rfl rfl rfl rfl tgz_3 (by decide +kernel) rfl (c_73x σ45 h46 ((Int32.ofInt 2)) ((Int32.ofInt 4)) z49 h50 h57) (by decide) (by decide) (fun v66 σ67 h65 => ?_)
  obtain ⟨h68, h69, z71, h72, z73, rfl, h70⟩ := h65
  have h74 := h70.2.2.2.2.2.2.2.2.2
  have h75 := Fr_trans h52 h69 (by decide +kernel)
  have h76 := Imp_m h70.2.2.2.2.2.1
  have h77 := Imp_m h70.2.2.2.2.2.2.1
  have h78 := Imp_m h70.2.2.2.2.2.2.2.1
  have h79 := Imp_m h70.2.2.2.2.2.2.2.2.1
  have h80 := OTH_fr h53 h69 (by decide +kernel)
  have h81 : tN By Nb ((Int32.ofInt 2)).toInt ((Int32.ofInt 4)).toInt S55 = tN By Nb (2) (4) S55 := tN_cg2 (fun zz => by (first | exact q_bef0c64981 (by decide) | omega)) (fun zz => by (first | exact q_d0a5206d26 this | omega))
  obtain ⟨S82, h83⟩ : ∃ q : PS, q = tN By Nb (2) (4) S55 := ⟨_, rfl⟩
  have h84 : CT By Nb σ67 S82 := by rw [h83]; exact (CT_eq h74.1 h81)
  have h85 := CT_k h84 h72
  have h86 : Imp (S82.1 = 0) (z73.toInt = tV By Nb S55.2.2.1) := fun z => Imp_m h74.2 (by rw [h81, ← h83]; exact z)
  have h87 : Imp (S82.1 = 0) (S55.1 = 0 ∧ tK By Nb S55.2.2.1 = 2 ∧ 2 ≤ tV By Nb S55.2.2.1 ∧ tV By Nb S55.2.2.1 ≤ 4) := fun z => tN_gg (by rw [← h83]; exact z)
  have h88 : S82.2.2.2 = S55.2.2.2 := by rw [h83]; exact tN_w
  have h89 : Imp (S82.1 = 0) (KN σ67 a Sp.2.2.2 (fun t => act Sp.2.2.2 t)) := fun zz => KN_fr hP (Imp_m h62 (by (try have i0 := Imp_m h87 (by (first | exact q_d2dcd30e56 zz | omega))); (try have i1 := Imp_m h86 (by (first | exact q_d2dcd30e56 zz | omega))); (try have i2 := Imp_m h61 (by (first | exact q_d2dcd30e56 i0.1 | omega))); (try have i3 := Imp_m h60 (by (first | exact q_d2dcd30e56 i0.1 | omega))); (try have i4 := Imp_m h42 (by (first | exact q_d2dcd30e56 i3 | omega))); (try have i5 := Imp_m h30 (by (first | exact q_d2dcd30e56 i3 | omega))); (try have i6 := Imp_m h29 (by (first | exact q_d2dcd30e56 i3 | omega))); (try have i7 := Imp_m h11 (by (first | exact q_d2dcd30e56 i6 | omega))); (try have i8 := Imp_m h17.2.2.2.1 (by (first | exact q_a439be255a i5 | omega))); (try have i9 := Imp_m h17.2.2.2.2.2.1 (by omega)); (try have i10 := Imp_m h48.2.2.2.1 (by (first | exact q_a439be255a i2 | omega))); (try have i11 := Imp_m h48.2.2.2.2.2.1 (by (first | exact q_9240dd55cf i9 i3 h27 | omega))); (first | exact q_d2dcd30e56 i0.1 | omega))) h69 (by decide +kernel)
  have h90 : S82.2.2.2 = Sp.2.2.2 := h88.trans h63
  have o91 : OUT σ0 σ67 a := OUT_fr o64 h69 (by decide +kernel)
  have h92 := Imp_m h70.2.2.2.2.2.2.2.1 (by (first | exact q_e984b62faf this | omega))
  have h93 := Imp_m h70.2.2.2.2.2.2.2.2.1 (by (first | exact q_3eaee27298 (by decide) | omega))
  refine En_put (j := 1) rfl rfl rfl ha (by decide +kernel) rfl (vI (l := (-1)) (u := 4) (by decide +kernel) rfl (by first | exact q_ce01e7a6da h93 | omega) (by (first | exact q_9799a3bf7d h92 this | omega))) h68 h75 (by decide +kernel) (fun σ94 h95 h96 h97 h98 => ?_)
  have h99 := OTH_pt h80 h98
  obtain ⟨S100, h101⟩ : ∃ q : PS, q = wst S82 (0) ((tV By Nb S55.2.2.1)) := ⟨_, rfl⟩
  have h102 : CT By Nb σ94 S100 := by rw [h101]; exact CT_wst (CT_ne h84 h98 (by have := hP; unfold PLA at this; omega))
  have h103 : Imp (S100.1 = 0) (KN σ94 a (uPd Sp.2.2.2 (0) ((tV By Nb S55.2.2.1))) (fun t => (act Sp.2.2.2 t ∨ t = 0))) := fun zz => KN_st (Imp_m h89 (by rw [h101] at zz; exact zz)) h97 h98 (by (first | decide | omega)) (by (first | decide | omega)) (by rw [lcO_lt (by decide) (by decide), Nat.add_zero]) (by decide) (by have z2 : S82.1 = 0 := (by rw [h101] at zz; exact zz); (try have i0 := Imp_m h87 (by (first | exact q_d2dcd30e56 z2 | omega))); (try have i1 := Imp_m h86 (by (first | exact q_d2dcd30e56 z2 | omega))); (try have i2 := Imp_m h61 (by (first | exact q_d2dcd30e56 i0.1 | omega))); (try have i3 := Imp_m h60 (by (first | exact q_d2dcd30e56 i0.1 | omega))); (try have i4 := Imp_m h42 (by (first | exact q_d2dcd30e56 i3 | omega))); (try have i5 := Imp_m h30 (by (first | exact q_d2dcd30e56 i3 | omega))); (try have i6 := Imp_m h29 (by (first | exact q_d2dcd30e56 i3 | omega))); (try have i7 := Imp_m h11 (by (first | exact q_d2dcd30e56 i6 | omega))); (try have i8 := Imp_m h17.2.2.2.1 (by (first | exact q_a439be255a i5 | omega))); (try have i9 := Imp_m h17.2.2.2.2.2.1 (by omega)); (try have i10 := Imp_m h48.2.2.2.1 (by (first | exact q_a439be255a i2 | omega))); (try have i11 := Imp_m h48.2.2.2.2.2.1 (by (first | exact q_9240dd55cf i9 i3 h27 | omega))); (try have i12 := Imp_m h70.2.2.2.2.2.1 (by (first | exact q_3383951b80 h58 i11 i0.1 | omega))); (try have i13 := Imp_m h70.2.2.2.2.2.2.1 (by (first | exact q_c1d968cc7e h58 i11 i0.1 | omega))); (first | exact q_a8fb2024c1 i1 | omega))
  have h104 : S100.2.2.2 = (uPd Sp.2.2.2 (0) ((tV By Nb S55.2.2.1))) := by rw [h101]; show uPd S82.2.2.2 _ _ = _; rw [h90]
  have h105 : S100.1 = S82.1 := by rw [h101]; rfl
  have h106 := CT_k h102 ((h98 _ _ (Or.inr (by decide))).trans h72)
  have o107 : OUT σ0 σ94 a := OUT_st o91 h98 (by omega)
  refine En_Ps 2 (pc' := 32) (lv' := [(0, .ref 3), (1, .ref a)]) (st' := [.ref 3, .ref 3]) rfl ?_
  refine En_ldcS (i := 16) rfl rfl rfl ?_
  refine En_callV rfl rfl rfl rfl rfl rfl rfl rfl tgz_3 (by decide +kernel) rfl (c_71s16x σ94 h95 h102) (by decide) (by decide) (fun v109 σ110 h108 => ?_)
  obtain ⟨h111, h112, z114, rfl, h113⟩ := h108
  have h115 := h113.2.2
  obtain rfl : σ94 = σ110 := Fr_nil h112
  have h116 := h115
  refine En_callV rfl rfl rfl rfl rfl rfl rfl rfl tgz_3 (by decide +kernel) rfl (c_59x σ94 h95 z114 (geI rfl (by first | exact q_ef1e8e38bf h113.1 | omega)) (leI rfl (by first | exact q_733c8bfbae h113.2.1 | omega)) z71 ((h98 _ _ (Or.inr (by decide))).trans h72) h102) (by decide) (by decide) (fun v118 σ119 h117 => ?_)
  obtain ⟨h120, h121, z123, h124, rfl, h122⟩ := h117
  have h125 := h122.2.2.2.2.2.2
  have h126 := Fr_trans h96 h121 (by decide +kernel)
  have h127 := OTH_fr h99 h121 (by decide +kernel)
  have h128 : pss By Nb z114.toInt S100 = pss By Nb (iW By Nb 16 S100) S100 := pss_cg2 (fun zz => by (try have i0 := Imp_m h116 (by (first | exact q_d2dcd30e56 zz | omega))); (try have i1 := Imp_m h87 (by (first | exact q_23692e05a7 h85 h70.2.1 h105 zz | omega))); (try have i2 := Imp_m h86 (by (first | exact q_7ed2936742 h105 zz | omega))); (try have i3 := Imp_m h61 (by (first | exact q_d2dcd30e56 i1.1 | omega))); (try have i4 := Imp_m h60 (by (first | exact q_d2dcd30e56 i1.1 | omega))); (try have i5 := Imp_m h42 (by (first | exact q_d2dcd30e56 i4 | omega))); (try have i6 := Imp_m h30 (by (first | exact q_d2dcd30e56 i4 | omega))); (try have i7 := Imp_m h29 (by (first | exact q_d2dcd30e56 i4 | omega))); (try have i8 := Imp_m h11 (by (first | exact q_d2dcd30e56 i7 | omega))); (try have i9 := Imp_m h17.2.2.2.1 (by (first | exact q_a439be255a i6 | omega))); (try have i10 := Imp_m h17.2.2.2.2.2.1 (by omega)); (try have i11 := Imp_m h48.2.2.2.1 (by (first | exact q_a439be255a i3 | omega))); (try have i12 := Imp_m h48.2.2.2.2.2.1 (by (first | exact q_9240dd55cf i10 i4 h27 | omega))); (try have i13 := Imp_m h70.2.2.2.2.2.1 (by (first | exact q_3383951b80 h58 i12 i1.1 | omega))); (try have i14 := Imp_m h70.2.2.2.2.2.2.1 (by (first | exact q_98e69b0339 i10 h27 i4 | omega))); (first | exact q_b1495600e7 i0 | omega))
  obtain ⟨S129, h130⟩ : ∃ q : PS, q = pss By Nb (iW By Nb 16 S100) S100 := ⟨_, rfl⟩
  have h131 : CT By Nb σ119 S129 := by rw [h130]; exact (CT_eq h125 h128)
  have h132 := CT_k h131 h124
  have h133 : S129.2.2.2 = S100.2.2.2 := by rw [h130]; exact pss_w
  have h134 : Imp (S129.1 = 0) (S100.1 = 0) := fun z => (pss_g (by rw [h128, ← h130]; exact z)).1
  have h135 : Imp (S129.1 = 0) (z114.toInt = 1) := fun z => (pss_g (by rw [h128, ← h130]; exact z)).2.1
  have h136 : Imp (S129.1 = 0) (KN σ119 a (uPd Sp.2.2.2 (0) ((tV By Nb S55.2.2.1))) (fun t => (act Sp.2.2.2 t ∨ t = 0))) := fun zz => KN_fr hP (Imp_m h103 (by (try have i0 := Imp_m h135 (by (first | exact q_d2dcd30e56 zz | omega))); (try have i1 := Imp_m h134 (by (first | exact q_d2dcd30e56 zz | omega))); (try have i2 := Imp_m h116 (by (first | exact q_d2dcd30e56 i1 | omega))); (try have i3 := Imp_m h87 (by (first | exact q_23692e05a7 h85 h70.2.1 h105 i1 | omega))); (try have i4 := Imp_m h86 (by (first | exact q_7ed2936742 h105 i1 | omega))); (try have i5 := Imp_m h61 (by (first | exact q_d2dcd30e56 i3.1 | omega))); (try have i6 := Imp_m h60 (by (first | exact q_d2dcd30e56 i3.1 | omega))); (try have i7 := Imp_m h42 (by (first | exact q_d2dcd30e56 i6 | omega))); (try have i8 := Imp_m h30 (by (first | exact q_d2dcd30e56 i6 | omega))); (try have i9 := Imp_m h29 (by (first | exact q_d2dcd30e56 i6 | omega))); (try have i10 := Imp_m h11 (by (first | exact q_d2dcd30e56 i9 | omega))); (try have i11 := Imp_m h17.2.2.2.1 (by (first | exact q_a439be255a i8 | omega))); (try have i12 := Imp_m h17.2.2.2.2.2.1 (by omega)); (try have i13 := Imp_m h48.2.2.2.1 (by (first | exact q_a439be255a i5 | omega))); (try have i14 := Imp_m h48.2.2.2.2.2.1 (by (first | exact q_9240dd55cf i12 i6 h27 | omega))); (try have i15 := Imp_m h70.2.2.2.2.2.1 (by (first | exact q_3383951b80 h58 i14 i3.1 | omega))); (try have i16 := Imp_m h70.2.2.2.2.2.2.1 (by (first | exact q_6a39a9fc00 h70.2.2.2.1 i14 | omega))); (first | exact q_d2dcd30e56 i1 | omega))) h121 (by decide +kernel)
  have h137 : S129.2.2.2 = (uPd Sp.2.2.2 (0) ((tV By Nb S55.2.2.1))) := h133.trans h104
  have o138 : OUT σ0 σ119 a := OUT_fr o107 h121 (by decide +kernel)
  refine En_Ps 4 (pc' := 44) (lv' := [(0, .ref 3), (1, .ref a)]) (st' := [.int ((Int32.ofInt 3)), .int ((Int32.ofInt 1)), .ref 3, .ref a]) rfl ?_
  have := (by decide : ((Int32.ofInt 1)).toInt = 1)
  have := (by decide : ((Int32.ofInt 3)).toInt = 3)
  refine En_callV rfl rfl rfl rfl rfl rfl rfl rfl tgz_3 (by decide +kernel) rfl (c_73x σ119 h120 ((Int32.ofInt 1)) ((Int32.ofInt 3)) z123 h124 h131) (by decide) (by decide) (fun v140 σ141 h139 => ?_)
  obtain ⟨h142, h143, z145, h146, z147, rfl, h144⟩ := h139
  have h148 := h144.2.2.2.2.2.2.2.2.2
  have h149 := Fr_trans h126 h143 (by decide +kernel)
  have h150 := Imp_m h144.2.2.2.2.2.1
  have h151 := Imp_m h144.2.2.2.2.2.2.1
  have h152 := Imp_m h144.2.2.2.2.2.2.2.1
  have h153 := Imp_m h144.2.2.2.2.2.2.2.2.1
  have h154 := OTH_fr h127 h143 (by decide +kernel)
  have h155 : tN By Nb ((Int32.ofInt 1)).toInt ((Int32.ofInt 3)).toInt S129 = tN By Nb (1) (3) S129 := tN_cg2 (fun zz => by (first | exact q_0bfa10f27c (by decide) | omega)) (fun zz => by (first | exact q_5736040b52 this | omega))
  obtain ⟨S156, h157⟩ : ∃ q : PS, q = tN By Nb (1) (3) S129 := ⟨_, rfl⟩
  have h158 : CT By Nb σ141 S156 := by rw [h157]; exact (CT_eq h148.1 h155)
  have h159 := CT_k h158 h146
  have h160 : Imp (S156.1 = 0) (z147.toInt = tV By Nb S129.2.2.1) := fun z => Imp_m h148.2 (by rw [h155, ← h157]; exact z)
  have h161 : Imp (S156.1 = 0) (S129.1 = 0 ∧ tK By Nb S129.2.2.1 = 2 ∧ 1 ≤ tV By Nb S129.2.2.1 ∧ tV By Nb S129.2.2.1 ≤ 3) := fun z => tN_gg (by rw [← h157]; exact z)
  have h162 : S156.2.2.2 = S129.2.2.2 := by rw [h157]; exact tN_w
  have h163 : Imp (S156.1 = 0) (KN σ141 a (uPd Sp.2.2.2 (0) ((tV By Nb S55.2.2.1))) (fun t => (act Sp.2.2.2 t ∨ t = 0))) := fun zz => KN_fr hP (Imp_m h136 (by (try have i0 := Imp_m h161 (by (first | exact q_d2dcd30e56 zz | omega))); (try have i1 := Imp_m h160 (by (first | exact q_d2dcd30e56 zz | omega))); (try have i2 := Imp_m h135 (by (first | exact q_d2dcd30e56 i0.1 | omega))); (try have i3 := Imp_m h134 (by (first | exact q_d2dcd30e56 i0.1 | omega))); (try have i4 := Imp_m h116 (by (first | exact q_d2dcd30e56 i3 | omega))); (try have i5 := Imp_m h87 (by (first | exact q_7ed2936742 h105 i3 | omega))); (try have i6 := Imp_m h86 (by (first | exact q_7ed2936742 h105 i3 | omega))); (try have i7 := Imp_m h61 (by (first | exact q_d2dcd30e56 i5.1 | omega))); (try have i8 := Imp_m h60 (by (first | exact q_d2dcd30e56 i5.1 | omega))); (try have i9 := Imp_m h42 (by (first | exact q_d2dcd30e56 i8 | omega))); (try have i10 := Imp_m h30 (by (first | exact q_d2dcd30e56 i8 | omega))); (try have i11 := Imp_m h29 (by (first | exact q_d2dcd30e56 i8 | omega))); (try have i12 := Imp_m h11 (by (first | exact q_d2dcd30e56 i11 | omega))); (try have i13 := Imp_m h17.2.2.2.1 (by (first | exact q_a439be255a i10 | omega))); (try have i14 := Imp_m h17.2.2.2.2.2.1 (by omega)); (try have i15 := Imp_m h48.2.2.2.1 (by (first | exact q_a439be255a i7 | omega))); (try have i16 := Imp_m h48.2.2.2.2.2.1 (by (first | exact q_9240dd55cf i14 i8 h27 | omega))); (try have i17 := Imp_m h70.2.2.2.2.2.1 (by (first | exact q_6ba9b433f8 i14 h27 i8 | omega))); (try have i18 := Imp_m h70.2.2.2.2.2.2.1 (by (first | exact q_98e69b0339 i14 h27 i8 | omega))); (try have i19 := Imp_m h122.2.2.2.1 (by (first | exact q_a439be255a i2 | omega))); (try have i20 := Imp_m h122.2.2.2.2.2.1 (by (first | exact q_73733e0e6a h77 h70.2.2.2.1 i16 i17.1 (by decide) | omega))); (first | exact q_d2dcd30e56 i0.1 | omega))) h143 (by decide +kernel)
  have h164 : S156.2.2.2 = (uPd Sp.2.2.2 (0) ((tV By Nb S55.2.2.1))) := h162.trans h137
  have o165 : OUT σ0 σ141 a := OUT_fr o138 h143 (by decide +kernel)
  have h166 := Imp_m h144.2.2.2.2.2.2.2.1 (by (first | exact q_135985417e this | omega))
  have h167 := Imp_m h144.2.2.2.2.2.2.2.2.1 (by (first | exact q_4dd9459605 (by decide) | omega))
  refine En_put (j := 2) rfl rfl rfl ha (by decide +kernel) rfl (vI (l := (-1)) (u := 3) (by decide +kernel) rfl (by first | exact q_ce01e7a6da h167 | omega) (by (first | exact q_1dc19f2830 h166 this | omega))) h142 h149 (by decide +kernel) (fun σ168 h169 h170 h171 h172 => ?_)
  have h173 := OTH_pj h154 h172 (by decide)
  obtain ⟨S174, h175⟩ : ∃ q : PS, q = wst S156 (1) ((tV By Nb S129.2.2.1)) := ⟨_, rfl⟩
  have h176 : CT By Nb σ168 S174 := by rw [h175]; exact CT_wst (CT_ne h158 h172 (by have := hP; unfold PLA at this; omega))
  have h177 : Imp (S174.1 = 0) (KN σ168 a (uPd (uPd Sp.2.2.2 (0) ((tV By Nb S55.2.2.1))) (1) ((tV By Nb S129.2.2.1))) (fun t => ((act Sp.2.2.2 t ∨ t = 0) ∨ t = 1))) := fun zz => KN_st (Imp_m h163 (by rw [h175] at zz; exact zz)) h171 h172 (by (first | decide | omega)) (by (first | decide | omega)) (by rw [lcO_lt (by decide) (by decide), Nat.add_zero]) (by decide) (by have z2 : S156.1 = 0 := (by rw [h175] at zz; exact zz); (try have i0 := Imp_m h161 (by (first | exact q_d2dcd30e56 z2 | omega))); (try have i1 := Imp_m h160 (by (first | exact q_d2dcd30e56 z2 | omega))); (try have i2 := Imp_m h135 (by (first | exact q_d2dcd30e56 i0.1 | omega))); (try have i3 := Imp_m h134 (by (first | exact q_d2dcd30e56 i0.1 | omega))); (try have i4 := Imp_m h116 (by (first | exact q_d2dcd30e56 i3 | omega))); (try have i5 := Imp_m h87 (by (first | exact q_7ed2936742 h105 i3 | omega))); (try have i6 := Imp_m h86 (by (first | exact q_7ed2936742 h105 i3 | omega))); (try have i7 := Imp_m h61 (by (first | exact q_d2dcd30e56 i5.1 | omega))); (try have i8 := Imp_m h60 (by (first | exact q_d2dcd30e56 i5.1 | omega))); (try have i9 := Imp_m h42 (by (first | exact q_d2dcd30e56 i8 | omega))); (try have i10 := Imp_m h30 (by (first | exact q_d2dcd30e56 i8 | omega))); (try have i11 := Imp_m h29 (by (first | exact q_d2dcd30e56 i8 | omega))); (try have i12 := Imp_m h11 (by (first | exact q_d2dcd30e56 i11 | omega))); (try have i13 := Imp_m h17.2.2.2.1 (by (first | exact q_a439be255a i10 | omega))); (try have i14 := Imp_m h17.2.2.2.2.2.1 (by omega)); (try have i15 := Imp_m h48.2.2.2.1 (by (first | exact q_a439be255a i7 | omega))); (try have i16 := Imp_m h48.2.2.2.2.2.1 (by (first | exact q_9240dd55cf i14 i8 h27 | omega))); (try have i17 := Imp_m h70.2.2.2.2.2.1 (by (first | exact q_6ba9b433f8 i14 h27 i8 | omega))); (try have i18 := Imp_m h70.2.2.2.2.2.2.1 (by (first | exact q_98e69b0339 i14 h27 i8 | omega))); (try have i19 := Imp_m h122.2.2.2.1 (by (first | exact q_a439be255a i2 | omega))); (try have i20 := Imp_m h122.2.2.2.2.2.1 (by (first | exact q_73733e0e6a h77 h70.2.2.2.1 i16 i17.1 (by decide) | omega))); (try have i21 := Imp_m h144.2.2.2.2.2.1 (by (first | exact q_6ba9b433f8 i14 h27 i8 | omega))); (try have i22 := Imp_m h144.2.2.2.2.2.2.1 (by (first | exact q_c1d968cc7e h58 i16 i5.1 | omega))); (first | exact q_a8fb2024c1 i1 | omega))
  have h178 : S174.2.2.2 = (uPd (uPd Sp.2.2.2 (0) ((tV By Nb S55.2.2.1))) (1) ((tV By Nb S129.2.2.1))) := by rw [h175]; show uPd S156.2.2.2 _ _ = _; rw [h164]
  have h179 : S174.1 = S156.1 := by rw [h175]; rfl
  have h180 := CT_k h176 ((h172 _ _ (Or.inr (by decide))).trans h146)
  have o181 : OUT σ0 σ168 a := OUT_st o165 h172 (by omega)
  have h182 : fFirst By Nb Sp = S174 := by unfold fFirst; (try dsimp only); first | (rw [← h25, ← h56, ← h83, ← h101, ← h130, ← h157, ← h175]; first | done | rfl) | (rw [← h25, ← h56, ← h83, ← h101, ← h130, ← h157, ← h175]; rw [if_pos (by omega)]; first | done | rfl) | (rw [← h25, ← h56, ← h83, ← h101, ← h130, ← h157, ← h175]; rw [if_neg (by omega)]; first | done | rfl) | (rw [← h25, ← h56, ← h83, ← h101, ← h130, ← h157, ← h175]; rw [if_neg (by omega), if_pos (by omega)]; first | done | rfl) | (rw [← h25, ← h56, ← h83, ← h101, ← h130, ← h157, ← h175]; rw [if_neg (by omega), if_neg (by omega)]; first | done | rfl) | (rw [← h25, ← h56, ← h83, ← h101, ← h130, ← h157, ← h175]; rw [if_neg (by omega), if_neg (by omega), if_neg (by omega)]; first | done | rfl)
  exact En_ret (v := none) rfl rfl rfl ⟨h169, h170, z145, ((h172 _ _ (Or.inr (by decide))).trans h146), z73, ((h172 _ _ (Or.inr (by decide))).trans ((h143 _ _ (inW ha (by decide +kernel))).trans ((h121 _ _ (inW ha (by decide +kernel))).trans h97))), rfl, ⟨o181, by first | exact q_a555021d16 h144.2.1 | omega, by first | exact q_c733b715bf h144.2.2.1 | omega, by first | exact q_6e734f6d2e h17.2.2.1 h48.2.2.1 h70.2.2.2.1 h122.2.2.1 h144.2.2.2.1 | omega, by first | exact q_98e1bded96 h93 | omega, by (first | exact q_75573f13bf h92 (by decide) | omega), by first | exact q_cf30ef85c0 h17.2.2.1 h48.2.2.1 h70.2.2.2.1 h122.2.2.1 h144.2.2.2.1 | omega, by (first | exact q_235cbafc81 h144.2.1 h76 h77 (by decide) h151 h150 h93 (by decide) h144.2.2.2.1 h122.2.2.1 | omega), (by rw [h182]; exact ⟨h173, h176, fun zz => by rw [h178]; exact KN_sub (Imp_m h177 zz) (fun t t0 t1 y => Or.inl (Or.inl (act_low (by (first | decide | omega)) (act_low (by (first | decide | omega)) y))))⟩)⟩⟩
end
/-! 32.n03 -/
section
/-- DoorSchool$Reader.takeWay()I -/
abbrev P_75x (σ0 : SG) (By : Int → Int) (Nb : Int) (Sp : PS) (f : Int32) : PO := fun v σ => WT σ ∧ Fr [(3, 1), (3, 2), (3, 3), (3, 4), (3, 5), (3, 6)] σ0 σ ∧ ∃ f1 : Int32, (σ 3)[5]? = some (Value.int f1) ∧ ∃ ret : Int32, v = some (Value.int ret) ∧ -ret.toInt - 1 ≤ 0 ∧ ret.toInt - 2 ≤ 0 ∧ -f1.toInt ≤ 0 ∧ f1.toInt - 3 ≤ 0 ∧ -f1.toInt + f.toInt ≤ 0 ∧ f.toInt - f1.toInt ≤ 0 ∧ Imp (f1.toInt ≤ 0) (-ret.toInt ≤ 0) ∧ (CT By Nb σ (tW By Nb Sp) ∧ Imp ((tW By Nb Sp).1 = 0) (ret.toInt = wyV By Nb Sp))
set_option maxRecDepth 10000 in
set_option maxHeartbeats 4000000 in
theorem c_75x {By : Int → Int} {Nb : Int} {Sp : PS} (σ0 : SG) (hσ0 : WT σ0) (f : Int32) (h_f : (σ0 3)[5]? = some (Value.int f)) (hC : CT By Nb σ0 Sp) : En 5 112 none mr_75 (P_75x σ0 By Nb Sp f) 0 [(0, .ref 3)] [] σ0 := by
  obtain ⟨hl_f, hu_f⟩ := WT_int hσ0 (g := 3) (by decide +kernel) (by decide +kernel) (l := 0) (u := 3) (by decide +kernel) h_f
  have hF0 : Fr [(3, 1), (3, 2), (3, 3), (3, 4), (3, 5), (3, 6)] σ0 σ0 := Fr_rfl
  have h1 := CT_k hC h_f
  refine En_Ps 3 (pc' := 3) (lv' := [(1, .int ((Int32.ofInt (-1)))), (0, .ref 3)]) (st' := [.ref 3]) rfl ?_
  refine En_ldcS (i := 4) rfl rfl rfl ?_
  refine En_callV rfl rfl rfl rfl rfl rfl rfl rfl tgz_3 (by decide +kernel) rfl (c_71s4x σ0 hσ0 hC) (by decide) (by decide) (fun v3 σ4 h2 => ?_)
  obtain ⟨h5, h6, z8, rfl, h7⟩ := h2
  have h9 := h7.2.2
  obtain rfl : σ0 = σ4 := Fr_nil h6
  have h10 := h9
  refine En_iEq _ rfl rfl (fun h11 => ?_) (fun h11 => ?_)
  · refine En_Ps 1 (pc' := 17) (lv' := [(1, .int ((Int32.ofInt (-1)))), (0, .ref 3)]) (st' := [.ref 3]) rfl ?_
    refine En_ldcS (i := 11) rfl rfl rfl ?_
    refine En_callV rfl rfl rfl rfl rfl rfl rfl rfl tgz_3 (by decide +kernel) rfl (c_71s11x σ0 hσ0 hC) (by decide) (by decide) (fun v13 σ14 h12 => ?_)
    obtain ⟨h15, h16, z18, rfl, h17⟩ := h12
    have h19 := h17.2.2
    obtain rfl : σ0 = σ14 := Fr_nil h16
    have h20 := h19
    refine En_iEq _ rfl rfl (fun h21 => ?_) (fun h21 => ?_)
    · refine En_Ps 1 (pc' := 31) (lv' := [(1, .int ((Int32.ofInt (-1)))), (0, .ref 3)]) (st' := [.ref 3]) rfl ?_
      refine En_ldcS (i := 7) rfl rfl rfl ?_
      refine En_callV rfl rfl rfl rfl rfl rfl rfl rfl tgz_3 (by decide +kernel) rfl (c_71s7x σ0 hσ0 hC) (by decide) (by decide) (fun v23 σ24 h22 => ?_)
      obtain ⟨h25, h26, z28, rfl, h27⟩ := h22
      have h29 := h27.2.2
      obtain rfl : σ0 = σ24 := Fr_nil h26
      have h30 := h29
      refine En_iEq _ rfl rfl (fun h31 => ?_) (fun h31 => ?_)
      · refine En_Ps 3 (pc' := 44) (lv' := [(1, .int ((Int32.ofInt (-1)))), (0, .ref 3)]) (st' := [.int ((Int32.ofInt (-1))), .int ((Int32.ofInt (-1))), .ref 3]) rfl ?_
        refine En_icEq _ (by decide : (Int32.ofInt (-1)).toInt = -1) (by decide : (Int32.ofInt (-1)).toInt = -1) rfl (fun h32 => ?_) (fun hx => by first | exact (q_9e6e7ac5cc hx).elim | (exfalso; omega))
        refine En_Ps 1 (pc' := 52) (lv' := [(1, .int ((Int32.ofInt (-1)))), (0, .ref 3)]) (st' := [.int ((Int32.ofInt 0)), .ref 3]) rfl ?_
        have := (by decide : ((Int32.ofInt 0)).toInt = 0)
        refine En_callV rfl rfl rfl rfl rfl rfl rfl rfl tgz_3 (by decide +kernel) rfl (c_59x σ0 hσ0 ((Int32.ofInt 0)) (geI (by decide : (Int32.ofInt 0).toInt = 0) (by decide)) (leI (by decide : (Int32.ofInt 0).toInt = 0) (by decide)) f h_f hC) (by decide) (by decide) (fun v34 σ35 h33 => ?_)
        obtain ⟨h36, h37, z39, h40, rfl, h38⟩ := h33
        have h41 := h38.2.2.2.2.2.2
        have h42 := Fr_trans hF0 h37 (by decide +kernel)
        have h43 : pss By Nb ((Int32.ofInt 0)).toInt Sp = tW By Nb Sp := tWc (fun zz => by (try have i0 := Imp_m h30 (by (first | exact q_d2dcd30e56 zz | omega))); (try have i1 := Imp_m h20 (by (first | exact q_d2dcd30e56 zz | omega))); (try have i2 := Imp_m h10 (by (first | exact q_d2dcd30e56 zz | omega))); (first | exact q_b2d8212733 this i2 h11 i1 h21 i0 h31 | omega))
        obtain ⟨S44, h45⟩ : ∃ q : PS, q = tW By Nb Sp := ⟨_, rfl⟩
        have h46 : CT By Nb σ35 S44 := by rw [h45]; exact (CT_eq h41 h43)
        have h47 := CT_k h46 h40
        have h48 : S44.2.2.2 = Sp.2.2.2 := by rw [h45]; exact pss_w
        have h49 : Imp (S44.1 = 0) (Sp.1 = 0) := fun z => (pss_g (by rw [h43, ← h45]; exact z)).1
        have h50 : Imp (S44.1 = 0) (((Int32.ofInt 0)).toInt = 1) := fun z => (pss_g (by rw [h43, ← h45]; exact z)).2.1
        have h51 := Imp_m h38.2.2.2.2.2.1 (by (first | exact q_c5d285f1b9 this | omega))
        refine En_Ps 1 (pc' := 56) (lv' := [(1, .int ((Int32.ofInt (-1)))), (0, .ref 3)]) (st' := [.int ((Int32.ofInt (-1)))]) rfl ?_
        refine En_top (by decide : (Int32.ofInt (-1)).toInt = -1) (fun z52 h53 => ?_)
        exact En_ret (v := some (Value.int z52)) rfl rfl rfl ⟨h36, h42, z39, h40, z52, rfl, ⟨by first | exact q_6ba54b61e9 h53 | omega, by first | exact q_0409e03873 h53 | omega, by first | exact q_1a6ee862c1 h51 | omega, by first | exact q_c733b715bf h38.2.1 | omega, by first | exact q_d22b102a8e h38.2.2.1 | omega, by first | exact q_83f4b1e050 h38.2.2.1 | omega, fun _ => by omega, ⟨CT_eq h46 (by subst h45; rfl), fun zz => wyVc (by subst h45; (try have i0 := Imp_m h50 (by (first | exact q_d2dcd30e56 zz | omega))); (try have i1 := Imp_m h49 (by (first | exact q_2527cbf79f i0 this | omega))); (try have i2 := Imp_m h30 (by (first | exact q_d2dcd30e56 i1 | omega))); (try have i3 := Imp_m h20 (by (first | exact q_d2dcd30e56 i1 | omega))); (try have i4 := Imp_m h10 (by (first | exact q_d2dcd30e56 i1 | omega))); (try have i5 := Imp_m h38.2.2.2.1 (by (first | exact q_be837d02e0 i0 this | omega))); (first | exact q_5dca538a36 i0 this | omega))⟩⟩⟩
      · refine En_Ps 5 (pc' := 44) (lv' := [(1, .int ((Int32.ofInt 2))), (0, .ref 3)]) (st' := [.int ((Int32.ofInt (-1))), .int ((Int32.ofInt 2)), .ref 3]) rfl ?_
        refine En_icEq _ (by decide : (Int32.ofInt 2).toInt = 2) (by decide : (Int32.ofInt (-1)).toInt = -1) rfl (fun hx => by first | exact (q_66a4aabbf3 hx).elim | (exfalso; omega)) (fun h54 => ?_)
        refine En_Ps 2 (pc' := 52) (lv' := [(1, .int ((Int32.ofInt 2))), (0, .ref 3)]) (st' := [.int ((Int32.ofInt 1)), .ref 3]) rfl ?_
        have := (by decide : ((Int32.ofInt 1)).toInt = 1)
        refine En_callV rfl rfl rfl rfl rfl rfl rfl rfl tgz_3 (by decide +kernel) rfl (c_59x σ0 hσ0 ((Int32.ofInt 1)) (geI (by decide : (Int32.ofInt 1).toInt = 1) (by decide)) (leI (by decide : (Int32.ofInt 1).toInt = 1) (by decide)) f h_f hC) (by decide) (by decide) (fun v56 σ57 h55 => ?_)
        obtain ⟨h58, h59, z61, h62, rfl, h60⟩ := h55
        have h63 := h60.2.2.2.2.2.2
        have h64 := Fr_trans hF0 h59 (by decide +kernel)
        have h65 : pss By Nb ((Int32.ofInt 1)).toInt Sp = tW By Nb Sp := tWc (fun zz => by (try have i0 := Imp_m h30 (by (first | exact q_d2dcd30e56 zz | omega))); (try have i1 := Imp_m h20 (by (first | exact q_d2dcd30e56 zz | omega))); (try have i2 := Imp_m h10 (by (first | exact q_d2dcd30e56 zz | omega))); (first | exact q_f96bd5b438 this i0 h31 h27.1 h27.2.1 | omega))
        obtain ⟨S66, h67⟩ : ∃ q : PS, q = tW By Nb Sp := ⟨_, rfl⟩
        have h68 : CT By Nb σ57 S66 := by rw [h67]; exact (CT_eq h63 h65)
        have h69 := CT_k h68 h62
        have h70 : S66.2.2.2 = Sp.2.2.2 := by rw [h67]; exact pss_w
        have h71 : Imp (S66.1 = 0) (Sp.1 = 0) := fun z => (pss_g (by rw [h65, ← h67]; exact z)).1
        have h72 : Imp (S66.1 = 0) (((Int32.ofInt 1)).toInt = 1) := fun z => (pss_g (by rw [h65, ← h67]; exact z)).2.1
        have h73 := Imp_m h60.2.2.2.1 (by (first | exact q_a439be255a this | omega))
        refine En_Ps 1 (pc' := 56) (lv' := [(1, .int ((Int32.ofInt 2))), (0, .ref 3)]) (st' := [.int ((Int32.ofInt 2))]) rfl ?_
        refine En_top (by decide : (Int32.ofInt 2).toInt = 2) (fun z74 h75 => ?_)
        exact En_ret (v := some (Value.int z74)) rfl rfl rfl ⟨h58, h64, z61, h62, z74, rfl, ⟨by first | exact q_3eaee27298 h75 | omega, by first | exact q_e932286a6d h75 | omega, by first | exact q_a555021d16 h60.1 | omega, by first | exact q_c733b715bf h60.2.1 | omega, by first | exact q_d22b102a8e h60.2.2.1 | omega, by first | exact q_83f4b1e050 h60.2.2.1 | omega, fun hh => by first | exact q_1984c8b6d4 h75 | omega, ⟨CT_eq h68 (by subst h67; rfl), fun zz => wyVc (by subst h67; (try have i0 := Imp_m h72 (by (first | exact q_d2dcd30e56 zz | omega))); (try have i1 := Imp_m h71 (by (first | exact q_d2dcd30e56 zz | omega))); (try have i2 := Imp_m h30 (by (first | exact q_d2dcd30e56 i1 | omega))); (try have i3 := Imp_m h20 (by (first | exact q_d2dcd30e56 i1 | omega))); (try have i4 := Imp_m h10 (by (first | exact q_d2dcd30e56 i1 | omega))); (try have i5 := Imp_m h60.2.2.2.2.2.1 (by omega)); (first | exact q_24a54b91bf i4 h11 i3 h21 h75 | omega))⟩⟩⟩
    · refine En_Ps 6 (pc' := 44) (lv' := [(1, .int ((Int32.ofInt 1))), (0, .ref 3)]) (st' := [.int ((Int32.ofInt (-1))), .int ((Int32.ofInt 1)), .ref 3]) rfl ?_
      refine En_icEq _ (by decide : (Int32.ofInt 1).toInt = 1) (by decide : (Int32.ofInt (-1)).toInt = -1) rfl (fun hx => by first | exact (q_38251b0c5f hx).elim | (exfalso; omega)) (fun h76 => ?_)
      refine En_Ps 2 (pc' := 52) (lv' := [(1, .int ((Int32.ofInt 1))), (0, .ref 3)]) (st' := [.int ((Int32.ofInt 1)), .ref 3]) rfl ?_
      have := (by decide : ((Int32.ofInt 1)).toInt = 1)
      refine En_callV rfl rfl rfl rfl rfl rfl rfl rfl tgz_3 (by decide +kernel) rfl (c_59x σ0 hσ0 ((Int32.ofInt 1)) (geI (by decide : (Int32.ofInt 1).toInt = 1) (by decide)) (leI (by decide : (Int32.ofInt 1).toInt = 1) (by decide)) f h_f hC) (by decide) (by decide) (fun v78 σ79 h77 => ?_)
      obtain ⟨h80, h81, z83, h84, rfl, h82⟩ := h77
      have h85 := h82.2.2.2.2.2.2
      have h86 := Fr_trans hF0 h81 (by decide +kernel)
      have h87 : pss By Nb ((Int32.ofInt 1)).toInt Sp = tW By Nb Sp := tWc (fun zz => by (try have i0 := Imp_m h20 (by (first | exact q_d2dcd30e56 zz | omega))); (try have i1 := Imp_m h10 (by (first | exact q_d2dcd30e56 zz | omega))); (first | exact q_5ffdc1474e this i0 h21 h17.1 h17.2.1 | omega))
      obtain ⟨S88, h89⟩ : ∃ q : PS, q = tW By Nb Sp := ⟨_, rfl⟩
      have h90 : CT By Nb σ79 S88 := by rw [h89]; exact (CT_eq h85 h87)
      have h91 := CT_k h90 h84
      have h92 : S88.2.2.2 = Sp.2.2.2 := by rw [h89]; exact pss_w
      have h93 : Imp (S88.1 = 0) (Sp.1 = 0) := fun z => (pss_g (by rw [h87, ← h89]; exact z)).1
      have h94 : Imp (S88.1 = 0) (((Int32.ofInt 1)).toInt = 1) := fun z => (pss_g (by rw [h87, ← h89]; exact z)).2.1
      have h95 := Imp_m h82.2.2.2.1 (by (first | exact q_a439be255a this | omega))
      refine En_Ps 1 (pc' := 56) (lv' := [(1, .int ((Int32.ofInt 1))), (0, .ref 3)]) (st' := [.int ((Int32.ofInt 1))]) rfl ?_
      refine En_top (by decide : (Int32.ofInt 1).toInt = 1) (fun z96 h97 => ?_)
      exact En_ret (v := some (Value.int z96)) rfl rfl rfl ⟨h80, h86, z83, h84, z96, rfl, ⟨by first | exact q_4dd9459605 h97 | omega, by first | exact q_a726a5ea71 h97 | omega, by first | exact q_a555021d16 h82.1 | omega, by first | exact q_c733b715bf h82.2.1 | omega, by first | exact q_d22b102a8e h82.2.2.1 | omega, by first | exact q_83f4b1e050 h82.2.2.1 | omega, fun hh => by first | exact q_ad3eee31ca h97 | omega, ⟨CT_eq h90 (by subst h89; rfl), fun zz => wyVc (by subst h89; (try have i0 := Imp_m h94 (by (first | exact q_d2dcd30e56 zz | omega))); (try have i1 := Imp_m h93 (by (first | exact q_d2dcd30e56 zz | omega))); (try have i2 := Imp_m h20 (by (first | exact q_d2dcd30e56 i1 | omega))); (try have i3 := Imp_m h10 (by (first | exact q_d2dcd30e56 i1 | omega))); (try have i4 := Imp_m h82.2.2.2.2.2.1 (by omega)); (first | exact q_c4ee64f454 i3 h11 i2 h21 h17.1 h17.2.1 h97 | omega))⟩⟩⟩
  · refine En_Ps 6 (pc' := 44) (lv' := [(1, .int ((Int32.ofInt 0))), (0, .ref 3)]) (st' := [.int ((Int32.ofInt (-1))), .int ((Int32.ofInt 0)), .ref 3]) rfl ?_
    refine En_icEq _ (by decide : (Int32.ofInt 0).toInt = 0) (by decide : (Int32.ofInt (-1)).toInt = -1) rfl (fun hx => by first | exact (q_29857eacf7 hx).elim | (exfalso; omega)) (fun h98 => ?_)
    refine En_Ps 2 (pc' := 52) (lv' := [(1, .int ((Int32.ofInt 0))), (0, .ref 3)]) (st' := [.int ((Int32.ofInt 1)), .ref 3]) rfl ?_
    have := (by decide : ((Int32.ofInt 1)).toInt = 1)
    refine En_callV rfl rfl rfl rfl rfl rfl rfl rfl tgz_3 (by decide +kernel) rfl (c_59x σ0 hσ0 ((Int32.ofInt 1)) (geI (by decide : (Int32.ofInt 1).toInt = 1) (by decide)) (leI (by decide : (Int32.ofInt 1).toInt = 1) (by decide)) f h_f hC) (by decide) (by decide) (fun v100 σ101 h99 => ?_)
    obtain ⟨h102, h103, z105, h106, rfl, h104⟩ := h99
    have h107 := h104.2.2.2.2.2.2
    have h108 := Fr_trans hF0 h103 (by decide +kernel)
    have h109 : pss By Nb ((Int32.ofInt 1)).toInt Sp = tW By Nb Sp := tWc (fun zz => by (try have i0 := Imp_m h10 (by (first | exact q_d2dcd30e56 zz | omega))); (first | exact q_2462d38059 this i0 h11 h7.1 h7.2.1 | omega))
    obtain ⟨S110, h111⟩ : ∃ q : PS, q = tW By Nb Sp := ⟨_, rfl⟩
    have h112 : CT By Nb σ101 S110 := by rw [h111]; exact (CT_eq h107 h109)
    have h113 := CT_k h112 h106
    have h114 : S110.2.2.2 = Sp.2.2.2 := by rw [h111]; exact pss_w
    have h115 : Imp (S110.1 = 0) (Sp.1 = 0) := fun z => (pss_g (by rw [h109, ← h111]; exact z)).1
    have h116 : Imp (S110.1 = 0) (((Int32.ofInt 1)).toInt = 1) := fun z => (pss_g (by rw [h109, ← h111]; exact z)).2.1
    have h117 := Imp_m h104.2.2.2.1 (by (first | exact q_a439be255a this | omega))
    refine En_Ps 1 (pc' := 56) (lv' := [(1, .int ((Int32.ofInt 0))), (0, .ref 3)]) (st' := [.int ((Int32.ofInt 0))]) rfl ?_
    refine En_top (by decide : (Int32.ofInt 0).toInt = 0) (fun z118 h119 => ?_)
    exact En_ret (v := some (Value.int z118)) rfl rfl rfl ⟨h102, h108, z105, h106, z118, rfl, ⟨by first | exact q_83da3d7e14 h119 | omega, by first | exact q_c4a7b98196 h119 | omega, by first | exact q_a555021d16 h104.1 | omega, by first | exact q_c733b715bf h104.2.1 | omega, by first | exact q_d22b102a8e h104.2.2.1 | omega, by first | exact q_83f4b1e050 h104.2.2.1 | omega, fun hh => by first | exact q_097a37c2ae h119 | omega, ⟨CT_eq h112 (by subst h111; rfl), fun zz => wyVc (by subst h111; (try have i0 := Imp_m h116 (by (first | exact q_d2dcd30e56 zz | omega))); (try have i1 := Imp_m h115 (by (first | exact q_d2dcd30e56 zz | omega))); (try have i2 := Imp_m h10 (by (first | exact q_d2dcd30e56 i1 | omega))); (try have i3 := Imp_m h104.2.2.2.2.2.1 (by omega)); (first | exact q_00507a37db i2 h11 h7.1 h7.2.1 h119 | omega))⟩⟩⟩
/-- DoorSchool$Reader.readDoor(LDoorSchool$Plan;)V -/
abbrev P_63x (σ0 : SG) (By : Int → Int) (Nb : Int) (Sp : PS) (a : Nat) (f : Int32) (sg : Int32) : PO := fun v σ => WT σ ∧ Fr [(3, 1), (3, 2), (3, 3), (3, 4), (3, 5), (3, 6), (18, 3), (20, 2), (28, 1), (28, 2), (28, 3)] σ0 σ ∧ ∃ f1 : Int32, (σ 3)[5]? = some (Value.int f1) ∧ v = none ∧ OUT σ0 σ a ∧ -f1.toInt ≤ 0 ∧ f1.toInt - 3 ≤ 0 ∧ -f1.toInt + f.toInt ≤ 0 ∧ f.toInt - f1.toInt ≤ 0 ∧ (CT By Nb σ (fDoor By Nb Sp) ∧ ((fDoor By Nb Sp).1 = 0 → KN σ a (fDoor By Nb Sp).2.2.2 (act (fDoor By Nb Sp).2.2.2)))
set_option maxRecDepth 10000 in
set_option maxHeartbeats 4000000 in
theorem c_63x {By : Int → Int} {Nb : Int} {Sp : PS} (σ0 : SG) (hσ0 : WT σ0) (a : Nat) (ha : TG a = 18) (f : Int32) (h_f : (σ0 3)[5]? = some (Value.int f)) (sg : Int32) (h_sg : (σ0 a)[1]? = some (Value.int sg)) (hp0 : -sg.toInt ≤ 0) (hC : CT By Nb σ0 Sp) (hg : Sp.1 = 0) (hP : PLA a) (hX : FXP σ0 a) (hK : KN σ0 a Sp.2.2.2 (act Sp.2.2.2)) : En 6 133 none mr_63 (P_63x σ0 By Nb Sp a f sg) 0 [(0, .ref 3), (1, .ref a)] [] σ0 := by
  obtain ⟨hl_f, hu_f⟩ := WT_int hσ0 (g := 3) (by decide +kernel) (by decide +kernel) (l := 0) (u := 3) (by decide +kernel) h_f
  obtain ⟨hl_sg, hu_sg⟩ := WT_int hσ0 (g := 18) ha (by decide +kernel) (l := (-1)) (u := 4) (by decide +kernel) h_sg
  have hF0 : Fr [(3, 1), (3, 2), (3, 3), (3, 4), (3, 5), (3, 6), (18, 3), (20, 2), (28, 1), (28, 2), (28, 3)] σ0 σ0 := Fr_rfl
  have h1 := CT_k hC h_f
  obtain ⟨z3, h2, h4, h5⟩ := WT_peekI hσ0 ha (by decide +kernel : FT 18 3 = (0, 0, 4)) (by decide +kernel)
  have h6 : Sp.2.2.2 2 = z3.toInt := KN_v hK (Or.inl (by decide)) (by decide) (by decide) (by rw [lcO_lt (by decide) (by decide), Nat.add_zero]) rfl h2
  refine En_Ps 1 (pc' := 1) (lv' := [(0, .ref 3), (1, .ref a)]) (st' := [.ref a]) rfl ?_
  refine En_getK (j := 3) h2 rfl rfl rfl ha (by decide +kernel) ?_
  refine En_Ps 1 (pc' := 5) (lv' := [(0, .ref 3), (1, .ref a)]) (st' := [.int ((Int32.ofInt 4)), .int z3]) rfl ?_
  refine En_icLt _ rfl (by decide : (Int32.ofInt 4).toInt = 4) rfl (fun h7 => ?_) (fun h7 => ?_)
  · refine En_Ps 1 (pc' := 15) (lv' := [(0, .ref 3), (1, .ref a)]) (st' := [.ref 3]) rfl ?_
    obtain ⟨z9, h8, h10, h11⟩ := WT_peekI hσ0 tgz_3 (by decide +kernel : FT 3 3 = (0, 0, 1600)) (by decide +kernel)
    refine En_callV rfl rfl rfl rfl rfl rfl rfl rfl tgz_3 (by decide +kernel) rfl (c_72x σ0 hσ0 z9 h8 hC.1 (CT_at hC (by (first | exact q_d2dcd30e56 hg | omega)) h8)) (by decide) (by decide) (fun v13 σ14 h12 => ?_)
    obtain ⟨h15, h16, rfl, h17⟩ := h12
    have h18 := h17
    have h19 := Fr_trans hF0 h16 (by decide +kernel)
    obtain ⟨S20, h21⟩ : ∃ q : PS, q = adv By Nb Sp := ⟨_, rfl⟩
    have h22 : CT By Nb σ14 S20 := by rw [h21]; exact (CT_adv hC (by (first | exact q_d2dcd30e56 hg | omega)) h8 h16 (by decide +kernel) h18.2)
    have h23 := CT_k h22 ((h16 _ _ (inW tgz_3 (by decide +kernel))).trans h_f)
    have h24 : S20.2.2.2 = Sp.2.2.2 := by rw [h21]; exact adv_w
    have h25 : S20.1 = Sp.1 := by rw [h21]; exact adv_1
    have h26 := KN_fr hP hK h16 (by decide +kernel)
    have h27 : S20.2.2.2 = Sp.2.2.2 := h24.trans (rfl : Sp.2.2.2 = Sp.2.2.2)
    have o28 : OUT σ0 σ14 a := OUT_fr OUT_0 h16 (by decide +kernel)
    refine En_Ps 1 (pc' := 19) (lv' := [(0, .ref 3), (1, .ref a)]) (st' := [.ref 3]) rfl ?_
    refine En_callV rfl rfl rfl rfl rfl rfl rfl rfl tgz_3 (by decide +kernel) rfl (c_75x σ14 h15 f ((h16 _ _ (inW tgz_3 (by decide +kernel))).trans h_f) h22) (by decide) (by decide) (fun v30 σ31 h29 => ?_)
    obtain ⟨h32, h33, z35, h36, z37, rfl, h34⟩ := h29
    have h38 := h34.2.2.2.2.2.2.2
    have h39 := Fr_trans h19 h33 (by decide +kernel)
    obtain ⟨S40, h41⟩ : ∃ q : PS, q = tW By Nb S20 := ⟨_, rfl⟩
    have h42 : CT By Nb σ31 S40 := by rw [h41]; exact h38.1
    have h43 := CT_k h42 h36
    have h44 : Imp (S40.1 = 0) (z37.toInt = wyV By Nb S20) := fun z => Imp_m h38.2 (by rw [← h41]; exact z)
    have h45 : Imp (S40.1 = 0) (S20.1 = 0) := fun z => tW_g (by rw [← h41]; exact z)
    have h46 : S40.2.2.2 = S20.2.2.2 := by rw [h41]; exact tW_w
    have h47 := KN_fr hP h26 h33 (by decide +kernel)
    have h48 : S40.2.2.2 = Sp.2.2.2 := h46.trans h27
    have o49 : OUT σ0 σ31 a := OUT_fr o28 h33 (by decide +kernel)
    refine En_Ps 3 (pc' := 25) (lv' := [(2, .int z37), (0, .ref 3), (1, .ref a)]) (st' := [.ref 3, .ref 3]) rfl ?_
    refine En_ldcS (i := 14) rfl rfl rfl ?_
    refine En_callV rfl rfl rfl rfl rfl rfl rfl rfl tgz_3 (by decide +kernel) rfl (c_71s14x σ31 h32 h42) (by decide) (by decide) (fun v51 σ52 h50 => ?_)
    obtain ⟨h53, h54, z56, rfl, h55⟩ := h50
    have h57 := h55.2.2
    obtain rfl : σ31 = σ52 := Fr_nil h54
    have h58 := h57
    refine En_callV rfl rfl rfl rfl rfl rfl rfl rfl tgz_3 (by decide +kernel) rfl (c_59x σ31 h32 z56 (geI rfl (by first | exact q_ef1e8e38bf h55.1 | omega)) (leI rfl (by first | exact q_733c8bfbae h55.2.1 | omega)) z35 h36 h42) (by decide) (by decide) (fun v60 σ61 h59 => ?_)
    obtain ⟨h62, h63, z65, h66, rfl, h64⟩ := h59
    have h67 := h64.2.2.2.2.2.2
    have h68 := Fr_trans h39 h63 (by decide +kernel)
    have h69 : pss By Nb z56.toInt S40 = pss By Nb (iW By Nb 14 S40) S40 := pss_cg2 (fun zz => by (try have i0 := Imp_m h58 (by (first | exact q_d2dcd30e56 zz | omega))); (try have i1 := Imp_m h45 (by (first | exact q_d2dcd30e56 zz | omega))); (try have i2 := Imp_m h44 (by (first | exact q_d2dcd30e56 zz | omega))); (try have i3 := Imp_m h34.2.2.2.2.2.2.1 (by (first | exact q_d8d8e6600d h43 zz | omega))); (first | exact q_b1495600e7 i0 | omega))
    obtain ⟨S70, h71⟩ : ∃ q : PS, q = pss By Nb (iW By Nb 14 S40) S40 := ⟨_, rfl⟩
    have h72 : CT By Nb σ61 S70 := by rw [h71]; exact (CT_eq h67 h69)
    have h73 := CT_k h72 h66
    have h74 : S70.2.2.2 = S40.2.2.2 := by rw [h71]; exact pss_w
    have h75 : Imp (S70.1 = 0) (S40.1 = 0) := fun z => (pss_g (by rw [h69, ← h71]; exact z)).1
    have h76 : Imp (S70.1 = 0) (z56.toInt = 1) := fun z => (pss_g (by rw [h69, ← h71]; exact z)).2.1
    have h77 := KN_fr hP h47 h63 (by decide +kernel)
    have h78 : S70.2.2.2 = Sp.2.2.2 := h74.trans h48
    have o79 : OUT σ0 σ61 a := OUT_fr o49 h63 (by decide +kernel)
    refine En_Ps 3 (pc' := 37) (lv' := [(2, .int z37), (0, .ref 3), (1, .ref a)]) (st' := [.int (((Int8.ofInt 50).toInt32)), .int ((Int32.ofInt 0)), .ref 3]) rfl ?_
    have := (by decide : ((Int32.ofInt 0)).toInt = 0)
    have := (by decide : (((Int8.ofInt 50).toInt32)).toInt = 50)
    refine En_callV rfl rfl rfl rfl rfl rfl rfl rfl tgz_3 (by decide +kernel) rfl (c_73x σ61 h62 ((Int32.ofInt 0)) (((Int8.ofInt 50).toInt32)) z65 h66 h72) (by decide) (by decide) (fun v81 σ82 h80 => ?_)
    obtain ⟨h83, h84, z86, h87, z88, rfl, h85⟩ := h80
    have h89 := h85.2.2.2.2.2.2.2.2.2
    have h90 := Fr_trans h68 h84 (by decide +kernel)
    have h91 : tN By Nb ((Int32.ofInt 0)).toInt (((Int8.ofInt 50).toInt32)).toInt S70 = tN By Nb (0) (50) S70 := tN_cg2 (fun zz => by (first | exact q_d2dcd30e56 (by decide) | omega)) (fun zz => by (first | exact q_cd3ef21b91 this | omega))
    obtain ⟨S92, h93⟩ : ∃ q : PS, q = tN By Nb (0) (50) S70 := ⟨_, rfl⟩
    have h94 : CT By Nb σ82 S92 := by rw [h93]; exact (CT_eq h89.1 h91)
    have h95 := CT_k h94 h87
    have h96 : Imp (S92.1 = 0) (z88.toInt = tV By Nb S70.2.2.1) := fun z => Imp_m h89.2 (by rw [h91, ← h93]; exact z)
    have h97 : Imp (S92.1 = 0) (S70.1 = 0 ∧ tK By Nb S70.2.2.1 = 2 ∧ 0 ≤ tV By Nb S70.2.2.1 ∧ tV By Nb S70.2.2.1 ≤ 50) := fun z => tN_gg (by rw [← h93]; exact z)
    have h98 : S92.2.2.2 = S70.2.2.2 := by rw [h93]; exact tN_w
    have h99 := KN_fr hP h77 h84 (by decide +kernel)
    have h100 : S92.2.2.2 = Sp.2.2.2 := h98.trans h78
    have o101 : OUT σ0 σ82 a := OUT_fr o79 h84 (by decide +kernel)
    have h102 := Imp_m h85.2.2.2.2.2.2.2.1 (by (first | exact q_7abe03e71a this | omega))
    have h103 := Imp_m h85.2.2.2.2.2.2.2.2.1 (by (first | exact q_83da3d7e14 (by decide) | omega))
    refine En_Ps 2 (pc' := 42) (lv' := [(3, .int z88), (2, .int z37), (0, .ref 3), (1, .ref a)]) (st' := [.ref 3]) rfl ?_
    refine En_getK (j := 5) h87 rfl rfl rfl tgz_3 (by decide +kernel) ?_
    refine En_iNe _ rfl rfl (fun h104 => ?_) (fun h104 => ?_)
    · have h105 := Imp_m h85.2.2.2.2.2.2.1 (by first | exact q_e3350da514 h104 h85.2.1 | omega)
      have h106 : fDoor By Nb Sp = S92 := by unfold fDoor; (try dsimp only); first | (rw [← h21, ← h41, ← h71, ← h93]; first | done | rfl) | (rw [← h21, ← h41, ← h71, ← h93]; rw [if_pos (by omega)]; first | done | rfl) | (rw [← h21, ← h41, ← h71, ← h93]; rw [if_neg (by (first | exact q_5d6df0d229 h6 h7 | omega))]; first | done | rfl) | (rw [← h21, ← h41, ← h71, ← h93]; rw [if_neg (by (first | exact q_5d6df0d229 h6 h7 | omega)), if_pos (by omega)]; first | done | rfl) | (rw [← h21, ← h41, ← h71, ← h93]; rw [if_neg (by (first | exact q_5d6df0d229 h6 h7 | omega)), if_neg (by (first | exact q_57b55acfde h104 h85.2.1 h95 | omega))]; first | done | rfl) | (rw [← h21, ← h41, ← h71, ← h93]; rw [if_neg (by omega), if_neg (by omega), if_neg (by omega)]; first | done | rfl)
      exact En_ret (v := none) rfl rfl rfl ⟨h83, h90, z86, h87, rfl, ⟨o101, by first | exact q_bc42505ae9 h104 h85.2.1 | omega, by first | exact q_c733b715bf h85.2.2.1 | omega, by first | exact q_06e02fd287 h34.2.2.2.2.1 h64.2.2.1 h85.2.2.2.1 | omega, by first | exact q_5ee31f9195 h34.2.2.2.2.1 h64.2.2.1 h85.2.2.2.1 | omega, (by rw [h106]; exact ⟨h94, fun z => absurd z (by (first | exact q_ae2d14d533 h104 h85.2.1 h95 z | omega))⟩)⟩⟩
    · have h107 := Imp_m h34.2.2.2.2.2.2.1 (by first | exact q_aa3c9d52ea h64.2.2.1 h85.2.2.2.1 h104 | omega)
      have h108 := Imp_m h85.2.2.2.2.2.1 (by first | exact q_c5d285f1b9 h104 | omega)
      try have h109 := Imp_m h97 (by (first | exact q_ca23768860 h95 h104 | omega))
      try have h110 := Imp_m h96 (by (first | exact q_ca23768860 h95 h104 | omega))
      try have h111 := Imp_m h76 (by (first | exact q_d2dcd30e56 h109.1 | omega))
      try have h112 := Imp_m h75 (by (first | exact q_d2dcd30e56 h109.1 | omega))
      try have h113 := Imp_m h58 (by (first | exact q_d2dcd30e56 h112 | omega))
      try have h114 := Imp_m h45 (by (first | exact q_d2dcd30e56 h112 | omega))
      try have h115 := Imp_m h44 (by (first | exact q_d2dcd30e56 h112 | omega))
      refine En_Ps 1 (pc' := 49) (lv' := [(3, .int z88), (2, .int z37), (0, .ref 3), (1, .ref a)]) (st' := [.ref a]) rfl ?_
      refine En_getR (j := 4) (g' := 19) (u := 0) rfl rfl rfl ha (by decide +kernel) h83 (by decide +kernel) (fun a117 h116 ha117 => ?_)
      refine En_Ps 1 (pc' := 53) (lv' := [(3, .int z88), (2, .int z37), (0, .ref 3), (1, .ref a)]) (st' := [.ref a, .ref a117]) rfl ?_
      refine En_getK (j := 3) ((h84 _ _ (inW ha (by decide +kernel))).trans ((h63 _ _ (inW ha (by decide +kernel))).trans ((h33 _ _ (inW ha (by decide +kernel))).trans ((h16 _ _ (inW ha (by decide +kernel))).trans h2)))) rfl rfl rfl ha (by decide +kernel) ?_
      refine En_aald (g' := 28) (u := 0) rfl rfl ha117 (by decide +kernel) h83 (by first | exact q_58e6e51dcc h4 | omega) (lnI (by decide +kernel : LN _ = 4) (by first | exact q_074a8b422d h7 | omega)) (FTsgl (by decide +kernel)) (fun a119 h118 ha119 => ?_)
      have h120 := DRc (d := z3.toInt) (FXP_fr hP hX h90 (by decide +kernel)) h116 h118 (by (first | exact q_58e6e51dcc h4 | omega)) (by (first | exact q_d7767d4ccc h7 | omega))
      have h121 := lc_d (d := z3.toInt) (by (first | exact q_58e6e51dcc h4 | omega)) (by (first | exact q_d7767d4ccc h7 | omega))
      obtain ⟨a124, h123, ha124⟩ := WT_peekR (g := 28) (j := 0) (g' := 20) (u := 0) h83 ha119 (by decide +kernel) (by decide +kernel)
      have h122 := DLc (d := z3.toInt) (FXP_fr hP hX h90 (by decide +kernel)) h120 h123 (by (first | exact q_58e6e51dcc h4 | omega)) (by (first | exact q_d7767d4ccc h7 | omega))
      refine En_Ps 2 (pc' := 59) (lv' := [(3, .int z88), (2, .int z37), (0, .ref 3), (1, .ref a)]) (st' := [.int z88, .int z37, .ref a119]) rfl ?_
      refine En_callV rfl rfl rfl rfl rfl rfl rfl rfl ha119 (by decide +kernel) rfl (c_12x σ82 h83 a119 ha119 z37 z88 (geI rfl (by first | exact q_ef1e8e38bf h107 | omega)) (leI rfl (by first | exact q_2b081929f3 h34.2.1 | omega)) (geI rfl (by (first | exact q_39e281d0cf h108.1 (by decide) | omega))) (leI rfl (by (first | exact q_c47543950c h108.2 this | omega))) a124 ha124 h123) (by decide) (by decide) (fun v126 σ127 h125 => ?_)
      obtain ⟨h128, h129, rfl, h130⟩ := h125
      have h131 := h130
      have h132 := Fr_trans h90 h129 (by decide +kernel)
      obtain ⟨S133, h134⟩ : ∃ q : PS, q = wst (wst (wst (wst S92 (10 + 4 * Sp.2.2.2 2) (wyV By Nb S20)) (10 + 4 * Sp.2.2.2 2 + 1) (tV By Nb S70.2.2.1)) (10 + 4 * Sp.2.2.2 2 + 2) 0) (10 + 4 * Sp.2.2.2 2 + 3) (-1) := ⟨_, rfl⟩
      have h135 : CT By Nb σ127 S133 := by rw [h134]; exact CT_wst (CT_wst (CT_wst (CT_wst (CT_fr h94 h129 (by decide +kernel)))))
      have h138 : z3.toInt = Sp.2.2.2 2 := by (first | exact q_a8fb2024c1 h6 | omega)
      have h136 : KN σ127 a (uPd (uPd (uPd (uPd Sp.2.2.2 (10 + 4 * Sp.2.2.2 2) (wyV By Nb S20)) (10 + 4 * Sp.2.2.2 2 + 1) (tV By Nb S70.2.2.1)) (10 + 4 * Sp.2.2.2 2 + 2) 0) (10 + 4 * Sp.2.2.2 2 + 3) (-1)) (fun t => ((((act Sp.2.2.2 t ∨ t = 10 + 4 * Sp.2.2.2 2) ∨ t = 10 + 4 * Sp.2.2.2 2 + 1) ∨ t = 10 + 4 * Sp.2.2.2 2 + 2) ∨ t = 10 + 4 * Sp.2.2.2 2 + 3)) := KN_w (KN_bgn (d := Sp.2.2.2 2) h99 h131 (by (first | exact q_5c99692a5e h138 h4 | omega)) (by (first | exact q_cf6c8ae1e9 h138 h7 | omega)) (by rw [← h138]; exact h120) (by rw [← h138]; exact h122)) (uPd4_cg (by (first | exact q_b1495600e7 h115 | omega)) (by (first | exact q_b1495600e7 h110 | omega)))
      have h137 : S133.2.2.2 = (uPd (uPd (uPd (uPd Sp.2.2.2 (10 + 4 * Sp.2.2.2 2) (wyV By Nb S20)) (10 + 4 * Sp.2.2.2 2 + 1) (tV By Nb S70.2.2.1)) (10 + 4 * Sp.2.2.2 2 + 2) 0) (10 + 4 * Sp.2.2.2 2 + 3) (-1)) := by rw [h134]; show uPd (uPd (uPd (uPd S92.2.2.2 _ _) _ _) _ _) _ _ = _; rw [h100]
      have h139 : S133.1 = S92.1 := by rw [h134]; rfl
      have o140 : OUT σ0 σ127 a := OUT_bgn o101 h131 (by omega) (by omega)
      refine En_Ps 2 (pc' := 64) (lv' := [(3, .int z88), (2, .int z37), (0, .ref 3), (1, .ref a)]) (st' := [.ref a, .ref a]) rfl ?_
      refine En_getK (j := 3) ((h129 _ _ (inW ha (by decide +kernel))).trans ((h84 _ _ (inW ha (by decide +kernel))).trans ((h63 _ _ (inW ha (by decide +kernel))).trans ((h33 _ _ (inW ha (by decide +kernel))).trans ((h16 _ _ (inW ha (by decide +kernel))).trans h2))))) rfl rfl rfl ha (by decide +kernel) ?_
      refine En_Ps 2 (pc' := 69) (lv' := [(3, .int z88), (2, .int z37), (0, .ref 3), (1, .ref a)]) (st' := [.int ((z3 + ((Int32.ofInt 1)))), .ref a]) rfl ?_
      refine En_top (addI rfl (by decide : (Int32.ofInt 1).toInt = 1) (by first | exact q_465ab79ac1 h4 | omega) (by first | exact q_d8bf7f475a h7 | omega)) (fun z141 h142 => ?_)
      refine En_put (j := 3) rfl rfl rfl ha (by decide +kernel) rfl (vI (l := 0) (u := 4) (by decide +kernel) rfl (by first | exact q_35104ce9d3 h142 h4 | omega) (by first | exact q_ddc5c16a68 h142 h7 | omega)) h128 h132 (by decide +kernel) (fun σ143 h144 h145 h146 h147 => ?_)
      obtain ⟨S148, h149⟩ : ∃ q : PS, q = wst S133 (2) (Sp.2.2.2 2 + 1) := ⟨_, rfl⟩
      have h150 : CT By Nb σ143 S148 := by rw [h149]; exact CT_wst (CT_ne h135 h147 (by have := hP; unfold PLA at this; omega))
      have h151 : KN σ143 a (uPd (uPd (uPd (uPd (uPd Sp.2.2.2 (10 + 4 * Sp.2.2.2 2) (wyV By Nb S20)) (10 + 4 * Sp.2.2.2 2 + 1) (tV By Nb S70.2.2.1)) (10 + 4 * Sp.2.2.2 2 + 2) 0) (10 + 4 * Sp.2.2.2 2 + 3) (-1)) (2) (Sp.2.2.2 2 + 1)) (fun t => (((((act Sp.2.2.2 t ∨ t = 10 + 4 * Sp.2.2.2 2) ∨ t = 10 + 4 * Sp.2.2.2 2 + 1) ∨ t = 10 + 4 * Sp.2.2.2 2 + 2) ∨ t = 10 + 4 * Sp.2.2.2 2 + 3) ∨ t = 2)) := KN_st h136 h146 h147 (by (first | decide | omega)) (by (first | decide | omega)) (by rw [lcO_lt (by decide) (by decide), Nat.add_zero]) (by decide) (by (try have i0 := Imp_m h97 (by (first | exact q_ca23768860 h95 h104 | omega))); (try have i1 := Imp_m h96 (by (first | exact q_ca23768860 h95 h104 | omega))); (try have i2 := Imp_m h76 (by (first | exact q_d2dcd30e56 i0.1 | omega))); (try have i3 := Imp_m h75 (by (first | exact q_d2dcd30e56 i0.1 | omega))); (try have i4 := Imp_m h58 (by (first | exact q_d2dcd30e56 i3 | omega))); (try have i5 := Imp_m h45 (by (first | exact q_d2dcd30e56 i3 | omega))); (try have i6 := Imp_m h44 (by (first | exact q_d2dcd30e56 i3 | omega))); (try have i7 := Imp_m h64.2.2.2.1 (by (first | exact q_a439be255a i2 | omega))); (try have i8 := Imp_m h64.2.2.2.2.2.1 (by omega)); (try have i9 := Imp_m h85.2.2.2.2.2.2.1 (by (first | exact q_c15b962208 h104 h85.2.2.2.1 i8 | omega))); (first | exact q_7c897bc128 h142 h138 | omega))
      have h152 : S148.2.2.2 = (uPd (uPd (uPd (uPd (uPd Sp.2.2.2 (10 + 4 * Sp.2.2.2 2) (wyV By Nb S20)) (10 + 4 * Sp.2.2.2 2 + 1) (tV By Nb S70.2.2.1)) (10 + 4 * Sp.2.2.2 2 + 2) 0) (10 + 4 * Sp.2.2.2 2 + 3) (-1)) (2) (Sp.2.2.2 2 + 1)) := by rw [h149]; show uPd S133.2.2.2 _ _ = _; rw [h137]
      have h153 : S148.1 = S133.1 := by rw [h149]; rfl
      have h154 := CT_k h150 ((h147 _ _ (Or.inr (by decide))).trans ((h129 _ _ (inW tgz_3 (by decide +kernel))).trans h87))
      have o155 : OUT σ0 σ143 a := OUT_st o140 h147 (by omega)
      have h156 : fDoor By Nb Sp = S148 := by unfold fDoor; (try dsimp only); first | (rw [← h21, ← h41, ← h71, ← h93, ← h134, ← h149]; first | done | rfl) | (rw [← h21, ← h41, ← h71, ← h93, ← h134, ← h149]; rw [if_pos (by omega)]; first | done | rfl) | (rw [← h21, ← h41, ← h71, ← h93, ← h134, ← h149]; rw [if_neg (by (first | exact q_4d44302f46 h138 h7 | omega))]; first | done | rfl) | (rw [← h21, ← h41, ← h71, ← h93, ← h134, ← h149]; rw [if_neg (by (first | exact q_4d44302f46 h138 h7 | omega)), if_pos (by (first | exact q_ca23768860 h95 h104 | omega))]; first | done | rfl) | (rw [← h21, ← h41, ← h71, ← h93, ← h134, ← h149]; rw [if_neg (by omega), if_neg (by omega)]; first | done | rfl) | (rw [← h21, ← h41, ← h71, ← h93, ← h134, ← h149]; rw [if_neg (by omega), if_neg (by omega), if_neg (by omega)]; first | done | rfl)
      exact En_ret (v := none) rfl rfl rfl ⟨h144, h145, z86, ((h147 _ _ (Or.inr (by decide))).trans ((h129 _ _ (inW tgz_3 (by decide +kernel))).trans h87)), rfl, ⟨o155, by first | exact q_a555021d16 h85.2.1 | omega, by first | exact q_bd3fa30443 h104 | omega, by first | exact q_06e02fd287 h34.2.2.2.2.1 h64.2.2.1 h85.2.2.2.1 | omega, by first | exact q_5ee31f9195 h34.2.2.2.2.1 h64.2.2.1 h85.2.2.2.1 | omega, (by rw [h156]; exact ⟨h150, fun zz => by rw [h152]; exact KN_sub h151 (fun t t0 t1 y => ADr (act_dr (by (first | exact q_5c99692a5e h138 h4 | omega)) (by (first | exact q_cf6c8ae1e9 h138 h7 | omega)) y))⟩)⟩⟩
  · refine En_Ps 2 (pc' := 10) (lv' := [(0, .ref 3), (1, .ref a)]) (st' := [.int ((Int32.ofInt 3)), .ref 3]) rfl ?_
    have := (by decide : ((Int32.ofInt 3)).toInt = 3)
    refine En_callV rfl rfl rfl rfl rfl rfl rfl rfl tgz_3 (by decide +kernel) rfl (c_54x σ0 hσ0 ((Int32.ofInt 3)) (geI (by decide : (Int32.ofInt 3).toInt = 3) (by decide)) (leI (by decide : (Int32.ofInt 3).toInt = 3) (by decide)) f h_f hC) (by decide) (by decide) (fun v158 σ159 h157 => ?_)
    obtain ⟨h160, h161, z163, h164, rfl, h162⟩ := h157
    have h165 := h162.2.2.2.2.2
    have h166 := Fr_trans hF0 h161 (by decide +kernel)
    obtain ⟨S167, h168⟩ : ∃ q : PS, q = err By Nb 3 Sp := ⟨_, rfl⟩
    have h169 : CT By Nb σ159 S167 := by rw [h168]; exact (CT_eq h165 (err_cg (by (first | exact q_5736040b52 this | omega))))
    have h170 := CT_k h169 h164
    have h171 : S167.2.2.2 = Sp.2.2.2 := by rw [h168]; exact err_w
    have h172 := KN_fr hP hK h161 (by decide +kernel)
    have h173 : S167.2.2.2 = Sp.2.2.2 := h171.trans (rfl : Sp.2.2.2 = Sp.2.2.2)
    have o174 : OUT σ0 σ159 a := OUT_fr OUT_0 h161 (by decide +kernel)
    have h175 : fDoor By Nb Sp = S167 := by unfold fDoor; (try dsimp only); first | (rw [← h168]; first | done | rfl) | (rw [← h168]; rw [if_pos (by (first | exact q_a909a51ff5 h6 h7 | omega))]; first | done | rfl) | (rw [← h168]; rw [if_neg (by omega)]; first | done | rfl) | (rw [← h168]; rw [if_neg (by omega), if_pos (by omega)]; first | done | rfl) | (rw [← h168]; rw [if_neg (by omega), if_neg (by omega)]; first | done | rfl) | (rw [← h168]; rw [if_neg (by omega), if_neg (by omega), if_neg (by omega)]; first | done | rfl)
    exact En_ret (v := none) rfl rfl rfl ⟨h160, h166, z163, h164, rfl, ⟨o174, by first | exact q_1a6ee862c1 h162.1 | omega, by first | exact q_c733b715bf h162.2.1 | omega, by first | exact q_d22b102a8e h162.2.2.1 | omega, by first | exact q_83f4b1e050 h162.2.2.1 | omega, (by rw [h175]; exact ⟨h169, fun z => absurd z (by (first | exact q_78d9c54eee z h170 h162.1 | omega))⟩)⟩⟩
/-- DoorSchool$Reader.readSaid(LDoorSchool$Plan;LDoorSchool$Lessons;)V -/
abbrev P_69x (σ0 : SG) (By : Int → Int) (Nb : Int) (Sp : PS) (ix : Int) (jx : Int) (a : Nat) (b : Nat) (f : Int32) (sg : Int32) : PO := fun v σ => WT σ ∧ Fr [(3, 1), (3, 2), (3, 3), (3, 4), (3, 5), (3, 6), (20, 2), (21, 0), (22, 0)] σ0 σ ∧ ∃ f1 : Int32, (σ 3)[5]? = some (Value.int f1) ∧ v = none ∧ OUT σ0 σ a ∧ -f1.toInt ≤ 0 ∧ f1.toInt - 3 ≤ 0 ∧ -f1.toInt + f.toInt ≤ 0 ∧ f.toInt - f1.toInt ≤ 0 ∧ (CT By Nb σ (fSaid By Nb ix jx Sp) ∧ ((fSaid By Nb ix jx Sp).1 = 0 → KN σ a (fSaid By Nb ix jx Sp).2.2.2 (fun t => ((act Sp.2.2.2 t ∨ t = ix) ∨ t = ix + 1) ∨ t = jx)))
set_option maxRecDepth 10000 in
set_option maxHeartbeats 4000000 in
theorem c_69x {By : Int → Int} {Nb : Int} {Sp : PS} {ix : Int} {jx : Int} (σ0 : SG) (hσ0 : WT σ0) (a : Nat) (ha : TG a = 18) (b : Nat) (hb : TG b = 20) (f : Int32) (h_f : (σ0 3)[5]? = some (Value.int f)) (sg : Int32) (h_sg : (σ0 a)[1]? = some (Value.int sg)) (hp0 : -sg.toInt ≤ 0) (hC : CT By Nb σ0 Sp) (hg : Sp.1 = 0) (hP : PLA a) (hX : FXP σ0 a) (hK : KN σ0 a Sp.2.2.2 (act Sp.2.2.2)) (hL : LSN σ0 a b Sp.2.2.2 ix jx) : En 5 112 none mr_69 (P_69x σ0 By Nb Sp ix jx a b f sg) 0 [(0, .ref 3), (1, .ref a), (2, .ref b)] [] σ0 := by
  obtain ⟨hl_f, hu_f⟩ := WT_int hσ0 (g := 3) (by decide +kernel) (by decide +kernel) (l := 0) (u := 3) (by decide +kernel) h_f
  obtain ⟨hl_sg, hu_sg⟩ := WT_int hσ0 (g := 18) ha (by decide +kernel) (l := (-1)) (u := 4) (by decide +kernel) h_sg
  have hF0 : Fr [(3, 1), (3, 2), (3, 3), (3, 4), (3, 5), (3, 6), (20, 2), (21, 0), (22, 0)] σ0 σ0 := Fr_rfl
  have h1 := CT_k hC h_f
  have h2 : Sp.2.2.2 0 = sg.toInt := KN_v hK (Or.inl (by decide)) (by decide) (by decide) (by rw [lcO_lt (by decide) (by decide), Nat.add_zero]) rfl h_sg
  have h3 : pI (Sp.2.2.2 0) = pI (sg.toInt) := by rw [h2]
  obtain ⟨L1, L2, L3, L4, L5, L6, L7, L8, L9, L10, L11, L12, L13, L14, L15⟩ := id hL
  obtain ⟨a5, h4, ha5⟩ := WT_peekR (g := 20) (j := 0) (g' := 21) (u := 0) hσ0 hb (by decide +kernel) (by decide +kernel)
  obtain ⟨a7, h6, ha7⟩ := WT_peekR (g := 20) (j := 1) (g' := 22) (u := 0) hσ0 hb (by decide +kernel) (by decide +kernel)
  obtain ⟨z9, h8, h10, h11⟩ := WT_peekI hσ0 hb (by decide +kernel : FT 20 2 = (0, 0, 13)) (by decide +kernel)
  have h12 : a5 = b + 1 := ref_uniq h4 L12
  have h13 : a7 = b + 2 := ref_uniq h6 L13
  have h14 : Sp.2.2.2 jx = z9.toInt := KN_v hK L11 L9 L10 L1 (by rw [L2]; rfl) h8
  have := lc_0 L9 L10
  have := lc_0 (i := ix + 1) (by (first | exact q_21ba782535 L7 | omega)) L8
  have := lc_0 (i := ix) (by (first | exact q_58e6e51dcc L7 | omega)) (by (first | exact q_446a9db195 L8 | omega))
  refine En_Ps 3 (pc' := 3) (lv' := [(0, .ref 3), (1, .ref a), (2, .ref b)]) (st' := [.ref a, .int ((Int32.ofInt 0)), .ref 3]) rfl ?_
  refine En_callV rfl rfl rfl rfl rfl rfl rfl rfl ha (by decide +kernel) rfl (c_51x σ0 hσ0 a ha sg h_sg (by first | exact q_a555021d16 hp0 | omega)) (by decide) (by decide) (fun v16 σ17 h15 => ?_)
  obtain ⟨h18, h19, z21, rfl, h20⟩ := h15
  have h22 := h20.2.2
  obtain rfl : σ0 = σ17 := Fr_nil h19
  have h23 := h22
  have h24 : pI (Sp.2.2.2 0) = z21.toInt := by rw [(rfl : Sp.2.2.2 = Sp.2.2.2)]; (first | exact q_eed4cd1e4b h23 h3 | omega)
  refine En_Ps 2 (pc' := 8) (lv' := [(0, .ref 3), (1, .ref a), (2, .ref b)]) (st' := [.int ((z21 - ((Int32.ofInt 1)))), .int ((Int32.ofInt 0)), .ref 3]) rfl ?_
  refine En_top (subI rfl (by decide : (Int32.ofInt 1).toInt = 1) (by first | exact q_ead043ab48 h20.1 | omega) (by first | exact q_9b40fa289d h20.2.1 | omega)) (fun z25 h26 => ?_)
  have := (by decide : ((Int32.ofInt 0)).toInt = 0)
  refine En_callV rfl rfl rfl rfl rfl rfl rfl rfl tgz_3 (by decide +kernel) rfl (c_73x σ0 hσ0 ((Int32.ofInt 0)) z25 f h_f hC) (by decide) (by decide) (fun v28 σ29 h27 => ?_)
  obtain ⟨h30, h31, z33, h34, z35, rfl, h32⟩ := h27
  have h36 := h32.2.2.2.2.2.2.2.2.2
  have h37 := Fr_trans hF0 h31 (by decide +kernel)
  have h38 : tN By Nb ((Int32.ofInt 0)).toInt z25.toInt Sp = tN By Nb (0) (pI (Sp.2.2.2 0) - 1) Sp := tN_cg2 (fun zz => by (first | exact q_d2dcd30e56 this | omega)) (fun zz => by (first | exact q_171d7b85d9 h26 h24 | omega))
  obtain ⟨S39, h40⟩ : ∃ q : PS, q = tN By Nb (0) (pI (Sp.2.2.2 0) - 1) Sp := ⟨_, rfl⟩
  have h41 : CT By Nb σ29 S39 := by rw [h40]; exact (CT_eq h36.1 h38)
  have h42 := CT_k h41 h34
  have h43 : Imp (S39.1 = 0) (z35.toInt = tV By Nb Sp.2.2.1) := fun z => Imp_m h36.2 (by rw [h38, ← h40]; exact z)
  have h44 : Imp (S39.1 = 0) (Sp.1 = 0 ∧ tK By Nb Sp.2.2.1 = 2 ∧ 0 ≤ tV By Nb Sp.2.2.1 ∧ tV By Nb Sp.2.2.1 ≤ pI (Sp.2.2.2 0) - 1) := fun z => tN_gg (by rw [← h40]; exact z)
  have h45 : S39.2.2.2 = Sp.2.2.2 := by rw [h40]; exact tN_w
  have h46 := KN_fr hP hK h31 (by decide +kernel)
  have h47 : S39.2.2.2 = Sp.2.2.2 := h45.trans (rfl : Sp.2.2.2 = Sp.2.2.2)
  have o48 : OUT σ0 σ29 a := OUT_fr OUT_0 h31 (by decide +kernel)
  have h49 := Imp_m h32.2.2.2.2.2.2.2.1 (by first | exact q_81610a3c5e h26 h20.1 | omega)
  have h50 := Imp_m h32.2.2.2.2.2.2.2.2.1 (by (first | exact q_83da3d7e14 this | omega))
  refine En_Ps 1 (pc' := 12) (lv' := [(3, .int z35), (0, .ref 3), (1, .ref a), (2, .ref b)]) (st' := []) rfl ?_
  refine En_Ps 1 (pc' := 13) (lv' := [(3, .int z35), (0, .ref 3), (1, .ref a), (2, .ref b)]) (st' := [.ref 3]) rfl ?_
  refine En_ldcS (i := 8) rfl rfl rfl ?_
  refine En_callV rfl rfl rfl rfl rfl rfl rfl rfl tgz_3 (by decide +kernel) rfl (c_71s8x σ29 h30 h41) (by decide) (by decide) (fun v52 σ53 h51 => ?_)
  obtain ⟨h54, h55, z57, rfl, h56⟩ := h51
  have h58 := h56.2.2
  obtain rfl : σ29 = σ53 := Fr_nil h55
  have h59 := h58
  refine En_iEq _ rfl rfl (fun h60 => ?_) (fun h60 => ?_)
  · refine En_Ps 5 (pc' := 32) (lv' := [(4, .int ((Int32.ofInt 0))), (3, .int z35), (0, .ref 3), (1, .ref a), (2, .ref b)]) (st' := [.int ((Int32.ofInt 1)), .int ((Int32.ofInt 0)), .ref 3]) rfl ?_
    refine En_icEq _ (by decide : (Int32.ofInt 0).toInt = 0) (by decide : (Int32.ofInt 1).toInt = 1) rfl (fun hx => by exfalso; have := Imp_m h32.2.2.2.2.2.1 (by omega); have := Imp_m h32.2.2.2.2.2.2.1 (by omega); omega) (fun h61 => ?_)
    refine En_Ps 1 (pc' := 36) (lv' := [(4, .int ((Int32.ofInt 0))), (3, .int z35), (0, .ref 3), (1, .ref a), (2, .ref b)]) (st' := [.ref 3, .ref 3]) rfl ?_
    refine En_ldcS (i := 12) rfl rfl rfl ?_
    refine En_callV rfl rfl rfl rfl rfl rfl rfl rfl tgz_3 (by decide +kernel) rfl (c_71s12x σ29 h30 h41) (by decide) (by decide) (fun v63 σ64 h62 => ?_)
    obtain ⟨h65, h66, z68, rfl, h67⟩ := h62
    have h69 := h67.2.2
    obtain rfl : σ29 = σ64 := Fr_nil h66
    have h70 := h69
    refine En_iEq _ rfl rfl (fun h71 => ?_) (fun h71 => ?_)
    · refine En_Ps 1 (pc' := 49) (lv' := [(4, .int ((Int32.ofInt 0))), (3, .int z35), (0, .ref 3), (1, .ref a), (2, .ref b)]) (st' := [.int ((Int32.ofInt 0)), .ref 3]) rfl ?_
      have := (by decide : ((Int32.ofInt 0)).toInt = 0)
      refine En_callV rfl rfl rfl rfl rfl rfl rfl rfl tgz_3 (by decide +kernel) rfl (c_59x σ29 h30 ((Int32.ofInt 0)) (geI (by decide : (Int32.ofInt 0).toInt = 0) (by decide)) (leI (by decide : (Int32.ofInt 0).toInt = 0) (by decide)) z33 h34 h41) (by decide) (by decide) (fun v73 σ74 h72 => ?_)
      obtain ⟨h75, h76, z78, h79, rfl, h77⟩ := h72
      have h80 := h77.2.2.2.2.2.2
      have h81 := Fr_trans h37 h76 (by decide +kernel)
      have h82 : pss By Nb ((Int32.ofInt 0)).toInt S39 = dD By Nb S39 := dDc (fun zz => by (try have i0 := Imp_m h70 (by (first | exact q_d2dcd30e56 zz | omega))); (try have i1 := Imp_m h59 (by (first | exact q_d2dcd30e56 zz | omega))); (try have i2 := Imp_m h44 (by (first | exact q_d2dcd30e56 zz | omega))); (try have i3 := Imp_m h43 (by (first | exact q_d2dcd30e56 zz | omega))); (try have i4 := Imp_m h32.2.2.2.2.2.1 (by (first | exact q_d8d8e6600d h42 zz | omega))); (try have i5 := Imp_m h32.2.2.2.2.2.2.1 (by omega)); (first | exact q_68acc5401a i4.1 this i5.1 | omega))
      obtain ⟨S83, h84⟩ : ∃ q : PS, q = dD By Nb S39 := ⟨_, rfl⟩
      have h85 : CT By Nb σ74 S83 := by rw [h84]; exact (CT_eq h80 h82)
      have h86 := CT_k h85 h79
      have h87 : S83.2.2.2 = S39.2.2.2 := by rw [h84]; exact pss_w
      have h88 : Imp (S83.1 = 0) (S39.1 = 0) := fun z => (pss_g (by rw [h82, ← h84]; exact z)).1
      have h89 : Imp (S83.1 = 0) (((Int32.ofInt 0)).toInt = 1) := fun z => (pss_g (by rw [h82, ← h84]; exact z)).2.1
      have h90 := KN_fr hP h46 h76 (by decide +kernel)
      have h91 : S83.2.2.2 = Sp.2.2.2 := h87.trans h47
      have o92 : OUT σ0 σ74 a := OUT_fr o48 h76 (by decide +kernel)
      have h93 := Imp_m h77.2.2.2.2.2.1 (by (first | exact q_c5d285f1b9 this | omega))
      refine En_Ps 1 (pc' := 53) (lv' := [(4, .int ((Int32.ofInt 0))), (3, .int z35), (0, .ref 3), (1, .ref a), (2, .ref b)]) (st' := [.ref 3]) rfl ?_
      refine En_getK (j := 5) h79 rfl rfl rfl tgz_3 (by decide +kernel) ?_
      refine En_iNe _ rfl rfl (fun h94 => ?_) (fun hx => by exfalso; have := Imp_m h32.2.2.2.2.2.1 (by (first | exact q_e3adf33a46 h93 hx | omega)); have := Imp_m h32.2.2.2.2.2.2.1 (by (first | exact q_f4f2768de0 h93 hx | omega)); (first | exact q_a0b22f2d75 h93 hx | omega))
      have h95 : fSaid By Nb ix jx Sp = S83 := by unfold fSaid; (try dsimp only); first | (rw [← h40, ← h84]; first | done | rfl) | (rw [← h40, ← h84]; rw [if_pos (by omega)]; first | done | rfl) | (rw [← h40, ← h84]; rw [if_neg (by (first | exact q_d636131026 h86 h93 | omega))]; first | done | rfl) | (rw [← h40, ← h84]; rw [if_neg (by omega), if_pos (by omega)]; first | done | rfl) | (rw [← h40, ← h84]; rw [if_neg (by omega), if_neg (by omega)]; first | done | rfl) | (rw [← h40, ← h84]; rw [if_neg (by omega), if_neg (by omega), if_neg (by omega)]; first | done | rfl)
      exact En_ret (v := none) rfl rfl rfl ⟨h75, h81, z78, h79, rfl, ⟨o92, by first | exact q_1a6ee862c1 h93 | omega, by first | exact q_c733b715bf h77.2.1 | omega, by first | exact q_ccc3bb8fc9 h32.2.2.2.1 h77.2.2.1 | omega, by first | exact q_28bfca2c13 h32.2.2.2.1 h77.2.2.1 | omega, (by rw [h95]; exact ⟨h85, fun z => absurd z (by (first | exact q_78d9c54eee z h86 h93 | omega))⟩)⟩⟩
    · refine En_Ps 2 (pc' := 49) (lv' := [(4, .int ((Int32.ofInt 0))), (3, .int z35), (0, .ref 3), (1, .ref a), (2, .ref b)]) (st' := [.int ((Int32.ofInt 1)), .ref 3]) rfl ?_
      have := (by decide : ((Int32.ofInt 1)).toInt = 1)
      refine En_callV rfl rfl rfl rfl rfl rfl rfl rfl tgz_3 (by decide +kernel) rfl (c_59x σ29 h30 ((Int32.ofInt 1)) (geI (by decide : (Int32.ofInt 1).toInt = 1) (by decide)) (leI (by decide : (Int32.ofInt 1).toInt = 1) (by decide)) z33 h34 h41) (by decide) (by decide) (fun v97 σ98 h96 => ?_)
      obtain ⟨h99, h100, z102, h103, rfl, h101⟩ := h96
      have h104 := h101.2.2.2.2.2.2
      have h105 := Fr_trans h37 h100 (by decide +kernel)
      have h106 : pss By Nb ((Int32.ofInt 1)).toInt S39 = dD By Nb S39 := dDc (fun zz => by (try have i0 := Imp_m h70 (by (first | exact q_d2dcd30e56 zz | omega))); (try have i1 := Imp_m h59 (by (first | exact q_d2dcd30e56 zz | omega))); (try have i2 := Imp_m h44 (by (first | exact q_d2dcd30e56 zz | omega))); (try have i3 := Imp_m h43 (by (first | exact q_d2dcd30e56 zz | omega))); (try have i4 := Imp_m h32.2.2.2.2.2.1 (by (first | exact q_d8d8e6600d h42 zz | omega))); (try have i5 := Imp_m h32.2.2.2.2.2.2.1 (by omega)); (first | exact q_ee79c67d8b this i0 h71 h67.1 h67.2.1 | omega))
      obtain ⟨S107, h108⟩ : ∃ q : PS, q = dD By Nb S39 := ⟨_, rfl⟩
      have h109 : CT By Nb σ98 S107 := by rw [h108]; exact (CT_eq h104 h106)
      have h110 := CT_k h109 h103
      have h111 : S107.2.2.2 = S39.2.2.2 := by rw [h108]; exact pss_w
      have h112 : Imp (S107.1 = 0) (S39.1 = 0) := fun z => (pss_g (by rw [h106, ← h108]; exact z)).1
      have h113 : Imp (S107.1 = 0) (((Int32.ofInt 1)).toInt = 1) := fun z => (pss_g (by rw [h106, ← h108]; exact z)).2.1
      have h114 := KN_fr hP h46 h100 (by decide +kernel)
      have h115 : S107.2.2.2 = Sp.2.2.2 := h111.trans h47
      have o116 : OUT σ0 σ98 a := OUT_fr o48 h100 (by decide +kernel)
      have h117 := Imp_m h101.2.2.2.1 (by (first | exact q_a439be255a this | omega))
      refine En_Ps 1 (pc' := 53) (lv' := [(4, .int ((Int32.ofInt 0))), (3, .int z35), (0, .ref 3), (1, .ref a), (2, .ref b)]) (st' := [.ref 3]) rfl ?_
      refine En_getK (j := 5) h103 rfl rfl rfl tgz_3 (by decide +kernel) ?_
      refine En_iNe _ rfl rfl (fun h118 => ?_) (fun h118 => ?_)
      · have h119 := Imp_m h32.2.2.2.2.2.2.1 (by first | exact q_a0d17ed560 h117.1 h118 h101.1 | omega)
        have h120 : fSaid By Nb ix jx Sp = S107 := by unfold fSaid; (try dsimp only); first | (rw [← h40, ← h108]; first | done | rfl) | (rw [← h40, ← h108]; rw [if_pos (by omega)]; first | done | rfl) | (rw [← h40, ← h108]; rw [if_neg (by (first | exact q_57b55acfde h118 h101.1 h110 | omega))]; first | done | rfl) | (rw [← h40, ← h108]; rw [if_neg (by omega), if_pos (by omega)]; first | done | rfl) | (rw [← h40, ← h108]; rw [if_neg (by omega), if_neg (by omega)]; first | done | rfl) | (rw [← h40, ← h108]; rw [if_neg (by omega), if_neg (by omega), if_neg (by omega)]; first | done | rfl)
        exact En_ret (v := none) rfl rfl rfl ⟨h99, h105, z102, h103, rfl, ⟨o116, by first | exact q_bc42505ae9 h118 h101.1 | omega, by first | exact q_c733b715bf h101.2.1 | omega, by first | exact q_ccc3bb8fc9 h32.2.2.2.1 h101.2.2.1 | omega, by first | exact q_28bfca2c13 h32.2.2.2.1 h101.2.2.1 | omega, (by rw [h120]; exact ⟨h109, fun z => absurd z (by (first | exact q_ae2d14d533 h118 h101.1 h110 z | omega))⟩)⟩⟩
      · have h121 := Imp_m h32.2.2.2.2.2.1 (by first | exact q_31d5f588b1 h101.2.2.1 h118 | omega)
        try have h122 := Imp_m h113 (by (first | exact q_ca23768860 h110 h118 | omega))
        try have h123 := Imp_m h112 (by (first | exact q_ca23768860 h110 h118 | omega))
        try have h124 := Imp_m h70 (by (first | exact q_d2dcd30e56 h123 | omega))
        try have h125 := Imp_m h59 (by (first | exact q_d2dcd30e56 h123 | omega))
        try have h126 := Imp_m h44 (by (first | exact q_d2dcd30e56 h123 | omega))
        try have h127 := Imp_m h43 (by (first | exact q_d2dcd30e56 h123 | omega))
        refine En_Ps 3 (pc' := 63) (lv' := [(4, .int ((Int32.ofInt 0))), (3, .int z35), (0, .ref 3), (1, .ref a), (2, .ref b)]) (st' := [.int ((Int32.ofInt 0)), .int z35, .ref b]) rfl ?_
        have := (by decide : ((Int32.ofInt 0)).toInt = 0)
        refine En_callV rfl rfl rfl rfl rfl rfl rfl rfl hb (by decide +kernel) rfl (c_31x σ98 h99 b hb z35 ((Int32.ofInt 0)) (geI rfl (by (first | exact q_39e281d0cf h121.1 this | omega))) (leI rfl (by first | exact q_e1ef427644 h49 h26 h20.2.1 | omega)) (geI (by decide : (Int32.ofInt 0).toInt = 0) (by decide)) (leI (by decide : (Int32.ofInt 0).toInt = 0) (by decide)) a5 ha5 ((h100 _ _ (inW hb (by decide +kernel))).trans ((h31 _ _ (inW hb (by decide +kernel))).trans h4)) a7 ha7 ((h100 _ _ (inW hb (by decide +kernel))).trans ((h31 _ _ (inW hb (by decide +kernel))).trans h6)) z9 ((h100 _ _ (inW hb (by decide +kernel))).trans ((h31 _ _ (inW hb (by decide +kernel))).trans h8)) (by (first | exact q_adf9f7a32b h14 L15 | omega))) (by decide) (by decide) (fun v129 σ130 h128 => ?_)
        obtain ⟨h131, h132, z134, h135, rfl, h133⟩ := h128
        have h136 := h133.2.2.2.2
        have h137 := Fr_trans h105 h132 (by decide +kernel)
        obtain ⟨S138, h139⟩ : ∃ q : PS, q = wst (wst (wst S107 ix (tV By Nb Sp.2.2.1)) (ix + 1) (iW By Nb 8 S39)) jx (S107.2.2.2 jx + 1) := ⟨_, rfl⟩
        have h140 : CT By Nb σ130 S138 := by rw [h139]; exact CT_wst (CT_wst (CT_wst (CT_fr h109 h132 (by decide +kernel))))
        have h141 : KN σ130 a (uPd (uPd (uPd Sp.2.2.2 ix (tV By Nb Sp.2.2.1)) (ix + 1) (iW By Nb 8 S39)) jx (Sp.2.2.2 jx + 1)) (fun t => (((act Sp.2.2.2 t ∨ t = ix) ∨ t = ix + 1) ∨ t = jx)) := KN_w (KN_add (i := ix) (i' := ix + 1) (j := jx) h114 h136 L7 rfl L8 L9 L10 L1 L2 (by rw [h12]; exact L3) (by rw [L4]; exact h14) (by rw [h13]; exact L5) (by rw [L6]; exact h14) (by (first | exact q_58e6e51dcc h10 | omega))) (uPd3_cg (by (first | exact q_b1495600e7 h127 | omega)) (by (first | exact q_1788a9098d this h125 h60 | omega)) (by (first | exact q_a8fb2024c1 h14 | omega)))
        have h142 : S138.2.2.2 = (uPd (uPd (uPd Sp.2.2.2 ix (tV By Nb Sp.2.2.1)) (ix + 1) (iW By Nb 8 S39)) jx (Sp.2.2.2 jx + 1)) := by rw [h139]; show uPd (uPd (uPd S107.2.2.2 _ _) _ _) _ (S107.2.2.2 jx + 1) = _; rw [h115]
        have h143 : S138.1 = S107.1 := by rw [h139]; rfl
        have o144 : OUT σ0 σ130 a := OUT_add o116 h136 (by omega) (by omega) (by omega)
        have h145 : fSaid By Nb ix jx Sp = S138 := by unfold fSaid; (try dsimp only); first | (rw [← h40, ← h108, ← h139]; first | done | rfl) | (rw [← h40, ← h108, ← h139]; rw [if_pos (by (first | exact q_ca23768860 h110 h118 | omega))]; first | done | rfl) | (rw [← h40, ← h108, ← h139]; rw [if_neg (by omega)]; first | done | rfl) | (rw [← h40, ← h108, ← h139]; rw [if_neg (by omega), if_pos (by omega)]; first | done | rfl) | (rw [← h40, ← h108, ← h139]; rw [if_neg (by omega), if_neg (by omega)]; first | done | rfl) | (rw [← h40, ← h108, ← h139]; rw [if_neg (by omega), if_neg (by omega), if_neg (by omega)]; first | done | rfl)
        exact En_ret (v := none) rfl rfl rfl ⟨h131, h137, z102, ((h132 _ _ (inW tgz_3 (by decide +kernel))).trans h103), rfl, ⟨o144, by first | exact q_a555021d16 h101.1 | omega, by first | exact q_bd3fa30443 h118 | omega, by first | exact q_ccc3bb8fc9 h32.2.2.2.1 h101.2.2.1 | omega, by first | exact q_28bfca2c13 h32.2.2.2.1 h101.2.2.1 | omega, (by rw [h145]; exact ⟨h140, fun zz => by rw [h142]; exact h141⟩)⟩⟩
  · refine En_Ps 6 (pc' := 32) (lv' := [(4, .int ((Int32.ofInt 1))), (3, .int z35), (0, .ref 3), (1, .ref a), (2, .ref b)]) (st' := [.int ((Int32.ofInt 1)), .int ((Int32.ofInt 1)), .ref 3]) rfl ?_
    refine En_icEq _ (by decide : (Int32.ofInt 1).toInt = 1) (by decide : (Int32.ofInt 1).toInt = 1) rfl (fun h146 => ?_) (fun hx => by exfalso; have := Imp_m h32.2.2.2.2.2.1 (by omega); have := Imp_m h32.2.2.2.2.2.2.1 (by omega); omega)
    refine En_Ps 2 (pc' := 49) (lv' := [(4, .int ((Int32.ofInt 1))), (3, .int z35), (0, .ref 3), (1, .ref a), (2, .ref b)]) (st' := [.int ((Int32.ofInt 1)), .ref 3]) rfl ?_
    have := (by decide : ((Int32.ofInt 1)).toInt = 1)
    refine En_callV rfl rfl rfl rfl rfl rfl rfl rfl tgz_3 (by decide +kernel) rfl (c_59x σ29 h30 ((Int32.ofInt 1)) (geI (by decide : (Int32.ofInt 1).toInt = 1) (by decide)) (leI (by decide : (Int32.ofInt 1).toInt = 1) (by decide)) z33 h34 h41) (by decide) (by decide) (fun v148 σ149 h147 => ?_)
    obtain ⟨h150, h151, z153, h154, rfl, h152⟩ := h147
    have h155 := h152.2.2.2.2.2.2
    have h156 := Fr_trans h37 h151 (by decide +kernel)
    have h157 : pss By Nb ((Int32.ofInt 1)).toInt S39 = dD By Nb S39 := dDc (fun zz => by (try have i0 := Imp_m h59 (by (first | exact q_d2dcd30e56 zz | omega))); (try have i1 := Imp_m h44 (by (first | exact q_d2dcd30e56 zz | omega))); (try have i2 := Imp_m h43 (by (first | exact q_d2dcd30e56 zz | omega))); (try have i3 := Imp_m h32.2.2.2.2.2.1 (by (first | exact q_d8d8e6600d h42 zz | omega))); (try have i4 := Imp_m h32.2.2.2.2.2.2.1 (by omega)); (first | exact q_0aec5b17cb this i0 h60 h56.1 h56.2.1 | omega))
    obtain ⟨S158, h159⟩ : ∃ q : PS, q = dD By Nb S39 := ⟨_, rfl⟩
    have h160 : CT By Nb σ149 S158 := by rw [h159]; exact (CT_eq h155 h157)
    have h161 := CT_k h160 h154
    have h162 : S158.2.2.2 = S39.2.2.2 := by rw [h159]; exact pss_w
    have h163 : Imp (S158.1 = 0) (S39.1 = 0) := fun z => (pss_g (by rw [h157, ← h159]; exact z)).1
    have h164 : Imp (S158.1 = 0) (((Int32.ofInt 1)).toInt = 1) := fun z => (pss_g (by rw [h157, ← h159]; exact z)).2.1
    have h165 := KN_fr hP h46 h151 (by decide +kernel)
    have h166 : S158.2.2.2 = Sp.2.2.2 := h162.trans h47
    have o167 : OUT σ0 σ149 a := OUT_fr o48 h151 (by decide +kernel)
    have h168 := Imp_m h152.2.2.2.1 (by (first | exact q_a439be255a this | omega))
    refine En_Ps 1 (pc' := 53) (lv' := [(4, .int ((Int32.ofInt 1))), (3, .int z35), (0, .ref 3), (1, .ref a), (2, .ref b)]) (st' := [.ref 3]) rfl ?_
    refine En_getK (j := 5) h154 rfl rfl rfl tgz_3 (by decide +kernel) ?_
    refine En_iNe _ rfl rfl (fun h169 => ?_) (fun h169 => ?_)
    · have h170 := Imp_m h32.2.2.2.2.2.2.1 (by first | exact q_a0d17ed560 h168.1 h169 h152.1 | omega)
      have h171 : fSaid By Nb ix jx Sp = S158 := by unfold fSaid; (try dsimp only); first | (rw [← h40, ← h159]; first | done | rfl) | (rw [← h40, ← h159]; rw [if_pos (by omega)]; first | done | rfl) | (rw [← h40, ← h159]; rw [if_neg (by (first | exact q_57b55acfde h169 h152.1 h161 | omega))]; first | done | rfl) | (rw [← h40, ← h159]; rw [if_neg (by omega), if_pos (by omega)]; first | done | rfl) | (rw [← h40, ← h159]; rw [if_neg (by omega), if_neg (by omega)]; first | done | rfl) | (rw [← h40, ← h159]; rw [if_neg (by omega), if_neg (by omega), if_neg (by omega)]; first | done | rfl)
      exact En_ret (v := none) rfl rfl rfl ⟨h150, h156, z153, h154, rfl, ⟨o167, by first | exact q_bc42505ae9 h169 h152.1 | omega, by first | exact q_c733b715bf h152.2.1 | omega, by first | exact q_ccc3bb8fc9 h32.2.2.2.1 h152.2.2.1 | omega, by first | exact q_28bfca2c13 h32.2.2.2.1 h152.2.2.1 | omega, (by rw [h171]; exact ⟨h160, fun z => absurd z (by (first | exact q_ae2d14d533 h169 h152.1 h161 z | omega))⟩)⟩⟩
    · have h172 := Imp_m h32.2.2.2.2.2.1 (by first | exact q_31d5f588b1 h152.2.2.1 h169 | omega)
      try have h173 := Imp_m h164 (by (first | exact q_ca23768860 h161 h169 | omega))
      try have h174 := Imp_m h163 (by (first | exact q_ca23768860 h161 h169 | omega))
      try have h175 := Imp_m h59 (by (first | exact q_d2dcd30e56 h174 | omega))
      try have h176 := Imp_m h44 (by (first | exact q_d2dcd30e56 h174 | omega))
      try have h177 := Imp_m h43 (by (first | exact q_d2dcd30e56 h174 | omega))
      refine En_Ps 3 (pc' := 63) (lv' := [(4, .int ((Int32.ofInt 1))), (3, .int z35), (0, .ref 3), (1, .ref a), (2, .ref b)]) (st' := [.int ((Int32.ofInt 1)), .int z35, .ref b]) rfl ?_
      have := (by decide : ((Int32.ofInt 1)).toInt = 1)
      refine En_callV rfl rfl rfl rfl rfl rfl rfl rfl hb (by decide +kernel) rfl (c_31x σ149 h150 b hb z35 ((Int32.ofInt 1)) (geI rfl (by (first | exact q_39e281d0cf h172.1 (by decide) | omega))) (leI rfl (by first | exact q_e1ef427644 h49 h26 h20.2.1 | omega)) (geI (by decide : (Int32.ofInt 1).toInt = 1) (by decide)) (leI (by decide : (Int32.ofInt 1).toInt = 1) (by decide)) a5 ha5 ((h151 _ _ (inW hb (by decide +kernel))).trans ((h31 _ _ (inW hb (by decide +kernel))).trans h4)) a7 ha7 ((h151 _ _ (inW hb (by decide +kernel))).trans ((h31 _ _ (inW hb (by decide +kernel))).trans h6)) z9 ((h151 _ _ (inW hb (by decide +kernel))).trans ((h31 _ _ (inW hb (by decide +kernel))).trans h8)) (by (first | exact q_adf9f7a32b h14 L15 | omega))) (by decide) (by decide) (fun v179 σ180 h178 => ?_)
      obtain ⟨h181, h182, z184, h185, rfl, h183⟩ := h178
      have h186 := h183.2.2.2.2
      have h187 := Fr_trans h156 h182 (by decide +kernel)
      obtain ⟨S188, h189⟩ : ∃ q : PS, q = wst (wst (wst S158 ix (tV By Nb Sp.2.2.1)) (ix + 1) (iW By Nb 8 S39)) jx (S158.2.2.2 jx + 1) := ⟨_, rfl⟩
      have h190 : CT By Nb σ180 S188 := by rw [h189]; exact CT_wst (CT_wst (CT_wst (CT_fr h160 h182 (by decide +kernel))))
      have h191 : KN σ180 a (uPd (uPd (uPd Sp.2.2.2 ix (tV By Nb Sp.2.2.1)) (ix + 1) (iW By Nb 8 S39)) jx (Sp.2.2.2 jx + 1)) (fun t => (((act Sp.2.2.2 t ∨ t = ix) ∨ t = ix + 1) ∨ t = jx)) := KN_w (KN_add (i := ix) (i' := ix + 1) (j := jx) h165 h186 L7 rfl L8 L9 L10 L1 L2 (by rw [h12]; exact L3) (by rw [L4]; exact h14) (by rw [h13]; exact L5) (by rw [L6]; exact h14) (by (first | exact q_58e6e51dcc h10 | omega))) (uPd3_cg (by (first | exact q_b1495600e7 h177 | omega)) (by (first | exact q_fd20194ff2 this h175 h56.2.1 h60 h56.1 | omega)) (by (first | exact q_a8fb2024c1 h14 | omega)))
      have h192 : S188.2.2.2 = (uPd (uPd (uPd Sp.2.2.2 ix (tV By Nb Sp.2.2.1)) (ix + 1) (iW By Nb 8 S39)) jx (Sp.2.2.2 jx + 1)) := by rw [h189]; show uPd (uPd (uPd S158.2.2.2 _ _) _ _) _ (S158.2.2.2 jx + 1) = _; rw [h166]
      have h193 : S188.1 = S158.1 := by rw [h189]; rfl
      have o194 : OUT σ0 σ180 a := OUT_add o167 h186 (by omega) (by omega) (by omega)
      have h195 : fSaid By Nb ix jx Sp = S188 := by unfold fSaid; (try dsimp only); first | (rw [← h40, ← h159, ← h189]; first | done | rfl) | (rw [← h40, ← h159, ← h189]; rw [if_pos (by (first | exact q_ca23768860 h161 h169 | omega))]; first | done | rfl) | (rw [← h40, ← h159, ← h189]; rw [if_neg (by omega)]; first | done | rfl) | (rw [← h40, ← h159, ← h189]; rw [if_neg (by omega), if_pos (by omega)]; first | done | rfl) | (rw [← h40, ← h159, ← h189]; rw [if_neg (by omega), if_neg (by omega)]; first | done | rfl) | (rw [← h40, ← h159, ← h189]; rw [if_neg (by omega), if_neg (by omega), if_neg (by omega)]; first | done | rfl)
      exact En_ret (v := none) rfl rfl rfl ⟨h181, h187, z153, ((h182 _ _ (inW tgz_3 (by decide +kernel))).trans h154), rfl, ⟨o194, by first | exact q_a555021d16 h152.1 | omega, by first | exact q_bd3fa30443 h169 | omega, by first | exact q_ccc3bb8fc9 h32.2.2.2.1 h152.2.2.1 | omega, by first | exact q_28bfca2c13 h32.2.2.2.1 h152.2.2.1 | omega, (by rw [h195]; exact ⟨h190, fun zz => by rw [h192]; exact h191⟩)⟩⟩
/-- DoorSchool$Reader.readLesson(LDoorSchool$Plan;)V -/
abbrev P_67x (σ0 : SG) (By : Int → Int) (Nb : Int) (Sp : PS) (a : Nat) (f : Int32) (sg : Int32) : PO := fun v σ => WT σ ∧ Fr [(3, 1), (3, 2), (3, 3), (3, 4), (3, 5), (3, 6), (20, 2), (21, 0), (22, 0)] σ0 σ ∧ ∃ f1 : Int32, (σ 3)[5]? = some (Value.int f1) ∧ v = none ∧ OUT σ0 σ a ∧ -f1.toInt ≤ 0 ∧ f1.toInt - 3 ≤ 0 ∧ -f1.toInt + f.toInt ≤ 0 ∧ f.toInt - f1.toInt ≤ 0 ∧ (CT By Nb σ (fLesson By Nb Sp) ∧ ((fLesson By Nb Sp).1 = 0 → KN σ a (fLesson By Nb Sp).2.2.2 (act (fLesson By Nb Sp).2.2.2)))
set_option maxRecDepth 10000 in
set_option maxHeartbeats 4000000 in
theorem c_67x {By : Int → Int} {Nb : Int} {Sp : PS} (σ0 : SG) (hσ0 : WT σ0) (a : Nat) (ha : TG a = 18) (f : Int32) (h_f : (σ0 3)[5]? = some (Value.int f)) (sg : Int32) (h_sg : (σ0 a)[1]? = some (Value.int sg)) (hp0 : -sg.toInt ≤ 0) (hC : CT By Nb σ0 Sp) (hg : Sp.1 = 0) (hP : PLA a) (hX : FXP σ0 a) (hK : KN σ0 a Sp.2.2.2 (act Sp.2.2.2)) : En 6 136 none mr_67 (P_67x σ0 By Nb Sp a f sg) 0 [(0, .ref 3), (1, .ref a)] [] σ0 := by
  obtain ⟨hl_f, hu_f⟩ := WT_int hσ0 (g := 3) (by decide +kernel) (by decide +kernel) (l := 0) (u := 3) (by decide +kernel) h_f
  obtain ⟨hl_sg, hu_sg⟩ := WT_int hσ0 (g := 18) ha (by decide +kernel) (l := (-1)) (u := 4) (by decide +kernel) h_sg
  have hF0 : Fr [(3, 1), (3, 2), (3, 3), (3, 4), (3, 5), (3, 6), (20, 2), (21, 0), (22, 0)] σ0 σ0 := Fr_rfl
  have h1 := CT_k hC h_f
  obtain ⟨z3, h2, h4, h5⟩ := WT_peekI hσ0 ha (by decide +kernel : FT 18 3 = (0, 0, 4)) (by decide +kernel)
  have h6 : Sp.2.2.2 2 = z3.toInt := KN_v hK (Or.inl (by decide)) (by decide) (by decide) (by rw [lcO_lt (by decide) (by decide), Nat.add_zero]) rfl h2
  refine En_Ps 1 (pc' := 1) (lv' := [(0, .ref 3), (1, .ref a)]) (st' := [.ref 3]) rfl ?_
  obtain ⟨z8, h7, h9, h10⟩ := WT_peekI hσ0 tgz_3 (by decide +kernel : FT 3 3 = (0, 0, 1600)) (by decide +kernel)
  refine En_callV rfl rfl rfl rfl rfl rfl rfl rfl tgz_3 (by decide +kernel) rfl (c_72x σ0 hσ0 z8 h7 hC.1 (CT_at hC (by (first | exact q_d2dcd30e56 hg | omega)) h7)) (by decide) (by decide) (fun v12 σ13 h11 => ?_)
  obtain ⟨h14, h15, rfl, h16⟩ := h11
  have h17 := h16
  have h18 := Fr_trans hF0 h15 (by decide +kernel)
  obtain ⟨S19, h20⟩ : ∃ q : PS, q = adv By Nb Sp := ⟨_, rfl⟩
  have h21 : CT By Nb σ13 S19 := by rw [h20]; exact (CT_adv hC (by (first | exact q_d2dcd30e56 hg | omega)) h7 h15 (by decide +kernel) h17.2)
  have h22 := CT_k h21 ((h15 _ _ (inW tgz_3 (by decide +kernel))).trans h_f)
  have h23 : S19.2.2.2 = Sp.2.2.2 := by rw [h20]; exact adv_w
  have h24 : S19.1 = Sp.1 := by rw [h20]; exact adv_1
  have h25 := KN_fr hP hK h15 (by decide +kernel)
  have h26 : S19.2.2.2 = Sp.2.2.2 := h23.trans (rfl : Sp.2.2.2 = Sp.2.2.2)
  have o27 : OUT σ0 σ13 a := OUT_fr OUT_0 h15 (by decide +kernel)
  refine En_Ps 3 (pc' := 7) (lv' := [(0, .ref 3), (1, .ref a)]) (st' := [.ref a, .int ((Int32.ofInt 0)), .ref 3]) rfl ?_
  refine En_getK (j := 3) ((h15 _ _ (inW ha (by decide +kernel))).trans h2) rfl rfl rfl ha (by decide +kernel) ?_
  refine En_Ps 2 (pc' := 12) (lv' := [(0, .ref 3), (1, .ref a)]) (st' := [.int ((z3 - ((Int32.ofInt 1)))), .int ((Int32.ofInt 0)), .ref 3]) rfl ?_
  refine En_top (subI rfl (by decide : (Int32.ofInt 1).toInt = 1) (by first | exact q_93f9478bef h4 | omega) (by first | exact q_cc3cee8591 h5 | omega)) (fun z28 h29 => ?_)
  have := (by decide : ((Int32.ofInt 0)).toInt = 0)
  refine En_callV rfl rfl rfl rfl rfl rfl rfl rfl tgz_3 (by decide +kernel) rfl (c_58x σ13 h14 ((Int32.ofInt 0)) z28 f ((h15 _ _ (inW tgz_3 (by decide +kernel))).trans h_f) h21) (by decide) (by decide) (fun v31 σ32 h30 => ?_)
  obtain ⟨h33, h34, z36, h37, z38, rfl, h35⟩ := h30
  have h39 := h35.2.2.2.2.2.2.2.2.2
  have h40 := Fr_trans h18 h34 (by decide +kernel)
  have h41 : nH By Nb ((Int32.ofInt 0)).toInt z28.toInt S19 = nH By Nb (0) (Sp.2.2.2 2 - 1) S19 := nH_cg2 (fun zz => by (first | exact q_d2dcd30e56 this | omega)) (fun zz => by (first | exact q_171d7b85d9 h29 h6 | omega))
  obtain ⟨S42, h43⟩ : ∃ q : PS, q = nH By Nb (0) (Sp.2.2.2 2 - 1) S19 := ⟨_, rfl⟩
  have h44 : CT By Nb σ32 S42 := by rw [h43]; exact (CT_eq h39.1 h41)
  have h45 := CT_k h44 h37
  have h46 : Imp (S42.1 = 0) (z38.toInt = tV By Nb S19.2.2.1) := fun z => Imp_m h39.2 (by rw [h41, ← h43]; exact z)
  have h47 : Imp (S42.1 = 0) (S19.1 = 0 ∧ tK By Nb S19.2.2.1 = 2 ∧ 0 ≤ tV By Nb S19.2.2.1 ∧ tV By Nb S19.2.2.1 ≤ Sp.2.2.2 2 - 1) := fun z => nH_gg (by rw [← h43]; exact z)
  have h48 : S42.2.2.2 = S19.2.2.2 := by rw [h43]; exact nH_w
  have h49 := KN_fr hP h25 h34 (by decide +kernel)
  have h50 : S42.2.2.2 = Sp.2.2.2 := h48.trans h26
  have o51 : OUT σ0 σ32 a := OUT_fr o27 h34 (by decide +kernel)
  have h52 := Imp_m h35.2.2.2.2.2.2.2.1 (by first | exact q_7d8964ea46 h29 h4 | omega)
  have h53 := Imp_m h35.2.2.2.2.2.2.2.2.1 (by (first | exact q_83da3d7e14 this | omega))
  refine En_Ps 2 (pc' := 17) (lv' := [(2, .int z38), (0, .ref 3), (1, .ref a)]) (st' := [.ref 3]) rfl ?_
  refine En_getK (j := 5) h37 rfl rfl rfl tgz_3 (by decide +kernel) ?_
  refine En_iEq _ rfl rfl (fun h54 => ?_) (fun h54 => ?_)
  · have h55 := Imp_m h35.2.2.2.2.2.1 (by first | exact q_c5d285f1b9 h54 | omega)
    try have h56 := Imp_m h47 (by (first | exact q_ca23768860 h45 h54 | omega))
    try have h57 := Imp_m h46 (by (first | exact q_ca23768860 h45 h54 | omega))
    refine En_Ps 1 (pc' := 25) (lv' := [(2, .int z38), (0, .ref 3), (1, .ref a)]) (st' := [.ref a]) rfl ?_
    refine En_getR (j := 4) (g' := 19) (u := 0) rfl rfl rfl ha (by decide +kernel) h33 (by decide +kernel) (fun a59 h58 ha59 => ?_)
    refine En_Ps 1 (pc' := 29) (lv' := [(2, .int z38), (0, .ref 3), (1, .ref a)]) (st' := [.int z38, .ref a59]) rfl ?_
    refine En_aald (g' := 28) (u := 0) rfl rfl ha59 (by decide +kernel) h33 (by (first | exact q_39e281d0cf h55.1 this | omega)) (lnI (by decide +kernel : LN _ = 4) (by first | exact q_9af1b6be4e h52 h29 h5 | omega)) (FTsgl (by decide +kernel)) (fun a61 h60 ha61 => ?_)
    have h62 := DRc (d := z38.toInt) (FXP_fr hP hX h40 (by decide +kernel)) h58 h60 (by (first | exact q_39e281d0cf h55.1 this | omega)) (by (first | exact q_8a99f2014a h55.2 h29 h5 | omega))
    have h63 := lc_d (d := z38.toInt) (by (first | exact q_39e281d0cf h55.1 this | omega)) (by (first | exact q_8a99f2014a h55.2 h29 h5 | omega))
    refine En_getR (j := 0) (g' := 20) (u := 0) rfl rfl rfl ha61 (by decide +kernel) h33 (by decide +kernel) (fun a65 h64 ha65 => ?_)
    have h66 := DLc (d := z38.toInt) (FXP_fr hP hX h40 (by decide +kernel)) h62 h64 (by (first | exact q_39e281d0cf h55.1 this | omega)) (by (first | exact q_8a99f2014a h55.2 h29 h5 | omega))
    refine En_Ps 2 (pc' := 35) (lv' := [(3, .ref a65), (2, .int z38), (0, .ref 3), (1, .ref a)]) (st' := [.ref a65]) rfl ?_
    refine En_getI (j := 2) (l := 0) (u := 13) rfl rfl rfl ha65 (by decide +kernel) h33 (by decide +kernel) (fun z68 h67 h69 h70 => ?_)
    have h71 : Sp.2.2.2 (12 + 4 * z38.toInt) = z68.toInt := KN_v h49 (Or.inr (Or.inl ⟨by (first | exact q_ecf21fb053 h55.1 this | omega), by (first | exact q_c35d78ba61 h55.2 h29 h5 | omega), by omega⟩)) (by (first | exact q_a2d6595a78 h53 | omega)) (by (first | exact q_f150f69272 h55.2 h29 h5 | omega)) (by omega) (by (first | exact q_c4326de684 h63.2.2.2.2.2.2.1 | omega)) h67
    have h72 : z38.toInt = (tV By Nb S19.2.2.1) := by (first | exact q_b1495600e7 h57 | omega)
    rw [h72] at h71
    refine En_Ps 1 (pc' := 40) (lv' := [(3, .ref a65), (2, .int z38), (0, .ref 3), (1, .ref a)]) (st' := [.int (((Int8.ofInt 12).toInt32)), .int z68]) rfl ?_
    refine En_icLt _ rfl (by decide : ((Int8.ofInt 12).toInt32).toInt = 12) rfl (fun h73 => ?_) (fun h73 => ?_)
    · refine En_Ps 1 (pc' := 50) (lv' := [(3, .ref a65), (2, .int z38), (0, .ref 3), (1, .ref a)]) (st' := [.ref 3]) rfl ?_
      obtain ⟨z75, h74, h76, h77⟩ := WT_peekI h33 tgz_3 (by decide +kernel : FT 3 3 = (0, 0, 1600)) (by decide +kernel)
      refine En_callV rfl rfl rfl rfl rfl rfl rfl rfl tgz_3 (by decide +kernel) rfl (c_72x σ32 h33 z75 h74 h44.1 (CT_at h44 (by (first | exact q_ca23768860 h45 h54 | omega)) h74)) (by decide) (by decide) (fun v79 σ80 h78 => ?_)
      obtain ⟨h81, h82, rfl, h83⟩ := h78
      have h84 := h83
      have h85 := Fr_trans h40 h82 (by decide +kernel)
      obtain ⟨S86, h87⟩ : ∃ q : PS, q = adv By Nb S42 := ⟨_, rfl⟩
      have h88 : CT By Nb σ80 S86 := by rw [h87]; exact (CT_adv h44 (by (first | exact q_ca23768860 h45 h54 | omega)) h74 h82 (by decide +kernel) h84.2)
      have h89 := CT_k h88 ((h82 _ _ (inW tgz_3 (by decide +kernel))).trans h37)
      have h90 : S86.2.2.2 = S42.2.2.2 := by rw [h87]; exact adv_w
      have h91 : S86.1 = S42.1 := by rw [h87]; exact adv_1
      have h92 := KN_fr hP h49 h82 (by decide +kernel)
      have h93 : S86.2.2.2 = Sp.2.2.2 := h90.trans h50
      have o94 : OUT σ0 σ80 a := OUT_fr o51 h82 (by decide +kernel)
      refine En_Ps 3 (pc' := 56) (lv' := [(3, .ref a65), (2, .int z38), (0, .ref 3), (1, .ref a)]) (st' := [.ref a65, .ref a, .ref 3]) rfl ?_
      refine En_callV rfl rfl rfl rfl rfl rfl rfl rfl tgz_3 (by decide +kernel) rfl (c_69x σ80 h81 a ha a65 ha65 z36 ((h82 _ _ (inW tgz_3 (by decide +kernel))).trans h37) sg ((h82 _ _ (inW ha (by decide +kernel))).trans ((h34 _ _ (inW ha (by decide +kernel))).trans ((h15 _ _ (inW ha (by decide +kernel))).trans h_sg))) (by first | exact q_a555021d16 hp0 | omega) h88 (by (first | exact q_ca23768860 h89 h54 | omega)) hP (FXP_fr hP hX h85 (by decide +kernel)) (by rw [h93]; exact h92) (show LSN σ80 a a65 S86.2.2.2 (26 + 24 * (tV By Nb S19.2.2.1) + 2 * Sp.2.2.2 (12 + 4 * (tV By Nb S19.2.2.1))) (12 + 4 * (tV By Nb S19.2.2.1)) from by rw [h93]; exact LSN_d (FXP_fr hP hX h85 (by decide +kernel)) (by (first | exact q_58e6e51dcc h56.2.2.1 | omega)) (by (first | exact q_2897cdfcec h56.2.2.2 h6 h5 | omega)) (by (first | exact q_c52d4e6d1e h56.2.2.2 | omega)) (by rw [← h72]; exact h66) rfl (by (first | exact q_2d21ab1e6c h71 h69 | omega)) (by (first | exact q_8b161d605d h71 h73 | omega)))) (by decide) (by decide) (fun v96 σ97 h95 => ?_)
      obtain ⟨h98, h99, z101, h102, rfl, h100⟩ := h95
      have h103 := h100.2.2.2.2.2
      have h104 := Fr_trans h85 h99 (by decide +kernel)
      obtain ⟨S105, h106⟩ : ∃ q : PS, q = fSaid By Nb (26 + 24 * (tV By Nb S19.2.2.1) + 2 * Sp.2.2.2 (12 + 4 * (tV By Nb S19.2.2.1))) (12 + 4 * (tV By Nb S19.2.2.1)) S86 := ⟨_, rfl⟩
      have h107 : CT By Nb σ97 S105 := by rw [h106]; exact h103.1
      have h108 := CT_k h107 h102
      have o109 : OUT σ0 σ97 a := OUT_tr o94 h100.1
      have h110 : fLesson By Nb Sp = S105 := by unfold fLesson; (try dsimp only); first | (rw [← h20, ← h43, ← h87, ← h106]; first | done | rfl) | (rw [← h20, ← h43, ← h87, ← h106]; rw [if_pos (by omega)]; first | done | rfl) | (rw [← h20, ← h43, ← h87, ← h106]; rw [if_neg (by (first | exact q_09c22b40fa h54 h45 | omega))]; first | done | rfl) | (rw [← h20, ← h43, ← h87, ← h106]; rw [if_neg (by (first | exact q_09c22b40fa h54 h45 | omega)), if_pos (by omega)]; first | done | rfl) | (rw [← h20, ← h43, ← h87, ← h106]; rw [if_neg (by (first | exact q_09c22b40fa h54 h45 | omega)), if_neg (by (first | exact q_babe5b57fd h71 h73 | omega))]; first | done | rfl) | (rw [← h20, ← h43, ← h87, ← h106]; rw [if_neg (by omega), if_neg (by omega), if_neg (by omega)]; first | done | rfl)
      exact En_ret (v := none) rfl rfl rfl ⟨h98, h104, z101, h102, rfl, ⟨o109, by first | exact q_a555021d16 h100.2.1 | omega, by first | exact q_c733b715bf h100.2.2.1 | omega, by first | exact q_ccc3bb8fc9 h35.2.2.2.1 h100.2.2.2.1 | omega, by first | exact q_28bfca2c13 h35.2.2.2.1 h100.2.2.2.1 | omega, (by rw [h110]; exact ⟨h107, fun zz => by exact (by rw [h106] at zz ⊢; exact KN_les (d := (tV By Nb S19.2.2.1)) zz (h103.2 zz) (by (first | exact q_58e6e51dcc h56.2.2.1 | omega)) (by (first | exact q_2897cdfcec h56.2.2.2 h6 h5 | omega)) rfl rfl (by rw [h93]) (by (first | exact q_2d21ab1e6c h71 h69 | omega)))⟩)⟩⟩
    · refine En_Ps 2 (pc' := 45) (lv' := [(3, .ref a65), (2, .int z38), (0, .ref 3), (1, .ref a)]) (st' := [.int ((Int32.ofInt 3)), .ref 3]) rfl ?_
      have := (by decide : ((Int32.ofInt 3)).toInt = 3)
      refine En_callV rfl rfl rfl rfl rfl rfl rfl rfl tgz_3 (by decide +kernel) rfl (c_54x σ32 h33 ((Int32.ofInt 3)) (geI (by decide : (Int32.ofInt 3).toInt = 3) (by decide)) (leI (by decide : (Int32.ofInt 3).toInt = 3) (by decide)) z36 h37 h44) (by decide) (by decide) (fun v112 σ113 h111 => ?_)
      obtain ⟨h114, h115, z117, h118, rfl, h116⟩ := h111
      have h119 := h116.2.2.2.2.2
      have h120 := Fr_trans h40 h115 (by decide +kernel)
      obtain ⟨S121, h122⟩ : ∃ q : PS, q = err By Nb 3 S42 := ⟨_, rfl⟩
      have h123 : CT By Nb σ113 S121 := by rw [h122]; exact (CT_eq h119 (err_cg (by (first | exact q_5736040b52 this | omega))))
      have h124 := CT_k h123 h118
      have h125 : S121.2.2.2 = S42.2.2.2 := by rw [h122]; exact err_w
      have h126 := KN_fr hP h49 h115 (by decide +kernel)
      have h127 : S121.2.2.2 = Sp.2.2.2 := h125.trans h50
      have o128 : OUT σ0 σ113 a := OUT_fr o51 h115 (by decide +kernel)
      have h129 := Imp_m h116.2.2.2.1 (by first | exact q_c5d285f1b9 h54 | omega)
      have h130 : fLesson By Nb Sp = S121 := by unfold fLesson; (try dsimp only); first | (rw [← h20, ← h43, ← h122]; first | done | rfl) | (rw [← h20, ← h43, ← h122]; rw [if_pos (by omega)]; first | done | rfl) | (rw [← h20, ← h43, ← h122]; rw [if_neg (by (first | exact q_4bf99f1336 h45 h54 | omega))]; first | done | rfl) | (rw [← h20, ← h43, ← h122]; rw [if_neg (by (first | exact q_4bf99f1336 h45 h54 | omega)), if_pos (by (first | exact q_1e1a7f2189 h71 h73 | omega))]; first | done | rfl) | (rw [← h20, ← h43, ← h122]; rw [if_neg (by omega), if_neg (by omega)]; first | done | rfl) | (rw [← h20, ← h43, ← h122]; rw [if_neg (by omega), if_neg (by omega), if_neg (by omega)]; first | done | rfl)
      exact En_ret (v := none) rfl rfl rfl ⟨h114, h120, z117, h118, rfl, ⟨o128, by first | exact q_1a6ee862c1 h116.1 | omega, by first | exact q_c733b715bf h116.2.1 | omega, by first | exact q_ccc3bb8fc9 h35.2.2.2.1 h116.2.2.1 | omega, by first | exact q_28bfca2c13 h35.2.2.2.1 h116.2.2.1 | omega, (by rw [h130]; exact ⟨h123, fun z => absurd z (by (first | exact q_1fb833d7b3 z h124 h129.2 this | omega))⟩)⟩⟩
  · have h131 := Imp_m h35.2.2.2.2.2.2.1 (by first | exact q_e3350da514 h54 h35.2.1 | omega)
    have h132 : fLesson By Nb Sp = S42 := by unfold fLesson; (try dsimp only); first | (rw [← h20, ← h43]; first | done | rfl) | (rw [← h20, ← h43]; rw [if_pos (by (first | exact q_f23c6e8e00 h54 h35.2.1 h45 | omega))]; first | done | rfl) | (rw [← h20, ← h43]; rw [if_neg (by omega)]; first | done | rfl) | (rw [← h20, ← h43]; rw [if_neg (by omega), if_pos (by omega)]; first | done | rfl) | (rw [← h20, ← h43]; rw [if_neg (by omega), if_neg (by omega)]; first | done | rfl) | (rw [← h20, ← h43]; rw [if_neg (by omega), if_neg (by omega), if_neg (by omega)]; first | done | rfl)
    exact En_ret (v := none) rfl rfl rfl ⟨h33, h40, z36, h37, rfl, ⟨o51, by first | exact q_bc42505ae9 h54 h35.2.1 | omega, by first | exact q_c733b715bf h35.2.2.1 | omega, by first | exact q_d22b102a8e h35.2.2.2.1 | omega, by first | exact q_83f4b1e050 h35.2.2.2.1 | omega, (by rw [h132]; exact ⟨h44, fun z => absurd z (by (first | exact q_ae2d14d533 h54 h35.2.1 h45 z | omega))⟩)⟩⟩
/-- DoorSchool$Reader.readExam(LDoorSchool$Plan;)V -/
abbrev P_64x (σ0 : SG) (By : Int → Int) (Nb : Int) (Sp : PS) (a : Nat) (f : Int32) (sg : Int32) : PO := fun v σ => WT σ ∧ Fr [(3, 1), (3, 2), (3, 3), (3, 4), (3, 5), (3, 6), (20, 2), (21, 0), (22, 0)] σ0 σ ∧ ∃ f1 : Int32, (σ 3)[5]? = some (Value.int f1) ∧ v = none ∧ OUT σ0 σ a ∧ -f1.toInt ≤ 0 ∧ f1.toInt - 3 ≤ 0 ∧ -f1.toInt + f.toInt ≤ 0 ∧ f.toInt - f1.toInt ≤ 0 ∧ (CT By Nb σ (fExam By Nb Sp) ∧ ((fExam By Nb Sp).1 = 0 → KN σ a (fExam By Nb Sp).2.2.2 (act (fExam By Nb Sp).2.2.2)))
set_option maxRecDepth 10000 in
set_option maxHeartbeats 4000000 in
theorem c_64x {By : Int → Int} {Nb : Int} {Sp : PS} (σ0 : SG) (hσ0 : WT σ0) (a : Nat) (ha : TG a = 18) (f : Int32) (h_f : (σ0 3)[5]? = some (Value.int f)) (sg : Int32) (h_sg : (σ0 a)[1]? = some (Value.int sg)) (hp0 : -sg.toInt ≤ 0) (hC : CT By Nb σ0 Sp) (hg : Sp.1 = 0) (hP : PLA a) (hX : FXP σ0 a) (hK : KN σ0 a Sp.2.2.2 (act Sp.2.2.2)) : En 6 136 none mr_64 (P_64x σ0 By Nb Sp a f sg) 0 [(0, .ref 3), (1, .ref a)] [] σ0 := by
  obtain ⟨hl_f, hu_f⟩ := WT_int hσ0 (g := 3) (by decide +kernel) (by decide +kernel) (l := 0) (u := 3) (by decide +kernel) h_f
  obtain ⟨hl_sg, hu_sg⟩ := WT_int hσ0 (g := 18) ha (by decide +kernel) (l := (-1)) (u := 4) (by decide +kernel) h_sg
  have hF0 : Fr [(3, 1), (3, 2), (3, 3), (3, 4), (3, 5), (3, 6), (20, 2), (21, 0), (22, 0)] σ0 σ0 := Fr_rfl
  have h1 := CT_k hC h_f
  refine En_Ps 1 (pc' := 1) (lv' := [(0, .ref 3), (1, .ref a)]) (st' := [.ref a]) rfl ?_
  refine En_getR (j := 5) (g' := 20) (u := 0) rfl rfl rfl ha (by decide +kernel) hσ0 (by decide +kernel) (fun a3 h2 ha3 => ?_)
  refine En_getI (j := 2) (l := 0) (u := 13) rfl rfl rfl ha3 (by decide +kernel) hσ0 (by decide +kernel) (fun z5 h4 h6 h7 => ?_)
  have h8 : a3 = a + 2 := ref_uniq h2 hX.2.1
  have h9 : Sp.2.2.2 3 = z5.toInt := KN_v hK (Or.inl (by decide)) (by decide) (by decide) (by rw [lcO_3]; exact h8) (by decide) h4
  refine En_Ps 1 (pc' := 9) (lv' := [(0, .ref 3), (1, .ref a)]) (st' := [.int (((Int8.ofInt 12).toInt32)), .int z5]) rfl ?_
  refine En_icLt _ rfl (by decide : ((Int8.ofInt 12).toInt32).toInt = 12) rfl (fun h10 => ?_) (fun h10 => ?_)
  · refine En_Ps 1 (pc' := 19) (lv' := [(0, .ref 3), (1, .ref a)]) (st' := [.ref 3]) rfl ?_
    obtain ⟨z12, h11, h13, h14⟩ := WT_peekI hσ0 tgz_3 (by decide +kernel : FT 3 3 = (0, 0, 1600)) (by decide +kernel)
    refine En_callV rfl rfl rfl rfl rfl rfl rfl rfl tgz_3 (by decide +kernel) rfl (c_72x σ0 hσ0 z12 h11 hC.1 (CT_at hC (by (first | exact q_d2dcd30e56 hg | omega)) h11)) (by decide) (by decide) (fun v16 σ17 h15 => ?_)
    obtain ⟨h18, h19, rfl, h20⟩ := h15
    have h21 := h20
    have h22 := Fr_trans hF0 h19 (by decide +kernel)
    obtain ⟨S23, h24⟩ : ∃ q : PS, q = adv By Nb Sp := ⟨_, rfl⟩
    have h25 : CT By Nb σ17 S23 := by rw [h24]; exact (CT_adv hC (by (first | exact q_d2dcd30e56 hg | omega)) h11 h19 (by decide +kernel) h21.2)
    have h26 := CT_k h25 ((h19 _ _ (inW tgz_3 (by decide +kernel))).trans h_f)
    have h27 : S23.2.2.2 = Sp.2.2.2 := by rw [h24]; exact adv_w
    have h28 : S23.1 = Sp.1 := by rw [h24]; exact adv_1
    have h29 := KN_fr hP hK h19 (by decide +kernel)
    have h30 : S23.2.2.2 = Sp.2.2.2 := h27.trans (rfl : Sp.2.2.2 = Sp.2.2.2)
    have o31 : OUT σ0 σ17 a := OUT_fr OUT_0 h19 (by decide +kernel)
    refine En_Ps 3 (pc' := 25) (lv' := [(0, .ref 3), (1, .ref a)]) (st' := [.ref a, .ref a, .ref 3]) rfl ?_
    refine En_getK (j := 5) ((h19 _ _ (inW ha (by decide +kernel))).trans h2) rfl rfl rfl ha (by decide +kernel) ?_
    refine En_callV rfl rfl rfl rfl rfl rfl rfl rfl tgz_3 (by decide +kernel) rfl (c_69x σ17 h18 a ha a3 ha3 f ((h19 _ _ (inW tgz_3 (by decide +kernel))).trans h_f) sg ((h19 _ _ (inW ha (by decide +kernel))).trans h_sg) (by first | exact q_a555021d16 hp0 | omega) h25 (by (first | exact q_e3c834491b h26 hl_f h28 hg | omega)) hP (FXP_fr hP hX h22 (by decide +kernel)) (by rw [h30]; exact h29) (show LSN σ17 a a3 S23.2.2.2 (122 + 2 * Sp.2.2.2 3) 3 from by rw [h30]; exact LSN_e (FXP_fr hP hX h22 (by decide +kernel)) h8 rfl (by (first | exact q_2d21ab1e6c h9 h6 | omega)) (by (first | exact q_8b161d605d h9 h10 | omega)))) (by decide) (by decide) (fun v33 σ34 h32 => ?_)
    obtain ⟨h35, h36, z38, h39, rfl, h37⟩ := h32
    have h40 := h37.2.2.2.2.2
    have h41 := Fr_trans h22 h36 (by decide +kernel)
    obtain ⟨S42, h43⟩ : ∃ q : PS, q = fSaid By Nb (122 + 2 * Sp.2.2.2 3) (3) S23 := ⟨_, rfl⟩
    have h44 : CT By Nb σ34 S42 := by rw [h43]; exact h40.1
    have h45 := CT_k h44 h39
    have o46 : OUT σ0 σ34 a := OUT_tr o31 h37.1
    have h47 : fExam By Nb Sp = S42 := by unfold fExam; (try dsimp only); first | (rw [← h24, ← h43]; first | done | rfl) | (rw [← h24, ← h43]; rw [if_pos (by omega)]; first | done | rfl) | (rw [← h24, ← h43]; rw [if_neg (by (first | exact q_babe5b57fd h9 h10 | omega))]; first | done | rfl) | (rw [← h24, ← h43]; rw [if_neg (by omega), if_pos (by omega)]; first | done | rfl) | (rw [← h24, ← h43]; rw [if_neg (by omega), if_neg (by omega)]; first | done | rfl) | (rw [← h24, ← h43]; rw [if_neg (by omega), if_neg (by omega), if_neg (by omega)]; first | done | rfl)
    exact En_ret (v := none) rfl rfl rfl ⟨h35, h41, z38, h39, rfl, ⟨o46, by first | exact q_a555021d16 h37.2.1 | omega, by first | exact q_c733b715bf h37.2.2.1 | omega, by first | exact q_d22b102a8e h37.2.2.2.1 | omega, by first | exact q_83f4b1e050 h37.2.2.2.1 | omega, (by rw [h47]; exact ⟨h44, fun zz => by exact (by rw [h43] at zz ⊢; exact KN_exm zz (h40.2 zz) rfl (by rw [h30]) (by (first | exact q_2d21ab1e6c h9 h6 | omega)))⟩)⟩⟩
  · refine En_Ps 2 (pc' := 14) (lv' := [(0, .ref 3), (1, .ref a)]) (st' := [.int ((Int32.ofInt 3)), .ref 3]) rfl ?_
    have := (by decide : ((Int32.ofInt 3)).toInt = 3)
    refine En_callV rfl rfl rfl rfl rfl rfl rfl rfl tgz_3 (by decide +kernel) rfl (c_54x σ0 hσ0 ((Int32.ofInt 3)) (geI (by decide : (Int32.ofInt 3).toInt = 3) (by decide)) (leI (by decide : (Int32.ofInt 3).toInt = 3) (by decide)) f h_f hC) (by decide) (by decide) (fun v49 σ50 h48 => ?_)
    obtain ⟨h51, h52, z54, h55, rfl, h53⟩ := h48
    have h56 := h53.2.2.2.2.2
    have h57 := Fr_trans hF0 h52 (by decide +kernel)
    obtain ⟨S58, h59⟩ : ∃ q : PS, q = err By Nb 3 Sp := ⟨_, rfl⟩
    have h60 : CT By Nb σ50 S58 := by rw [h59]; exact (CT_eq h56 (err_cg (by (first | exact q_5736040b52 this | omega))))
    have h61 := CT_k h60 h55
    have h62 : S58.2.2.2 = Sp.2.2.2 := by rw [h59]; exact err_w
    have h63 := KN_fr hP hK h52 (by decide +kernel)
    have h64 : S58.2.2.2 = Sp.2.2.2 := h62.trans (rfl : Sp.2.2.2 = Sp.2.2.2)
    have o65 : OUT σ0 σ50 a := OUT_fr OUT_0 h52 (by decide +kernel)
    have h66 : fExam By Nb Sp = S58 := by unfold fExam; (try dsimp only); first | (rw [← h59]; first | done | rfl) | (rw [← h59]; rw [if_pos (by (first | exact q_1e1a7f2189 h9 h10 | omega))]; first | done | rfl) | (rw [← h59]; rw [if_neg (by omega)]; first | done | rfl) | (rw [← h59]; rw [if_neg (by omega), if_pos (by omega)]; first | done | rfl) | (rw [← h59]; rw [if_neg (by omega), if_neg (by omega)]; first | done | rfl) | (rw [← h59]; rw [if_neg (by omega), if_neg (by omega), if_neg (by omega)]; first | done | rfl)
    exact En_ret (v := none) rfl rfl rfl ⟨h51, h57, z54, h55, rfl, ⟨o65, by first | exact q_1a6ee862c1 h53.1 | omega, by first | exact q_c733b715bf h53.2.1 | omega, by first | exact q_d22b102a8e h53.2.2.1 | omega, by first | exact q_83f4b1e050 h53.2.2.1 | omega, (by rw [h66]; exact ⟨h60, fun z => absurd z (by (first | exact q_78d9c54eee z h61 h53.1 | omega))⟩)⟩⟩
end
/-! 32.n04 -/
section
/-- DoorSchool$Reader.readTwin(LDoorSchool$Plan;)V -/
abbrev P_70x (σ0 : SG) (By : Int → Int) (Nb : Int) (Sp : PS) (a : Nat) (f : Int32) (sg : Int32) : PO := fun v σ => WT σ ∧ Fr [(3, 1), (3, 2), (3, 3), (3, 4), (3, 5), (3, 6), (28, 3)] σ0 σ ∧ ∃ f1 : Int32, (σ 3)[5]? = some (Value.int f1) ∧ v = none ∧ OUT σ0 σ a ∧ -f1.toInt ≤ 0 ∧ f1.toInt - 3 ≤ 0 ∧ -f1.toInt + f.toInt ≤ 0 ∧ f.toInt - f1.toInt ≤ 0 ∧ (CT By Nb σ (fTwin By Nb Sp) ∧ ((fTwin By Nb Sp).1 = 0 → KN σ a (fTwin By Nb Sp).2.2.2 (act (fTwin By Nb Sp).2.2.2)))
set_option maxRecDepth 10000 in
set_option maxHeartbeats 4000000 in
theorem c_70x {By : Int → Int} {Nb : Int} {Sp : PS} (σ0 : SG) (hσ0 : WT σ0) (a : Nat) (ha : TG a = 18) (f : Int32) (h_f : (σ0 3)[5]? = some (Value.int f)) (sg : Int32) (h_sg : (σ0 a)[1]? = some (Value.int sg)) (hp0 : -sg.toInt ≤ 0) (hC : CT By Nb σ0 Sp) (hg : Sp.1 = 0) (hP : PLA a) (hX : FXP σ0 a) (hK : KN σ0 a Sp.2.2.2 (act Sp.2.2.2)) : En 2 43 none mr_70 (P_70x σ0 By Nb Sp a f sg) 0 [(0, .ref 3), (1, .ref a)] [] σ0 := by
  obtain ⟨hl_f, hu_f⟩ := WT_int hσ0 (g := 3) (by decide +kernel) (by decide +kernel) (l := 0) (u := 3) (by decide +kernel) h_f
  obtain ⟨hl_sg, hu_sg⟩ := WT_int hσ0 (g := 18) ha (by decide +kernel) (l := (-1)) (u := 4) (by decide +kernel) h_sg
  have hF0 : Fr [(3, 1), (3, 2), (3, 3), (3, 4), (3, 5), (3, 6), (28, 3)] σ0 σ0 := Fr_rfl
  have h1 := CT_k hC h_f
  obtain ⟨z3, h2, h4, h5⟩ := WT_peekI hσ0 ha (by decide +kernel : FT 18 3 = (0, 0, 4)) (by decide +kernel)
  have h6 : Sp.2.2.2 2 = z3.toInt := KN_v hK (Or.inl (by decide)) (by decide) (by decide) (by rw [lcO_lt (by decide) (by decide), Nat.add_zero]) rfl h2
  refine En_Ps 1 (pc' := 1) (lv' := [(0, .ref 3), (1, .ref a)]) (st' := [.ref 3]) rfl ?_
  obtain ⟨z8, h7, h9, h10⟩ := WT_peekI hσ0 tgz_3 (by decide +kernel : FT 3 3 = (0, 0, 1600)) (by decide +kernel)
  refine En_callV rfl rfl rfl rfl rfl rfl rfl rfl tgz_3 (by decide +kernel) rfl (c_72x σ0 hσ0 z8 h7 hC.1 (CT_at hC (by (first | exact q_d2dcd30e56 hg | omega)) h7)) (by decide) (by decide) (fun v12 σ13 h11 => ?_)
  obtain ⟨h14, h15, rfl, h16⟩ := h11
  have h17 := h16
  have h18 := Fr_trans hF0 h15 (by decide +kernel)
  obtain ⟨S19, h20⟩ : ∃ q : PS, q = adv By Nb Sp := ⟨_, rfl⟩
  have h21 : CT By Nb σ13 S19 := by rw [h20]; exact (CT_adv hC (by (first | exact q_d2dcd30e56 hg | omega)) h7 h15 (by decide +kernel) h17.2)
  have h22 := CT_k h21 ((h15 _ _ (inW tgz_3 (by decide +kernel))).trans h_f)
  have h23 : S19.2.2.2 = Sp.2.2.2 := by rw [h20]; exact adv_w
  have h24 : S19.1 = Sp.1 := by rw [h20]; exact adv_1
  have h25 := KN_fr hP hK h15 (by decide +kernel)
  have h26 : S19.2.2.2 = Sp.2.2.2 := h23.trans (rfl : Sp.2.2.2 = Sp.2.2.2)
  have o27 : OUT σ0 σ13 a := OUT_fr OUT_0 h15 (by decide +kernel)
  have h28 : S19.2.2.2 2 = Sp.2.2.2 2 := by rw [h26]
  refine En_Ps 3 (pc' := 7) (lv' := [(0, .ref 3), (1, .ref a)]) (st' := [.ref a, .int ((Int32.ofInt 0)), .ref 3]) rfl ?_
  refine En_getK (j := 3) ((h15 _ _ (inW ha (by decide +kernel))).trans h2) rfl rfl rfl ha (by decide +kernel) ?_
  refine En_Ps 2 (pc' := 12) (lv' := [(0, .ref 3), (1, .ref a)]) (st' := [.int ((z3 - ((Int32.ofInt 1)))), .int ((Int32.ofInt 0)), .ref 3]) rfl ?_
  refine En_top (subI rfl (by decide : (Int32.ofInt 1).toInt = 1) (by first | exact q_93f9478bef h4 | omega) (by first | exact q_cc3cee8591 h5 | omega)) (fun z29 h30 => ?_)
  have := (by decide : ((Int32.ofInt 0)).toInt = 0)
  refine En_callV rfl rfl rfl rfl rfl rfl rfl rfl tgz_3 (by decide +kernel) rfl (c_58x σ13 h14 ((Int32.ofInt 0)) z29 f ((h15 _ _ (inW tgz_3 (by decide +kernel))).trans h_f) h21) (by decide) (by decide) (fun v32 σ33 h31 => ?_)
  obtain ⟨h34, h35, z37, h38, z39, rfl, h36⟩ := h31
  have h40 := h36.2.2.2.2.2.2.2.2.2
  have h41 := Fr_trans h18 h35 (by decide +kernel)
  have h42 : nH By Nb ((Int32.ofInt 0)).toInt z29.toInt S19 = nH By Nb (0) (S19.2.2.2 2 - 1) S19 := nH_cg2 (fun zz => by (first | exact q_d2dcd30e56 this | omega)) (fun zz => by (first | exact q_fc1643fb33 h30 h28 h6 | omega))
  obtain ⟨S43, h44⟩ : ∃ q : PS, q = nH By Nb (0) (S19.2.2.2 2 - 1) S19 := ⟨_, rfl⟩
  have h45 : CT By Nb σ33 S43 := by rw [h44]; exact (CT_eq h40.1 h42)
  have h46 := CT_k h45 h38
  have h47 : Imp (S43.1 = 0) (z39.toInt = tV By Nb S19.2.2.1) := fun z => Imp_m h40.2 (by rw [h42, ← h44]; exact z)
  have h48 : Imp (S43.1 = 0) (S19.1 = 0 ∧ tK By Nb S19.2.2.1 = 2 ∧ 0 ≤ tV By Nb S19.2.2.1 ∧ tV By Nb S19.2.2.1 ≤ S19.2.2.2 2 - 1) := fun z => nH_gg (by rw [← h44]; exact z)
  have h49 : S43.2.2.2 = S19.2.2.2 := by rw [h44]; exact nH_w
  have h50 := KN_fr hP h25 h35 (by decide +kernel)
  have h51 : S43.2.2.2 = Sp.2.2.2 := h49.trans h26
  have o52 : OUT σ0 σ33 a := OUT_fr o27 h35 (by decide +kernel)
  have h53 := Imp_m h36.2.2.2.2.2.2.2.1 (by first | exact q_7d8964ea46 h30 h4 | omega)
  have h54 := Imp_m h36.2.2.2.2.2.2.2.2.1 (by (first | exact q_83da3d7e14 this | omega))
  refine En_Ps 2 (pc' := 17) (lv' := [(2, .int z39), (0, .ref 3), (1, .ref a)]) (st' := [.ref 3]) rfl ?_
  refine En_getK (j := 5) h38 rfl rfl rfl tgz_3 (by decide +kernel) ?_
  refine En_iNe _ rfl rfl (fun h55 => ?_) (fun h55 => ?_)
  · have h56 := Imp_m h36.2.2.2.2.2.2.1 (by first | exact q_e3350da514 h55 h36.2.1 | omega)
    have h57 : tw1 By Nb S19 = S43 := by rw [h44]; exact tw1_n (d := z39.toInt) (fun zz => by rw [← h44] at zz; rw [h26]; exact ⟨by (first | exact q_454ea91654 h55 h36.2.1 h46 zz | omega), by (first | exact q_7531ae8d1a h55 h36.2.1 h46 zz | omega), by (first | exact q_84d73a9aa6 h55 h36.2.1 h46 zz | omega)⟩)
    refine En_Ps 1 (pc' := 50) (lv' := [(2, .int z39), (0, .ref 3), (1, .ref a)]) (st' := [.ref 3]) rfl ?_
    refine En_getK (j := 5) h38 rfl rfl rfl tgz_3 (by decide +kernel) ?_
    refine En_iEq _ rfl rfl (fun hx => by exfalso; have := Imp_m h36.2.2.2.2.2.1 (by (first | exact q_c5d285f1b9 hx | omega)); (first | exact q_d05eb45c8d this.1 h56.1 (by decide) | omega)) (fun h58 => ?_)
    have h59 : fTwin By Nb Sp = S43 := by unfold fTwin; (try dsimp only); first | (rw [← h20, h57]; first | done | rfl) | (rw [← h20, h57]; rw [if_pos (by (first | exact q_f23c6e8e00 h58 h36.2.1 h46 | omega))]; first | done | rfl) | (rw [← h20, h57]; rw [if_neg (by omega)]; first | done | rfl) | (rw [← h20, h57]; rw [if_neg (by omega), if_pos (by omega)]; first | done | rfl) | (rw [← h20, h57]; rw [if_neg (by omega), if_neg (by omega)]; first | done | rfl) | (rw [← h20, h57]; rw [if_neg (by omega), if_neg (by omega), if_neg (by omega)]; first | done | rfl)
    exact En_ret (v := none) rfl rfl rfl ⟨h34, h41, z37, h38, rfl, ⟨o52, by first | exact q_bc42505ae9 h55 h36.2.1 | omega, by first | exact q_c733b715bf h36.2.2.1 | omega, by first | exact q_d22b102a8e h36.2.2.2.1 | omega, by first | exact q_83f4b1e050 h36.2.2.2.1 | omega, (by rw [h59]; exact ⟨h45, fun z => absurd z (by (first | exact q_ae2d14d533 h58 h36.2.1 h46 z | omega))⟩)⟩⟩
  · have h60 := Imp_m h36.2.2.2.2.2.1 (by first | exact q_c5d285f1b9 h55 | omega)
    try have h61 := Imp_m h48 (by (first | exact q_ca23768860 h46 h55 | omega))
    try have h62 := Imp_m h47 (by (first | exact q_ca23768860 h46 h55 | omega))
    refine En_Ps 1 (pc' := 24) (lv' := [(2, .int z39), (0, .ref 3), (1, .ref a)]) (st' := [.ref a]) rfl ?_
    refine En_getR (j := 4) (g' := 19) (u := 0) rfl rfl rfl ha (by decide +kernel) h34 (by decide +kernel) (fun a64 h63 ha64 => ?_)
    refine En_Ps 1 (pc' := 28) (lv' := [(2, .int z39), (0, .ref 3), (1, .ref a)]) (st' := [.int z39, .ref a64]) rfl ?_
    refine En_aald (g' := 28) (u := 0) rfl rfl ha64 (by decide +kernel) h34 (by (first | exact q_39e281d0cf h60.1 this | omega)) (lnI (by decide +kernel : LN _ = 4) (by first | exact q_9af1b6be4e h53 h30 h5 | omega)) (FTsgl (by decide +kernel)) (fun a66 h65 ha66 => ?_)
    have h67 := DRc (d := z39.toInt) (FXP_fr hP hX h41 (by decide +kernel)) h63 h65 (by (first | exact q_39e281d0cf h60.1 this | omega)) (by (first | exact q_8a99f2014a h60.2 h30 h5 | omega))
    have h68 := lc_d (d := z39.toInt) (by (first | exact q_39e281d0cf h60.1 this | omega)) (by (first | exact q_8a99f2014a h60.2 h30 h5 | omega))
    refine En_getI (j := 3) (l := (-1)) (u := 3) rfl rfl rfl ha66 (by decide +kernel) h34 (by decide +kernel) (fun z70 h69 h71 h72 => ?_)
    have h73 : Sp.2.2.2 (13 + 4 * z39.toInt) = z70.toInt := KN_v h50 (Or.inr (Or.inl ⟨by (first | exact q_17f86db6e0 h60.1 this | omega), by (first | exact q_15c75b3d55 h60.2 h30 h5 | omega), by omega⟩)) (by (first | exact q_1bf2135cd7 h54 | omega)) (by (first | exact q_acf046215f h60.2 h30 h5 | omega)) (by omega) (by (first | exact q_67bf5599ba h68.2.2.2.2.2.2.2 | omega)) h69
    refine En_Ps 1 (pc' := 33) (lv' := [(2, .int z39), (0, .ref 3), (1, .ref a)]) (st' := [.int ((Int32.ofInt (-1))), .int z70]) rfl ?_
    refine En_icNe _ rfl (by decide : (Int32.ofInt (-1)).toInt = -1) rfl (fun h74 => ?_) (fun h74 => ?_)
    · refine En_Ps 2 (pc' := 46) (lv' := [(2, .int z39), (0, .ref 3), (1, .ref a)]) (st' := [.int ((Int32.ofInt 2)), .ref 3]) rfl ?_
      have := (by decide : ((Int32.ofInt 2)).toInt = 2)
      refine En_callV rfl rfl rfl rfl rfl rfl rfl rfl tgz_3 (by decide +kernel) rfl (c_54x σ33 h34 ((Int32.ofInt 2)) (geI (by decide : (Int32.ofInt 2).toInt = 2) (by decide)) (leI (by decide : (Int32.ofInt 2).toInt = 2) (by decide)) z37 h38 h45) (by decide) (by decide) (fun v76 σ77 h75 => ?_)
      obtain ⟨h78, h79, z81, h82, rfl, h80⟩ := h75
      have h83 := h80.2.2.2.2.2
      have h84 := Fr_trans h41 h79 (by decide +kernel)
      obtain ⟨S85, h86⟩ : ∃ q : PS, q = err By Nb 2 S43 := ⟨_, rfl⟩
      have h87 : CT By Nb σ77 S85 := by rw [h86]; exact (CT_eq h83 (err_cg (by (first | exact q_bef0c64981 this | omega))))
      have h88 := CT_k h87 h82
      have h89 : S85.2.2.2 = S43.2.2.2 := by rw [h86]; exact err_w
      have h90 := KN_fr hP h50 h79 (by decide +kernel)
      have h91 : S85.2.2.2 = Sp.2.2.2 := h89.trans h51
      have o92 : OUT σ0 σ77 a := OUT_fr o52 h79 (by decide +kernel)
      have h93 := Imp_m h80.2.2.2.1 (by first | exact q_c5d285f1b9 h55 | omega)
      have h94 : tw1 By Nb S19 = S85 := by rw [h86, h44]; exact tw1_p (d := z39.toInt) (by rw [← h44]; (first | exact q_ca23768860 h46 h55 | omega)) (by (first | exact q_b1495600e7 h62 | omega)) (by rw [h26]; (first | exact q_81a7511a22 h74 h71 h73 | omega))
      refine En_Ps 1 (pc' := 50) (lv' := [(2, .int z39), (0, .ref 3), (1, .ref a)]) (st' := [.ref 3]) rfl ?_
      refine En_getK (j := 5) h82 rfl rfl rfl tgz_3 (by decide +kernel) ?_
      refine En_iEq _ rfl rfl (fun hx => by exfalso; have := Imp_m h36.2.2.2.2.2.2.1 (by (first | exact q_f4f2768de0 h80.1 hx | omega)); have := Imp_m h80.2.2.2.2.1 (by (first | exact q_f4f2768de0 h80.1 hx | omega)); (first | exact q_a0b22f2d75 h80.1 hx | omega)) (fun h95 => ?_)
      have h96 : fTwin By Nb Sp = S85 := by unfold fTwin; (try dsimp only); first | (rw [← h20, h94]; first | done | rfl) | (rw [← h20, h94]; rw [if_pos (by (first | exact q_ff7af2fbd3 h88 h93.2 this | omega))]; first | done | rfl) | (rw [← h20, h94]; rw [if_neg (by omega)]; first | done | rfl) | (rw [← h20, h94]; rw [if_neg (by omega), if_pos (by omega)]; first | done | rfl) | (rw [← h20, h94]; rw [if_neg (by omega), if_neg (by omega)]; first | done | rfl) | (rw [← h20, h94]; rw [if_neg (by omega), if_neg (by omega), if_neg (by omega)]; first | done | rfl)
      exact En_ret (v := none) rfl rfl rfl ⟨h78, h84, z81, h82, rfl, ⟨o92, by first | exact q_1a6ee862c1 h80.1 | omega, by first | exact q_c733b715bf h80.2.1 | omega, by first | exact q_ccc3bb8fc9 h36.2.2.2.1 h80.2.2.1 | omega, by first | exact q_28bfca2c13 h36.2.2.2.1 h80.2.2.1 | omega, (by rw [h96]; exact ⟨h87, fun z => absurd z (by (first | exact q_d9c1c0f2d8 z h88 h93.2 this | omega))⟩)⟩⟩
    · refine En_Ps 2 (pc' := 38) (lv' := [(2, .int z39), (0, .ref 3), (1, .ref a)]) (st' := [.int z39, .ref a]) rfl ?_
      refine En_callV rfl rfl rfl rfl rfl rfl rfl rfl ha (by decide +kernel) rfl (c_45x σ33 h34 a ha z39 hP (FXP_fr hP hX h41 (by decide +kernel)) h50) (by decide) (by decide) (fun v98 σ99 h97 => ?_)
      obtain ⟨h100, h101, z103, rfl, h102⟩ := h97
      have h104 := h102.2.2.2
      obtain rfl : σ33 = σ99 := Fr_nil h101
      have h105 := h104
      refine En_iEq _ rfl rfl (fun h106 => ?_) (fun h106 => ?_)
      · have h107 : tw1 By Nb S19 = S43 := by rw [h44]; exact tw1_n (d := z39.toInt) (fun zz => by rw [← h44] at zz; rw [h26]; exact ⟨by (first | exact q_b1495600e7 h62 | omega), by (first | exact q_424eccd413 h73 h74 | omega), by (first | exact q_3ea9b2d286 h105 h106 | omega)⟩)
        refine En_Ps 1 (pc' := 50) (lv' := [(2, .int z39), (0, .ref 3), (1, .ref a)]) (st' := [.ref 3]) rfl ?_
        refine En_getK (j := 5) h38 rfl rfl rfl tgz_3 (by decide +kernel) ?_
        refine En_iEq _ rfl rfl (fun h108 => ?_) (fun hx => by exfalso; have := Imp_m h36.2.2.2.2.2.2.1 (by (first | exact q_cbcd9bbf70 hx h55 | omega)); (first | exact q_be0c4221b2 this.1 h60.1 (by decide) | omega))
        refine En_Ps 1 (pc' := 58) (lv' := [(2, .int z39), (0, .ref 3), (1, .ref a)]) (st' := [.ref 3]) rfl ?_
        obtain ⟨z110, h109, h111, h112⟩ := WT_peekI h34 tgz_3 (by decide +kernel : FT 3 3 = (0, 0, 1600)) (by decide +kernel)
        refine En_callV rfl rfl rfl rfl rfl rfl rfl rfl tgz_3 (by decide +kernel) rfl (c_72x σ33 h34 z110 h109 h45.1 (CT_at h45 (by (first | exact q_ca23768860 h46 h108 | omega)) h109)) (by decide) (by decide) (fun v114 σ115 h113 => ?_)
        obtain ⟨h116, h117, rfl, h118⟩ := h113
        have h119 := h118
        have h120 := Fr_trans h41 h117 (by decide +kernel)
        obtain ⟨S121, h122⟩ : ∃ q : PS, q = adv By Nb S43 := ⟨_, rfl⟩
        have h123 : CT By Nb σ115 S121 := by rw [h122]; exact (CT_adv h45 (by (first | exact q_ca23768860 h46 h108 | omega)) h109 h117 (by decide +kernel) h119.2)
        have h124 := CT_k h123 ((h117 _ _ (inW tgz_3 (by decide +kernel))).trans h38)
        have h125 : S121.2.2.2 = S43.2.2.2 := by rw [h122]; exact adv_w
        have h126 : S121.1 = S43.1 := by rw [h122]; exact adv_1
        have h127 := KN_fr hP h50 h117 (by decide +kernel)
        have h128 : S121.2.2.2 = Sp.2.2.2 := h125.trans h51
        have o129 : OUT σ0 σ115 a := OUT_fr o52 h117 (by decide +kernel)
        have h130 : S121.2.2.2 2 = Sp.2.2.2 2 := by rw [h128]
        refine En_Ps 3 (pc' := 64) (lv' := [(2, .int z39), (0, .ref 3), (1, .ref a)]) (st' := [.ref a, .int ((Int32.ofInt 0)), .ref 3]) rfl ?_
        refine En_getK (j := 3) ((h117 _ _ (inW ha (by decide +kernel))).trans ((h35 _ _ (inW ha (by decide +kernel))).trans ((h15 _ _ (inW ha (by decide +kernel))).trans h2))) rfl rfl rfl ha (by decide +kernel) ?_
        refine En_Ps 2 (pc' := 69) (lv' := [(2, .int z39), (0, .ref 3), (1, .ref a)]) (st' := [.int ((z3 - ((Int32.ofInt 1)))), .int ((Int32.ofInt 0)), .ref 3]) rfl ?_
        refine En_top (subI rfl (by decide : (Int32.ofInt 1).toInt = 1) (by first | exact q_93f9478bef h4 | omega) (by first | exact q_cc3cee8591 h5 | omega)) (fun z131 h132 => ?_)
        have := (by decide : ((Int32.ofInt 0)).toInt = 0)
        refine En_callV rfl rfl rfl rfl rfl rfl rfl rfl tgz_3 (by decide +kernel) rfl (c_58x σ115 h116 ((Int32.ofInt 0)) z131 z37 ((h117 _ _ (inW tgz_3 (by decide +kernel))).trans h38) h123) (by decide) (by decide) (fun v134 σ135 h133 => ?_)
        obtain ⟨h136, h137, z139, h140, z141, rfl, h138⟩ := h133
        have h142 := h138.2.2.2.2.2.2.2.2.2
        have h143 := Fr_trans h120 h137 (by decide +kernel)
        have h144 : nH By Nb ((Int32.ofInt 0)).toInt z131.toInt S121 = nH By Nb (0) (S121.2.2.2 2 - 1) S121 := nH_cg2 (fun zz => by (try have i0 := Imp_m h48 (by (first | exact q_7ed2936742 h126 zz | omega))); (try have i1 := Imp_m h47 (by (first | exact q_7ed2936742 h126 zz | omega))); (try have i2 := Imp_m h36.2.2.2.2.2.2.1 (by omega)); (try have i3 := Imp_m h102.2.2.1 (by (first | exact q_4a9a3bab54 h106 i2.1 i1 i0.2.2.1 | omega))); (first | exact q_d2dcd30e56 this | omega)) (fun zz => by (try have i0 := Imp_m h48 (by (first | exact q_7ed2936742 h126 zz | omega))); (try have i1 := Imp_m h47 (by (first | exact q_7ed2936742 h126 zz | omega))); (try have i2 := Imp_m h36.2.2.2.2.2.2.1 (by omega)); (try have i3 := Imp_m h102.2.2.1 (by (first | exact q_4a9a3bab54 h106 i2.1 i1 i0.2.2.1 | omega))); (first | exact q_5104168655 i2.1 h60.1 this | omega))
        obtain ⟨S145, h146⟩ : ∃ q : PS, q = nH By Nb (0) (S121.2.2.2 2 - 1) S121 := ⟨_, rfl⟩
        have h147 : CT By Nb σ135 S145 := by rw [h146]; exact (CT_eq h142.1 h144)
        have h148 := CT_k h147 h140
        have h149 : Imp (S145.1 = 0) (z141.toInt = tV By Nb S121.2.2.1) := fun z => Imp_m h142.2 (by rw [h144, ← h146]; exact z)
        have h150 : Imp (S145.1 = 0) (S121.1 = 0 ∧ tK By Nb S121.2.2.1 = 2 ∧ 0 ≤ tV By Nb S121.2.2.1 ∧ tV By Nb S121.2.2.1 ≤ S121.2.2.2 2 - 1) := fun z => nH_gg (by rw [← h146]; exact z)
        have h151 : S145.2.2.2 = S121.2.2.2 := by rw [h146]; exact nH_w
        have h152 := KN_fr hP h127 h137 (by decide +kernel)
        have h153 : S145.2.2.2 = Sp.2.2.2 := h151.trans h128
        have o154 : OUT σ0 σ135 a := OUT_fr o129 h137 (by decide +kernel)
        have h155 := Imp_m h138.2.2.2.2.2.2.2.1 (by first | exact q_7d8964ea46 h132 h4 | omega)
        have h156 := Imp_m h138.2.2.2.2.2.2.2.2.1 (by (first | exact q_83da3d7e14 this | omega))
        refine En_Ps 2 (pc' := 74) (lv' := [(3, .int z141), (2, .int z39), (0, .ref 3), (1, .ref a)]) (st' := [.ref 3]) rfl ?_
        refine En_getK (j := 5) h140 rfl rfl rfl tgz_3 (by decide +kernel) ?_
        refine En_iNe _ rfl rfl (fun h157 => ?_) (fun h157 => ?_)
        · have h158 := Imp_m h138.2.2.2.2.2.2.1 (by first | exact q_e3350da514 h157 h138.2.1 | omega)
          have h159 : tw2 By Nb (tV By Nb S19.2.2.1) S121 = S145 := by rw [h146]; exact tw2_n (d := z141.toInt) (fun zz => by rw [← h146] at zz; rw [h128]; exact ⟨by (first | exact q_454ea91654 h157 h138.2.1 h148 zz | omega), by (first | exact q_117fe07b36 h158.1 h61.2.2.1 | omega), by (first | exact q_7531ae8d1a h157 h138.2.1 h148 zz | omega)⟩)
          refine En_Ps 1 (pc' := 104) (lv' := [(3, .int z141), (2, .int z39), (0, .ref 3), (1, .ref a)]) (st' := [.ref 3]) rfl ?_
          refine En_getK (j := 5) h140 rfl rfl rfl tgz_3 (by decide +kernel) ?_
          refine En_iNe _ rfl rfl (fun h160 => ?_) (fun hx => by exfalso; have := Imp_m h36.2.2.2.2.2.2.1 (by (first | exact q_847b22faba h157 hx | omega)); have := Imp_m h138.2.2.2.2.2.1 (by (first | exact q_c5d285f1b9 hx | omega)); (first | exact q_d05eb45c8d this.1 h158.1 (by decide) | omega))
          have h161 : fTwin By Nb Sp = S145 := by unfold fTwin; (try dsimp only); first | (rw [← h20, h107, ← h122, h159]; first | done | rfl) | (rw [← h20, h107, ← h122, h159]; rw [if_pos (by omega)]; first | done | rfl) | (rw [← h20, h107, ← h122, h159]; rw [if_neg (by (first | exact q_09c22b40fa h108 h46 | omega))]; first | done | rfl) | (rw [← h20, h107, ← h122, h159]; rw [if_neg (by (first | exact q_09c22b40fa h108 h46 | omega)), if_pos (by (first | exact q_f23c6e8e00 h160 h138.2.1 h148 | omega))]; first | done | rfl) | (rw [← h20, h107, ← h122, h159]; rw [if_neg (by omega), if_neg (by omega)]; first | done | rfl) | (rw [← h20, h107, ← h122, h159]; rw [if_neg (by omega), if_neg (by omega), if_neg (by omega)]; first | done | rfl)
          exact En_ret (v := none) rfl rfl rfl ⟨h136, h143, z139, h140, rfl, ⟨o154, by first | exact q_bc42505ae9 h157 h138.2.1 | omega, by first | exact q_c733b715bf h138.2.2.1 | omega, by first | exact q_ccc3bb8fc9 h36.2.2.2.1 h138.2.2.2.1 | omega, by first | exact q_28bfca2c13 h36.2.2.2.1 h138.2.2.2.1 | omega, (by rw [h161]; exact ⟨h147, fun z => absurd z (by (first | exact q_ae2d14d533 h160 h138.2.1 h148 z | omega))⟩)⟩⟩
        · have h162 := Imp_m h138.2.2.2.2.2.1 (by first | exact q_c5d285f1b9 h157 | omega)
          try have h163 := Imp_m h150 (by (first | exact q_ca23768860 h148 h157 | omega))
          try have h164 := Imp_m h149 (by (first | exact q_ca23768860 h148 h157 | omega))
          try have h165 := Imp_m h48 (by (first | exact q_177442734c h126 h163.1 h108 h46 | omega))
          try have h166 := Imp_m h47 (by (first | exact q_177442734c h126 h163.1 h108 h46 | omega))
          refine En_Ps 2 (pc' := 82) (lv' := [(3, .int z141), (2, .int z39), (0, .ref 3), (1, .ref a)]) (st' := [.int z39, .int z141]) rfl ?_
          refine En_icEq _ rfl rfl rfl (fun h167 => ?_) (fun h167 => ?_)
          · refine En_Ps 2 (pc' := 100) (lv' := [(3, .int z141), (2, .int z39), (0, .ref 3), (1, .ref a)]) (st' := [.int ((Int32.ofInt 2)), .ref 3]) rfl ?_
            have := (by decide : ((Int32.ofInt 2)).toInt = 2)
            refine En_callV rfl rfl rfl rfl rfl rfl rfl rfl tgz_3 (by decide +kernel) rfl (c_54x σ135 h136 ((Int32.ofInt 2)) (geI (by decide : (Int32.ofInt 2).toInt = 2) (by decide)) (leI (by decide : (Int32.ofInt 2).toInt = 2) (by decide)) z139 h140 h147) (by decide) (by decide) (fun v169 σ170 h168 => ?_)
            obtain ⟨h171, h172, z174, h175, rfl, h173⟩ := h168
            have h176 := h173.2.2.2.2.2
            have h177 := Fr_trans h143 h172 (by decide +kernel)
            obtain ⟨S178, h179⟩ : ∃ q : PS, q = err By Nb 2 S145 := ⟨_, rfl⟩
            have h180 : CT By Nb σ170 S178 := by rw [h179]; exact (CT_eq h176 (err_cg (by (first | exact q_bef0c64981 this | omega))))
            have h181 := CT_k h180 h175
            have h182 : S178.2.2.2 = S145.2.2.2 := by rw [h179]; exact err_w
            have h183 := KN_fr hP h152 h172 (by decide +kernel)
            have h184 : S178.2.2.2 = Sp.2.2.2 := h182.trans h153
            have o185 : OUT σ0 σ170 a := OUT_fr o154 h172 (by decide +kernel)
            have h186 := Imp_m h173.2.2.2.1 (by first | exact q_c5d285f1b9 h157 | omega)
            have h187 : tw2 By Nb (tV By Nb S19.2.2.1) S121 = S178 := by rw [h179, h146]; exact tw2_p (d := z141.toInt) (by rw [← h146]; (first | exact q_ca23768860 h148 h157 | omega)) (by (first | exact q_b1495600e7 h164 | omega)) (by rw [h128]; (first | exact q_2656a9fad9 h167 h166 | omega))
            refine En_Ps 1 (pc' := 104) (lv' := [(3, .int z141), (2, .int z39), (0, .ref 3), (1, .ref a)]) (st' := [.ref 3]) rfl ?_
            refine En_getK (j := 5) h175 rfl rfl rfl tgz_3 (by decide +kernel) ?_
            refine En_iNe _ rfl rfl (fun h188 => ?_) (fun hx => by exfalso; have := Imp_m h36.2.2.2.2.2.2.1 (by (first | exact q_f4f2768de0 h173.1 hx | omega)); have := Imp_m h138.2.2.2.2.2.2.1 (by (first | exact q_f4f2768de0 h173.1 hx | omega)); have := Imp_m h173.2.2.2.2.1 (by (first | exact q_f4f2768de0 h173.1 hx | omega)); (first | exact q_a0b22f2d75 h173.1 hx | omega))
            have h189 : fTwin By Nb Sp = S178 := by unfold fTwin; (try dsimp only); first | (rw [← h20, h107, ← h122, h187]; first | done | rfl) | (rw [← h20, h107, ← h122, h187]; rw [if_pos (by omega)]; first | done | rfl) | (rw [← h20, h107, ← h122, h187]; rw [if_neg (by (first | exact q_bc4cf70d53 h126 h163.1 | omega))]; first | done | rfl) | (rw [← h20, h107, ← h122, h187]; rw [if_neg (by (first | exact q_bc4cf70d53 h126 h163.1 | omega)), if_pos (by (first | exact q_ff7af2fbd3 h181 h186.2 this | omega))]; first | done | rfl) | (rw [← h20, h107, ← h122, h187]; rw [if_neg (by omega), if_neg (by omega)]; first | done | rfl) | (rw [← h20, h107, ← h122, h187]; rw [if_neg (by omega), if_neg (by omega), if_neg (by omega)]; first | done | rfl)
            exact En_ret (v := none) rfl rfl rfl ⟨h171, h177, z174, h175, rfl, ⟨o185, by first | exact q_1a6ee862c1 h173.1 | omega, by first | exact q_c733b715bf h173.2.1 | omega, by first | exact q_967777951c h36.2.2.2.1 h173.1 h55 | omega, by first | exact q_366671f89f h36.2.2.2.1 h173.1 h55 | omega, (by rw [h189]; exact ⟨h180, fun z => absurd z (by (first | exact q_d9c1c0f2d8 z h181 h186.2 this | omega))⟩)⟩⟩
          · refine En_Ps 1 (pc' := 86) (lv' := [(3, .int z141), (2, .int z39), (0, .ref 3), (1, .ref a)]) (st' := [.ref a]) rfl ?_
            refine En_getK (j := 4) ((h137 _ _ (inW ha (by decide +kernel))).trans ((h117 _ _ (inW ha (by decide +kernel))).trans h63)) rfl rfl rfl ha (by decide +kernel) ?_
            refine En_Ps 1 (pc' := 90) (lv' := [(3, .int z141), (2, .int z39), (0, .ref 3), (1, .ref a)]) (st' := [.int z141, .ref a64]) rfl ?_
            refine En_aald (g' := 28) (u := 0) rfl rfl ha64 (by decide +kernel) h136 (by (first | exact q_39e281d0cf h162.1 this | omega)) (lnI (by decide +kernel : LN _ = 4) (by first | exact q_9af1b6be4e h155 h132 h5 | omega)) (FTsgl (by decide +kernel)) (fun a191 h190 ha191 => ?_)
            have h192 := DRc (d := z141.toInt) (FXP_fr hP hX h143 (by decide +kernel)) ((h137 _ _ (inW ha (by decide +kernel))).trans ((h117 _ _ (inW ha (by decide +kernel))).trans h63)) h190 (by (first | exact q_39e281d0cf h162.1 this | omega)) (by (first | exact q_8a99f2014a h162.2 h132 h5 | omega))
            have h193 := lc_d (d := z141.toInt) (by (first | exact q_39e281d0cf h162.1 this | omega)) (by (first | exact q_8a99f2014a h162.2 h132 h5 | omega))
            refine En_getI (j := 3) (l := (-1)) (u := 3) rfl rfl rfl ha191 (by decide +kernel) h136 (by decide +kernel) (fun z195 h194 h196 h197 => ?_)
            have h198 : Sp.2.2.2 (13 + 4 * z141.toInt) = z195.toInt := KN_v h152 (Or.inr (Or.inl ⟨by (first | exact q_17f86db6e0 h162.1 this | omega), by (first | exact q_15c75b3d55 h162.2 h132 h5 | omega), by omega⟩)) (by (first | exact q_1bf2135cd7 h156 | omega)) (by (first | exact q_acf046215f h162.2 h132 h5 | omega)) (by omega) (by (first | exact q_67bf5599ba h193.2.2.2.2.2.2.2 | omega)) h194
            refine En_Ps 1 (pc' := 95) (lv' := [(3, .int z141), (2, .int z39), (0, .ref 3), (1, .ref a)]) (st' := [.int ((Int32.ofInt (-1))), .int z195]) rfl ?_
            refine En_icEq _ rfl (by decide : (Int32.ofInt (-1)).toInt = -1) rfl (fun h199 => ?_) (fun h199 => ?_)
            · have h200 : tw2 By Nb (tV By Nb S19.2.2.1) S121 = S145 := by rw [h146]; exact tw2_n (d := z141.toInt) (fun zz => by rw [← h146] at zz; rw [h128]; exact ⟨by (first | exact q_b1495600e7 h164 | omega), by (first | exact q_c09aebb141 h167 h166 | omega), by (first | exact q_424eccd413 h198 h199 | omega)⟩)
              refine En_Ps 1 (pc' := 104) (lv' := [(3, .int z141), (2, .int z39), (0, .ref 3), (1, .ref a)]) (st' := [.ref 3]) rfl ?_
              refine En_getK (j := 5) h140 rfl rfl rfl tgz_3 (by decide +kernel) ?_
              refine En_iNe _ rfl rfl (fun hx => by exfalso; have := Imp_m h36.2.2.2.2.2.2.1 (by (first | exact q_847b22faba hx h157 | omega)); have := Imp_m h138.2.2.2.2.2.2.1 (by (first | exact q_cbcd9bbf70 hx h157 | omega)); (first | exact q_be0c4221b2 this.1 h162.1 (by decide) | omega)) (fun h201 => ?_)
              try have h202 := Imp_m h150 (by (first | exact q_ca23768860 h148 h201 | omega))
              try have h203 := Imp_m h149 (by (first | exact q_ca23768860 h148 h201 | omega))
              try have h204 := Imp_m h48 (by (first | exact q_177442734c h126 h202.1 h108 h46 | omega))
              try have h205 := Imp_m h47 (by (first | exact q_177442734c h126 h202.1 h108 h46 | omega))
              refine En_Ps 1 (pc' := 111) (lv' := [(3, .int z141), (2, .int z39), (0, .ref 3), (1, .ref a)]) (st' := [.ref a]) rfl ?_
              refine En_getK (j := 4) ((h137 _ _ (inW ha (by decide +kernel))).trans ((h117 _ _ (inW ha (by decide +kernel))).trans h63)) rfl rfl rfl ha (by decide +kernel) ?_
              refine En_Ps 1 (pc' := 115) (lv' := [(3, .int z141), (2, .int z39), (0, .ref 3), (1, .ref a)]) (st' := [.int z39, .ref a64]) rfl ?_
              refine En_aald (g' := 28) (u := 0) rfl rfl ha64 (by decide +kernel) h136 (by (first | exact q_39e281d0cf h60.1 this | omega)) (lnI (by decide +kernel : LN _ = 4) (by first | exact q_9af1b6be4e h53 h30 h5 | omega)) (FTsgl (by decide +kernel)) (fun a207 h206 ha207 => ?_)
              have h208 := DRc (d := z39.toInt) (FXP_fr hP hX h143 (by decide +kernel)) ((h137 _ _ (inW ha (by decide +kernel))).trans ((h117 _ _ (inW ha (by decide +kernel))).trans h63)) h206 (by (first | exact q_39e281d0cf h60.1 this | omega)) (by (first | exact q_8a99f2014a h60.2 h30 h5 | omega))
              have h209 := lc_d (d := z39.toInt) (by (first | exact q_39e281d0cf h60.1 this | omega)) (by (first | exact q_8a99f2014a h60.2 h30 h5 | omega))
              have h210 := lc_d (d := (tV By Nb S19.2.2.1)) (by (first | exact q_58e6e51dcc h204.2.2.1 | omega)) (by (first | exact q_50c52117e6 h204.2.2.2 h28 h6 h5 | omega))
              refine En_Ps 1 (pc' := 117) (lv' := [(3, .int z141), (2, .int z39), (0, .ref 3), (1, .ref a)]) (st' := [.int z141, .ref a207]) rfl ?_
              refine En_put (j := 3) rfl rfl rfl ha207 (by decide +kernel) rfl (vI (l := (-1)) (u := 3) (by decide +kernel) rfl (by first | exact q_ce01e7a6da h156 | omega) (by first | exact q_5856343edf h155 h132 h5 | omega)) h136 h143 (by decide +kernel) (fun σ211 h212 h213 h214 h215 => ?_)
              obtain ⟨S216, h217⟩ : ∃ q : PS, q = wst S145 (13 + 4 * (tV By Nb S19.2.2.1)) ((tV By Nb S121.2.2.1)) := ⟨_, rfl⟩
              have h218 : CT By Nb σ211 S216 := by rw [h217]; exact CT_wst (CT_ne h147 h215 (by have := hP; unfold PLA at this; omega))
              have h219 : KN σ211 a (uPd Sp.2.2.2 (13 + 4 * (tV By Nb S19.2.2.1)) ((tV By Nb S121.2.2.1))) (fun t => (act Sp.2.2.2 t ∨ t = 13 + 4 * (tV By Nb S19.2.2.1))) := KN_st h152 h214 h215 (by (first | exact q_ecbead000b h204.2.2.1 | omega)) (by (first | exact q_bb54290c9a h204.2.2.2 h28 h6 h5 | omega)) (by omega) (by (first | exact q_67bf5599ba h210.2.2.2.2.2.2.2 | omega)) (by (first | exact q_a8fb2024c1 h203 | omega))
              have h220 : S216.2.2.2 = (uPd Sp.2.2.2 (13 + 4 * (tV By Nb S19.2.2.1)) ((tV By Nb S121.2.2.1))) := by rw [h217]; show uPd S145.2.2.2 _ _ = _; rw [h153]
              have h221 : S216.1 = S145.1 := by rw [h217]; rfl
              have h222 := CT_k h218 ((h215 _ _ (Or.inr (by decide))).trans h140)
              have o223 : OUT σ0 σ211 a := OUT_st o154 h215 (by omega)
              refine En_Ps 1 (pc' := 121) (lv' := [(3, .int z141), (2, .int z39), (0, .ref 3), (1, .ref a)]) (st' := [.ref 3]) rfl ?_
              obtain ⟨z225, h224, h226, h227⟩ := WT_peekI h212 tgz_3 (by decide +kernel : FT 3 3 = (0, 0, 1600)) (by decide +kernel)
              refine En_callV rfl rfl rfl rfl rfl rfl rfl rfl tgz_3 (by decide +kernel) rfl (c_72x σ211 h212 z225 h224 h218.1 (CT_at h218 (by (first | exact q_ca23768860 h222 h201 | omega)) h224)) (by decide) (by decide) (fun v229 σ230 h228 => ?_)
              obtain ⟨h231, h232, rfl, h233⟩ := h228
              have h234 := h233
              have h235 := Fr_trans h213 h232 (by decide +kernel)
              obtain ⟨S236, h237⟩ : ∃ q : PS, q = adv By Nb S216 := ⟨_, rfl⟩
              have h238 : CT By Nb σ230 S236 := by rw [h237]; exact (CT_adv h218 (by (first | exact q_ca23768860 h222 h201 | omega)) h224 h232 (by decide +kernel) h234.2)
              have h239 := CT_k h238 ((h232 _ _ (inW tgz_3 (by decide +kernel))).trans ((h215 _ _ (Or.inr (by decide))).trans h140))
              have h240 : S236.2.2.2 = S216.2.2.2 := by rw [h237]; exact adv_w
              have h241 : S236.1 = S216.1 := by rw [h237]; exact adv_1
              have h242 := KN_fr hP h219 h232 (by decide +kernel)
              have h243 : S236.2.2.2 = (uPd Sp.2.2.2 (13 + 4 * (tV By Nb S19.2.2.1)) ((tV By Nb S121.2.2.1))) := h240.trans h220
              have o244 : OUT σ0 σ230 a := OUT_fr o223 h232 (by decide +kernel)
              have h245 : fTwin By Nb Sp = S236 := by unfold fTwin; (try dsimp only); first | (rw [← h20, h107, ← h122, h200, ← h217, ← h237]; first | done | rfl) | (rw [← h20, h107, ← h122, h200, ← h217, ← h237]; rw [if_pos (by omega)]; first | done | rfl) | (rw [← h20, h107, ← h122, h200, ← h217, ← h237]; rw [if_neg (by (first | exact q_bc4cf70d53 h126 h202.1 | omega))]; first | done | rfl) | (rw [← h20, h107, ← h122, h200, ← h217, ← h237]; rw [if_neg (by (first | exact q_bc4cf70d53 h126 h202.1 | omega)), if_pos (by omega)]; first | done | rfl) | (rw [← h20, h107, ← h122, h200, ← h217, ← h237]; rw [if_neg (by (first | exact q_bc4cf70d53 h126 h202.1 | omega)), if_neg (by (first | exact q_4bf99f1336 h148 h201 | omega))]; first | done | rfl) | (rw [← h20, h107, ← h122, h200, ← h217, ← h237]; rw [if_neg (by omega), if_neg (by omega), if_neg (by omega)]; first | done | rfl)
              exact En_ret (v := none) rfl rfl rfl ⟨h231, h235, z139, ((h232 _ _ (inW tgz_3 (by decide +kernel))).trans ((h215 _ _ (Or.inr (by decide))).trans h140)), rfl, ⟨o244, by first | exact q_a555021d16 h138.2.1 | omega, by first | exact q_bd3fa30443 h157 | omega, by first | exact q_ccc3bb8fc9 h36.2.2.2.1 h138.2.2.2.1 | omega, by first | exact q_28bfca2c13 h36.2.2.2.1 h138.2.2.2.1 | omega, (by rw [h245]; exact ⟨h238, fun zz => by rw [h243]; exact KN_sub h242 (fun t t0 t1 y => Or.inl (act_in (by (first | exact q_549ef2026b h204.2.2.1 | omega)) (by omega) y))⟩)⟩⟩
            · refine En_Ps 2 (pc' := 100) (lv' := [(3, .int z141), (2, .int z39), (0, .ref 3), (1, .ref a)]) (st' := [.int ((Int32.ofInt 2)), .ref 3]) rfl ?_
              have := (by decide : ((Int32.ofInt 2)).toInt = 2)
              refine En_callV rfl rfl rfl rfl rfl rfl rfl rfl tgz_3 (by decide +kernel) rfl (c_54x σ135 h136 ((Int32.ofInt 2)) (geI (by decide : (Int32.ofInt 2).toInt = 2) (by decide)) (leI (by decide : (Int32.ofInt 2).toInt = 2) (by decide)) z139 h140 h147) (by decide) (by decide) (fun v247 σ248 h246 => ?_)
              obtain ⟨h249, h250, z252, h253, rfl, h251⟩ := h246
              have h254 := h251.2.2.2.2.2
              have h255 := Fr_trans h143 h250 (by decide +kernel)
              obtain ⟨S256, h257⟩ : ∃ q : PS, q = err By Nb 2 S145 := ⟨_, rfl⟩
              have h258 : CT By Nb σ248 S256 := by rw [h257]; exact (CT_eq h254 (err_cg (by (first | exact q_bef0c64981 this | omega))))
              have h259 := CT_k h258 h253
              have h260 : S256.2.2.2 = S145.2.2.2 := by rw [h257]; exact err_w
              have h261 := KN_fr hP h152 h250 (by decide +kernel)
              have h262 : S256.2.2.2 = Sp.2.2.2 := h260.trans h153
              have o263 : OUT σ0 σ248 a := OUT_fr o154 h250 (by decide +kernel)
              have h264 := Imp_m h251.2.2.2.1 (by first | exact q_c5d285f1b9 h157 | omega)
              have h265 : tw2 By Nb (tV By Nb S19.2.2.1) S121 = S256 := by rw [h257, h146]; exact tw2_p (d := z141.toInt) (by rw [← h146]; (first | exact q_ca23768860 h148 h157 | omega)) (by (first | exact q_b1495600e7 h164 | omega)) (by rw [h128]; (first | exact q_b82fcfaf81 h199 h196 h198 | omega))
              refine En_Ps 1 (pc' := 104) (lv' := [(3, .int z141), (2, .int z39), (0, .ref 3), (1, .ref a)]) (st' := [.ref 3]) rfl ?_
              refine En_getK (j := 5) h253 rfl rfl rfl tgz_3 (by decide +kernel) ?_
              refine En_iNe _ rfl rfl (fun h266 => ?_) (fun hx => by exfalso; have := Imp_m h36.2.2.2.2.2.2.1 (by (first | exact q_f4f2768de0 h251.1 hx | omega)); have := Imp_m h138.2.2.2.2.2.2.1 (by (first | exact q_f4f2768de0 h251.1 hx | omega)); have := Imp_m h251.2.2.2.2.1 (by (first | exact q_f4f2768de0 h251.1 hx | omega)); (first | exact q_a0b22f2d75 h251.1 hx | omega))
              have h267 : fTwin By Nb Sp = S256 := by unfold fTwin; (try dsimp only); first | (rw [← h20, h107, ← h122, h265]; first | done | rfl) | (rw [← h20, h107, ← h122, h265]; rw [if_pos (by omega)]; first | done | rfl) | (rw [← h20, h107, ← h122, h265]; rw [if_neg (by (first | exact q_bc4cf70d53 h126 h163.1 | omega))]; first | done | rfl) | (rw [← h20, h107, ← h122, h265]; rw [if_neg (by (first | exact q_bc4cf70d53 h126 h163.1 | omega)), if_pos (by (first | exact q_ff7af2fbd3 h259 h264.2 this | omega))]; first | done | rfl) | (rw [← h20, h107, ← h122, h265]; rw [if_neg (by omega), if_neg (by omega)]; first | done | rfl) | (rw [← h20, h107, ← h122, h265]; rw [if_neg (by omega), if_neg (by omega), if_neg (by omega)]; first | done | rfl)
              exact En_ret (v := none) rfl rfl rfl ⟨h249, h255, z252, h253, rfl, ⟨o263, by first | exact q_1a6ee862c1 h251.1 | omega, by first | exact q_c733b715bf h251.2.1 | omega, by first | exact q_967777951c h36.2.2.2.1 h251.1 h55 | omega, by first | exact q_366671f89f h36.2.2.2.1 h251.1 h55 | omega, (by rw [h267]; exact ⟨h258, fun z => absurd z (by (first | exact q_d9c1c0f2d8 z h259 h264.2 this | omega))⟩)⟩⟩
      · have h268 := Imp_m h102.2.2.1 (by first | exact ⟨q_ad5b726bf8 h102.2.1, q_e3350da514 h106 h102.1⟩ | omega)
        refine En_Ps 2 (pc' := 46) (lv' := [(2, .int z39), (0, .ref 3), (1, .ref a)]) (st' := [.int ((Int32.ofInt 2)), .ref 3]) rfl ?_
        have := (by decide : ((Int32.ofInt 2)).toInt = 2)
        refine En_callV rfl rfl rfl rfl rfl rfl rfl rfl tgz_3 (by decide +kernel) rfl (c_54x σ33 h34 ((Int32.ofInt 2)) (geI (by decide : (Int32.ofInt 2).toInt = 2) (by decide)) (leI (by decide : (Int32.ofInt 2).toInt = 2) (by decide)) z37 h38 h45) (by decide) (by decide) (fun v270 σ271 h269 => ?_)
        obtain ⟨h272, h273, z275, h276, rfl, h274⟩ := h269
        have h277 := h274.2.2.2.2.2
        have h278 := Fr_trans h41 h273 (by decide +kernel)
        obtain ⟨S279, h280⟩ : ∃ q : PS, q = err By Nb 2 S43 := ⟨_, rfl⟩
        have h281 : CT By Nb σ271 S279 := by rw [h280]; exact (CT_eq h277 (err_cg (by (first | exact q_bef0c64981 this | omega))))
        have h282 := CT_k h281 h276
        have h283 : S279.2.2.2 = S43.2.2.2 := by rw [h280]; exact err_w
        have h284 := KN_fr hP h50 h273 (by decide +kernel)
        have h285 : S279.2.2.2 = Sp.2.2.2 := h283.trans h51
        have o286 : OUT σ0 σ271 a := OUT_fr o52 h273 (by decide +kernel)
        have h287 := Imp_m h274.2.2.2.1 (by first | exact q_c5d285f1b9 h55 | omega)
        have h288 : tw1 By Nb S19 = S279 := by rw [h280, h44]; exact tw1_p (d := z39.toInt) (by rw [← h44]; (first | exact q_ca23768860 h46 h55 | omega)) (by (first | exact q_b1495600e7 h62 | omega)) (by rw [h26]; (first | exact q_1df299be7d h105 h106 h102.1 h102.2.1 | omega))
        refine En_Ps 1 (pc' := 50) (lv' := [(2, .int z39), (0, .ref 3), (1, .ref a)]) (st' := [.ref 3]) rfl ?_
        refine En_getK (j := 5) h276 rfl rfl rfl tgz_3 (by decide +kernel) ?_
        refine En_iEq _ rfl rfl (fun hx => by exfalso; have := Imp_m h36.2.2.2.2.2.2.1 (by (first | exact q_f4f2768de0 h274.1 hx | omega)); have := Imp_m h274.2.2.2.2.1 (by (first | exact q_f4f2768de0 h274.1 hx | omega)); (first | exact q_a0b22f2d75 h274.1 hx | omega)) (fun h289 => ?_)
        have h290 : fTwin By Nb Sp = S279 := by unfold fTwin; (try dsimp only); first | (rw [← h20, h288]; first | done | rfl) | (rw [← h20, h288]; rw [if_pos (by (first | exact q_ff7af2fbd3 h282 h287.2 this | omega))]; first | done | rfl) | (rw [← h20, h288]; rw [if_neg (by omega)]; first | done | rfl) | (rw [← h20, h288]; rw [if_neg (by omega), if_pos (by omega)]; first | done | rfl) | (rw [← h20, h288]; rw [if_neg (by omega), if_neg (by omega)]; first | done | rfl) | (rw [← h20, h288]; rw [if_neg (by omega), if_neg (by omega), if_neg (by omega)]; first | done | rfl)
        exact En_ret (v := none) rfl rfl rfl ⟨h272, h278, z275, h276, rfl, ⟨o286, by first | exact q_1a6ee862c1 h274.1 | omega, by first | exact q_c733b715bf h274.2.1 | omega, by first | exact q_ccc3bb8fc9 h36.2.2.2.1 h274.2.2.1 | omega, by first | exact q_28bfca2c13 h36.2.2.2.1 h274.2.2.1 | omega, (by rw [h290]; exact ⟨h281, fun z => absurd z (by (first | exact q_d9c1c0f2d8 z h282 h287.2 this | omega))⟩)⟩⟩
/-- DoorSchool$Reader.takePart(I)I -/
abbrev P_74x (σ0 : SG) (By : Int → Int) (Nb : Int) (Sp : PS) (a : Int32) (f : Int32) : PO := fun v σ => WT σ ∧ Fr [(3, 1), (3, 2), (3, 3), (3, 4), (3, 5), (3, 6)] σ0 σ ∧ ∃ f1 : Int32, (σ 3)[5]? = some (Value.int f1) ∧ ∃ ret : Int32, v = some (Value.int ret) ∧ -ret.toInt - 1 ≤ 0 ∧ ret.toInt - 15 ≤ 0 ∧ -f1.toInt ≤ 0 ∧ f1.toInt - 3 ≤ 0 ∧ -f1.toInt + f.toInt ≤ 0 ∧ f.toInt - f1.toInt ≤ 0 ∧ Imp (f1.toInt ≤ 0) (-ret.toInt ≤ 0 ∧ ret.toInt - 15 ≤ 0) ∧ (CT By Nb σ (tP By Nb a.toInt Sp) ∧ Imp ((tP By Nb a.toInt Sp).1 = 0) (ret.toInt = tV By Nb Sp.2.2.1))
set_option maxRecDepth 10000 in
set_option maxHeartbeats 4000000 in
theorem c_74x {By : Int → Int} {Nb : Int} {Sp : PS} (σ0 : SG) (hσ0 : WT σ0) (a : Int32) (hl_a : (-1) ≤ a.toInt) (hu_a : a.toInt ≤ 15) (f : Int32) (h_f : (σ0 3)[5]? = some (Value.int f)) (hC : CT By Nb σ0 Sp) (ha : Sp.1 = 0 → 0 ≤ a.toInt) : En 2 43 none mr_74 (P_74x σ0 By Nb Sp a f) 0 [(0, .ref 3), (1, .int a)] [] σ0 := by
  obtain ⟨hl_f, hu_f⟩ := WT_int hσ0 (g := 3) (by decide +kernel) (by decide +kernel) (l := 0) (u := 3) (by decide +kernel) h_f
  have hF0 : Fr [(3, 1), (3, 2), (3, 3), (3, 4), (3, 5), (3, 6)] σ0 σ0 := Fr_rfl
  obtain ⟨z2, h1, h3, h4⟩ := WT_peekI hσ0 tgz_3 (by decide +kernel : FT 3 1 = (0, 0, 4)) (by decide +kernel)
  obtain ⟨z6, h5, h7, h8⟩ := WT_peekI hσ0 tgz_3 (by decide +kernel : FT 3 4 = (0, (-2147483648), 1000000)) (by decide +kernel)
  have h9 := CT_k hC h_f
  have h10 : Imp (Sp.1 = 0) (tK By Nb Sp.2.2.1 = z2.toInt) := CT_t hC h1
  have h11 : Imp (Sp.1 = 0 ∧ tK By Nb Sp.2.2.1 = 2) (z6.toInt = tV By Nb Sp.2.2.1 ∧ 0 ≤ tV By Nb Sp.2.2.1) := fun q => CT_u hC h5 q.1 q.2
  refine En_Ps 3 (pc' := 4) (lv' := [(0, .ref 3), (1, .int a)]) (st' := [.int (((Int8.ofInt 15).toInt32)), .int ((Int32.ofInt 0)), .ref 3]) rfl ?_
  have := (by decide : ((Int32.ofInt 0)).toInt = 0)
  have := (by decide : (((Int8.ofInt 15).toInt32)).toInt = 15)
  refine En_callV rfl rfl rfl rfl rfl rfl rfl rfl tgz_3 (by decide +kernel) rfl (c_58x σ0 hσ0 ((Int32.ofInt 0)) (((Int8.ofInt 15).toInt32)) f h_f hC) (by decide) (by decide) (fun v13 σ14 h12 => ?_)
  obtain ⟨h15, h16, z18, h19, z20, rfl, h17⟩ := h12
  have h21 := h17.2.2.2.2.2.2.2.2.2
  have h22 := Fr_trans hF0 h16 (by decide +kernel)
  have h23 : nH By Nb ((Int32.ofInt 0)).toInt (((Int8.ofInt 15).toInt32)).toInt Sp = nH By Nb (0) (15) Sp := nH_cg2 (fun zz => by (first | exact q_d2dcd30e56 (by decide) | omega)) (fun zz => by (first | exact q_595a12af71 this | omega))
  obtain ⟨S24, h25⟩ : ∃ q : PS, q = nH By Nb (0) (15) Sp := ⟨_, rfl⟩
  have h26 : CT By Nb σ14 S24 := by rw [h25]; exact (CT_eq h21.1 h23)
  have h27 := CT_k h26 h19
  have h28 : Imp (S24.1 = 0) (tK By Nb S24.2.2.1 = z2.toInt) := CT_t h26 ((h16 _ _ (inW tgz_3 (by decide +kernel))).trans h1)
  have h29 : Imp (S24.1 = 0 ∧ tK By Nb S24.2.2.1 = 2) (z6.toInt = tV By Nb S24.2.2.1 ∧ 0 ≤ tV By Nb S24.2.2.1) := fun q => CT_u h26 ((h16 _ _ (inW tgz_3 (by decide +kernel))).trans h5) q.1 q.2
  have h30 : Imp (S24.1 = 0) (z20.toInt = tV By Nb Sp.2.2.1) := fun z => Imp_m h21.2 (by rw [h23, ← h25]; exact z)
  have h31 : Imp (S24.1 = 0) (Sp.1 = 0 ∧ tK By Nb Sp.2.2.1 = 2 ∧ 0 ≤ tV By Nb Sp.2.2.1 ∧ tV By Nb Sp.2.2.1 ≤ 15) := fun z => nH_gg (by rw [← h25]; exact z)
  have h32 : S24.2.2.2 = Sp.2.2.2 := by rw [h25]; exact nH_w
  have h33 := Imp_m h17.2.2.2.2.2.2.2.1 (by (first | exact q_d6f92e2b6b this | omega))
  have h34 := Imp_m h17.2.2.2.2.2.2.2.2.1 (by (first | exact q_83da3d7e14 (by decide) | omega))
  refine En_Ps 2 (pc' := 9) (lv' := [(2, .int z20), (0, .ref 3), (1, .int a)]) (st' := [.ref 3]) rfl ?_
  refine En_getK (j := 5) h19 rfl rfl rfl tgz_3 (by decide +kernel) ?_
  refine En_iNe _ rfl rfl (fun h35 => ?_) (fun h35 => ?_)
  · have h36 := Imp_m h17.2.2.2.2.2.2.1 (by first | exact q_e3350da514 h35 h17.2.1 | omega)
    refine En_Ps 1 (pc' := 29) (lv' := [(2, .int z20), (0, .ref 3), (1, .int a)]) (st' := [.ref 3]) rfl ?_
    refine En_getK (j := 5) h19 rfl rfl rfl tgz_3 (by decide +kernel) ?_
    refine En_iNe _ rfl rfl (fun h37 => ?_) (fun hx => by exfalso; have := Imp_m h17.2.2.2.2.2.1 (by (first | exact q_c5d285f1b9 hx | omega)); (first | exact q_d05eb45c8d this.1 h36.1 (by decide) | omega))
    refine En_Ps 1 (pc' := 40) (lv' := [(2, .int z20), (0, .ref 3), (1, .int a)]) (st' := [.int z20]) rfl ?_
    exact En_ret (v := some (Value.int z20)) rfl rfl rfl ⟨h15, h22, z18, h19, z20, rfl, ⟨by first | exact q_98e1bded96 h34 | omega, by first | exact q_833ff042c7 h36.1 | omega, by first | exact q_bc42505ae9 h35 h17.2.1 | omega, by first | exact q_c733b715bf h17.2.2.1 | omega, by first | exact q_d22b102a8e h17.2.2.2.1 | omega, by first | exact q_83f4b1e050 h17.2.2.2.1 | omega, fun _ => by have := Imp_m h17.2.2.2.2.2.1 (by omega); (first | exact q_6fdb4a5b21 this.1 h36.1 (by decide) | omega), (by have q0 : tP By Nb a.toInt Sp = S24 := (by subst h25; first | exact tPc_e (by omega) (by omega) | exact tPc_a (by omega) | exact tPc_b (by (first | exact q_f23c6e8e00 h37 h17.2.1 h27 | omega))); rw [q0]; exact ⟨h26, fun zz => by (try have i0 := Imp_m h31 (by (first | exact q_d2dcd30e56 zz | omega))); (try have i1 := Imp_m h30 (by (first | exact q_d2dcd30e56 zz | omega))); (try have i2 := Imp_m h28 (by (first | exact q_d2dcd30e56 zz | omega))); (try have i3 := Imp_m h10 (by (first | exact q_d2dcd30e56 i0.1 | omega))); (try have i4 := Imp_m h11 (by (first | exact q_67e7eb0afa h37 h17.2.1 h27 zz | omega))); (try have i5 := Imp_m h29 (by (first | exact q_6075deff50 h37 h17.2.1 h27 zz | omega))); (try have i6 := Imp_m h17.2.2.2.2.2.1 (by (first | exact q_d8d8e6600d h27 zz | omega))); (first | exact q_b1495600e7 i1 | omega)⟩)⟩⟩
  · have h38 := Imp_m h17.2.2.2.2.2.1 (by first | exact q_c5d285f1b9 h35 | omega)
    try have h39 := Imp_m h31 (by (first | exact q_ca23768860 h27 h35 | omega))
    try have h40 := Imp_m h30 (by (first | exact q_ca23768860 h27 h35 | omega))
    try have h41 := Imp_m h28 (by (first | exact q_ca23768860 h27 h35 | omega))
    try have h42 := Imp_m h10 (by (first | exact q_d2dcd30e56 h39.1 | omega))
    try have h43 := Imp_m h11 (by (first | exact q_9292b3be67 h39.1 h39.2.1 | omega))
    try have h44 := Imp_m h29 (by (first | exact q_ccabb0b2c4 h27 h35 h41 h42 h39.2.1 | omega))
    refine En_Ps 2 (pc' := 17) (lv' := [(2, .int z20), (0, .ref 3), (1, .int a)]) (st' := [.int a, .int z20]) rfl ?_
    have h45 : sbI (z20.toInt) a.toInt = sbI (tV By Nb Sp.2.2.1) a.toInt := sbI_cg (by (first | exact q_b1495600e7 h40 | omega)) rfl
    refine En_Ps 2 (pc' := 19) (lv' := [(2, .int z20), (0, .ref 3), (1, .int a)]) (st' := [.int ((a ^^^ ((Int32.ofInt (-1))))), .int z20]) rfl ?_
    refine En_nam (fun z46 h47 => ?_)
    refine En_Ps 1 (pc' := 20) (lv' := [(2, .int z20), (0, .ref 3), (1, .int a)]) (st' := [.int ((z20 &&& z46))]) rfl ?_
    refine En_nam (fun z48 h49 => ?_)
    obtain ⟨h50, h51⟩ := andn_rng h49 rfl (by (first | exact q_39e281d0cf h38.1 (by decide) | omega)) (by (first | exact q_7f8afd14a3 h38.2 this | omega) : _ ≤ (15 : Int))
    refine En_iEq _ rfl rfl (fun h52 => ?_) (fun h52 => ?_)
    · have := sub_sbw h49 h47 rfl rfl (by (first | exact q_39e281d0cf h38.1 (by decide) | omega)) (by (first | exact q_d522d15adf ha h39.1 | omega)) (by (first | exact q_5a4d8a7e08 hu_a | omega))
      refine En_Ps 1 (pc' := 29) (lv' := [(2, .int z20), (0, .ref 3), (1, .int a)]) (st' := [.ref 3]) rfl ?_
      refine En_getK (j := 5) h19 rfl rfl rfl tgz_3 (by decide +kernel) ?_
      refine En_iNe _ rfl rfl (fun hx => by exfalso; have := Imp_m h17.2.2.2.2.2.2.1 (by (first | exact q_cbcd9bbf70 hx h35 | omega)); (first | exact q_be0c4221b2 this.1 h38.1 (by decide) | omega)) (fun h53 => ?_)
      refine En_Ps 1 (pc' := 36) (lv' := [(2, .int z20), (0, .ref 3), (1, .int a)]) (st' := [.ref 3]) rfl ?_
      obtain ⟨z55, h54, h56, h57⟩ := WT_peekI h15 tgz_3 (by decide +kernel : FT 3 3 = (0, 0, 1600)) (by decide +kernel)
      refine En_callV rfl rfl rfl rfl rfl rfl rfl rfl tgz_3 (by decide +kernel) rfl (c_72x σ14 h15 z55 h54 h26.1 (CT_at h26 (by (first | exact q_ca23768860 h27 h53 | omega)) h54)) (by decide) (by decide) (fun v59 σ60 h58 => ?_)
      obtain ⟨h61, h62, rfl, h63⟩ := h58
      have h64 := h63
      have h65 := Fr_trans h22 h62 (by decide +kernel)
      obtain ⟨S66, h67⟩ : ∃ q : PS, q = adv By Nb S24 := ⟨_, rfl⟩
      have h68 : CT By Nb σ60 S66 := by rw [h67]; exact (CT_adv h26 (by (first | exact q_ca23768860 h27 h53 | omega)) h54 h62 (by decide +kernel) h64.2)
      have h69 := CT_k h68 ((h62 _ _ (inW tgz_3 (by decide +kernel))).trans h19)
      have h70 : S66.2.2.2 = S24.2.2.2 := by rw [h67]; exact adv_w
      have h71 : S66.1 = S24.1 := by rw [h67]; exact adv_1
      refine En_Ps 1 (pc' := 40) (lv' := [(2, .int z20), (0, .ref 3), (1, .int a)]) (st' := [.int z20]) rfl ?_
      exact En_ret (v := some (Value.int z20)) rfl rfl rfl ⟨h61, h65, z18, ((h62 _ _ (inW tgz_3 (by decide +kernel))).trans h19), z20, rfl, ⟨by first | exact q_98e1bded96 h34 | omega, by (first | exact q_59c2c892c6 h40 h39.2.2.2 | omega), by first | exact q_a555021d16 h17.2.1 | omega, by first | exact q_bd3fa30443 h35 | omega, by first | exact q_d22b102a8e h17.2.2.2.1 | omega, by first | exact q_83f4b1e050 h17.2.2.2.1 | omega, fun _ => by (first | exact q_57a5ca172d h38.1 (by decide) h40 h39.2.2.2 | omega), (by have q0 : tP By Nb a.toInt Sp = S66 := (by subst h67; subst h25; first | exact tPc_e (by omega) (by omega) | exact tPc_a (by (first | exact q_84f4eeda74 this.1 h52 h45 | omega)) | exact tPc_b (by omega)); rw [q0]; exact ⟨h68, fun zz => by (try have i0 := Imp_m h31 (by (first | exact q_7ed2936742 h71 zz | omega))); (try have i1 := Imp_m h30 (by (first | exact q_7ed2936742 h71 zz | omega))); (try have i2 := Imp_m h28 (by (first | exact q_7ed2936742 h71 zz | omega))); (try have i3 := Imp_m h10 (by (first | exact q_d2dcd30e56 i0.1 | omega))); (try have i4 := Imp_m h11 (by (first | exact q_9292b3be67 i0.1 i0.2.1 | omega))); (try have i5 := Imp_m h29 (by (first | exact q_a9b656fe3f h71 zz i2 i3 i0.2.1 | omega))); (try have i6 := Imp_m h17.2.2.2.2.2.2.1 (by omega)); (first | exact q_b1495600e7 i1 | omega)⟩)⟩⟩
    · have := sub_sbw h49 h47 rfl rfl (by (first | exact q_39e281d0cf h38.1 (by decide) | omega)) (by (first | exact q_d522d15adf ha h39.1 | omega)) (by (first | exact q_5a4d8a7e08 hu_a | omega))
      refine En_Ps 2 (pc' := 25) (lv' := [(2, .int z20), (0, .ref 3), (1, .int a)]) (st' := [.int ((Int32.ofInt 2)), .ref 3]) rfl ?_
      have := (by decide : ((Int32.ofInt 2)).toInt = 2)
      refine En_callV rfl rfl rfl rfl rfl rfl rfl rfl tgz_3 (by decide +kernel) rfl (c_54x σ14 h15 ((Int32.ofInt 2)) (geI (by decide : (Int32.ofInt 2).toInt = 2) (by decide)) (leI (by decide : (Int32.ofInt 2).toInt = 2) (by decide)) z18 h19 h26) (by decide) (by decide) (fun v73 σ74 h72 => ?_)
      obtain ⟨h75, h76, z78, h79, rfl, h77⟩ := h72
      have h80 := h77.2.2.2.2.2
      have h81 := Fr_trans h22 h76 (by decide +kernel)
      obtain ⟨S82, h83⟩ : ∃ q : PS, q = err By Nb 2 S24 := ⟨_, rfl⟩
      have h84 : CT By Nb σ74 S82 := by rw [h83]; exact (CT_eq h80 (err_cg (by (first | exact q_bef0c64981 this | omega))))
      have h85 := CT_k h84 h79
      have h86 : Imp (S82.1 = 0) (tK By Nb S82.2.2.1 = z2.toInt) := CT_t h84 ((h76 _ _ (inW tgz_3 (by decide +kernel))).trans ((h16 _ _ (inW tgz_3 (by decide +kernel))).trans h1))
      have h87 : Imp (S82.1 = 0 ∧ tK By Nb S82.2.2.1 = 2) (z6.toInt = tV By Nb S82.2.2.1 ∧ 0 ≤ tV By Nb S82.2.2.1) := fun q => CT_u h84 ((h76 _ _ (inW tgz_3 (by decide +kernel))).trans ((h16 _ _ (inW tgz_3 (by decide +kernel))).trans h5)) q.1 q.2
      have h88 : S82.2.2.2 = S24.2.2.2 := by rw [h83]; exact err_w
      have h89 := Imp_m h77.2.2.2.1 (by first | exact q_c5d285f1b9 h35 | omega)
      refine En_Ps 1 (pc' := 29) (lv' := [(2, .int z20), (0, .ref 3), (1, .int a)]) (st' := [.ref 3]) rfl ?_
      refine En_getK (j := 5) h79 rfl rfl rfl tgz_3 (by decide +kernel) ?_
      refine En_iNe _ rfl rfl (fun h90 => ?_) (fun hx => by exfalso; have := Imp_m h17.2.2.2.2.2.2.1 (by (first | exact q_f4f2768de0 h77.1 hx | omega)); have := Imp_m h77.2.2.2.2.1 (by (first | exact q_f4f2768de0 h77.1 hx | omega)); (first | exact q_a0b22f2d75 h77.1 hx | omega))
      refine En_Ps 1 (pc' := 40) (lv' := [(2, .int z20), (0, .ref 3), (1, .int a)]) (st' := [.int z20]) rfl ?_
      exact En_ret (v := some (Value.int z20)) rfl rfl rfl ⟨h75, h81, z78, h79, z20, rfl, ⟨by first | exact q_98e1bded96 h34 | omega, by (first | exact q_59c2c892c6 h40 h39.2.2.2 | omega), by first | exact q_1a6ee862c1 h77.1 | omega, by first | exact q_c733b715bf h77.2.1 | omega, by first | exact q_ccc3bb8fc9 h17.2.2.2.1 h77.2.2.1 | omega, by first | exact q_28bfca2c13 h17.2.2.2.1 h77.2.2.1 | omega, fun _ => by (first | exact q_57a5ca172d h38.1 (by decide) h40 h39.2.2.2 | omega), (by have q0 : tP By Nb a.toInt Sp = S82 := (by subst h83; subst h25; first | exact tPc_e (by (first | exact q_ca23768860 h27 h35 | omega)) (by omega) | exact tPc_a (by omega) | exact tPc_b (by omega)); rw [q0]; exact ⟨h84, fun zz => by (try have i0 := Imp_m h86 (by (first | exact q_d2dcd30e56 zz | omega))); (try have i1 := Imp_m h31 (by (first | exact q_a08c6f1db3 h89.2 h85 this zz | omega))); (try have i2 := Imp_m h30 (by (first | exact q_a08c6f1db3 h89.2 h85 this zz | omega))); (try have i3 := Imp_m h28 (by (first | exact q_a08c6f1db3 h89.2 h85 this zz | omega))); (try have i4 := Imp_m h10 (by (first | exact q_d2dcd30e56 i1.1 | omega))); (try have i5 := Imp_m h11 (by (first | exact q_19df27505f h89.2 h85 this zz h90 h77.1 | omega))); (try have i6 := Imp_m h29 (by (first | exact q_19df27505f h89.2 h85 this zz h90 h77.1 | omega))); (try have i7 := Imp_m h87 (by (first | exact q_a4162e68f9 zz h85 h89.2 this h90 h77.1 | omega))); (try have i8 := Imp_m h17.2.2.2.2.2.2.1 (by (first | exact q_eb7bcac33b h89.2 h85 this zz | omega))); (try have i9 := Imp_m h77.2.2.2.2.1 (by (first | exact q_eb7bcac33b h89.2 h85 this zz | omega))); (first | exact q_b1495600e7 i2 | omega)⟩)⟩⟩
/-- DoorSchool$Reader.readOwner(LDoorSchool$Plan;)V -/
abbrev P_68x (σ0 : SG) (By : Int → Int) (Nb : Int) (Sp : PS) (a : Nat) (f : Int32) (sg : Int32) : PO := fun v σ => WT σ ∧ Fr [(3, 1), (3, 2), (3, 3), (3, 4), (3, 5), (3, 6), (18, 6), (18, 7)] σ0 σ ∧ ∃ f1 : Int32, (σ 3)[5]? = some (Value.int f1) ∧ v = none ∧ OUT σ0 σ a ∧ -f1.toInt ≤ 0 ∧ f1.toInt - 3 ≤ 0 ∧ -f1.toInt + f.toInt ≤ 0 ∧ f.toInt - f1.toInt ≤ 0 ∧ (CT By Nb σ (fOwner By Nb Sp) ∧ ((fOwner By Nb Sp).1 = 0 → KN σ a (fOwner By Nb Sp).2.2.2 (act (fOwner By Nb Sp).2.2.2)))
set_option maxRecDepth 10000 in
set_option maxHeartbeats 4000000 in
theorem c_68x {By : Int → Int} {Nb : Int} {Sp : PS} (σ0 : SG) (hσ0 : WT σ0) (a : Nat) (ha : TG a = 18) (f : Int32) (h_f : (σ0 3)[5]? = some (Value.int f)) (sg : Int32) (h_sg : (σ0 a)[1]? = some (Value.int sg)) (hp0 : -sg.toInt ≤ 0) (hC : CT By Nb σ0 Sp) (hg : Sp.1 = 0) (hP : PLA a) (hX : FXP σ0 a) (hK : KN σ0 a Sp.2.2.2 (act Sp.2.2.2)) : En 3 66 none mr_68 (P_68x σ0 By Nb Sp a f sg) 0 [(0, .ref 3), (1, .ref a)] [] σ0 := by
  obtain ⟨hl_f, hu_f⟩ := WT_int hσ0 (g := 3) (by decide +kernel) (by decide +kernel) (l := 0) (u := 3) (by decide +kernel) h_f
  obtain ⟨hl_sg, hu_sg⟩ := WT_int hσ0 (g := 18) ha (by decide +kernel) (l := (-1)) (u := 4) (by decide +kernel) h_sg
  have hF0 : Fr [(3, 1), (3, 2), (3, 3), (3, 4), (3, 5), (3, 6), (18, 6), (18, 7)] σ0 σ0 := Fr_rfl
  have h1 := CT_k hC h_f
  have h2 : Sp.2.2.2 0 = sg.toInt := KN_v hK (Or.inl (by decide)) (by decide) (by decide) (by rw [lcO_lt (by decide) (by decide), Nat.add_zero]) rfl h_sg
  have h3 : pI (Sp.2.2.2 0) = pI (sg.toInt) := by rw [h2]
  refine En_Ps 1 (pc' := 1) (lv' := [(0, .ref 3), (1, .ref a)]) (st' := [.ref 3]) rfl ?_
  obtain ⟨z5, h4, h6, h7⟩ := WT_peekI hσ0 tgz_3 (by decide +kernel : FT 3 3 = (0, 0, 1600)) (by decide +kernel)
  refine En_callV rfl rfl rfl rfl rfl rfl rfl rfl tgz_3 (by decide +kernel) rfl (c_72x σ0 hσ0 z5 h4 hC.1 (CT_at hC (by (first | exact q_d2dcd30e56 hg | omega)) h4)) (by decide) (by decide) (fun v9 σ10 h8 => ?_)
  obtain ⟨h11, h12, rfl, h13⟩ := h8
  have h14 := h13
  have h15 := Fr_trans hF0 h12 (by decide +kernel)
  obtain ⟨S16, h17⟩ : ∃ q : PS, q = adv By Nb Sp := ⟨_, rfl⟩
  have h18 : CT By Nb σ10 S16 := by rw [h17]; exact (CT_adv hC (by (first | exact q_d2dcd30e56 hg | omega)) h4 h12 (by decide +kernel) h14.2)
  have h19 := CT_k h18 ((h12 _ _ (inW tgz_3 (by decide +kernel))).trans h_f)
  have h20 : S16.2.2.2 = Sp.2.2.2 := by rw [h17]; exact adv_w
  have h21 : S16.1 = Sp.1 := by rw [h17]; exact adv_1
  have h22 := KN_fr hP hK h12 (by decide +kernel)
  have h23 : S16.2.2.2 = Sp.2.2.2 := h20.trans (rfl : Sp.2.2.2 = Sp.2.2.2)
  have o24 : OUT σ0 σ10 a := OUT_fr OUT_0 h12 (by decide +kernel)
  refine En_Ps 3 (pc' := 7) (lv' := [(0, .ref 3), (1, .ref a)]) (st' := [.ref a, .int ((Int32.ofInt 0)), .ref 3]) rfl ?_
  refine En_callV rfl rfl rfl rfl rfl rfl rfl rfl ha (by decide +kernel) rfl (c_51x σ10 h11 a ha sg ((h12 _ _ (inW ha (by decide +kernel))).trans h_sg) (by first | exact q_a555021d16 hp0 | omega)) (by decide) (by decide) (fun v26 σ27 h25 => ?_)
  obtain ⟨h28, h29, z31, rfl, h30⟩ := h25
  have h32 := h30.2.2
  obtain rfl : σ10 = σ27 := Fr_nil h29
  have h33 := h32
  have h34 : pI (S16.2.2.2 0) = z31.toInt := by rw [h23]; (first | exact q_eed4cd1e4b h33 h3 | omega)
  refine En_Ps 2 (pc' := 12) (lv' := [(0, .ref 3), (1, .ref a)]) (st' := [.int ((z31 - ((Int32.ofInt 1)))), .int ((Int32.ofInt 0)), .ref 3]) rfl ?_
  refine En_top (subI rfl (by decide : (Int32.ofInt 1).toInt = 1) (by first | exact q_ead043ab48 h30.1 | omega) (by first | exact q_9b40fa289d h30.2.1 | omega)) (fun z35 h36 => ?_)
  have := (by decide : ((Int32.ofInt 0)).toInt = 0)
  refine En_callV rfl rfl rfl rfl rfl rfl rfl rfl tgz_3 (by decide +kernel) rfl (c_73x σ10 h11 ((Int32.ofInt 0)) z35 f ((h12 _ _ (inW tgz_3 (by decide +kernel))).trans h_f) h18) (by decide) (by decide) (fun v38 σ39 h37 => ?_)
  obtain ⟨h40, h41, z43, h44, z45, rfl, h42⟩ := h37
  have h46 := h42.2.2.2.2.2.2.2.2.2
  have h47 := Fr_trans h15 h41 (by decide +kernel)
  have h48 : tN By Nb ((Int32.ofInt 0)).toInt z35.toInt S16 = tN By Nb (0) (pI (S16.2.2.2 0) - 1) S16 := tN_cg2 (fun zz => by (first | exact q_d2dcd30e56 this | omega)) (fun zz => by (first | exact q_171d7b85d9 h36 h34 | omega))
  obtain ⟨S49, h50⟩ : ∃ q : PS, q = tN By Nb (0) (pI (S16.2.2.2 0) - 1) S16 := ⟨_, rfl⟩
  have h51 : CT By Nb σ39 S49 := by rw [h50]; exact (CT_eq h46.1 h48)
  have h52 := CT_k h51 h44
  have h53 : Imp (S49.1 = 0) (z45.toInt = tV By Nb S16.2.2.1) := fun z => Imp_m h46.2 (by rw [h48, ← h50]; exact z)
  have h54 : Imp (S49.1 = 0) (S16.1 = 0 ∧ tK By Nb S16.2.2.1 = 2 ∧ 0 ≤ tV By Nb S16.2.2.1 ∧ tV By Nb S16.2.2.1 ≤ pI (S16.2.2.2 0) - 1) := fun z => tN_gg (by rw [← h50]; exact z)
  have h55 : S49.2.2.2 = S16.2.2.2 := by rw [h50]; exact tN_w
  have h56 := KN_fr hP h22 h41 (by decide +kernel)
  have h57 : S49.2.2.2 = Sp.2.2.2 := h55.trans h23
  have o58 : OUT σ0 σ39 a := OUT_fr o24 h41 (by decide +kernel)
  have h59 := Imp_m h42.2.2.2.2.2.2.2.1 (by first | exact q_81610a3c5e h36 h30.1 | omega)
  have h60 := Imp_m h42.2.2.2.2.2.2.2.2.1 (by (first | exact q_83da3d7e14 this | omega))
  refine En_Ps 3 (pc' := 18) (lv' := [(2, .int z45), (0, .ref 3), (1, .ref a)]) (st' := [.int z45, .ref 3]) rfl ?_
  refine En_callV rfl rfl rfl rfl rfl rfl rfl rfl tgz_3 (by decide +kernel) rfl (c_74x σ39 h40 z45 (geI rfl (by first | exact q_ce01e7a6da h60 | omega)) (leI rfl (by first | exact q_e1ef427644 h59 h36 h30.2.1 | omega)) z43 h44 h51 (fun zz => by (try have i0 := Imp_m h54 (by (first | exact q_d2dcd30e56 zz | omega))); (try have i1 := Imp_m h53 (by (first | exact q_d2dcd30e56 zz | omega))); (try have i2 := Imp_m h42.2.2.2.2.2.1 (by (first | exact q_d8d8e6600d h52 zz | omega))); (try have i3 := Imp_m h42.2.2.2.2.2.2.1 (by omega)); (first | exact q_ded8cce8c4 i3.1 i2.1 this | omega))) (by decide) (by decide) (fun v62 σ63 h61 => ?_)
  obtain ⟨h64, h65, z67, h68, z69, rfl, h66⟩ := h61
  have h70 := h66.2.2.2.2.2.2.2
  have h71 := Fr_trans h47 h65 (by decide +kernel)
  have h72 : tP By Nb z45.toInt S49 = tP By Nb (tV By Nb S16.2.2.1) S49 := tP_cg2 (fun zz => by (try have i0 := Imp_m h54 (by (first | exact q_d2dcd30e56 zz | omega))); (try have i1 := Imp_m h53 (by (first | exact q_d2dcd30e56 zz | omega))); (try have i2 := Imp_m h42.2.2.2.2.2.1 (by (first | exact q_d8d8e6600d h52 zz | omega))); (try have i3 := Imp_m h42.2.2.2.2.2.2.1 (by omega)); (first | exact q_b1495600e7 i1 | omega))
  obtain ⟨S73, h74⟩ : ∃ q : PS, q = tP By Nb (tV By Nb S16.2.2.1) S49 := ⟨_, rfl⟩
  have h75 : CT By Nb σ63 S73 := by rw [h74]; exact (CT_eq h70.1 h72)
  have h76 := CT_k h75 h68
  have h77 : Imp (S73.1 = 0) (z69.toInt = tV By Nb S49.2.2.1) := fun z => Imp_m h70.2 (by rw [h72, ← h74]; exact z)
  have h78 : Imp (S73.1 = 0) (S49.1 = 0) := fun z => tP_g (by rw [← h74]; exact z)
  have h79 : S73.2.2.2 = S49.2.2.2 := by rw [h74]; exact tP_w
  have h80 := KN_fr hP h56 h65 (by decide +kernel)
  have h81 : S73.2.2.2 = Sp.2.2.2 := h79.trans h57
  have o82 : OUT σ0 σ63 a := OUT_fr o58 h65 (by decide +kernel)
  refine En_Ps 2 (pc' := 23) (lv' := [(3, .int z69), (2, .int z45), (0, .ref 3), (1, .ref a)]) (st' := [.ref 3]) rfl ?_
  refine En_getK (j := 5) h68 rfl rfl rfl tgz_3 (by decide +kernel) ?_
  refine En_iNe _ rfl rfl (fun h83 => ?_) (fun h83 => ?_)
  · have h84 : fOwner By Nb Sp = S73 := by unfold fOwner fRule; (try dsimp only); first | (rw [← h17, ← h50, ← h74]; first | done | rfl) | (rw [← h17, ← h50, ← h74]; rw [if_pos (by omega)]; first | done | rfl) | (rw [← h17, ← h50, ← h74]; rw [if_neg (by (first | exact q_57b55acfde h83 h66.2.2.1 h76 | omega))]; first | done | rfl) | (rw [← h17, ← h50, ← h74]; rw [if_neg (by omega), if_pos (by omega)]; first | done | rfl) | (rw [← h17, ← h50, ← h74]; rw [if_neg (by omega), if_neg (by omega)]; first | done | rfl) | (rw [← h17, ← h50, ← h74]; rw [if_neg (by omega), if_neg (by omega), if_neg (by omega)]; first | done | rfl)
    exact En_ret (v := none) rfl rfl rfl ⟨h64, h71, z67, h68, rfl, ⟨o82, by first | exact q_bc42505ae9 h83 h66.2.2.1 | omega, by first | exact q_c733b715bf h66.2.2.2.1 | omega, by first | exact q_ccc3bb8fc9 h42.2.2.2.1 h66.2.2.2.2.1 | omega, by first | exact q_28bfca2c13 h42.2.2.2.1 h66.2.2.2.2.1 | omega, (by rw [h84]; exact ⟨h75, fun z => absurd z (by (first | exact q_ae2d14d533 h83 h66.2.2.1 h76 z | omega))⟩)⟩⟩
  · have h85 := Imp_m h42.2.2.2.2.2.1 (by first | exact q_31d5f588b1 h66.2.2.2.2.1 h83 | omega)
    have h86 := Imp_m h66.2.2.2.2.2.2.1 (by first | exact q_c5d285f1b9 h83 | omega)
    try have h87 := Imp_m h78 (by (first | exact q_ca23768860 h76 h83 | omega))
    try have h88 := Imp_m h77 (by (first | exact q_ca23768860 h76 h83 | omega))
    try have h89 := Imp_m h54 (by (first | exact q_d2dcd30e56 h87 | omega))
    try have h90 := Imp_m h53 (by (first | exact q_d2dcd30e56 h87 | omega))
    refine En_Ps 2 (pc' := 31) (lv' := [(3, .int z69), (2, .int z45), (0, .ref 3), (1, .ref a)]) (st' := [.int z45, .ref a]) rfl ?_
    refine En_put (j := 6) rfl rfl rfl ha (by decide +kernel) rfl (vI (l := 0) (u := 15) (by decide +kernel) rfl (by (first | exact q_39e281d0cf h85.1 this | omega)) (by first | exact q_e1ef427644 h59 h36 h30.2.1 | omega)) h64 h71 (by decide +kernel) (fun σ91 h92 h93 h94 h95 => ?_)
    obtain ⟨S96, h97⟩ : ∃ q : PS, q = wst S73 (8) ((tV By Nb S16.2.2.1)) := ⟨_, rfl⟩
    have h98 : CT By Nb σ91 S96 := by rw [h97]; exact CT_wst (CT_ne h75 h95 (by have := hP; unfold PLA at this; omega))
    have h99 : KN σ91 a (uPd Sp.2.2.2 (8) ((tV By Nb S16.2.2.1))) (fun t => (act Sp.2.2.2 t ∨ t = 8)) := KN_st h80 h94 h95 (by (first | decide | omega)) (by (first | decide | omega)) (by rw [lcO_lt (by decide) (by decide), Nat.add_zero]) (by decide) (by (try have i0 := Imp_m h78 (by (first | exact q_ca23768860 h76 h83 | omega))); (try have i1 := Imp_m h77 (by (first | exact q_ca23768860 h76 h83 | omega))); (try have i2 := Imp_m h54 (by (first | exact q_d2dcd30e56 i0 | omega))); (try have i3 := Imp_m h53 (by (first | exact q_d2dcd30e56 i0 | omega))); (try have i4 := Imp_m h42.2.2.2.2.2.2.1 (by omega)); (first | exact q_a8fb2024c1 i3 | omega))
    have h100 : S96.2.2.2 = (uPd Sp.2.2.2 (8) ((tV By Nb S16.2.2.1))) := by rw [h97]; show uPd S73.2.2.2 _ _ = _; rw [h81]
    have h101 : S96.1 = S73.1 := by rw [h97]; rfl
    have h102 := CT_k h98 ((h95 _ _ (Or.inr (by decide))).trans h68)
    have o103 : OUT σ0 σ91 a := OUT_st o82 h95 (by omega)
    refine En_Ps 2 (pc' := 36) (lv' := [(3, .int z69), (2, .int z45), (0, .ref 3), (1, .ref a)]) (st' := [.int z69, .ref a]) rfl ?_
    refine En_put (j := 7) rfl rfl rfl ha (by decide +kernel) rfl (vI (l := 0) (u := 15) (by decide +kernel) rfl (by first | exact q_ef1e8e38bf h86.1 | omega) (by first | exact q_5a5f544404 h66.2.1 | omega)) h92 h93 (by decide +kernel) (fun σ104 h105 h106 h107 h108 => ?_)
    obtain ⟨S109, h110⟩ : ∃ q : PS, q = wst S96 (8 + 1) ((tV By Nb S49.2.2.1)) := ⟨_, rfl⟩
    have h111 : CT By Nb σ104 S109 := by rw [h110]; exact CT_wst (CT_ne h98 h108 (by have := hP; unfold PLA at this; omega))
    have h112 : KN σ104 a (uPd (uPd Sp.2.2.2 (8) ((tV By Nb S16.2.2.1))) (8 + 1) ((tV By Nb S49.2.2.1))) (fun t => ((act Sp.2.2.2 t ∨ t = 8) ∨ t = 8 + 1)) := KN_st h99 h107 h108 (by (first | decide | omega)) (by (first | decide | omega)) (by rw [lcO_lt (by decide) (by decide), Nat.add_zero]) (by decide) (by (try have i0 := Imp_m h78 (by (first | exact q_ca23768860 h76 h83 | omega))); (try have i1 := Imp_m h77 (by (first | exact q_ca23768860 h76 h83 | omega))); (try have i2 := Imp_m h54 (by (first | exact q_d2dcd30e56 i0 | omega))); (try have i3 := Imp_m h53 (by (first | exact q_d2dcd30e56 i0 | omega))); (try have i4 := Imp_m h42.2.2.2.2.2.2.1 (by omega)); (first | exact q_a8fb2024c1 i1 | omega))
    have h113 : S109.2.2.2 = (uPd (uPd Sp.2.2.2 (8) ((tV By Nb S16.2.2.1))) (8 + 1) ((tV By Nb S49.2.2.1))) := by rw [h110]; show uPd S96.2.2.2 _ _ = _; rw [h100]
    have h114 : S109.1 = S96.1 := by rw [h110]; rfl
    have h115 := CT_k h111 ((h108 _ _ (Or.inr (by decide))).trans ((h95 _ _ (Or.inr (by decide))).trans h68))
    have o116 : OUT σ0 σ104 a := OUT_st o103 h108 (by omega)
    have h117 : fOwner By Nb Sp = S109 := by unfold fOwner fRule; (try dsimp only); first | (rw [← h17, ← h50, ← h74, ← h97, ← h110]; first | done | rfl) | (rw [← h17, ← h50, ← h74, ← h97, ← h110]; rw [if_pos (by (first | exact q_ca23768860 h76 h83 | omega))]; first | done | rfl) | (rw [← h17, ← h50, ← h74, ← h97, ← h110]; rw [if_neg (by omega)]; first | done | rfl) | (rw [← h17, ← h50, ← h74, ← h97, ← h110]; rw [if_neg (by omega), if_pos (by omega)]; first | done | rfl) | (rw [← h17, ← h50, ← h74, ← h97, ← h110]; rw [if_neg (by omega), if_neg (by omega)]; first | done | rfl) | (rw [← h17, ← h50, ← h74, ← h97, ← h110]; rw [if_neg (by omega), if_neg (by omega), if_neg (by omega)]; first | done | rfl)
    exact En_ret (v := none) rfl rfl rfl ⟨h105, h106, z67, ((h108 _ _ (Or.inr (by decide))).trans ((h95 _ _ (Or.inr (by decide))).trans h68)), rfl, ⟨o116, by first | exact q_a555021d16 h66.2.2.1 | omega, by first | exact q_bd3fa30443 h83 | omega, by first | exact q_ccc3bb8fc9 h42.2.2.2.1 h66.2.2.2.2.1 | omega, by first | exact q_28bfca2c13 h42.2.2.2.1 h66.2.2.2.2.1 | omega, (by rw [h117]; exact ⟨h111, fun zz => by rw [h113]; exact KN_sub h112 (fun t t0 t1 y => Or.inl (Or.inl (act_low (by (first | decide | omega)) (act_low (by (first | decide | omega)) y))))⟩)⟩⟩
/-- DoorSchool$Reader.readHouse(LDoorSchool$Plan;)V -/
abbrev P_66x (σ0 : SG) (By : Int → Int) (Nb : Int) (Sp : PS) (a : Nat) (f : Int32) (sg : Int32) : PO := fun v σ => WT σ ∧ Fr [(3, 1), (3, 2), (3, 3), (3, 4), (3, 5), (3, 6), (18, 8), (23, 0), (24, 0)] σ0 σ ∧ ∃ f1 : Int32, (σ 3)[5]? = some (Value.int f1) ∧ v = none ∧ OUT σ0 σ a ∧ -f1.toInt ≤ 0 ∧ f1.toInt - 3 ≤ 0 ∧ -f1.toInt + f.toInt ≤ 0 ∧ f.toInt - f1.toInt ≤ 0 ∧ (CT By Nb σ (fHouse By Nb Sp) ∧ ((fHouse By Nb Sp).1 = 0 → KN σ a (fHouse By Nb Sp).2.2.2 (act (fHouse By Nb Sp).2.2.2)))
set_option maxRecDepth 10000 in
set_option maxHeartbeats 4000000 in
theorem c_66x {By : Int → Int} {Nb : Int} {Sp : PS} (σ0 : SG) (hσ0 : WT σ0) (a : Nat) (ha : TG a = 18) (f : Int32) (h_f : (σ0 3)[5]? = some (Value.int f)) (sg : Int32) (h_sg : (σ0 a)[1]? = some (Value.int sg)) (hp0 : -sg.toInt ≤ 0) (hC : CT By Nb σ0 Sp) (hg : Sp.1 = 0) (hP : PLA a) (hX : FXP σ0 a) (hK : KN σ0 a Sp.2.2.2 (act Sp.2.2.2)) : En 3 66 none mr_66 (P_66x σ0 By Nb Sp a f sg) 0 [(0, .ref 3), (1, .ref a)] [] σ0 := by
  obtain ⟨hl_f, hu_f⟩ := WT_int hσ0 (g := 3) (by decide +kernel) (by decide +kernel) (l := 0) (u := 3) (by decide +kernel) h_f
  obtain ⟨hl_sg, hu_sg⟩ := WT_int hσ0 (g := 18) ha (by decide +kernel) (l := (-1)) (u := 4) (by decide +kernel) h_sg
  have hF0 : Fr [(3, 1), (3, 2), (3, 3), (3, 4), (3, 5), (3, 6), (18, 8), (23, 0), (24, 0)] σ0 σ0 := Fr_rfl
  have h1 := CT_k hC h_f
  have h2 : Sp.2.2.2 0 = sg.toInt := KN_v hK (Or.inl (by decide)) (by decide) (by decide) (by rw [lcO_lt (by decide) (by decide), Nat.add_zero]) rfl h_sg
  have h3 : pI (Sp.2.2.2 0) = pI (sg.toInt) := by rw [h2]
  obtain ⟨z5, h4, h6, h7⟩ := WT_peekI hσ0 ha (by decide +kernel : FT 18 8 = (0, 0, 4)) (by decide +kernel)
  have h8 : Sp.2.2.2 4 = z5.toInt := KN_v hK (Or.inl (by decide)) (by decide) (by decide) (by rw [lcO_lt (by decide) (by decide), Nat.add_zero]) rfl h4
  refine En_Ps 1 (pc' := 1) (lv' := [(0, .ref 3), (1, .ref a)]) (st' := [.ref a]) rfl ?_
  refine En_getK (j := 8) h4 rfl rfl rfl ha (by decide +kernel) ?_
  refine En_Ps 1 (pc' := 5) (lv' := [(0, .ref 3), (1, .ref a)]) (st' := [.int ((Int32.ofInt 4)), .int z5]) rfl ?_
  refine En_icLt _ rfl (by decide : (Int32.ofInt 4).toInt = 4) rfl (fun h9 => ?_) (fun h9 => ?_)
  · refine En_Ps 1 (pc' := 15) (lv' := [(0, .ref 3), (1, .ref a)]) (st' := [.ref 3]) rfl ?_
    obtain ⟨z11, h10, h12, h13⟩ := WT_peekI hσ0 tgz_3 (by decide +kernel : FT 3 3 = (0, 0, 1600)) (by decide +kernel)
    refine En_callV rfl rfl rfl rfl rfl rfl rfl rfl tgz_3 (by decide +kernel) rfl (c_72x σ0 hσ0 z11 h10 hC.1 (CT_at hC (by (first | exact q_d2dcd30e56 hg | omega)) h10)) (by decide) (by decide) (fun v15 σ16 h14 => ?_)
    obtain ⟨h17, h18, rfl, h19⟩ := h14
    have h20 := h19
    have h21 := Fr_trans hF0 h18 (by decide +kernel)
    obtain ⟨S22, h23⟩ : ∃ q : PS, q = adv By Nb Sp := ⟨_, rfl⟩
    have h24 : CT By Nb σ16 S22 := by rw [h23]; exact (CT_adv hC (by (first | exact q_d2dcd30e56 hg | omega)) h10 h18 (by decide +kernel) h20.2)
    have h25 := CT_k h24 ((h18 _ _ (inW tgz_3 (by decide +kernel))).trans h_f)
    have h26 : S22.2.2.2 = Sp.2.2.2 := by rw [h23]; exact adv_w
    have h27 : S22.1 = Sp.1 := by rw [h23]; exact adv_1
    have h28 := KN_fr hP hK h18 (by decide +kernel)
    have h29 : S22.2.2.2 = Sp.2.2.2 := h26.trans (rfl : Sp.2.2.2 = Sp.2.2.2)
    have o30 : OUT σ0 σ16 a := OUT_fr OUT_0 h18 (by decide +kernel)
    refine En_Ps 3 (pc' := 21) (lv' := [(0, .ref 3), (1, .ref a)]) (st' := [.ref a, .int ((Int32.ofInt 0)), .ref 3]) rfl ?_
    refine En_callV rfl rfl rfl rfl rfl rfl rfl rfl ha (by decide +kernel) rfl (c_51x σ16 h17 a ha sg ((h18 _ _ (inW ha (by decide +kernel))).trans h_sg) (by first | exact q_a555021d16 hp0 | omega)) (by decide) (by decide) (fun v32 σ33 h31 => ?_)
    obtain ⟨h34, h35, z37, rfl, h36⟩ := h31
    have h38 := h36.2.2
    obtain rfl : σ16 = σ33 := Fr_nil h35
    have h39 := h38
    have h40 : pI (S22.2.2.2 0) = z37.toInt := by rw [h29]; (first | exact q_eed4cd1e4b h39 h3 | omega)
    refine En_Ps 2 (pc' := 26) (lv' := [(0, .ref 3), (1, .ref a)]) (st' := [.int ((z37 - ((Int32.ofInt 1)))), .int ((Int32.ofInt 0)), .ref 3]) rfl ?_
    refine En_top (subI rfl (by decide : (Int32.ofInt 1).toInt = 1) (by first | exact q_ead043ab48 h36.1 | omega) (by first | exact q_9b40fa289d h36.2.1 | omega)) (fun z41 h42 => ?_)
    have := (by decide : ((Int32.ofInt 0)).toInt = 0)
    refine En_callV rfl rfl rfl rfl rfl rfl rfl rfl tgz_3 (by decide +kernel) rfl (c_73x σ16 h17 ((Int32.ofInt 0)) z41 f ((h18 _ _ (inW tgz_3 (by decide +kernel))).trans h_f) h24) (by decide) (by decide) (fun v44 σ45 h43 => ?_)
    obtain ⟨h46, h47, z49, h50, z51, rfl, h48⟩ := h43
    have h52 := h48.2.2.2.2.2.2.2.2.2
    have h53 := Fr_trans h21 h47 (by decide +kernel)
    have h54 : tN By Nb ((Int32.ofInt 0)).toInt z41.toInt S22 = tN By Nb (0) (pI (S22.2.2.2 0) - 1) S22 := tN_cg2 (fun zz => by (first | exact q_d2dcd30e56 this | omega)) (fun zz => by (first | exact q_171d7b85d9 h42 h40 | omega))
    obtain ⟨S55, h56⟩ : ∃ q : PS, q = tN By Nb (0) (pI (S22.2.2.2 0) - 1) S22 := ⟨_, rfl⟩
    have h57 : CT By Nb σ45 S55 := by rw [h56]; exact (CT_eq h52.1 h54)
    have h58 := CT_k h57 h50
    have h59 : Imp (S55.1 = 0) (z51.toInt = tV By Nb S22.2.2.1) := fun z => Imp_m h52.2 (by rw [h54, ← h56]; exact z)
    have h60 : Imp (S55.1 = 0) (S22.1 = 0 ∧ tK By Nb S22.2.2.1 = 2 ∧ 0 ≤ tV By Nb S22.2.2.1 ∧ tV By Nb S22.2.2.1 ≤ pI (S22.2.2.2 0) - 1) := fun z => tN_gg (by rw [← h56]; exact z)
    have h61 : S55.2.2.2 = S22.2.2.2 := by rw [h56]; exact tN_w
    have h62 := KN_fr hP h28 h47 (by decide +kernel)
    have h63 : S55.2.2.2 = Sp.2.2.2 := h61.trans h29
    have o64 : OUT σ0 σ45 a := OUT_fr o30 h47 (by decide +kernel)
    have h65 := Imp_m h48.2.2.2.2.2.2.2.1 (by first | exact q_81610a3c5e h42 h36.1 | omega)
    have h66 := Imp_m h48.2.2.2.2.2.2.2.2.1 (by (first | exact q_83da3d7e14 this | omega))
    refine En_Ps 3 (pc' := 32) (lv' := [(2, .int z51), (0, .ref 3), (1, .ref a)]) (st' := [.int z51, .ref 3]) rfl ?_
    refine En_callV rfl rfl rfl rfl rfl rfl rfl rfl tgz_3 (by decide +kernel) rfl (c_74x σ45 h46 z51 (geI rfl (by first | exact q_ce01e7a6da h66 | omega)) (leI rfl (by first | exact q_e1ef427644 h65 h42 h36.2.1 | omega)) z49 h50 h57 (fun zz => by (try have i0 := Imp_m h60 (by (first | exact q_d2dcd30e56 zz | omega))); (try have i1 := Imp_m h59 (by (first | exact q_d2dcd30e56 zz | omega))); (try have i2 := Imp_m h48.2.2.2.2.2.1 (by (first | exact q_d8d8e6600d h58 zz | omega))); (try have i3 := Imp_m h48.2.2.2.2.2.2.1 (by omega)); (first | exact q_ded8cce8c4 i3.1 i2.1 this | omega))) (by decide) (by decide) (fun v68 σ69 h67 => ?_)
    obtain ⟨h70, h71, z73, h74, z75, rfl, h72⟩ := h67
    have h76 := h72.2.2.2.2.2.2.2
    have h77 := Fr_trans h53 h71 (by decide +kernel)
    have h78 : tP By Nb z51.toInt S55 = tP By Nb (tV By Nb S22.2.2.1) S55 := tP_cg2 (fun zz => by (try have i0 := Imp_m h60 (by (first | exact q_d2dcd30e56 zz | omega))); (try have i1 := Imp_m h59 (by (first | exact q_d2dcd30e56 zz | omega))); (try have i2 := Imp_m h48.2.2.2.2.2.1 (by (first | exact q_d8d8e6600d h58 zz | omega))); (try have i3 := Imp_m h48.2.2.2.2.2.2.1 (by omega)); (first | exact q_b1495600e7 i1 | omega))
    obtain ⟨S79, h80⟩ : ∃ q : PS, q = tP By Nb (tV By Nb S22.2.2.1) S55 := ⟨_, rfl⟩
    have h81 : CT By Nb σ69 S79 := by rw [h80]; exact (CT_eq h76.1 h78)
    have h82 := CT_k h81 h74
    have h83 : Imp (S79.1 = 0) (z75.toInt = tV By Nb S55.2.2.1) := fun z => Imp_m h76.2 (by rw [h78, ← h80]; exact z)
    have h84 : Imp (S79.1 = 0) (S55.1 = 0) := fun z => tP_g (by rw [← h80]; exact z)
    have h85 : S79.2.2.2 = S55.2.2.2 := by rw [h80]; exact tP_w
    have h86 := KN_fr hP h62 h71 (by decide +kernel)
    have h87 : S79.2.2.2 = Sp.2.2.2 := h85.trans h63
    have o88 : OUT σ0 σ69 a := OUT_fr o64 h71 (by decide +kernel)
    refine En_Ps 2 (pc' := 37) (lv' := [(3, .int z75), (2, .int z51), (0, .ref 3), (1, .ref a)]) (st' := [.ref 3]) rfl ?_
    refine En_getK (j := 5) h74 rfl rfl rfl tgz_3 (by decide +kernel) ?_
    refine En_iNe _ rfl rfl (fun h89 => ?_) (fun h89 => ?_)
    · have h90 : fRule By Nb (146 + 2 * Sp.2.2.2 4) S22 = S79 := by unfold fRule; (try dsimp only); rw [← h56, ← h80]; first | (rw [if_pos (by omega)]; first | done | rfl) | (rw [if_neg (by (first | exact q_57b55acfde h89 h72.2.2.1 h82 | omega))]; first | done | rfl)
      have h91 : fHouse By Nb Sp = S79 := by unfold fHouse; (try dsimp only); first | (rw [← h23, h90]; first | done | rfl) | (rw [← h23, h90]; rw [if_pos (by omega)]; first | done | rfl) | (rw [← h23, h90]; rw [if_neg (by (first | exact q_5d6df0d229 h8 h9 | omega))]; first | done | rfl) | (rw [← h23, h90]; rw [if_neg (by (first | exact q_5d6df0d229 h8 h9 | omega)), if_pos (by omega)]; first | done | rfl) | (rw [← h23, h90]; rw [if_neg (by (first | exact q_5d6df0d229 h8 h9 | omega)), if_neg (by (first | exact q_57b55acfde h89 h72.2.2.1 h82 | omega))]; first | done | rfl) | (rw [← h23, h90]; rw [if_neg (by omega), if_neg (by omega), if_neg (by omega)]; first | done | rfl)
      exact En_ret (v := none) rfl rfl rfl ⟨h70, h77, z73, h74, rfl, ⟨o88, by first | exact q_bc42505ae9 h89 h72.2.2.1 | omega, by first | exact q_c733b715bf h72.2.2.2.1 | omega, by first | exact q_ccc3bb8fc9 h48.2.2.2.1 h72.2.2.2.2.1 | omega, by first | exact q_28bfca2c13 h48.2.2.2.1 h72.2.2.2.2.1 | omega, (by rw [h91]; exact ⟨h81, fun z => absurd z (by (first | exact q_ae2d14d533 h89 h72.2.2.1 h82 z | omega))⟩)⟩⟩
    · have h92 := Imp_m h48.2.2.2.2.2.1 (by first | exact q_31d5f588b1 h72.2.2.2.2.1 h89 | omega)
      have h93 := Imp_m h72.2.2.2.2.2.2.1 (by first | exact q_c5d285f1b9 h89 | omega)
      try have h94 := Imp_m h84 (by (first | exact q_ca23768860 h82 h89 | omega))
      try have h95 := Imp_m h83 (by (first | exact q_ca23768860 h82 h89 | omega))
      try have h96 := Imp_m h60 (by (first | exact q_d2dcd30e56 h94 | omega))
      try have h97 := Imp_m h59 (by (first | exact q_d2dcd30e56 h94 | omega))
      refine En_Ps 1 (pc' := 44) (lv' := [(3, .int z75), (2, .int z51), (0, .ref 3), (1, .ref a)]) (st' := [.ref a]) rfl ?_
      refine En_getR (j := 9) (g' := 23) (u := 0) rfl rfl rfl ha (by decide +kernel) h70 (by decide +kernel) (fun a99 h98 ha99 => ?_)
      refine En_Ps 1 (pc' := 48) (lv' := [(3, .int z75), (2, .int z51), (0, .ref 3), (1, .ref a)]) (st' := [.ref a, .ref a99]) rfl ?_
      refine En_getK (j := 8) ((h71 _ _ (inW ha (by decide +kernel))).trans ((h47 _ _ (inW ha (by decide +kernel))).trans ((h18 _ _ (inW ha (by decide +kernel))).trans h4))) rfl rfl rfl ha (by decide +kernel) ?_
      refine En_Ps 1 (pc' := 52) (lv' := [(3, .int z75), (2, .int z51), (0, .ref 3), (1, .ref a)]) (st' := [.int z51, .int z5, .ref a99]) rfl ?_
      refine En_iast (l := 0) (u := 15) rfl rfl ha99 (by decide +kernel) (by first | exact q_58e6e51dcc h6 | omega) (lnI (by decide +kernel : LN _ = 4) (by first | exact q_074a8b422d h9 | omega)) (FTsgl (by decide +kernel)) (rngI rfl (by (first | exact q_39e281d0cf h92.1 this | omega)) (by first | exact q_e1ef427644 h65 h42 h36.2.1 | omega)) h70 h77 (by decide +kernel) (fun σ100 h101 h102 h103 h104 => ?_)
      have h105 : a99 = a + 5 := ref_uniq ((h104 _ _ (Or.inl (neTG ha ha99 (by decide)))).trans h98) (FXP_fr hP hX h102 (by decide +kernel)).2.2.1
      have h106 := lc_h (m := Sp.2.2.2 4) (by (first | exact q_2d21ab1e6c h8 h6 | omega)) (by (first | exact q_609c6783a0 h8 h9 | omega))
      obtain ⟨S107, h108⟩ : ∃ q : PS, q = wst S79 (146 + 2 * Sp.2.2.2 4) ((tV By Nb S22.2.2.1)) := ⟨_, rfl⟩
      have h109 : CT By Nb σ100 S107 := by rw [h108]; exact CT_wst (CT_ne h81 h104 (by have := hP; unfold PLA at this; omega))
      have h110 : KN σ100 a (uPd Sp.2.2.2 (146 + 2 * Sp.2.2.2 4) ((tV By Nb S22.2.2.1))) (fun t => (act Sp.2.2.2 t ∨ t = 146 + 2 * Sp.2.2.2 4)) := KN_st h86 h103 h104 (by (first | exact q_4bad2920b0 h8 h6 | omega)) (by (first | exact q_f040f435fa h8 h9 | omega)) (by omega) (by (first | exact q_c54adee5ad h6 h106.2.2.1 h8 | omega)) (by (try have i0 := Imp_m h84 (by (first | exact q_ca23768860 h82 h89 | omega))); (try have i1 := Imp_m h83 (by (first | exact q_ca23768860 h82 h89 | omega))); (try have i2 := Imp_m h60 (by (first | exact q_d2dcd30e56 i0 | omega))); (try have i3 := Imp_m h59 (by (first | exact q_d2dcd30e56 i0 | omega))); (try have i4 := Imp_m h48.2.2.2.2.2.2.1 (by omega)); (first | exact q_a8fb2024c1 i3 | omega))
      have h111 : S107.2.2.2 = (uPd Sp.2.2.2 (146 + 2 * Sp.2.2.2 4) ((tV By Nb S22.2.2.1))) := by rw [h108]; show uPd S79.2.2.2 _ _ = _; rw [h87]
      have h112 : S107.1 = S79.1 := by rw [h108]; rfl
      have h113 := CT_k h109 ((h104 _ _ (Or.inl (neTG tgz_3 ha99 (by decide)))).trans h74)
      have o114 : OUT σ0 σ100 a := OUT_st o88 h104 (by omega)
      refine En_Ps 1 (pc' := 54) (lv' := [(3, .int z75), (2, .int z51), (0, .ref 3), (1, .ref a)]) (st' := [.ref a]) rfl ?_
      refine En_getR (j := 10) (g' := 24) (u := 0) rfl rfl rfl ha (by decide +kernel) h101 (by decide +kernel) (fun a116 h115 ha116 => ?_)
      refine En_Ps 1 (pc' := 58) (lv' := [(3, .int z75), (2, .int z51), (0, .ref 3), (1, .ref a)]) (st' := [.ref a, .ref a116]) rfl ?_
      refine En_getK (j := 8) ((h104 _ _ (Or.inl (neTG ha ha99 (by decide)))).trans ((h71 _ _ (inW ha (by decide +kernel))).trans ((h47 _ _ (inW ha (by decide +kernel))).trans ((h18 _ _ (inW ha (by decide +kernel))).trans h4)))) rfl rfl rfl ha (by decide +kernel) ?_
      refine En_Ps 1 (pc' := 62) (lv' := [(3, .int z75), (2, .int z51), (0, .ref 3), (1, .ref a)]) (st' := [.int z75, .int z5, .ref a116]) rfl ?_
      refine En_iast (l := 0) (u := 15) rfl rfl ha116 (by decide +kernel) (by first | exact q_58e6e51dcc h6 | omega) (lnI (by decide +kernel : LN _ = 4) (by first | exact q_074a8b422d h9 | omega)) (FTsgl (by decide +kernel)) (rngI rfl (by first | exact q_ef1e8e38bf h93.1 | omega) (by first | exact q_5a5f544404 h72.2.1 | omega)) h101 h102 (by decide +kernel) (fun σ117 h118 h119 h120 h121 => ?_)
      have h122 : a116 = a + 6 := ref_uniq ((h121 _ _ (Or.inl (neTG ha ha116 (by decide)))).trans h115) (FXP_fr hP hX h119 (by decide +kernel)).2.2.2.1
      have h123 := lc_h (m := Sp.2.2.2 4) (by (first | exact q_2d21ab1e6c h8 h6 | omega)) (by (first | exact q_609c6783a0 h8 h9 | omega))
      obtain ⟨S124, h125⟩ : ∃ q : PS, q = wst S107 (146 + 2 * Sp.2.2.2 4 + 1) ((tV By Nb S55.2.2.1)) := ⟨_, rfl⟩
      have h126 : CT By Nb σ117 S124 := by rw [h125]; exact CT_wst (CT_ne h109 h121 (by have := hP; unfold PLA at this; omega))
      have h127 : KN σ117 a (uPd (uPd Sp.2.2.2 (146 + 2 * Sp.2.2.2 4) ((tV By Nb S22.2.2.1))) (146 + 2 * Sp.2.2.2 4 + 1) ((tV By Nb S55.2.2.1))) (fun t => ((act Sp.2.2.2 t ∨ t = 146 + 2 * Sp.2.2.2 4) ∨ t = 146 + 2 * Sp.2.2.2 4 + 1)) := KN_st h110 h120 h121 (by (first | exact q_8e2648b228 h8 h6 | omega)) (by (first | exact q_629348f5ed h8 h9 | omega)) (by omega) (by (first | exact q_c54adee5ad h6 h123.2.2.2 h8 | omega)) (by (try have i0 := Imp_m h84 (by (first | exact q_ca23768860 h82 h89 | omega))); (try have i1 := Imp_m h83 (by (first | exact q_ca23768860 h82 h89 | omega))); (try have i2 := Imp_m h60 (by (first | exact q_d2dcd30e56 i0 | omega))); (try have i3 := Imp_m h59 (by (first | exact q_d2dcd30e56 i0 | omega))); (try have i4 := Imp_m h48.2.2.2.2.2.2.1 (by omega)); (first | exact q_a8fb2024c1 i1 | omega))
      have h128 : S124.2.2.2 = (uPd (uPd Sp.2.2.2 (146 + 2 * Sp.2.2.2 4) ((tV By Nb S22.2.2.1))) (146 + 2 * Sp.2.2.2 4 + 1) ((tV By Nb S55.2.2.1))) := by rw [h125]; show uPd S107.2.2.2 _ _ = _; rw [h111]
      have h129 : S124.1 = S107.1 := by rw [h125]; rfl
      have h130 := CT_k h126 ((h121 _ _ (Or.inl (neTG tgz_3 ha116 (by decide)))).trans ((h104 _ _ (Or.inl (neTG tgz_3 ha99 (by decide)))).trans h74))
      have o131 : OUT σ0 σ117 a := OUT_st o114 h121 (by omega)
      have h132 : fRule By Nb (146 + 2 * Sp.2.2.2 4) S22 = S124 := by unfold fRule; (try dsimp only); rw [← h56, ← h80, ← h108, ← h125]; first | (rw [if_pos (by (first | exact q_ca23768860 h82 h89 | omega))]; first | done | rfl) | (rw [if_neg (by omega)]; first | done | rfl)
      refine En_Ps 2 (pc' := 65) (lv' := [(3, .int z75), (2, .int z51), (0, .ref 3), (1, .ref a)]) (st' := [.ref a, .ref a]) rfl ?_
      refine En_getK (j := 8) ((h121 _ _ (Or.inl (neTG ha ha116 (by decide)))).trans ((h104 _ _ (Or.inl (neTG ha ha99 (by decide)))).trans ((h71 _ _ (inW ha (by decide +kernel))).trans ((h47 _ _ (inW ha (by decide +kernel))).trans ((h18 _ _ (inW ha (by decide +kernel))).trans h4))))) rfl rfl rfl ha (by decide +kernel) ?_
      refine En_Ps 2 (pc' := 70) (lv' := [(3, .int z75), (2, .int z51), (0, .ref 3), (1, .ref a)]) (st' := [.int ((z5 + ((Int32.ofInt 1)))), .ref a]) rfl ?_
      refine En_top (addI rfl (by decide : (Int32.ofInt 1).toInt = 1) (by first | exact q_465ab79ac1 h6 | omega) (by first | exact q_d8bf7f475a h9 | omega)) (fun z133 h134 => ?_)
      refine En_put (j := 8) rfl rfl rfl ha (by decide +kernel) rfl (vI (l := 0) (u := 4) (by decide +kernel) rfl (by first | exact q_35104ce9d3 h134 h6 | omega) (by first | exact q_ddc5c16a68 h134 h9 | omega)) h118 h119 (by decide +kernel) (fun σ135 h136 h137 h138 h139 => ?_)
      obtain ⟨S140, h141⟩ : ∃ q : PS, q = wst S124 (4) (Sp.2.2.2 4 + 1) := ⟨_, rfl⟩
      have h142 : CT By Nb σ135 S140 := by rw [h141]; exact CT_wst (CT_ne h126 h139 (by have := hP; unfold PLA at this; omega))
      have h143 : KN σ135 a (uPd (uPd (uPd Sp.2.2.2 (146 + 2 * Sp.2.2.2 4) ((tV By Nb S22.2.2.1))) (146 + 2 * Sp.2.2.2 4 + 1) ((tV By Nb S55.2.2.1))) (4) (Sp.2.2.2 4 + 1)) (fun t => (((act Sp.2.2.2 t ∨ t = 146 + 2 * Sp.2.2.2 4) ∨ t = 146 + 2 * Sp.2.2.2 4 + 1) ∨ t = 4)) := KN_st h127 h138 h139 (by (first | decide | omega)) (by (first | decide | omega)) (by rw [lcO_lt (by decide) (by decide), Nat.add_zero]) (by decide) (by (try have i0 := Imp_m h84 (by (first | exact q_ca23768860 h82 h89 | omega))); (try have i1 := Imp_m h83 (by (first | exact q_ca23768860 h82 h89 | omega))); (try have i2 := Imp_m h60 (by (first | exact q_d2dcd30e56 i0 | omega))); (try have i3 := Imp_m h59 (by (first | exact q_d2dcd30e56 i0 | omega))); (try have i4 := Imp_m h48.2.2.2.2.2.2.1 (by omega)); (first | exact q_c264f2cea9 h134 h8 | omega))
      have h144 : S140.2.2.2 = (uPd (uPd (uPd Sp.2.2.2 (146 + 2 * Sp.2.2.2 4) ((tV By Nb S22.2.2.1))) (146 + 2 * Sp.2.2.2 4 + 1) ((tV By Nb S55.2.2.1))) (4) (Sp.2.2.2 4 + 1)) := by rw [h141]; show uPd S124.2.2.2 _ _ = _; rw [h128]
      have h145 : S140.1 = S124.1 := by rw [h141]; rfl
      have h146 := CT_k h142 ((h139 _ _ (Or.inr (by decide))).trans ((h121 _ _ (Or.inl (neTG tgz_3 ha116 (by decide)))).trans ((h104 _ _ (Or.inl (neTG tgz_3 ha99 (by decide)))).trans h74)))
      have o147 : OUT σ0 σ135 a := OUT_st o131 h139 (by omega)
      have h148 : fHouse By Nb Sp = S140 := by unfold fHouse; (try dsimp only); first | (rw [← h23, h132, ← h141]; first | done | rfl) | (rw [← h23, h132, ← h141]; rw [if_pos (by omega)]; first | done | rfl) | (rw [← h23, h132, ← h141]; rw [if_neg (by (first | exact q_5d6df0d229 h8 h9 | omega))]; first | done | rfl) | (rw [← h23, h132, ← h141]; rw [if_neg (by (first | exact q_5d6df0d229 h8 h9 | omega)), if_pos (by (first | exact q_ca23768860 h130 h89 | omega))]; first | done | rfl) | (rw [← h23, h132, ← h141]; rw [if_neg (by omega), if_neg (by omega)]; first | done | rfl) | (rw [← h23, h132, ← h141]; rw [if_neg (by omega), if_neg (by omega), if_neg (by omega)]; first | done | rfl)
      exact En_ret (v := none) rfl rfl rfl ⟨h136, h137, z73, ((h139 _ _ (Or.inr (by decide))).trans ((h121 _ _ (Or.inl (neTG tgz_3 ha116 (by decide)))).trans ((h104 _ _ (Or.inl (neTG tgz_3 ha99 (by decide)))).trans h74))), rfl, ⟨o147, by first | exact q_a555021d16 h72.2.2.1 | omega, by first | exact q_bd3fa30443 h89 | omega, by first | exact q_ccc3bb8fc9 h48.2.2.2.1 h72.2.2.2.2.1 | omega, by first | exact q_28bfca2c13 h48.2.2.2.1 h72.2.2.2.2.1 | omega, (by rw [h148]; exact ⟨h142, fun zz => by rw [h144]; exact KN_sub h143 (fun t t0 t1 y => AHs (by (first | exact q_2d21ab1e6c h8 h6 | omega)) y)⟩)⟩⟩
  · refine En_Ps 2 (pc' := 10) (lv' := [(0, .ref 3), (1, .ref a)]) (st' := [.int ((Int32.ofInt 3)), .ref 3]) rfl ?_
    have := (by decide : ((Int32.ofInt 3)).toInt = 3)
    refine En_callV rfl rfl rfl rfl rfl rfl rfl rfl tgz_3 (by decide +kernel) rfl (c_54x σ0 hσ0 ((Int32.ofInt 3)) (geI (by decide : (Int32.ofInt 3).toInt = 3) (by decide)) (leI (by decide : (Int32.ofInt 3).toInt = 3) (by decide)) f h_f hC) (by decide) (by decide) (fun v150 σ151 h149 => ?_)
    obtain ⟨h152, h153, z155, h156, rfl, h154⟩ := h149
    have h157 := h154.2.2.2.2.2
    have h158 := Fr_trans hF0 h153 (by decide +kernel)
    obtain ⟨S159, h160⟩ : ∃ q : PS, q = err By Nb 3 Sp := ⟨_, rfl⟩
    have h161 : CT By Nb σ151 S159 := by rw [h160]; exact (CT_eq h157 (err_cg (by (first | exact q_5736040b52 this | omega))))
    have h162 := CT_k h161 h156
    have h163 : S159.2.2.2 = Sp.2.2.2 := by rw [h160]; exact err_w
    have h164 := KN_fr hP hK h153 (by decide +kernel)
    have h165 : S159.2.2.2 = Sp.2.2.2 := h163.trans (rfl : Sp.2.2.2 = Sp.2.2.2)
    have o166 : OUT σ0 σ151 a := OUT_fr OUT_0 h153 (by decide +kernel)
    have h167 : fHouse By Nb Sp = S159 := by unfold fHouse; (try dsimp only); first | (rw [← h160]; first | done | rfl) | (rw [← h160]; rw [if_pos (by (first | exact q_a909a51ff5 h8 h9 | omega))]; first | done | rfl) | (rw [← h160]; rw [if_neg (by omega)]; first | done | rfl) | (rw [← h160]; rw [if_neg (by omega), if_pos (by omega)]; first | done | rfl) | (rw [← h160]; rw [if_neg (by omega), if_neg (by omega)]; first | done | rfl) | (rw [← h160]; rw [if_neg (by omega), if_neg (by omega), if_neg (by omega)]; first | done | rfl)
    exact En_ret (v := none) rfl rfl rfl ⟨h152, h158, z155, h156, rfl, ⟨o166, by first | exact q_1a6ee862c1 h154.1 | omega, by first | exact q_c733b715bf h154.2.1 | omega, by first | exact q_d22b102a8e h154.2.2.1 | omega, by first | exact q_83f4b1e050 h154.2.2.1 | omega, (by rw [h167]; exact ⟨h161, fun z => absurd z (by (first | exact q_78d9c54eee z h162 h154.1 | omega))⟩)⟩⟩
/-- DoorSchool$Reader.readCourse(LDoorSchool$Plan;)V -/
abbrev P_62x (σ0 : SG) (By : Int → Int) (Nb : Int) (Sp : PS) (a : Nat) (f : Int32) (sg : Int32) : PO := fun v σ => WT σ ∧ Fr [(3, 1), (3, 2), (3, 3), (3, 4), (3, 5), (3, 6), (18, 11), (25, 0)] σ0 σ ∧ ∃ f1 : Int32, (σ 3)[5]? = some (Value.int f1) ∧ v = none ∧ OUT σ0 σ a ∧ -f1.toInt ≤ 0 ∧ f1.toInt - 3 ≤ 0 ∧ -f1.toInt + f.toInt ≤ 0 ∧ f.toInt - f1.toInt ≤ 0 ∧ (CT By Nb σ (fCourse By Nb Sp) ∧ ((fCourse By Nb Sp).1 = 0 → KN σ a (fCourse By Nb Sp).2.2.2 (act (fCourse By Nb Sp).2.2.2)))
set_option maxRecDepth 10000 in
set_option maxHeartbeats 4000000 in
theorem c_62x {By : Int → Int} {Nb : Int} {Sp : PS} (σ0 : SG) (hσ0 : WT σ0) (a : Nat) (ha : TG a = 18) (f : Int32) (h_f : (σ0 3)[5]? = some (Value.int f)) (sg : Int32) (h_sg : (σ0 a)[1]? = some (Value.int sg)) (hp0 : -sg.toInt ≤ 0) (hC : CT By Nb σ0 Sp) (hg : Sp.1 = 0) (hP : PLA a) (hX : FXP σ0 a) (hK : KN σ0 a Sp.2.2.2 (act Sp.2.2.2)) : En 5 112 none mr_62 (P_62x σ0 By Nb Sp a f sg) 0 [(0, .ref 3), (1, .ref a)] [] σ0 := by
  obtain ⟨hl_f, hu_f⟩ := WT_int hσ0 (g := 3) (by decide +kernel) (by decide +kernel) (l := 0) (u := 3) (by decide +kernel) h_f
  obtain ⟨hl_sg, hu_sg⟩ := WT_int hσ0 (g := 18) ha (by decide +kernel) (l := (-1)) (u := 4) (by decide +kernel) h_sg
  have hF0 : Fr [(3, 1), (3, 2), (3, 3), (3, 4), (3, 5), (3, 6), (18, 11), (25, 0)] σ0 σ0 := Fr_rfl
  have h1 := CT_k hC h_f
  obtain ⟨z3, h2, h4, h5⟩ := WT_peekI hσ0 ha (by decide +kernel : FT 18 11 = (0, 0, 6)) (by decide +kernel)
  have h6 : Sp.2.2.2 5 = z3.toInt := KN_v hK (Or.inl (by decide)) (by decide) (by decide) (by rw [lcO_lt (by decide) (by decide), Nat.add_zero]) rfl h2
  refine En_Ps 1 (pc' := 1) (lv' := [(0, .ref 3), (1, .ref a)]) (st' := [.ref a]) rfl ?_
  refine En_getK (j := 11) h2 rfl rfl rfl ha (by decide +kernel) ?_
  refine En_Ps 1 (pc' := 6) (lv' := [(0, .ref 3), (1, .ref a)]) (st' := [.int (((Int8.ofInt 6).toInt32)), .int z3]) rfl ?_
  refine En_icLt _ rfl (by decide : ((Int8.ofInt 6).toInt32).toInt = 6) rfl (fun h7 => ?_) (fun h7 => ?_)
  · refine En_Ps 1 (pc' := 16) (lv' := [(0, .ref 3), (1, .ref a)]) (st' := [.ref 3]) rfl ?_
    obtain ⟨z9, h8, h10, h11⟩ := WT_peekI hσ0 tgz_3 (by decide +kernel : FT 3 3 = (0, 0, 1600)) (by decide +kernel)
    refine En_callV rfl rfl rfl rfl rfl rfl rfl rfl tgz_3 (by decide +kernel) rfl (c_72x σ0 hσ0 z9 h8 hC.1 (CT_at hC (by (first | exact q_d2dcd30e56 hg | omega)) h8)) (by decide) (by decide) (fun v13 σ14 h12 => ?_)
    obtain ⟨h15, h16, rfl, h17⟩ := h12
    have h18 := h17
    have h19 := Fr_trans hF0 h16 (by decide +kernel)
    obtain ⟨S20, h21⟩ : ∃ q : PS, q = adv By Nb Sp := ⟨_, rfl⟩
    have h22 : CT By Nb σ14 S20 := by rw [h21]; exact (CT_adv hC (by (first | exact q_d2dcd30e56 hg | omega)) h8 h16 (by decide +kernel) h18.2)
    have h23 := CT_k h22 ((h16 _ _ (inW tgz_3 (by decide +kernel))).trans h_f)
    have h24 : S20.2.2.2 = Sp.2.2.2 := by rw [h21]; exact adv_w
    have h25 : S20.1 = Sp.1 := by rw [h21]; exact adv_1
    have h26 := KN_fr hP hK h16 (by decide +kernel)
    have h27 : S20.2.2.2 = Sp.2.2.2 := h24.trans (rfl : Sp.2.2.2 = Sp.2.2.2)
    have o28 : OUT σ0 σ14 a := OUT_fr OUT_0 h16 (by decide +kernel)
    refine En_Ps 2 (pc' := 21) (lv' := [(0, .ref 3), (1, .ref a)]) (st' := [.ref 3, .ref 3]) rfl ?_
    refine En_ldcS (i := 15) rfl rfl rfl ?_
    refine En_callV rfl rfl rfl rfl rfl rfl rfl rfl tgz_3 (by decide +kernel) rfl (c_71s15x σ14 h15 h22) (by decide) (by decide) (fun v30 σ31 h29 => ?_)
    obtain ⟨h32, h33, z35, rfl, h34⟩ := h29
    have h36 := h34.2.2
    obtain rfl : σ14 = σ31 := Fr_nil h33
    have h37 := h36
    refine En_callV rfl rfl rfl rfl rfl rfl rfl rfl tgz_3 (by decide +kernel) rfl (c_59x σ14 h15 z35 (geI rfl (by first | exact q_ef1e8e38bf h34.1 | omega)) (leI rfl (by first | exact q_733c8bfbae h34.2.1 | omega)) f ((h16 _ _ (inW tgz_3 (by decide +kernel))).trans h_f) h22) (by decide) (by decide) (fun v39 σ40 h38 => ?_)
    obtain ⟨h41, h42, z44, h45, rfl, h43⟩ := h38
    have h46 := h43.2.2.2.2.2.2
    have h47 := Fr_trans h19 h42 (by decide +kernel)
    have h48 : pss By Nb z35.toInt S20 = pss By Nb (iW By Nb 15 S20) S20 := pss_cg2 (fun zz => by (try have i0 := Imp_m h37 (by (first | exact q_d2dcd30e56 zz | omega))); (first | exact q_b1495600e7 i0 | omega))
    obtain ⟨S49, h50⟩ : ∃ q : PS, q = pss By Nb (iW By Nb 15 S20) S20 := ⟨_, rfl⟩
    have h51 : CT By Nb σ40 S49 := by rw [h50]; exact (CT_eq h46 h48)
    have h52 := CT_k h51 h45
    have h53 : S49.2.2.2 = S20.2.2.2 := by rw [h50]; exact pss_w
    have h54 : Imp (S49.1 = 0) (S20.1 = 0) := fun z => (pss_g (by rw [h48, ← h50]; exact z)).1
    have h55 : Imp (S49.1 = 0) (z35.toInt = 1) := fun z => (pss_g (by rw [h48, ← h50]; exact z)).2.1
    have h56 := KN_fr hP h26 h42 (by decide +kernel)
    have h57 : S49.2.2.2 = Sp.2.2.2 := h53.trans h27
    have o58 : OUT σ0 σ40 a := OUT_fr o28 h42 (by decide +kernel)
    refine En_Ps 3 (pc' := 33) (lv' := [(0, .ref 3), (1, .ref a)]) (st' := [.int (((Int8.ofInt 9).toInt32)), .int ((Int32.ofInt 1)), .ref 3]) rfl ?_
    have := (by decide : ((Int32.ofInt 1)).toInt = 1)
    have := (by decide : (((Int8.ofInt 9).toInt32)).toInt = 9)
    refine En_callV rfl rfl rfl rfl rfl rfl rfl rfl tgz_3 (by decide +kernel) rfl (c_73x σ40 h41 ((Int32.ofInt 1)) (((Int8.ofInt 9).toInt32)) z44 h45 h51) (by decide) (by decide) (fun v60 σ61 h59 => ?_)
    obtain ⟨h62, h63, z65, h66, z67, rfl, h64⟩ := h59
    have h68 := h64.2.2.2.2.2.2.2.2.2
    have h69 := Fr_trans h47 h63 (by decide +kernel)
    have h70 : tN By Nb ((Int32.ofInt 1)).toInt (((Int8.ofInt 9).toInt32)).toInt S49 = tN By Nb (1) (9) S49 := tN_cg2 (fun zz => by (first | exact q_0bfa10f27c (by decide) | omega)) (fun zz => by (first | exact q_d0d469a1ce this | omega))
    obtain ⟨S71, h72⟩ : ∃ q : PS, q = tN By Nb (1) (9) S49 := ⟨_, rfl⟩
    have h73 : CT By Nb σ61 S71 := by rw [h72]; exact (CT_eq h68.1 h70)
    have h74 := CT_k h73 h66
    have h75 : Imp (S71.1 = 0) (z67.toInt = tV By Nb S49.2.2.1) := fun z => Imp_m h68.2 (by rw [h70, ← h72]; exact z)
    have h76 : Imp (S71.1 = 0) (S49.1 = 0 ∧ tK By Nb S49.2.2.1 = 2 ∧ 1 ≤ tV By Nb S49.2.2.1 ∧ tV By Nb S49.2.2.1 ≤ 9) := fun z => tN_gg (by rw [← h72]; exact z)
    have h77 : S71.2.2.2 = S49.2.2.2 := by rw [h72]; exact tN_w
    have h78 := KN_fr hP h56 h63 (by decide +kernel)
    have h79 : S71.2.2.2 = Sp.2.2.2 := h77.trans h57
    have o80 : OUT σ0 σ61 a := OUT_fr o58 h63 (by decide +kernel)
    have h81 := Imp_m h64.2.2.2.2.2.2.2.1 (by (first | exact q_a033c897bc this | omega))
    have h82 := Imp_m h64.2.2.2.2.2.2.2.2.1 (by (first | exact q_4dd9459605 (by decide) | omega))
    refine En_Ps 2 (pc' := 38) (lv' := [(2, .int z67), (0, .ref 3), (1, .ref a)]) (st' := [.ref 3]) rfl ?_
    refine En_getK (j := 5) h66 rfl rfl rfl tgz_3 (by decide +kernel) ?_
    refine En_iNe _ rfl rfl (fun h83 => ?_) (fun h83 => ?_)
    · have h84 := Imp_m h64.2.2.2.2.2.2.1 (by first | exact q_e3350da514 h83 h64.2.1 | omega)
      have h85 : fCourse By Nb Sp = S71 := by unfold fCourse; (try dsimp only); first | (rw [← h21, ← h50, ← h72]; first | done | rfl) | (rw [← h21, ← h50, ← h72]; rw [if_pos (by omega)]; first | done | rfl) | (rw [← h21, ← h50, ← h72]; rw [if_neg (by (first | exact q_3e755454b3 h6 h7 | omega))]; first | done | rfl) | (rw [← h21, ← h50, ← h72]; rw [if_neg (by (first | exact q_3e755454b3 h6 h7 | omega)), if_pos (by omega)]; first | done | rfl) | (rw [← h21, ← h50, ← h72]; rw [if_neg (by (first | exact q_3e755454b3 h6 h7 | omega)), if_neg (by (first | exact q_57b55acfde h83 h64.2.1 h74 | omega))]; first | done | rfl) | (rw [← h21, ← h50, ← h72]; rw [if_neg (by omega), if_neg (by omega), if_neg (by omega)]; first | done | rfl)
      exact En_ret (v := none) rfl rfl rfl ⟨h62, h69, z65, h66, rfl, ⟨o80, by first | exact q_bc42505ae9 h83 h64.2.1 | omega, by first | exact q_c733b715bf h64.2.2.1 | omega, by first | exact q_ccc3bb8fc9 h43.2.2.1 h64.2.2.2.1 | omega, by first | exact q_28bfca2c13 h43.2.2.1 h64.2.2.2.1 | omega, (by rw [h85]; exact ⟨h73, fun z => absurd z (by (first | exact q_ae2d14d533 h83 h64.2.1 h74 z | omega))⟩)⟩⟩
    · have h86 := Imp_m h64.2.2.2.2.2.1 (by first | exact q_c5d285f1b9 h83 | omega)
      try have h87 := Imp_m h76 (by (first | exact q_ca23768860 h74 h83 | omega))
      try have h88 := Imp_m h75 (by (first | exact q_ca23768860 h74 h83 | omega))
      try have h89 := Imp_m h55 (by (first | exact q_d2dcd30e56 h87.1 | omega))
      try have h90 := Imp_m h54 (by (first | exact q_d2dcd30e56 h87.1 | omega))
      try have h91 := Imp_m h37 (by (first | exact q_d2dcd30e56 h90 | omega))
      refine En_Ps 1 (pc' := 45) (lv' := [(2, .int z67), (0, .ref 3), (1, .ref a)]) (st' := [.ref a]) rfl ?_
      refine En_getR (j := 12) (g' := 25) (u := 0) rfl rfl rfl ha (by decide +kernel) h62 (by decide +kernel) (fun a93 h92 ha93 => ?_)
      refine En_Ps 1 (pc' := 49) (lv' := [(2, .int z67), (0, .ref 3), (1, .ref a)]) (st' := [.ref a, .ref a93]) rfl ?_
      refine En_getK (j := 11) ((h63 _ _ (inW ha (by decide +kernel))).trans ((h42 _ _ (inW ha (by decide +kernel))).trans ((h16 _ _ (inW ha (by decide +kernel))).trans h2))) rfl rfl rfl ha (by decide +kernel) ?_
      refine En_Ps 1 (pc' := 53) (lv' := [(2, .int z67), (0, .ref 3), (1, .ref a)]) (st' := [.int z67, .int z3, .ref a93]) rfl ?_
      refine En_iast (l := 0) (u := 9) rfl rfl ha93 (by decide +kernel) (by first | exact q_58e6e51dcc h4 | omega) (lnI (by decide +kernel : LN _ = 6) (by first | exact q_ab9991d2ad h7 | omega)) (FTsgl (by decide +kernel)) (rngI rfl (by (first | exact q_db9a0aaa67 h86.1 (by decide) | omega)) (by (first | exact q_a3d6a97b4a h86.2 this | omega))) h62 h69 (by decide +kernel) (fun σ94 h95 h96 h97 h98 => ?_)
      have h99 : a93 = a + 7 := ref_uniq ((h98 _ _ (Or.inl (neTG ha ha93 (by decide)))).trans h92) (FXP_fr hP hX h96 (by decide +kernel)).2.2.2.2.1
      have h100 := lc_c (m := Sp.2.2.2 5) (by (first | exact q_2d21ab1e6c h6 h4 | omega)) (by (first | exact q_a10108efbd h6 h7 | omega))
      obtain ⟨S101, h102⟩ : ∃ q : PS, q = wst S71 (154 + 2 * Sp.2.2.2 5) ((tV By Nb S49.2.2.1)) := ⟨_, rfl⟩
      have h103 : CT By Nb σ94 S101 := by rw [h102]; exact CT_wst (CT_ne h73 h98 (by have := hP; unfold PLA at this; omega))
      have h104 : KN σ94 a (uPd Sp.2.2.2 (154 + 2 * Sp.2.2.2 5) ((tV By Nb S49.2.2.1))) (fun t => (act Sp.2.2.2 t ∨ t = 154 + 2 * Sp.2.2.2 5)) := KN_st h78 h97 h98 (by (first | exact q_1da383befe h6 h4 | omega)) (by (first | exact q_6af91e7cb1 h6 h7 | omega)) (by omega) (by (first | exact q_c54adee5ad h4 h100.2.2.1 h6 | omega)) (by (try have i0 := Imp_m h76 (by (first | exact q_ca23768860 h74 h83 | omega))); (try have i1 := Imp_m h75 (by (first | exact q_ca23768860 h74 h83 | omega))); (try have i2 := Imp_m h55 (by (first | exact q_d2dcd30e56 i0.1 | omega))); (try have i3 := Imp_m h54 (by (first | exact q_d2dcd30e56 i0.1 | omega))); (try have i4 := Imp_m h37 (by (first | exact q_d2dcd30e56 i3 | omega))); (try have i5 := Imp_m h43.2.2.2.1 (by (first | exact q_a439be255a i2 | omega))); (try have i6 := Imp_m h43.2.2.2.2.2.1 (by omega)); (try have i7 := Imp_m h64.2.2.2.2.2.2.1 (by (first | exact q_c15b962208 h83 h64.2.2.2.1 i6 | omega))); (first | exact q_a8fb2024c1 i1 | omega))
      have h105 : S101.2.2.2 = (uPd Sp.2.2.2 (154 + 2 * Sp.2.2.2 5) ((tV By Nb S49.2.2.1))) := by rw [h102]; show uPd S71.2.2.2 _ _ = _; rw [h79]
      have h106 : S101.1 = S71.1 := by rw [h102]; rfl
      have h107 := CT_k h103 ((h98 _ _ (Or.inl (neTG tgz_3 ha93 (by decide)))).trans h66)
      have o108 : OUT σ0 σ94 a := OUT_st o80 h98 (by omega)
      refine En_Ps 2 (pc' := 56) (lv' := [(2, .int z67), (0, .ref 3), (1, .ref a)]) (st' := [.ref a, .ref a]) rfl ?_
      refine En_getK (j := 11) ((h98 _ _ (Or.inl (neTG ha ha93 (by decide)))).trans ((h63 _ _ (inW ha (by decide +kernel))).trans ((h42 _ _ (inW ha (by decide +kernel))).trans ((h16 _ _ (inW ha (by decide +kernel))).trans h2)))) rfl rfl rfl ha (by decide +kernel) ?_
      refine En_Ps 2 (pc' := 61) (lv' := [(2, .int z67), (0, .ref 3), (1, .ref a)]) (st' := [.int ((z3 + ((Int32.ofInt 1)))), .ref a]) rfl ?_
      refine En_top (addI rfl (by decide : (Int32.ofInt 1).toInt = 1) (by first | exact q_465ab79ac1 h4 | omega) (by first | exact q_2918abfa70 h7 | omega)) (fun z109 h110 => ?_)
      refine En_put (j := 11) rfl rfl rfl ha (by decide +kernel) rfl (vI (l := 0) (u := 6) (by decide +kernel) rfl (by first | exact q_35104ce9d3 h110 h4 | omega) (by first | exact q_13d1e79bb8 h110 h7 | omega)) h95 h96 (by decide +kernel) (fun σ111 h112 h113 h114 h115 => ?_)
      obtain ⟨S116, h117⟩ : ∃ q : PS, q = wst S101 (5) (Sp.2.2.2 5 + 1) := ⟨_, rfl⟩
      have h118 : CT By Nb σ111 S116 := by rw [h117]; exact CT_wst (CT_ne h103 h115 (by have := hP; unfold PLA at this; omega))
      have h119 : KN σ111 a (uPd (uPd Sp.2.2.2 (154 + 2 * Sp.2.2.2 5) ((tV By Nb S49.2.2.1))) (5) (Sp.2.2.2 5 + 1)) (fun t => ((act Sp.2.2.2 t ∨ t = 154 + 2 * Sp.2.2.2 5) ∨ t = 5)) := KN_st h104 h114 h115 (by (first | decide | omega)) (by (first | decide | omega)) (by rw [lcO_lt (by decide) (by decide), Nat.add_zero]) (by decide) (by (try have i0 := Imp_m h76 (by (first | exact q_ca23768860 h74 h83 | omega))); (try have i1 := Imp_m h75 (by (first | exact q_ca23768860 h74 h83 | omega))); (try have i2 := Imp_m h55 (by (first | exact q_d2dcd30e56 i0.1 | omega))); (try have i3 := Imp_m h54 (by (first | exact q_d2dcd30e56 i0.1 | omega))); (try have i4 := Imp_m h37 (by (first | exact q_d2dcd30e56 i3 | omega))); (try have i5 := Imp_m h43.2.2.2.1 (by (first | exact q_a439be255a i2 | omega))); (try have i6 := Imp_m h43.2.2.2.2.2.1 (by omega)); (try have i7 := Imp_m h64.2.2.2.2.2.2.1 (by (first | exact q_c1d968cc7e h52 i6 i0.1 | omega))); (first | exact q_c264f2cea9 h110 h6 | omega))
      have h120 : S116.2.2.2 = (uPd (uPd Sp.2.2.2 (154 + 2 * Sp.2.2.2 5) ((tV By Nb S49.2.2.1))) (5) (Sp.2.2.2 5 + 1)) := by rw [h117]; show uPd S101.2.2.2 _ _ = _; rw [h105]
      have h121 : S116.1 = S101.1 := by rw [h117]; rfl
      have h122 := CT_k h118 ((h115 _ _ (Or.inr (by decide))).trans ((h98 _ _ (Or.inl (neTG tgz_3 ha93 (by decide)))).trans h66))
      have o123 : OUT σ0 σ111 a := OUT_st o108 h115 (by omega)
      have h124 : fCourse By Nb Sp = S116 := by unfold fCourse; (try dsimp only); first | (rw [← h21, ← h50, ← h72, ← h102, ← h117]; first | done | rfl) | (rw [← h21, ← h50, ← h72, ← h102, ← h117]; rw [if_pos (by omega)]; first | done | rfl) | (rw [← h21, ← h50, ← h72, ← h102, ← h117]; rw [if_neg (by (first | exact q_3e755454b3 h6 h7 | omega))]; first | done | rfl) | (rw [← h21, ← h50, ← h72, ← h102, ← h117]; rw [if_neg (by (first | exact q_3e755454b3 h6 h7 | omega)), if_pos (by (first | exact q_ca23768860 h74 h83 | omega))]; first | done | rfl) | (rw [← h21, ← h50, ← h72, ← h102, ← h117]; rw [if_neg (by omega), if_neg (by omega)]; first | done | rfl) | (rw [← h21, ← h50, ← h72, ← h102, ← h117]; rw [if_neg (by omega), if_neg (by omega), if_neg (by omega)]; first | done | rfl)
      exact En_ret (v := none) rfl rfl rfl ⟨h112, h113, z65, ((h115 _ _ (Or.inr (by decide))).trans ((h98 _ _ (Or.inl (neTG tgz_3 ha93 (by decide)))).trans h66)), rfl, ⟨o123, by first | exact q_a555021d16 h64.2.1 | omega, by first | exact q_bd3fa30443 h83 | omega, by first | exact q_ccc3bb8fc9 h43.2.2.1 h64.2.2.2.1 | omega, by first | exact q_28bfca2c13 h43.2.2.1 h64.2.2.2.1 | omega, (by rw [h124]; exact ⟨h118, fun zz => by rw [h120]; exact KN_sub h119 (fun t t0 t1 y => ACs (by (first | exact q_2d21ab1e6c h6 h4 | omega)) y)⟩)⟩⟩
  · refine En_Ps 2 (pc' := 11) (lv' := [(0, .ref 3), (1, .ref a)]) (st' := [.int ((Int32.ofInt 3)), .ref 3]) rfl ?_
    have := (by decide : ((Int32.ofInt 3)).toInt = 3)
    refine En_callV rfl rfl rfl rfl rfl rfl rfl rfl tgz_3 (by decide +kernel) rfl (c_54x σ0 hσ0 ((Int32.ofInt 3)) (geI (by decide : (Int32.ofInt 3).toInt = 3) (by decide)) (leI (by decide : (Int32.ofInt 3).toInt = 3) (by decide)) f h_f hC) (by decide) (by decide) (fun v126 σ127 h125 => ?_)
    obtain ⟨h128, h129, z131, h132, rfl, h130⟩ := h125
    have h133 := h130.2.2.2.2.2
    have h134 := Fr_trans hF0 h129 (by decide +kernel)
    obtain ⟨S135, h136⟩ : ∃ q : PS, q = err By Nb 3 Sp := ⟨_, rfl⟩
    have h137 : CT By Nb σ127 S135 := by rw [h136]; exact (CT_eq h133 (err_cg (by (first | exact q_5736040b52 this | omega))))
    have h138 := CT_k h137 h132
    have h139 : S135.2.2.2 = Sp.2.2.2 := by rw [h136]; exact err_w
    have h140 := KN_fr hP hK h129 (by decide +kernel)
    have h141 : S135.2.2.2 = Sp.2.2.2 := h139.trans (rfl : Sp.2.2.2 = Sp.2.2.2)
    have o142 : OUT σ0 σ127 a := OUT_fr OUT_0 h129 (by decide +kernel)
    have h143 : fCourse By Nb Sp = S135 := by unfold fCourse; (try dsimp only); first | (rw [← h136]; first | done | rfl) | (rw [← h136]; rw [if_pos (by (first | exact q_f399ef5c04 h6 h7 | omega))]; first | done | rfl) | (rw [← h136]; rw [if_neg (by omega)]; first | done | rfl) | (rw [← h136]; rw [if_neg (by omega), if_pos (by omega)]; first | done | rfl) | (rw [← h136]; rw [if_neg (by omega), if_neg (by omega)]; first | done | rfl) | (rw [← h136]; rw [if_neg (by omega), if_neg (by omega), if_neg (by omega)]; first | done | rfl)
    exact En_ret (v := none) rfl rfl rfl ⟨h128, h134, z131, h132, rfl, ⟨o142, by first | exact q_1a6ee862c1 h130.1 | omega, by first | exact q_c733b715bf h130.2.1 | omega, by first | exact q_d22b102a8e h130.2.2.1 | omega, by first | exact q_83f4b1e050 h130.2.2.1 | omega, (by rw [h143]; exact ⟨h137, fun z => absurd z (by (first | exact q_78d9c54eee z h138 h130.1 | omega))⟩)⟩⟩
end
