/-- DoorSchoolModel.deedsOf(II)I -/
abbrev P_212 (σ0 : SG) (a : Int32) (b : Int32) : PO := fun v σ => WT σ ∧ Fr [] σ0 σ ∧ ∃ ret : Int32, v = some (.int ret) ∧ -ret.toInt ≤ 0 ∧ ret.toInt - 65535 ≤ 0
set_option maxRecDepth 10000 in
set_option maxHeartbeats 4000000 in
theorem c_212 (σ0 : SG) (hσ0 : WT σ0) (a : Int32) (b : Int32) : En 2 40 none mr_212 (P_212 σ0 a b) 0 [(0, .ref 159), (1, .int a), (2, .int b)] [] σ0 := by
  have hF0 : Fr [] σ0 σ0 := Fr_rfl
  refine En_Ps 4 (pc' := 5) (lv' := [(4, .int ((Int32.ofInt 0))), (3, .int ((Int32.ofInt 0))), (0, .ref 159), (1, .int a), (2, .int b)]) (st' := []) rfl ?_
  have key5 : ∀ (n5 : Nat) (σ3 : SG) (y1 : Int32) (y2 : Int32), WT σ3 → Fr [] σ0 σ3 → 0 ≤ y1.toInt → y1.toInt ≤ 65535 → 0 ≤ y2.toInt → y2.toInt ≤ 16 → -y2.toInt + 16 < (n5 : Int) → En 2 40 none mr_212 (P_212 σ0 a b) 5 [(0, .ref 159), (1, .int a), (2, .int b), (3, .int y1), (4, .int y2)] [] σ3 := by
    intro n5
    induction n5 with
    | zero =>
      intro σ3 y1 y2 h4 h5 h6 h7 h8 h9 h10
      first | exact (q_511f6d33ac h10 h9).elim | (exfalso; omega)
    | succ n5 ih5 =>
      intro σ3 y1 y2 h4 h5 h6 h7 h8 h9 h10
      refine En_Ps 2 (pc' := 8) (lv' := [(0, .ref 159), (1, .int a), (2, .int b), (3, .int y1), (4, .int y2)]) (st' := [.ref 159, .int y2]) rfl ?_
      obtain ⟨z12, h11, h13, h14⟩ := WT_peekI h4 tgz_160 (by decide +kernel : FT 36 (0 : Int).toNat = (0, 0, 4)) (by decide +kernel)
      obtain ⟨z16, h15, h17, h18⟩ := WT_peekI h4 tgz_160 (by decide +kernel : FT 36 (7 : Int).toNat = (0, 0, 1600)) (by decide +kernel)
      refine En_callV rfl rfl rfl rfl rfl rfl rfl rfl tgz_159 (by decide +kernel) rfl (c_269 σ3 h4 z12 h11 z16 h15) (by decide) (by decide) (fun v20 σ21 h19 => ?_)
      obtain ⟨h22, h23, z25, rfl, h24⟩ := h19
      have h26 := h24.2.2
      have h27 := Fr_trans h5 h23 (by decide +kernel)
      refine En_icGe _ rfl rfl rfl (fun h28 => ?_) (fun h28 => ?_)
      · refine En_Ps 1 (pc' := 40) (lv' := [(0, .ref 159), (1, .int a), (2, .int b), (3, .int y1), (4, .int y2)]) (st' := [.int y1]) rfl ?_
        exact En_ret (v := some (.int y1)) rfl rfl rfl ⟨h22, h27, y1, rfl, ⟨by first | exact q_c803b490ef h6 | omega, by first | exact q_e7edf0f95a h7 | omega⟩⟩
      · refine En_Ps 4 (pc' := 19) (lv' := [(0, .ref 159), (1, .int a), (2, .int b), (3, .int y1), (4, .int y2)]) (st' := [.int ((y2 &&& a)), .int y1]) rfl ?_
        refine En_rng (l := 0) (u := 15) (andx_rng rfl (by omega) (by omega)) (fun z29 h30 h31 => ?_)
        refine En_Ps 1 (pc' := 20) (lv' := [(0, .ref 159), (1, .int a), (2, .int b), (3, .int y1), (4, .int y2)]) (st' := [.int b, .int z29, .int y1]) rfl ?_
        refine En_icNe _ rfl rfl rfl (fun h32 => ?_) (fun h32 => ?_)
        · refine En_Ps 2 (pc' := 32) (lv' := [(0, .ref 159), (1, .int a), (2, .int b), (3, .int y1), (4, .int y2)]) (st' := [.int ((y1 ||| ((Int32.ofInt 0))))]) rfl ?_
          refine En_rng (l := 0) (u := 65535) (or_rng 16 rfl (by decide : (Int32.ofInt 0).toInt = 0) (by omega) (by omega) (by omega) (by omega) (by decide)) (fun z33 h34 h35 => ?_)
          refine En_Ps 2 (pc' := 36) (lv' := [(4, .int ((y2 + Int32.ofInt 1))), (3, .int z33), (0, .ref 159), (1, .int a), (2, .int b)]) (st' := []) rfl ?_
          refine En_lv1 (addI rfl (by decide : (Int32.ofInt 1).toInt = 1) (by first | exact q_465ab79ac1 h8 | omega) (by first | exact q_f3f8e04381 h9 | omega)) (fun z36 h37 => ?_)
          refine En_Ps 1 (pc' := 5) (lv' := [(4, .int z36), (3, .int z33), (0, .ref 159), (1, .int a), (2, .int b)]) (st' := []) rfl ?_
          refine En_lv (lv := [(0, .ref 159), (1, .int a), (2, .int b), (3, .int z33), (4, .int z36)]) ⟨rfl, rfl, rfl, rfl, rfl, trivial⟩ ?_
          exact ih5 σ21 z33 z36 h22 h27 (by first | exact q_58e6e51dcc h34 | omega) (by first | exact q_36eb0a70bf h35 | omega) (by first | exact q_35104ce9d3 h37 h8 | omega) (by first | exact q_34dc714687 h37 h28 h24.2.1 | omega) (by first | exact q_c5d740bdff h37 h10 | omega)
        · refine En_Ps 3 (pc' := 27) (lv' := [(0, .ref 159), (1, .int a), (2, .int b), (3, .int y1), (4, .int y2)]) (st' := [.int ((((Int32.ofInt 1)) <<< (y2 &&& 31))), .int y1]) rfl ?_
          refine En_rng (shl1_p 15 rfl (by omega) (by omega) (by decide)) (fun z38 h39 h40 => ?_)
          refine En_Ps 2 (pc' := 32) (lv' := [(0, .ref 159), (1, .int a), (2, .int b), (3, .int y1), (4, .int y2)]) (st' := [.int ((y1 ||| z38))]) rfl ?_
          refine En_rng (l := 0) (u := 65535) (or_rng 16 rfl rfl (by omega) (by omega) (by omega) (by omega) (by decide)) (fun z41 h42 h43 => ?_)
          refine En_Ps 2 (pc' := 36) (lv' := [(4, .int ((y2 + Int32.ofInt 1))), (3, .int z41), (0, .ref 159), (1, .int a), (2, .int b)]) (st' := []) rfl ?_
          refine En_lv1 (addI rfl (by decide : (Int32.ofInt 1).toInt = 1) (by first | exact q_465ab79ac1 h8 | omega) (by first | exact q_f3f8e04381 h9 | omega)) (fun z44 h45 => ?_)
          refine En_Ps 1 (pc' := 5) (lv' := [(4, .int z44), (3, .int z41), (0, .ref 159), (1, .int a), (2, .int b)]) (st' := []) rfl ?_
          refine En_lv (lv := [(0, .ref 159), (1, .int a), (2, .int b), (3, .int z41), (4, .int z44)]) ⟨rfl, rfl, rfl, rfl, rfl, trivial⟩ ?_
          exact ih5 σ21 z41 z44 h22 h27 (by first | exact q_58e6e51dcc h42 | omega) (by first | exact q_36eb0a70bf h43 | omega) (by first | exact q_35104ce9d3 h45 h8 | omega) (by first | exact q_34dc714687 h45 h28 h24.2.1 | omega) (by first | exact q_c5d740bdff h45 h10 | omega)
  have := (by decide : (Int32.ofInt 0).toInt = 0)
  have := (by decide : (Int32.ofInt 0).toInt = 0)
  refine En_lv (lv := [(0, .ref 159), (1, .int a), (2, .int b), (3, .int ((Int32.ofInt 0))), (4, .int ((Int32.ofInt 0)))]) ⟨rfl, rfl, rfl, rfl, rfl, trivial⟩ ?_
  exact key5 (Int.toNat (16) + 1) σ0 ((Int32.ofInt 0)) ((Int32.ofInt 0)) hσ0 hF0 (by decide) (by decide) (by decide) (by decide) (by first | exact toN_lt _ | omega)
/-- DoorSchoolModel.layRules()V -/
abbrev P_272 (σ0 : SG) (s : Int32) (sc : Int32) : PO := fun v σ => WT σ ∧ Fr [(35, 18), (42, 0), (43, 0), (44, 0)] σ0 σ ∧ v = none ∧ True
set_option maxRecDepth 10000 in
set_option maxHeartbeats 4000000 in
theorem c_272 (σ0 : SG) (hσ0 : WT σ0) (s : Int32) (h_s : (σ0 160)[(0 : Int).toNat]? = some (.int s)) (sc : Int32) (h_sc : (σ0 160)[(7 : Int).toNat]? = some (.int sc)) : En 3 64 none mr_272 (P_272 σ0 s sc) 0 [(0, .ref 159)] [] σ0 := by
  obtain ⟨hl_s, hu_s⟩ := WT_int hσ0 (g := 36) (by decide +kernel) (by decide +kernel) (l := 0) (u := 4) (by decide +kernel) h_s
  obtain ⟨hl_sc, hu_sc⟩ := WT_int hσ0 (g := 36) (by decide +kernel) (by decide +kernel) (l := 0) (u := 1600) (by decide +kernel) h_sc
  have hF0 : Fr [(35, 18), (42, 0), (43, 0), (44, 0)] σ0 σ0 := Fr_rfl
  refine En_Ps 2 (pc' := 2) (lv' := [(0, .ref 159)]) (st' := [.int ((Int32.ofInt 0)), .ref 159]) rfl ?_
  refine En_put (j := 18) rfl rfl rfl tgz_159 (by decide +kernel) rfl (vI (l := 0) (u := 81) (by decide +kernel) (by decide : (Int32.ofInt 0).toInt = 0) (by decide) (by decide)) hσ0 hF0 (by decide +kernel) (fun σ1 h2 h3 h4 h5 => ?_)
  refine En_Ps 2 (pc' := 7) (lv' := [(1, .int ((Int32.ofInt 0))), (0, .ref 159)]) (st' := []) rfl ?_
  have key7 : ∀ (n7 : Nat) (σ8 : SG) (y6 : Int32) (y7 : Int32), WT σ8 → Fr [(35, 18), (42, 0), (43, 0), (44, 0)] σ0 σ8 → (σ8 160)[(0 : Int).toNat]? = some (.int s) → (σ8 160)[(7 : Int).toNat]? = some (.int sc) → (σ8 159)[18]? = some (.int y7) → 0 ≤ y6.toInt → y6.toInt ≤ 5 → 0 ≤ y7.toInt → y7.toInt ≤ 81 → -y6.toInt + 5 < (n7 : Int) → RN (kI sc.toInt s.toInt) (y6.toInt) 0 (y7.toInt) → En 3 64 none mr_272 (P_272 σ0 s sc) 7 [(0, .ref 159), (1, .int y6)] [] σ8 := by
    intro n7
    induction n7 with
    | zero =>
      intro σ8 y6 y7 h9 h10 h11 h12 h13 h14 h15 h16 h17 h18 h19
      first | exact (q_94ef5d5129 h18 h15).elim | (exfalso; omega)
    | succ n7 ih7 =>
      intro σ8 y6 y7 h9 h10 h11 h12 h13 h14 h15 h16 h17 h18 h19
      refine En_Ps 2 (pc' := 9) (lv' := [(0, .ref 159), (1, .int y6)]) (st' := [.ref 159, .int y6]) rfl ?_
      refine En_getU (j := 1) (u := 160) (g' := 36) (q := 0) rfl rfl rfl tgz_159 (by decide +kernel) h9 (by decide +kernel) (by decide +kernel) (fun h20 => ?_)
      refine En_Ps 1 (pc' := 13) (lv' := [(0, .ref 159), (1, .int y6)]) (st' := [.int ((Int32.ofInt 0)), .ref 160, .int y6]) rfl ?_
      refine En_ialdK h11 rfl (by decide : (Int32.ofInt 0).toInt = 0) tgz_160 (by decide +kernel) h9 (by decide) (lnI (by decide +kernel : LN _ = 226) (by decide)) ?_
      refine En_icGt _ rfl rfl rfl (fun h23 => ?_) (fun h23 => ?_)
      · exact En_ret (v := none) rfl rfl rfl ⟨h9, h10, rfl, trivial⟩
      · refine En_Ps 2 (pc' := 19) (lv' := [(2, .int ((Int32.ofInt 0))), (0, .ref 159), (1, .int y6)]) (st' := []) rfl ?_
        have key19 : ∀ (n19 : Nat) (σ26 : SG) (y24 : Int32) (y25 : Int32), WT σ26 → Fr [(35, 18), (42, 0), (43, 0), (44, 0)] σ0 σ26 → (σ26 160)[(0 : Int).toNat]? = some (.int s) → (σ26 160)[(7 : Int).toNat]? = some (.int sc) → (σ26 159)[1]? = some (.ref 160) → (σ26 159)[18]? = some (.int y25) → 0 ≤ y24.toInt → y24.toInt ≤ 16 → 0 ≤ y25.toInt → y25.toInt ≤ 81 → -y24.toInt + 16 < (n19 : Int) → RN (kI sc.toInt s.toInt) (y6.toInt) (y24.toInt) (y25.toInt) → En 3 64 none mr_272 (P_272 σ0 s sc) 19 [(0, .ref 159), (1, .int y6), (2, .int y24)] [] σ26 := by
          intro n19
          induction n19 with
          | zero =>
            intro σ26 y24 y25 h27 h28 h29 h30 h31 h32 h33 h34 h35 h36 h37 h38
            first | exact (q_511f6d33ac h37 h34).elim | (exfalso; omega)
          | succ n19 ih19 =>
            intro σ26 y24 y25 h27 h28 h29 h30 h31 h32 h33 h34 h35 h36 h37 h38
            refine En_Ps 2 (pc' := 21) (lv' := [(0, .ref 159), (1, .int y6), (2, .int y24)]) (st' := [.ref 159, .int y24]) rfl ?_
            refine En_callV rfl rfl rfl rfl rfl rfl rfl rfl tgz_159 (by decide +kernel) rfl (c_269 σ26 h27 s h29 sc h30) (by decide) (by decide) (fun v40 σ41 h39 => ?_)
            obtain ⟨h42, h43, z45, rfl, h44⟩ := h39
            have h46 := h44.2.2
            have h47 := Fr_trans h28 h43 (by decide +kernel)
            refine En_icGe _ rfl rfl rfl (fun h48 => ?_) (fun h48 => ?_)
            · refine En_Ps 1 (pc' := 116) (lv' := [(1, .int ((y6 + Int32.ofInt 1))), (0, .ref 159), (2, .int y24)]) (st' := []) rfl ?_
              refine En_lv1 (addI rfl (by decide : (Int32.ofInt 1).toInt = 1) (by first | exact q_465ab79ac1 h14 | omega) (by first | exact q_aeda34609f h15 | omega)) (fun z49 h50 => ?_)
              refine En_Ps 1 (pc' := 7) (lv' := [(1, .int z49), (0, .ref 159), (2, .int y24)]) (st' := []) rfl ?_
              refine En_lv (lv := [(0, .ref 159), (1, .int z49)]) ⟨rfl, rfl, trivial⟩ ?_
              exact ih7 σ41 z49 y25 h42 h47 ((h43 _ _ (inWa tgz_160 (by decide +kernel))).trans h29) ((h43 _ _ (inWa tgz_160 (by decide +kernel))).trans h30) ((h43 _ _ (inW tgz_159 (by decide +kernel))).trans h32) (by first | exact q_35104ce9d3 h50 h14 | omega) (by first | exact q_45f670d5d5 h50 h23 hu_s | omega) (by first | exact q_58e6e51dcc h35 | omega) (by first | exact q_938d18a0b8 h36 | omega) (by first | exact q_4f8c136792 h50 h18 | omega) (by first | exact RN_eq h38 (by omega) (by omega) (by omega) | exact RN_skip h38 (by omega) (by omega) (by omega) (by omega) (by omega) | exact RN_x h38 (by omega) (by omega) (by omega) (by omega) | exact RN_n h38 (by omega) (by omega) (by omega) (by omega) (by omega) | exact RV_in h38 (by omega) (by omega) (by omega) (by omega) (by omega) (by omega) | exact RV_put h38 (by omega) (by omega) (by omega) (by omega) (by omega) (by omega) | exact RV_not h38 (by omega) (by omega) (by omega) (by omega) (by omega) (by omega))
            · refine En_Ps 1 (pc' := 28) (lv' := [(0, .ref 159), (1, .int y6), (2, .int y24)]) (st' := [.int y24]) rfl ?_
              refine En_callS rfl rfl rfl rfl rfl rfl rfl rfl rfl (c_203a σ41 h42 y24 (geI rfl (by first | exact q_58e6e51dcc h33 | omega)) (leI rfl (by first | exact q_c15b485600 h48 h44.2.1 | omega))) (by decide) (by decide) (fun v52 σ53 h51 => ?_)
              obtain ⟨h54, h55, z57, rfl, h56⟩ := h51
              have h58 := h56.2.2
              have h59 := Fr_trans h47 h55 (by decide +kernel)
              refine En_Ps 1 (pc' := 32) (lv' := [(0, .ref 159), (1, .int y6), (2, .int y24)]) (st' := [.int y6, .int z57]) rfl ?_
              refine En_icEq _ rfl rfl rfl (fun h60 => ?_) (fun h60 => ?_)
              · refine En_Ps 2 (pc' := 40) (lv' := [(3, .int ((Int32.ofInt 0))), (0, .ref 159), (1, .int y6), (2, .int y24)]) (st' := []) rfl ?_
                have key40 : ∀ (n40 : Nat) (σ63 : SG) (y61 : Int32) (y62 : Int32), WT σ63 → Fr [(35, 18), (42, 0), (43, 0), (44, 0)] σ0 σ63 → (σ63 160)[(0 : Int).toNat]? = some (.int s) → (σ63 160)[(7 : Int).toNat]? = some (.int sc) → (σ63 159)[1]? = some (.ref 160) → (σ63 159)[18]? = some (.int y62) → 0 ≤ y61.toInt → y61.toInt ≤ 16 → 0 ≤ y62.toInt → y62.toInt ≤ 81 → -y61.toInt + 16 < (n40 : Int) → RV (kI sc.toInt s.toInt) (y6.toInt) (y24.toInt) (y61.toInt) (y62.toInt) → En 3 64 none mr_272 (P_272 σ0 s sc) 40 [(0, .ref 159), (1, .int y6), (2, .int y24), (3, .int y61)] [] σ63 := by
                  intro n40
                  induction n40 with
                  | zero =>
                    intro σ63 y61 y62 h64 h65 h66 h67 h68 h69 h70 h71 h72 h73 h74 h75
                    first | exact (q_511f6d33ac h74 h71).elim | (exfalso; omega)
                  | succ n40 ih40 =>
                    intro σ63 y61 y62 h64 h65 h66 h67 h68 h69 h70 h71 h72 h73 h74 h75
                    refine En_Ps 2 (pc' := 42) (lv' := [(0, .ref 159), (1, .int y6), (2, .int y24), (3, .int y61)]) (st' := [.int y24, .int y61]) rfl ?_
                    refine En_icGt _ rfl rfl rfl (fun h76 => ?_) (fun h76 => ?_)
                    · refine En_Ps 1 (pc' := 110) (lv' := [(2, .int ((y24 + Int32.ofInt 1))), (0, .ref 159), (1, .int y6), (3, .int y61)]) (st' := []) rfl ?_
                      refine En_lv1 (addI rfl (by decide : (Int32.ofInt 1).toInt = 1) (by first | exact q_465ab79ac1 h33 | omega) (by first | exact q_f3f8e04381 h34 | omega)) (fun z77 h78 => ?_)
                      refine En_Ps 1 (pc' := 19) (lv' := [(2, .int z77), (0, .ref 159), (1, .int y6), (3, .int y61)]) (st' := []) rfl ?_
                      refine En_lv (lv := [(0, .ref 159), (1, .int y6), (2, .int z77)]) ⟨rfl, rfl, rfl, trivial⟩ ?_
                      exact ih19 σ63 z77 y62 h64 h65 h66 h67 h68 h69 (by first | exact q_35104ce9d3 h78 h33 | omega) (by first | exact q_eba8fd3b5f h78 h76 h71 | omega) (by first | exact q_58e6e51dcc h72 | omega) (by first | exact q_938d18a0b8 h73 | omega) (by first | exact q_c5d740bdff h78 h37 | omega) (by first | exact RN_eq h75 (by omega) (by omega) (by omega) | exact RN_skip h75 (by omega) (by omega) (by omega) (by omega) (by omega) | exact RN_x h75 (by omega) (by omega) (by omega) (by omega) | exact RN_n h75 (by omega) (by omega) (by omega) (by omega) (by omega) | exact RV_in h75 (by omega) (by omega) (by omega) (by omega) (by omega) (by omega) | exact RV_put h75 (by omega) (by omega) (by omega) (by omega) (by omega) (by omega) | exact RV_not h75 (by omega) (by omega) (by omega) (by omega) (by omega) (by omega))
                    · refine En_Ps 4 (pc' := 49) (lv' := [(0, .ref 159), (1, .int y6), (2, .int y24), (3, .int y61)]) (st' := [.int ((y24 ^^^ ((Int32.ofInt (-1))))), .int y61]) rfl ?_
                      refine En_nam (fun z79 h80 => ?_)
                      refine En_Ps 1 (pc' := 50) (lv' := [(0, .ref 159), (1, .int y6), (2, .int y24), (3, .int y61)]) (st' := [.int ((y61 &&& z79))]) rfl ?_
                      refine En_nam (fun z81 h82 => ?_)
                      obtain ⟨h83, h84⟩ := andn_rng h82 rfl (by omega) (by omega : _ ≤ (15 : Int))
                      refine En_iEq _ rfl rfl (fun h85 => ?_) (fun h85 => ?_)
                      · obtain ⟨h86, h87⟩ := andn_zero h82 h80 h85 rfl rfl (by omega)
                        have := sub_sb h82 h80 rfl rfl (by omega) (by omega) (by omega) (by omega)
                        have h88 := RV_le h75 (by omega)
                        refine En_Ps 1 (pc' := 57) (lv' := [(0, .ref 159), (1, .int y6), (2, .int y24), (3, .int y61)]) (st' := [.ref 159]) rfl ?_
                        refine En_getU (j := 15) (u := 166) (g' := 42) (q := 0) rfl rfl rfl tgz_159 (by decide +kernel) h64 (by decide +kernel) (by decide +kernel) (fun h89 => ?_)
                        refine En_Ps 1 (pc' := 61) (lv' := [(0, .ref 159), (1, .int y6), (2, .int y24), (3, .int y61)]) (st' := [.ref 159, .ref 166]) rfl ?_
                        refine En_getK (j := 18) h69 rfl rfl rfl tgz_159 (by decide +kernel) ?_
                        refine En_Ps 1 (pc' := 65) (lv' := [(0, .ref 159), (1, .int y6), (2, .int y24), (3, .int y61)]) (st' := [.int y24, .int y62, .ref 166]) rfl ?_
                        refine En_iast (l := 0) (u := 15) rfl rfl tgz_166 (by decide +kernel) (by first | exact q_58e6e51dcc h72 | omega) (lnI (by decide +kernel : LN _ = 81) (by omega)) (FTsgl (by decide +kernel)) (rngI rfl (by first | exact q_58e6e51dcc h33 | omega) (by first | exact q_c15b485600 h48 h44.2.1 | omega)) h64 h65 (by decide +kernel) (fun σ91 h92 h93 h94 h95 => ?_)
                        refine En_Ps 1 (pc' := 67) (lv' := [(0, .ref 159), (1, .int y6), (2, .int y24), (3, .int y61)]) (st' := [.ref 159]) rfl ?_
                        refine En_getU (j := 16) (u := 167) (g' := 43) (q := 0) rfl rfl rfl tgz_159 (by decide +kernel) h92 (by decide +kernel) (by decide +kernel) (fun h96 => ?_)
                        refine En_Ps 1 (pc' := 71) (lv' := [(0, .ref 159), (1, .int y6), (2, .int y24), (3, .int y61)]) (st' := [.ref 159, .ref 167]) rfl ?_
                        refine En_getK (j := 18) ((h95 _ _ (Or.inl (neTG tgz_159 tgz_166 (by decide)))).trans h69) rfl rfl rfl tgz_159 (by decide +kernel) ?_
                        refine En_Ps 1 (pc' := 75) (lv' := [(0, .ref 159), (1, .int y6), (2, .int y24), (3, .int y61)]) (st' := [.int y61, .int y62, .ref 167]) rfl ?_
                        refine En_iast (l := 0) (u := 15) rfl rfl tgz_167 (by decide +kernel) (by first | exact q_58e6e51dcc h72 | omega) (lnI (by decide +kernel : LN _ = 81) (by omega)) (FTsgl (by decide +kernel)) (rngI rfl (by first | exact q_58e6e51dcc h70 | omega) (by first | exact q_44d807139a h76 h48 h44.2.1 | omega)) h92 h93 (by decide +kernel) (fun σ98 h99 h100 h101 h102 => ?_)
                        refine En_Ps 1 (pc' := 77) (lv' := [(0, .ref 159), (1, .int y6), (2, .int y24), (3, .int y61)]) (st' := [.ref 159]) rfl ?_
                        refine En_getU (j := 17) (u := 168) (g' := 44) (q := 0) rfl rfl rfl tgz_159 (by decide +kernel) h99 (by decide +kernel) (by decide +kernel) (fun h103 => ?_)
                        refine En_Ps 1 (pc' := 81) (lv' := [(0, .ref 159), (1, .int y6), (2, .int y24), (3, .int y61)]) (st' := [.ref 159, .ref 168]) rfl ?_
                        refine En_getK (j := 18) ((h102 _ _ (Or.inl (neTG tgz_159 tgz_167 (by decide)))).trans ((h95 _ _ (Or.inl (neTG tgz_159 tgz_166 (by decide)))).trans h69)) rfl rfl rfl tgz_159 (by decide +kernel) ?_
                        refine En_Ps 3 (pc' := 87) (lv' := [(0, .ref 159), (1, .int y6), (2, .int y24), (3, .int y61)]) (st' := [.int y61, .int y24, .ref 159, .int y62, .ref 168]) rfl ?_
                        refine En_callV rfl rfl rfl rfl rfl rfl rfl rfl tgz_159 (by decide +kernel) rfl (c_212 σ98 h99 y24 y61) (by decide) (by decide) (fun v106 σ107 h105 => ?_)
                        obtain ⟨h108, h109, z111, rfl, h110⟩ := h105
                        have h112 := Fr_trans h100 h109 (by decide +kernel)
                        refine En_iast (l := (-2147483648)) (u := 2147483647) rfl rfl tgz_168 (by decide +kernel) (by first | exact q_58e6e51dcc h72 | omega) (lnI (by decide +kernel : LN _ = 81) (by omega)) (FTsgl (by decide +kernel)) (fullI _) h108 h112 (by decide +kernel) (fun σ113 h114 h115 h116 h117 => ?_)
                        refine En_Ps 2 (pc' := 93) (lv' := [(0, .ref 159), (1, .int y6), (2, .int y24), (3, .int y61)]) (st' := [.ref 159, .ref 159]) rfl ?_
                        refine En_getK (j := 18) ((h117 _ _ (Or.inl (neTG tgz_159 tgz_168 (by decide)))).trans ((h109 _ _ (inW tgz_159 (by decide +kernel))).trans ((h102 _ _ (Or.inl (neTG tgz_159 tgz_167 (by decide)))).trans ((h95 _ _ (Or.inl (neTG tgz_159 tgz_166 (by decide)))).trans h69)))) rfl rfl rfl tgz_159 (by decide +kernel) ?_
                        refine En_Ps 2 (pc' := 98) (lv' := [(0, .ref 159), (1, .int y6), (2, .int y24), (3, .int y61)]) (st' := [.int ((y62 + ((Int32.ofInt 1)))), .ref 159]) rfl ?_
                        refine En_top (addI rfl (by decide : (Int32.ofInt 1).toInt = 1) (by first | exact q_465ab79ac1 h72 | omega) (by first | exact q_d778ff18c8 h73 | omega)) (fun z118 h119 => ?_)
                        refine En_put (j := 18) rfl rfl rfl tgz_159 (by decide +kernel) rfl (vI (l := 0) (u := 81) (by decide +kernel) rfl (by first | exact q_35104ce9d3 h119 h72 | omega) (by omega)) h114 h115 (by decide +kernel) (fun σ120 h121 h122 h123 h124 => ?_)
                        refine En_Ps 1 (pc' := 104) (lv' := [(3, .int ((y61 + Int32.ofInt 1))), (0, .ref 159), (1, .int y6), (2, .int y24)]) (st' := []) rfl ?_
                        refine En_lv1 (addI rfl (by decide : (Int32.ofInt 1).toInt = 1) (by first | exact q_465ab79ac1 h70 | omega) (by first | exact q_f3f8e04381 h71 | omega)) (fun z125 h126 => ?_)
                        refine En_Ps 1 (pc' := 40) (lv' := [(3, .int z125), (0, .ref 159), (1, .int y6), (2, .int y24)]) (st' := []) rfl ?_
                        refine En_lv (lv := [(0, .ref 159), (1, .int y6), (2, .int y24), (3, .int z125)]) ⟨rfl, rfl, rfl, rfl, trivial⟩ ?_
                        exact ih40 σ120 z125 z118 h121 h122 ((h124 _ _ (Or.inl (neTG tgz_160 tgz_159 (by decide)))).trans ((h117 _ _ (Or.inl (neTG tgz_160 tgz_168 (by decide)))).trans ((h109 _ _ (inWa tgz_160 (by decide +kernel))).trans ((h102 _ _ (Or.inl (neTG tgz_160 tgz_167 (by decide)))).trans ((h95 _ _ (Or.inl (neTG tgz_160 tgz_166 (by decide)))).trans h66))))) ((h124 _ _ (Or.inl (neTG tgz_160 tgz_159 (by decide)))).trans ((h117 _ _ (Or.inl (neTG tgz_160 tgz_168 (by decide)))).trans ((h109 _ _ (inWa tgz_160 (by decide +kernel))).trans ((h102 _ _ (Or.inl (neTG tgz_160 tgz_167 (by decide)))).trans ((h95 _ _ (Or.inl (neTG tgz_160 tgz_166 (by decide)))).trans h67))))) ((h124 _ _ (Or.inr (by decide))).trans ((h117 _ _ (Or.inl (neTG tgz_159 tgz_168 (by decide)))).trans ((h109 _ _ (inW tgz_159 (by decide +kernel))).trans ((h102 _ _ (Or.inl (neTG tgz_159 tgz_167 (by decide)))).trans ((h95 _ _ (Or.inl (neTG tgz_159 tgz_166 (by decide)))).trans h68))))) h123 (by first | exact q_35104ce9d3 h126 h70 | omega) (by first | exact q_2cbd4aee36 h126 h76 h48 h44.2.1 | omega) (by first | exact q_35104ce9d3 h119 h72 | omega) (by omega) (by first | exact q_c5d740bdff h126 h74 | omega) (by first | exact RN_eq h75 (by omega) (by omega) (by omega) | exact RN_skip h75 (by omega) (by omega) (by omega) (by omega) (by omega) | exact RN_x h75 (by omega) (by omega) (by omega) (by omega) | exact RN_n h75 (by omega) (by omega) (by omega) (by omega) (by omega) | exact RV_in h75 (by omega) (by omega) (by omega) (by omega) (by omega) (by omega) | exact RV_put h75 (by omega) (by omega) (by omega) (by omega) (by omega) (by omega) | exact RV_not h75 (by omega) (by omega) (by omega) (by omega) (by omega) (by omega))
                      · have := sub_sb h82 h80 rfl rfl (by omega) (by omega) (by omega) (by omega)
                        refine En_Ps 2 (pc' := 104) (lv' := [(3, .int ((y61 + Int32.ofInt 1))), (0, .ref 159), (1, .int y6), (2, .int y24)]) (st' := []) rfl ?_
                        refine En_lv1 (addI rfl (by decide : (Int32.ofInt 1).toInt = 1) (by first | exact q_465ab79ac1 h70 | omega) (by first | exact q_f3f8e04381 h71 | omega)) (fun z127 h128 => ?_)
                        refine En_Ps 1 (pc' := 40) (lv' := [(3, .int z127), (0, .ref 159), (1, .int y6), (2, .int y24)]) (st' := []) rfl ?_
                        refine En_lv (lv := [(0, .ref 159), (1, .int y6), (2, .int y24), (3, .int z127)]) ⟨rfl, rfl, rfl, rfl, trivial⟩ ?_
                        exact ih40 σ63 z127 y62 h64 h65 h66 h67 h68 h69 (by first | exact q_35104ce9d3 h128 h70 | omega) (by first | exact q_2cbd4aee36 h128 h76 h48 h44.2.1 | omega) (by first | exact q_58e6e51dcc h72 | omega) (by first | exact q_938d18a0b8 h73 | omega) (by first | exact q_c5d740bdff h128 h74 | omega) (by first | exact RN_eq h75 (by omega) (by omega) (by omega) | exact RN_skip h75 (by omega) (by omega) (by omega) (by omega) (by omega) | exact RN_x h75 (by omega) (by omega) (by omega) (by omega) | exact RN_n h75 (by omega) (by omega) (by omega) (by omega) (by omega) | exact RV_in h75 (by omega) (by omega) (by omega) (by omega) (by omega) (by omega) | exact RV_put h75 (by omega) (by omega) (by omega) (by omega) (by omega) (by omega) | exact RV_not h75 (by omega) (by omega) (by omega) (by omega) (by omega) (by omega))
                have := (by decide : (Int32.ofInt 0).toInt = 0)
                refine En_lv (lv := [(0, .ref 159), (1, .int y6), (2, .int y24), (3, .int ((Int32.ofInt 0)))]) ⟨rfl, rfl, rfl, rfl, trivial⟩ ?_
                exact key40 (Int.toNat (16) + 1) σ53 ((Int32.ofInt 0)) y25 h54 h59 ((h55 _ _ (inWa tgz_160 (by decide +kernel))).trans ((h43 _ _ (inWa tgz_160 (by decide +kernel))).trans h29)) ((h55 _ _ (inWa tgz_160 (by decide +kernel))).trans ((h43 _ _ (inWa tgz_160 (by decide +kernel))).trans h30)) ((h55 _ _ (inW tgz_159 (by decide +kernel))).trans ((h43 _ _ (inW tgz_159 (by decide +kernel))).trans h31)) ((h55 _ _ (inW tgz_159 (by decide +kernel))).trans ((h43 _ _ (inW tgz_159 (by decide +kernel))).trans h32)) (by decide) (by decide) (by first | exact q_58e6e51dcc h35 | omega) (by first | exact q_938d18a0b8 h36 | omega) (by first | exact toN_lt _ | omega) (by first | exact RN_eq h38 (by omega) (by omega) (by omega) | exact RN_skip h38 (by omega) (by omega) (by omega) (by omega) (by omega) | exact RN_x h38 (by omega) (by omega) (by omega) (by omega) | exact RN_n h38 (by omega) (by omega) (by omega) (by omega) (by omega) | exact RV_in h38 (by omega) (by omega) (by omega) (by omega) (by omega) (by omega) | exact RV_put h38 (by omega) (by omega) (by omega) (by omega) (by omega) (by omega) | exact RV_not h38 (by omega) (by omega) (by omega) (by omega) (by omega) (by omega))
              · refine En_Ps 2 (pc' := 110) (lv' := [(2, .int ((y24 + Int32.ofInt 1))), (0, .ref 159), (1, .int y6)]) (st' := []) rfl ?_
                refine En_lv1 (addI rfl (by decide : (Int32.ofInt 1).toInt = 1) (by first | exact q_465ab79ac1 h33 | omega) (by first | exact q_f3f8e04381 h34 | omega)) (fun z129 h130 => ?_)
                refine En_Ps 1 (pc' := 19) (lv' := [(2, .int z129), (0, .ref 159), (1, .int y6)]) (st' := []) rfl ?_
                refine En_lv (lv := [(0, .ref 159), (1, .int y6), (2, .int z129)]) ⟨rfl, rfl, rfl, trivial⟩ ?_
                exact ih19 σ53 z129 y25 h54 h59 ((h55 _ _ (inWa tgz_160 (by decide +kernel))).trans ((h43 _ _ (inWa tgz_160 (by decide +kernel))).trans h29)) ((h55 _ _ (inWa tgz_160 (by decide +kernel))).trans ((h43 _ _ (inWa tgz_160 (by decide +kernel))).trans h30)) ((h55 _ _ (inW tgz_159 (by decide +kernel))).trans ((h43 _ _ (inW tgz_159 (by decide +kernel))).trans h31)) ((h55 _ _ (inW tgz_159 (by decide +kernel))).trans ((h43 _ _ (inW tgz_159 (by decide +kernel))).trans h32)) (by first | exact q_35104ce9d3 h130 h33 | omega) (by first | exact q_34dc714687 h130 h48 h44.2.1 | omega) (by first | exact q_58e6e51dcc h35 | omega) (by first | exact q_938d18a0b8 h36 | omega) (by first | exact q_c5d740bdff h130 h37 | omega) (by first | exact RN_eq h38 (by omega) (by omega) (by omega) | exact RN_skip h38 (by omega) (by omega) (by omega) (by omega) (by omega) | exact RN_x h38 (by omega) (by omega) (by omega) (by omega) | exact RN_n h38 (by omega) (by omega) (by omega) (by omega) (by omega) | exact RV_in h38 (by omega) (by omega) (by omega) (by omega) (by omega) (by omega) | exact RV_put h38 (by omega) (by omega) (by omega) (by omega) (by omega) (by omega) | exact RV_not h38 (by omega) (by omega) (by omega) (by omega) (by omega) (by omega))
        have := (by decide : (Int32.ofInt 0).toInt = 0)
        refine En_lv (lv := [(0, .ref 159), (1, .int y6), (2, .int ((Int32.ofInt 0)))]) ⟨rfl, rfl, rfl, trivial⟩ ?_
        exact key19 (Int.toNat (16) + 1) σ8 ((Int32.ofInt 0)) y7 h9 h10 h11 h12 h20 h13 (by decide) (by decide) (by first | exact q_58e6e51dcc h16 | omega) (by first | exact q_938d18a0b8 h17 | omega) (by first | exact toN_lt _ | omega) (by first | exact RN_eq h19 (by omega) (by omega) (by omega) | exact RN_skip h19 (by omega) (by omega) (by omega) (by omega) (by omega) | exact RN_x h19 (by omega) (by omega) (by omega) (by omega) | exact RN_n h19 (by omega) (by omega) (by omega) (by omega) (by omega) | exact RV_in h19 (by omega) (by omega) (by omega) (by omega) (by omega) (by omega) | exact RV_put h19 (by omega) (by omega) (by omega) (by omega) (by omega) (by omega) | exact RV_not h19 (by omega) (by omega) (by omega) (by omega) (by omega) (by omega))
  have := (by decide : (Int32.ofInt 0).toInt = 0)
  have := (by decide : (Int32.ofInt 0).toInt = 0)
  refine En_lv (lv := [(0, .ref 159), (1, .int ((Int32.ofInt 0)))]) ⟨rfl, rfl, trivial⟩ ?_
  exact key7 (Int.toNat (5) + 1) σ1 ((Int32.ofInt 0)) ((Int32.ofInt 0)) h2 h3 ((h5 _ _ (Or.inl (neTG tgz_160 tgz_159 (by decide)))).trans h_s) ((h5 _ _ (Or.inl (neTG tgz_160 tgz_159 (by decide)))).trans h_sc) h4 (by decide) (by decide) (by decide) (by decide) (by first | exact toN_lt _ | omega) (by exact RN_0 (kI_rng _ (by omega) (by omega)) (by omega) (by omega) (by omega))
/-- DoorSchoolModel.of(II)I -/
abbrev P_290a (σ0 : SG) (a : Int32) (b : Int32) (c : Int32) : PO := fun v σ => WT σ ∧ Fr [] σ0 σ ∧ ∃ ret : Int32, v = some (.int ret) ∧ -ret.toInt ≤ 0 ∧ ret.toInt - 2 ≤ 0 ∧ ret.toInt - c.toInt ≤ 0 ∧ -ret.toInt + c.toInt ≤ 0
set_option maxRecDepth 10000 in
set_option maxHeartbeats 4000000 in
theorem c_290a (σ0 : SG) (hσ0 : WT σ0) (a : Int32) (b : Int32) (hl_a : 0 ≤ a.toInt) (hu_a : a.toInt ≤ 3) (hl_b : 0 ≤ b.toInt) (hu_b : b.toInt ≤ 0) (c : Int32) (h_c : (σ0 160)[(4 * a.toInt + b.toInt + 10).toNat]? = some (.int c)) : En 0 0 none mr_290 (P_290a σ0 a b c) 0 [(0, .ref 159), (1, .int a), (2, .int b)] [] σ0 := by
  have hF0 : Fr [] σ0 σ0 := Fr_rfl
  obtain ⟨hl_c, hu_c⟩ := WT_int hσ0 (g := 36) tgz_160 (by decide +kernel) (l := 0) (u := 2) (FTrow 36 10 4 4 (by decide +kernel) (by omega) (by omega) (by omega)) h_c
  refine En_Ps 1 (pc' := 1) (lv' := [(0, .ref 159), (1, .int a), (2, .int b)]) (st' := [.ref 159]) rfl ?_
  refine En_getU (j := 1) (u := 160) (g' := 36) (q := 0) rfl rfl rfl tgz_159 (by decide +kernel) hσ0 (by decide +kernel) (by decide +kernel) (fun h1 => ?_)
  refine En_Ps 4 (pc' := 9) (lv' := [(0, .ref 159), (1, .int a), (2, .int b)]) (st' := [.int ((((Int32.ofInt 4)) * a)), .int (((Int8.ofInt 10).toInt32)), .ref 160]) rfl ?_
  refine En_top (mulI (by decide : (Int32.ofInt 4).toInt = 4) rfl (Z := 4 * a.toInt) (by first | exact q_8696eb12a7 | omega) (by first | exact q_be45967ac2 hl_a | omega) (by first | exact q_395a9d924c hu_a | omega)) (fun z3 h4 => ?_)
  refine En_Ps 1 (pc' := 10) (lv' := [(0, .ref 159), (1, .int a), (2, .int b)]) (st' := [.int (((((Int8.ofInt 10).toInt32)) + z3)), .ref 160]) rfl ?_
  refine En_top (addI (by decide : ((Int8.ofInt 10).toInt32).toInt = 10) rfl (by first | exact q_7bfa00123f h4 hl_a | omega) (by first | exact q_a63fdf625c h4 hu_a | omega)) (fun z5 h6 => ?_)
  refine En_Ps 2 (pc' := 12) (lv' := [(0, .ref 159), (1, .int a), (2, .int b)]) (st' := [.int ((z5 + b)), .ref 160]) rfl ?_
  refine En_top (addI rfl rfl (by first | exact q_ea89b7ca88 hl_b h6 h4 hl_a | omega) (by first | exact q_889d81d609 hu_b h6 h4 hu_a | omega)) (fun z7 h8 => ?_)
  have h10 : (σ0 160)[(z7.toInt).toNat]? = some (.int c) := by rw [show (z7.toInt) = (4 * a.toInt + b.toInt + 10) by omega]; exact h_c
  refine En_ialdK h10 rfl rfl tgz_160 (by decide +kernel) hσ0 (by first | exact q_0f25807f40 h8 hl_b h6 h4 hl_a | omega) (lnI (by decide +kernel : LN _ = 226) (by first | exact q_8ac9d8190d h8 hu_b h6 h4 hu_a | omega)) ?_
  exact En_ret (v := some (.int c)) rfl rfl rfl ⟨hσ0, hF0, c, rfl, ⟨by first | exact q_c803b490ef hl_c | omega, by first | exact q_316dab1512 hu_c | omega, by first | exact q_1bb76abeaf | omega, by first | exact q_857069189f | omega⟩⟩
/-- DoorSchoolModel.of(II)I -/
abbrev P_290b (σ0 : SG) (a : Int32) (b : Int32) (c : Int32) : PO := fun v σ => WT σ ∧ Fr [] σ0 σ ∧ ∃ ret : Int32, v = some (.int ret) ∧ -ret.toInt ≤ 0 ∧ ret.toInt - 50 ≤ 0 ∧ ret.toInt - c.toInt ≤ 0 ∧ -ret.toInt + c.toInt ≤ 0
set_option maxRecDepth 10000 in
set_option maxHeartbeats 4000000 in
theorem c_290b (σ0 : SG) (hσ0 : WT σ0) (a : Int32) (b : Int32) (hl_a : 0 ≤ a.toInt) (hu_a : a.toInt ≤ 3) (hl_b : 1 ≤ b.toInt) (hu_b : b.toInt ≤ 1) (c : Int32) (h_c : (σ0 160)[(4 * a.toInt + b.toInt + 10).toNat]? = some (.int c)) : En 0 0 none mr_290 (P_290b σ0 a b c) 0 [(0, .ref 159), (1, .int a), (2, .int b)] [] σ0 := by
  have hF0 : Fr [] σ0 σ0 := Fr_rfl
  obtain ⟨hl_c, hu_c⟩ := WT_int hσ0 (g := 36) tgz_160 (by decide +kernel) (l := 0) (u := 50) (FTrow 36 11 4 4 (by decide +kernel) (by omega) (by omega) (by omega)) h_c
  refine En_Ps 1 (pc' := 1) (lv' := [(0, .ref 159), (1, .int a), (2, .int b)]) (st' := [.ref 159]) rfl ?_
  refine En_getU (j := 1) (u := 160) (g' := 36) (q := 0) rfl rfl rfl tgz_159 (by decide +kernel) hσ0 (by decide +kernel) (by decide +kernel) (fun h1 => ?_)
  refine En_Ps 4 (pc' := 9) (lv' := [(0, .ref 159), (1, .int a), (2, .int b)]) (st' := [.int ((((Int32.ofInt 4)) * a)), .int (((Int8.ofInt 10).toInt32)), .ref 160]) rfl ?_
  refine En_top (mulI (by decide : (Int32.ofInt 4).toInt = 4) rfl (Z := 4 * a.toInt) (by first | exact q_8696eb12a7 | omega) (by first | exact q_be45967ac2 hl_a | omega) (by first | exact q_395a9d924c hu_a | omega)) (fun z3 h4 => ?_)
  refine En_Ps 1 (pc' := 10) (lv' := [(0, .ref 159), (1, .int a), (2, .int b)]) (st' := [.int (((((Int8.ofInt 10).toInt32)) + z3)), .ref 160]) rfl ?_
  refine En_top (addI (by decide : ((Int8.ofInt 10).toInt32).toInt = 10) rfl (by first | exact q_7bfa00123f h4 hl_a | omega) (by first | exact q_a63fdf625c h4 hu_a | omega)) (fun z5 h6 => ?_)
  refine En_Ps 2 (pc' := 12) (lv' := [(0, .ref 159), (1, .int a), (2, .int b)]) (st' := [.int ((z5 + b)), .ref 160]) rfl ?_
  refine En_top (addI rfl rfl (by first | exact q_9b568fec97 hl_b h6 h4 hl_a | omega) (by first | exact q_d5c943c79d hu_b h6 h4 hu_a | omega)) (fun z7 h8 => ?_)
  have h10 : (σ0 160)[(z7.toInt).toNat]? = some (.int c) := by rw [show (z7.toInt) = (4 * a.toInt + b.toInt + 10) by omega]; exact h_c
  refine En_ialdK h10 rfl rfl tgz_160 (by decide +kernel) hσ0 (by first | exact q_c171156e7d h8 hl_b h6 h4 hl_a | omega) (lnI (by decide +kernel : LN _ = 226) (by first | exact q_a2e5118616 h8 hu_b h6 h4 hu_a | omega)) ?_
  exact En_ret (v := some (.int c)) rfl rfl rfl ⟨hσ0, hF0, c, rfl, ⟨by first | exact q_c803b490ef hl_c | omega, by first | exact q_1608b91b28 hu_c | omega, by first | exact q_1bb76abeaf | omega, by first | exact q_857069189f | omega⟩⟩
/-- DoorSchoolModel.of(II)I -/
abbrev P_290c (σ0 : SG) (a : Int32) (b : Int32) (c : Int32) : PO := fun v σ => WT σ ∧ Fr [] σ0 σ ∧ ∃ ret : Int32, v = some (.int ret) ∧ -ret.toInt ≤ 0 ∧ ret.toInt - 12 ≤ 0 ∧ ret.toInt - c.toInt ≤ 0 ∧ -ret.toInt + c.toInt ≤ 0
set_option maxRecDepth 10000 in
set_option maxHeartbeats 4000000 in
theorem c_290c (σ0 : SG) (hσ0 : WT σ0) (a : Int32) (b : Int32) (hl_a : 0 ≤ a.toInt) (hu_a : a.toInt ≤ 3) (hl_b : 2 ≤ b.toInt) (hu_b : b.toInt ≤ 2) (c : Int32) (h_c : (σ0 160)[(4 * a.toInt + b.toInt + 10).toNat]? = some (.int c)) : En 0 0 none mr_290 (P_290c σ0 a b c) 0 [(0, .ref 159), (1, .int a), (2, .int b)] [] σ0 := by
  have hF0 : Fr [] σ0 σ0 := Fr_rfl
  obtain ⟨hl_c, hu_c⟩ := WT_int hσ0 (g := 36) tgz_160 (by decide +kernel) (l := 0) (u := 12) (FTrow 36 12 4 4 (by decide +kernel) (by omega) (by omega) (by omega)) h_c
  refine En_Ps 1 (pc' := 1) (lv' := [(0, .ref 159), (1, .int a), (2, .int b)]) (st' := [.ref 159]) rfl ?_
  refine En_getU (j := 1) (u := 160) (g' := 36) (q := 0) rfl rfl rfl tgz_159 (by decide +kernel) hσ0 (by decide +kernel) (by decide +kernel) (fun h1 => ?_)
  refine En_Ps 4 (pc' := 9) (lv' := [(0, .ref 159), (1, .int a), (2, .int b)]) (st' := [.int ((((Int32.ofInt 4)) * a)), .int (((Int8.ofInt 10).toInt32)), .ref 160]) rfl ?_
  refine En_top (mulI (by decide : (Int32.ofInt 4).toInt = 4) rfl (Z := 4 * a.toInt) (by first | exact q_8696eb12a7 | omega) (by first | exact q_be45967ac2 hl_a | omega) (by first | exact q_395a9d924c hu_a | omega)) (fun z3 h4 => ?_)
  refine En_Ps 1 (pc' := 10) (lv' := [(0, .ref 159), (1, .int a), (2, .int b)]) (st' := [.int (((((Int8.ofInt 10).toInt32)) + z3)), .ref 160]) rfl ?_
  refine En_top (addI (by decide : ((Int8.ofInt 10).toInt32).toInt = 10) rfl (by first | exact q_7bfa00123f h4 hl_a | omega) (by first | exact q_a63fdf625c h4 hu_a | omega)) (fun z5 h6 => ?_)
  refine En_Ps 2 (pc' := 12) (lv' := [(0, .ref 159), (1, .int a), (2, .int b)]) (st' := [.int ((z5 + b)), .ref 160]) rfl ?_
  refine En_top (addI rfl rfl (by first | exact q_ef817ac353 hl_b h6 h4 hl_a | omega) (by first | exact q_40a73e70cb hu_b h6 h4 hu_a | omega)) (fun z7 h8 => ?_)
  have h10 : (σ0 160)[(z7.toInt).toNat]? = some (.int c) := by rw [show (z7.toInt) = (4 * a.toInt + b.toInt + 10) by omega]; exact h_c
  refine En_ialdK h10 rfl rfl tgz_160 (by decide +kernel) hσ0 (by first | exact q_16a2a14341 h8 hl_b h6 h4 hl_a | omega) (lnI (by decide +kernel : LN _ = 226) (by first | exact q_8a76eee028 h8 hu_b h6 h4 hu_a | omega)) ?_
  exact En_ret (v := some (.int c)) rfl rfl rfl ⟨hσ0, hF0, c, rfl, ⟨by first | exact q_c803b490ef hl_c | omega, by first | exact q_16c941e15c hu_c | omega, by first | exact q_1bb76abeaf | omega, by first | exact q_857069189f | omega⟩⟩
/-- DoorSchoolModel.of(II)I -/
abbrev P_290d (σ0 : SG) (a : Int32) (b : Int32) (c : Int32) : PO := fun v σ => WT σ ∧ Fr [] σ0 σ ∧ ∃ ret : Int32, v = some (.int ret) ∧ -ret.toInt - 1 ≤ 0 ∧ ret.toInt - 3 ≤ 0 ∧ ret.toInt - c.toInt ≤ 0 ∧ -ret.toInt + c.toInt ≤ 0
set_option maxRecDepth 10000 in
set_option maxHeartbeats 4000000 in
theorem c_290d (σ0 : SG) (hσ0 : WT σ0) (a : Int32) (b : Int32) (hl_a : 0 ≤ a.toInt) (hu_a : a.toInt ≤ 3) (hl_b : 3 ≤ b.toInt) (hu_b : b.toInt ≤ 3) (c : Int32) (h_c : (σ0 160)[(4 * a.toInt + b.toInt + 10).toNat]? = some (.int c)) : En 0 0 none mr_290 (P_290d σ0 a b c) 0 [(0, .ref 159), (1, .int a), (2, .int b)] [] σ0 := by
  have hF0 : Fr [] σ0 σ0 := Fr_rfl
  obtain ⟨hl_c, hu_c⟩ := WT_int hσ0 (g := 36) tgz_160 (by decide +kernel) (l := (-1)) (u := 3) (FTrow 36 13 4 4 (by decide +kernel) (by omega) (by omega) (by omega)) h_c
  refine En_Ps 1 (pc' := 1) (lv' := [(0, .ref 159), (1, .int a), (2, .int b)]) (st' := [.ref 159]) rfl ?_
  refine En_getU (j := 1) (u := 160) (g' := 36) (q := 0) rfl rfl rfl tgz_159 (by decide +kernel) hσ0 (by decide +kernel) (by decide +kernel) (fun h1 => ?_)
  refine En_Ps 4 (pc' := 9) (lv' := [(0, .ref 159), (1, .int a), (2, .int b)]) (st' := [.int ((((Int32.ofInt 4)) * a)), .int (((Int8.ofInt 10).toInt32)), .ref 160]) rfl ?_
  refine En_top (mulI (by decide : (Int32.ofInt 4).toInt = 4) rfl (Z := 4 * a.toInt) (by first | exact q_8696eb12a7 | omega) (by first | exact q_be45967ac2 hl_a | omega) (by first | exact q_395a9d924c hu_a | omega)) (fun z3 h4 => ?_)
  refine En_Ps 1 (pc' := 10) (lv' := [(0, .ref 159), (1, .int a), (2, .int b)]) (st' := [.int (((((Int8.ofInt 10).toInt32)) + z3)), .ref 160]) rfl ?_
  refine En_top (addI (by decide : ((Int8.ofInt 10).toInt32).toInt = 10) rfl (by first | exact q_7bfa00123f h4 hl_a | omega) (by first | exact q_a63fdf625c h4 hu_a | omega)) (fun z5 h6 => ?_)
  refine En_Ps 2 (pc' := 12) (lv' := [(0, .ref 159), (1, .int a), (2, .int b)]) (st' := [.int ((z5 + b)), .ref 160]) rfl ?_
  refine En_top (addI rfl rfl (by first | exact q_28aa76c899 hl_b h6 h4 hl_a | omega) (by first | exact q_055c074749 hu_b h6 h4 hu_a | omega)) (fun z7 h8 => ?_)
  have h10 : (σ0 160)[(z7.toInt).toNat]? = some (.int c) := by rw [show (z7.toInt) = (4 * a.toInt + b.toInt + 10) by omega]; exact h_c
  refine En_ialdK h10 rfl rfl tgz_160 (by decide +kernel) hσ0 (by first | exact q_934600e264 h8 hl_b h6 h4 hl_a | omega) (lnI (by decide +kernel : LN _ = 226) (by first | exact q_c525c41564 h8 hu_b h6 h4 hu_a | omega)) ?_
  exact En_ret (v := some (.int c)) rfl rfl rfl ⟨hσ0, hF0, c, rfl, ⟨by first | exact q_909eef6c0e hl_c | omega, by first | exact q_e9a8eec0c4 hu_c | omega, by first | exact q_1bb76abeaf | omega, by first | exact q_857069189f | omega⟩⟩
/-- DoorSchoolModel.of(II)I -/
abbrev P_290e (σ0 : SG) (a : Int32) (b : Int32) : PO := fun v σ => WT σ ∧ Fr [] σ0 σ ∧ ∃ ret : Int32, v = some (.int ret) ∧ -ret.toInt - 1 ≤ 0 ∧ ret.toInt - 50 ≤ 0
set_option maxRecDepth 10000 in
set_option maxHeartbeats 4000000 in
theorem c_290e (σ0 : SG) (hσ0 : WT σ0) (a : Int32) (b : Int32) (hl_a : 0 ≤ a.toInt) (hu_a : a.toInt ≤ 3) (hl_b : 0 ≤ b.toInt) (hu_b : b.toInt ≤ 3) : En 0 0 none mr_290 (P_290e σ0 a b) 0 [(0, .ref 159), (1, .int a), (2, .int b)] [] σ0 := by
  have hF0 : Fr [] σ0 σ0 := Fr_rfl
  refine En_Ps 1 (pc' := 1) (lv' := [(0, .ref 159), (1, .int a), (2, .int b)]) (st' := [.ref 159]) rfl ?_
  refine En_getU (j := 1) (u := 160) (g' := 36) (q := 0) rfl rfl rfl tgz_159 (by decide +kernel) hσ0 (by decide +kernel) (by decide +kernel) (fun h1 => ?_)
  refine En_Ps 4 (pc' := 9) (lv' := [(0, .ref 159), (1, .int a), (2, .int b)]) (st' := [.int ((((Int32.ofInt 4)) * a)), .int (((Int8.ofInt 10).toInt32)), .ref 160]) rfl ?_
  refine En_top (mulI (by decide : (Int32.ofInt 4).toInt = 4) rfl (Z := 4 * a.toInt) (by first | exact q_8696eb12a7 | omega) (by first | exact q_be45967ac2 hl_a | omega) (by first | exact q_395a9d924c hu_a | omega)) (fun z3 h4 => ?_)
  refine En_Ps 1 (pc' := 10) (lv' := [(0, .ref 159), (1, .int a), (2, .int b)]) (st' := [.int (((((Int8.ofInt 10).toInt32)) + z3)), .ref 160]) rfl ?_
  refine En_top (addI (by decide : ((Int8.ofInt 10).toInt32).toInt = 10) rfl (by first | exact q_7bfa00123f h4 hl_a | omega) (by first | exact q_a63fdf625c h4 hu_a | omega)) (fun z5 h6 => ?_)
  refine En_Ps 2 (pc' := 12) (lv' := [(0, .ref 159), (1, .int a), (2, .int b)]) (st' := [.int ((z5 + b)), .ref 160]) rfl ?_
  refine En_top (addI rfl rfl (by first | exact q_ea89b7ca88 hl_b h6 h4 hl_a | omega) (by first | exact q_055c074749 hu_b h6 h4 hu_a | omega)) (fun z7 h8 => ?_)
  rcases (show z7.toInt = 10 ∨ z7.toInt = 11 ∨ z7.toInt = 12 ∨ z7.toInt = 13 ∨ z7.toInt = 14 ∨ z7.toInt = 15 ∨ z7.toInt = 16 ∨ z7.toInt = 17 ∨ z7.toInt = 18 ∨ z7.toInt = 19 ∨ z7.toInt = 20 ∨ z7.toInt = 21 ∨ z7.toInt = 22 ∨ z7.toInt = 23 ∨ z7.toInt = 24 ∨ z7.toInt = 25 by omega) with h9 | h9 | h9 | h9 | h9 | h9 | h9 | h9 | h9 | h9 | h9 | h9 | h9 | h9 | h9 | h9
  · refine En_iald (l := 0) (u := 2) rfl h9 tgz_160 (by decide +kernel) hσ0 (by decide) (lnI (by decide +kernel : LN _ = 226) (by decide)) (by decide +kernel) (fun z11 h10 h12 h13 => ?_)
    exact En_ret (v := some (.int z11)) rfl rfl rfl ⟨hσ0, hF0, z11, rfl, ⟨by first | exact q_565e7b05df h12 | omega, by first | exact q_ab791a917f h13 | omega⟩⟩
  · refine En_iald (l := 0) (u := 50) rfl h9 tgz_160 (by decide +kernel) hσ0 (by decide) (lnI (by decide +kernel : LN _ = 226) (by decide)) (by decide +kernel) (fun z15 h14 h16 h17 => ?_)
    exact En_ret (v := some (.int z15)) rfl rfl rfl ⟨hσ0, hF0, z15, rfl, ⟨by first | exact q_565e7b05df h16 | omega, by first | exact q_1608b91b28 h17 | omega⟩⟩
  · refine En_iald (l := 0) (u := 12) rfl h9 tgz_160 (by decide +kernel) hσ0 (by decide) (lnI (by decide +kernel : LN _ = 226) (by decide)) (by decide +kernel) (fun z19 h18 h20 h21 => ?_)
    exact En_ret (v := some (.int z19)) rfl rfl rfl ⟨hσ0, hF0, z19, rfl, ⟨by first | exact q_565e7b05df h20 | omega, by first | exact q_d8dab71124 h21 | omega⟩⟩
  · refine En_iald (l := (-1)) (u := 3) rfl h9 tgz_160 (by decide +kernel) hσ0 (by decide) (lnI (by decide +kernel : LN _ = 226) (by decide)) (by decide +kernel) (fun z23 h22 h24 h25 => ?_)
    exact En_ret (v := some (.int z23)) rfl rfl rfl ⟨hσ0, hF0, z23, rfl, ⟨by first | exact q_909eef6c0e h24 | omega, by first | exact q_dc79e997ce h25 | omega⟩⟩
  · refine En_iald (l := 0) (u := 2) rfl h9 tgz_160 (by decide +kernel) hσ0 (by decide) (lnI (by decide +kernel : LN _ = 226) (by decide)) (by decide +kernel) (fun z27 h26 h28 h29 => ?_)
    exact En_ret (v := some (.int z27)) rfl rfl rfl ⟨hσ0, hF0, z27, rfl, ⟨by first | exact q_565e7b05df h28 | omega, by first | exact q_ab791a917f h29 | omega⟩⟩
  · refine En_iald (l := 0) (u := 50) rfl h9 tgz_160 (by decide +kernel) hσ0 (by decide) (lnI (by decide +kernel : LN _ = 226) (by decide)) (by decide +kernel) (fun z31 h30 h32 h33 => ?_)
    exact En_ret (v := some (.int z31)) rfl rfl rfl ⟨hσ0, hF0, z31, rfl, ⟨by first | exact q_565e7b05df h32 | omega, by first | exact q_1608b91b28 h33 | omega⟩⟩
  · refine En_iald (l := 0) (u := 12) rfl h9 tgz_160 (by decide +kernel) hσ0 (by decide) (lnI (by decide +kernel : LN _ = 226) (by decide)) (by decide +kernel) (fun z35 h34 h36 h37 => ?_)
    exact En_ret (v := some (.int z35)) rfl rfl rfl ⟨hσ0, hF0, z35, rfl, ⟨by first | exact q_565e7b05df h36 | omega, by first | exact q_d8dab71124 h37 | omega⟩⟩
  · refine En_iald (l := (-1)) (u := 3) rfl h9 tgz_160 (by decide +kernel) hσ0 (by decide) (lnI (by decide +kernel : LN _ = 226) (by decide)) (by decide +kernel) (fun z39 h38 h40 h41 => ?_)
    exact En_ret (v := some (.int z39)) rfl rfl rfl ⟨hσ0, hF0, z39, rfl, ⟨by first | exact q_909eef6c0e h40 | omega, by first | exact q_dc79e997ce h41 | omega⟩⟩
  · refine En_iald (l := 0) (u := 2) rfl h9 tgz_160 (by decide +kernel) hσ0 (by decide) (lnI (by decide +kernel : LN _ = 226) (by decide)) (by decide +kernel) (fun z43 h42 h44 h45 => ?_)
    exact En_ret (v := some (.int z43)) rfl rfl rfl ⟨hσ0, hF0, z43, rfl, ⟨by first | exact q_565e7b05df h44 | omega, by first | exact q_ab791a917f h45 | omega⟩⟩
  · refine En_iald (l := 0) (u := 50) rfl h9 tgz_160 (by decide +kernel) hσ0 (by decide) (lnI (by decide +kernel : LN _ = 226) (by decide)) (by decide +kernel) (fun z47 h46 h48 h49 => ?_)
    exact En_ret (v := some (.int z47)) rfl rfl rfl ⟨hσ0, hF0, z47, rfl, ⟨by first | exact q_565e7b05df h48 | omega, by first | exact q_1608b91b28 h49 | omega⟩⟩
  · refine En_iald (l := 0) (u := 12) rfl h9 tgz_160 (by decide +kernel) hσ0 (by decide) (lnI (by decide +kernel : LN _ = 226) (by decide)) (by decide +kernel) (fun z51 h50 h52 h53 => ?_)
    exact En_ret (v := some (.int z51)) rfl rfl rfl ⟨hσ0, hF0, z51, rfl, ⟨by first | exact q_565e7b05df h52 | omega, by first | exact q_d8dab71124 h53 | omega⟩⟩
  · refine En_iald (l := (-1)) (u := 3) rfl h9 tgz_160 (by decide +kernel) hσ0 (by decide) (lnI (by decide +kernel : LN _ = 226) (by decide)) (by decide +kernel) (fun z55 h54 h56 h57 => ?_)
    exact En_ret (v := some (.int z55)) rfl rfl rfl ⟨hσ0, hF0, z55, rfl, ⟨by first | exact q_909eef6c0e h56 | omega, by first | exact q_dc79e997ce h57 | omega⟩⟩
  · refine En_iald (l := 0) (u := 2) rfl h9 tgz_160 (by decide +kernel) hσ0 (by decide) (lnI (by decide +kernel : LN _ = 226) (by decide)) (by decide +kernel) (fun z59 h58 h60 h61 => ?_)
    exact En_ret (v := some (.int z59)) rfl rfl rfl ⟨hσ0, hF0, z59, rfl, ⟨by first | exact q_565e7b05df h60 | omega, by first | exact q_ab791a917f h61 | omega⟩⟩
  · refine En_iald (l := 0) (u := 50) rfl h9 tgz_160 (by decide +kernel) hσ0 (by decide) (lnI (by decide +kernel : LN _ = 226) (by decide)) (by decide +kernel) (fun z63 h62 h64 h65 => ?_)
    exact En_ret (v := some (.int z63)) rfl rfl rfl ⟨hσ0, hF0, z63, rfl, ⟨by first | exact q_565e7b05df h64 | omega, by first | exact q_1608b91b28 h65 | omega⟩⟩
  · refine En_iald (l := 0) (u := 12) rfl h9 tgz_160 (by decide +kernel) hσ0 (by decide) (lnI (by decide +kernel : LN _ = 226) (by decide)) (by decide +kernel) (fun z67 h66 h68 h69 => ?_)
    exact En_ret (v := some (.int z67)) rfl rfl rfl ⟨hσ0, hF0, z67, rfl, ⟨by first | exact q_565e7b05df h68 | omega, by first | exact q_d8dab71124 h69 | omega⟩⟩
  · refine En_iald (l := (-1)) (u := 3) rfl h9 tgz_160 (by decide +kernel) hσ0 (by decide) (lnI (by decide +kernel : LN _ = 226) (by decide)) (by decide +kernel) (fun z71 h70 h72 h73 => ?_)
    exact En_ret (v := some (.int z71)) rfl rfl rfl ⟨hσ0, hF0, z71, rfl, ⟨by first | exact q_909eef6c0e h72 | omega, by first | exact q_dc79e997ce h73 | omega⟩⟩
/-- DoorSchoolModel.real(I)I -/
abbrev P_305 (σ0 : SG) (a : Int32) : PO := fun v σ => WT σ ∧ Fr [] σ0 σ ∧ ∃ ret : Int32, v = some (.int ret) ∧ -ret.toInt ≤ 0 ∧ ret.toInt - 3 ≤ 0
set_option maxRecDepth 10000 in
set_option maxHeartbeats 4000000 in
theorem c_305 (σ0 : SG) (hσ0 : WT σ0) (a : Int32) (hl_a : 0 ≤ a.toInt) (hu_a : a.toInt ≤ 3) : En 1 22 none mr_305 (P_305 σ0 a) 0 [(0, .ref 159), (1, .int a)] [] σ0 := by
  have hF0 : Fr [] σ0 σ0 := Fr_rfl
  refine En_Ps 3 (pc' := 3) (lv' := [(0, .ref 159), (1, .int a)]) (st' := [.int ((Int32.ofInt 3)), .int a, .ref 159]) rfl ?_
  have := (by decide : ((Int32.ofInt 3)).toInt = 3)
  obtain ⟨z1, h2, h3, h4⟩ := WT_peekJ (J := (4 * a.toInt + ((Int32.ofInt 3)).toInt + 10)) (l := (-1)) (u := 3) hσ0 tgz_160 (by decide +kernel) (by omega) (lnI (by decide +kernel : LN _ = 226) (by omega)) (FTrow 36 13 4 4 (by decide +kernel) (by omega) (by omega) (by omega))
  have := (by decide : ((Int32.ofInt 3)).toInt = 3)
  refine En_callV rfl rfl rfl rfl rfl rfl rfl rfl tgz_159 (by decide +kernel) rfl (c_290d σ0 hσ0 a ((Int32.ofInt 3)) (geI rfl (by first | exact q_58e6e51dcc hl_a | omega)) (leI rfl (by first | exact q_da5e9b976f hu_a | omega)) (geI (by decide : (Int32.ofInt 3).toInt = 3) (by decide)) (leI (by decide : (Int32.ofInt 3).toInt = 3) (by decide)) z1 h2) (by decide) (by decide) (fun v6 σ7 h5 => ?_)
  obtain ⟨h8, h9, z11, rfl, h10⟩ := h5
  have h12 := Fr_trans hF0 h9 (by decide +kernel)
  refine En_Ps 1 (pc' := 7) (lv' := [(0, .ref 159), (1, .int a)]) (st' := [.int ((Int32.ofInt (-1))), .int z11]) rfl ?_
  refine En_icNe _ rfl (by decide : (Int32.ofInt (-1)).toInt = -1) rfl (fun h13 => ?_) (fun h13 => ?_)
  · refine En_Ps 3 (pc' := 17) (lv' := [(0, .ref 159), (1, .int a)]) (st' := [.int ((Int32.ofInt 3)), .int a, .ref 159]) rfl ?_
    have := (by decide : ((Int32.ofInt 3)).toInt = 3)
    have := (by decide : ((Int32.ofInt 3)).toInt = 3)
    refine En_callV rfl rfl rfl rfl rfl rfl rfl rfl tgz_159 (by decide +kernel) rfl (c_290d σ7 h8 a ((Int32.ofInt 3)) (geI rfl (by first | exact q_58e6e51dcc hl_a | omega)) (leI rfl (by first | exact q_da5e9b976f hu_a | omega)) (geI (by decide : (Int32.ofInt 3).toInt = 3) (by decide)) (leI (by decide : (Int32.ofInt 3).toInt = 3) (by decide)) z1 ((h9 _ _ (inWa tgz_160 (by decide +kernel))).trans h2)) (by decide) (by decide) (fun v15 σ16 h14 => ?_)
    obtain ⟨h17, h18, z20, rfl, h19⟩ := h14
    have h21 := Fr_trans h12 h18 (by decide +kernel)
    exact En_ret (v := some (.int z20)) rfl rfl rfl ⟨h17, h21, z20, rfl, ⟨by first | exact q_f02febf18c h19.2.2.2 h10.2.2.1 h13 h10.1 | omega, by first | exact q_c733b715bf h19.2.1 | omega⟩⟩
  · refine En_Ps 2 (pc' := 20) (lv' := [(0, .ref 159), (1, .int a)]) (st' := [.int a]) rfl ?_
    exact En_ret (v := some (.int a)) rfl rfl rfl ⟨h8, h12, a, rfl, ⟨by first | exact q_c803b490ef hl_a | omega, by first | exact q_e9a8eec0c4 hu_a | omega⟩⟩
/-- DoorSchoolModel.lessonAt(II)I -/
abbrev P_281 (σ0 : SG) (a : Int32) (b : Int32) : PO := fun v σ => WT σ ∧ Fr [] σ0 σ ∧ ∃ ret : Int32, v = some (.int ret) ∧ -ret.toInt + 26 ≤ 0 ∧ ret.toInt - 122 ≤ 0 ∧ ret.toInt - 24 * a.toInt - 2 * b.toInt - 26 ≤ 0 ∧ -ret.toInt + 24 * a.toInt + 2 * b.toInt + 26 ≤ 0
set_option maxRecDepth 10000 in
set_option maxHeartbeats 4000000 in
theorem c_281 (σ0 : SG) (hσ0 : WT σ0) (a : Int32) (b : Int32) (hl_a : 0 ≤ a.toInt) (hu_a : a.toInt ≤ 3) (hl_b : 0 ≤ b.toInt) (hu_b : b.toInt ≤ 12) : En 0 0 none mr_281 (P_281 σ0 a b) 0 [(0, .int a), (1, .int b)] [] σ0 := by
  have hF0 : Fr [] σ0 σ0 := Fr_rfl
  refine En_Ps 5 (pc' := 7) (lv' := [(0, .int a), (1, .int b)]) (st' := [.int (((((Int8.ofInt 12).toInt32)) * a)), .int ((Int32.ofInt 2)), .int (((Int8.ofInt 26).toInt32))]) rfl ?_
  refine En_top (mulI (by decide : ((Int8.ofInt 12).toInt32).toInt = 12) rfl (Z := 12 * a.toInt) (by first | exact q_ba2a5608ac | omega) (by first | exact q_54b361fe3d hl_a | omega) (by first | exact q_fafd50b3af hu_a | omega)) (fun z1 h2 => ?_)
  refine En_Ps 2 (pc' := 9) (lv' := [(0, .int a), (1, .int b)]) (st' := [.int ((z1 + b)), .int ((Int32.ofInt 2)), .int (((Int8.ofInt 26).toInt32))]) rfl ?_
  refine En_top (addI rfl rfl (by first | exact q_e8137a3c40 hl_b h2 hl_a | omega) (by first | exact q_8178de0393 hu_b h2 hu_a | omega)) (fun z3 h4 => ?_)
  refine En_Ps 1 (pc' := 10) (lv' := [(0, .int a), (1, .int b)]) (st' := [.int ((((Int32.ofInt 2)) * z3)), .int (((Int8.ofInt 26).toInt32))]) rfl ?_
  refine En_top (mulI (by decide : (Int32.ofInt 2).toInt = 2) rfl (Z := 2 * z3.toInt) (by first | exact q_9c4c04fc55 | omega) (by first | exact q_fb4e4bdf5e h4 hl_b h2 hl_a | omega) (by first | exact q_90d72da34d h4 hu_b h2 hu_a | omega)) (fun z5 h6 => ?_)
  refine En_Ps 1 (pc' := 11) (lv' := [(0, .int a), (1, .int b)]) (st' := [.int (((((Int8.ofInt 26).toInt32)) + z5))]) rfl ?_
  refine En_top (addI (by decide : ((Int8.ofInt 26).toInt32).toInt = 26) rfl (by first | exact q_82831e15f0 h6 h4 hl_b h2 hl_a | omega) (by first | exact q_b8cee736bd h6 h4 hu_b h2 hu_a | omega)) (fun z7 h8 => ?_)
  exact En_ret (v := some (.int z7)) rfl rfl rfl ⟨hσ0, hF0, z7, rfl, ⟨by first | exact q_5b16acef8e h8 h6 h4 hl_b h2 hl_a | omega, by first | exact q_1581d3cc17 h8 h6 h4 hu_b h2 hu_a | omega, by first | exact q_4de21aa159 h2 h4 h6 h8 | omega, by first | exact q_c372496058 h2 h4 h6 h8 | omega⟩⟩
/-- DoorSchoolModel.layLessons(I)V -/
abbrev P_271 (σ0 : SG) (a : Int32) : PO := fun v σ => WT σ ∧ Fr [(35, 21), (45, 0), (46, 0)] σ0 σ ∧ ∃ m1 : Int32, (σ 159)[21]? = some (.int m1) ∧ v = none ∧ -m1.toInt ≤ 0 ∧ m1.toInt - 13 ≤ 0
set_option maxRecDepth 10000 in
set_option maxHeartbeats 4000000 in
theorem c_271 (σ0 : SG) (hσ0 : WT σ0) (a : Int32) (hl_a : 0 ≤ a.toInt) (hu_a : a.toInt ≤ 3) : En 1 22 none mr_271 (P_271 σ0 a) 0 [(0, .ref 159), (1, .int a)] [] σ0 := by
  have hF0 : Fr [(35, 21), (45, 0), (46, 0)] σ0 σ0 := Fr_rfl
  refine En_Ps 2 (pc' := 2) (lv' := [(0, .ref 159), (1, .int a)]) (st' := [.int ((Int32.ofInt 0)), .ref 159]) rfl ?_
  refine En_put (j := 21) rfl rfl rfl tgz_159 (by decide +kernel) rfl (vI (l := 0) (u := 17) (by decide +kernel) (by decide : (Int32.ofInt 0).toInt = 0) (by decide) (by decide)) hσ0 hF0 (by decide +kernel) (fun σ1 h2 h3 h4 h5 => ?_)
  refine En_Ps 2 (pc' := 7) (lv' := [(2, .int ((Int32.ofInt 0))), (0, .ref 159), (1, .int a)]) (st' := []) rfl ?_
  have key7 : ∀ (n7 : Nat) (σ8 : SG) (y6 : Int32) (y7 : Int32), WT σ8 → Fr [(35, 21), (45, 0), (46, 0)] σ0 σ8 → (σ8 159)[21]? = some (.int y7) → 0 ≤ y6.toInt → y6.toInt ≤ 13 → 0 ≤ y7.toInt → y7.toInt ≤ 13 → y6.toInt - y7.toInt ≤ 0 → -y6.toInt + y7.toInt ≤ 0 → -y6.toInt + 13 < (n7 : Int) → En 1 22 none mr_271 (P_271 σ0 a) 7 [(0, .ref 159), (1, .int a), (2, .int y6)] [] σ8 := by
    intro n7
    induction n7 with
    | zero =>
      intro σ8 y6 y7 h9 h10 h11 h12 h13 h14 h15 h16 h17 h18
      first | exact (q_5583ec5aac h18 h13).elim | (exfalso; omega)
    | succ n7 ih7 =>
      intro σ8 y6 y7 h9 h10 h11 h12 h13 h14 h15 h16 h17 h18
      refine En_Ps 4 (pc' := 11) (lv' := [(0, .ref 159), (1, .int a), (2, .int y6)]) (st' := [.int ((Int32.ofInt 2)), .int a, .ref 159, .int y6]) rfl ?_
      have := (by decide : ((Int32.ofInt 2)).toInt = 2)
      obtain ⟨z19, h20, h21, h22⟩ := WT_peekJ (J := (4 * a.toInt + ((Int32.ofInt 2)).toInt + 10)) (l := 0) (u := 12) h9 tgz_160 (by decide +kernel) (by omega) (lnI (by decide +kernel : LN _ = 226) (by omega)) (FTrow 36 12 4 4 (by decide +kernel) (by omega) (by omega) (by omega))
      have := (by decide : ((Int32.ofInt 2)).toInt = 2)
      refine En_callV rfl rfl rfl rfl rfl rfl rfl rfl tgz_159 (by decide +kernel) rfl (c_290c σ8 h9 a ((Int32.ofInt 2)) (geI rfl (by first | exact q_58e6e51dcc hl_a | omega)) (leI rfl (by first | exact q_da5e9b976f hu_a | omega)) (geI (by decide : (Int32.ofInt 2).toInt = 2) (by decide)) (leI (by decide : (Int32.ofInt 2).toInt = 2) (by decide)) z19 h20) (by decide) (by decide) (fun v24 σ25 h23 => ?_)
      obtain ⟨h26, h27, z29, rfl, h28⟩ := h23
      have h30 := Fr_trans h10 h27 (by decide +kernel)
      refine En_icGe _ rfl rfl rfl (fun h31 => ?_) (fun h31 => ?_)
      · exact En_ret (v := none) rfl rfl rfl ⟨h26, h30, y7, ((h27 _ _ (inW tgz_159 (by decide +kernel))).trans h11), rfl, ⟨by first | exact q_c803b490ef h14 | omega, by first | exact q_5fe2809411 h15 | omega⟩⟩
      · refine En_Ps 2 (pc' := 19) (lv' := [(0, .ref 159), (1, .int a), (2, .int y6)]) (st' := [.ref 159, .ref 159]) rfl ?_
        refine En_getU (j := 1) (u := 160) (g' := 36) (q := 0) rfl rfl rfl tgz_159 (by decide +kernel) h26 (by decide +kernel) (by decide +kernel) (fun h32 => ?_)
        refine En_Ps 2 (pc' := 24) (lv' := [(0, .ref 159), (1, .int a), (2, .int y6)]) (st' := [.int y6, .int a, .ref 160, .ref 159]) rfl ?_
        refine En_callS rfl rfl rfl rfl rfl rfl rfl rfl rfl (c_281 σ25 h26 a y6 (geI rfl (by first | exact q_58e6e51dcc hl_a | omega)) (leI rfl (by first | exact q_da5e9b976f hu_a | omega)) (geI rfl (by first | exact q_58e6e51dcc h12 | omega)) (leI rfl (by first | exact q_d923c6da86 h31 h28.2.1 | omega))) (by decide) (by decide) (fun v35 σ36 h34 => ?_)
        obtain ⟨h37, h38, z40, rfl, h39⟩ := h34
        have h41 := Fr_trans h30 h38 (by decide +kernel)
        refine En_iald (l := 0) (u := 15) rfl rfl tgz_160 (by decide +kernel) h37 (by first | exact q_2c9de765f8 h39.1 | omega) (lnI (by decide +kernel : LN _ = 226) (by first | exact q_0616d82733 h39.2.1 | omega)) (FTrow 36 26 2 48 (by decide +kernel) (by first | exact q_cfcbae6494 h39.1 | omega) (by first | exact q_c04962bf42 h39.2.2.1 hu_a h31 h28.2.1 | omega) (by first | exact q_bfc7928b1f h39.2.2.1 h39.2.2.2 | omega)) (fun z43 h42 h44 h45 => ?_)
        refine En_Ps 1 (pc' := 29) (lv' := [(0, .ref 159), (1, .int a), (2, .int y6)]) (st' := [.ref 159, .int z43, .ref 159]) rfl ?_
        refine En_getK (j := 1) ((h38 _ _ (inW tgz_159 (by decide +kernel))).trans h32) rfl rfl rfl tgz_159 (by decide +kernel) ?_
        refine En_Ps 2 (pc' := 34) (lv' := [(0, .ref 159), (1, .int a), (2, .int y6)]) (st' := [.int y6, .int a, .ref 160, .int z43, .ref 159]) rfl ?_
        refine En_callS rfl rfl rfl rfl rfl rfl rfl rfl rfl (c_281 σ36 h37 a y6 (geI rfl (by first | exact q_58e6e51dcc hl_a | omega)) (leI rfl (by first | exact q_da5e9b976f hu_a | omega)) (geI rfl (by first | exact q_58e6e51dcc h12 | omega)) (leI rfl (by first | exact q_d923c6da86 h31 h28.2.1 | omega))) (by decide) (by decide) (fun v47 σ48 h46 => ?_)
        obtain ⟨h49, h50, z52, rfl, h51⟩ := h46
        have h53 := Fr_trans h41 h50 (by decide +kernel)
        refine En_Ps 2 (pc' := 39) (lv' := [(0, .ref 159), (1, .int a), (2, .int y6)]) (st' := [.int ((z52 + ((Int32.ofInt 1)))), .ref 160, .int z43, .ref 159]) rfl ?_
        refine En_top (addI rfl (by decide : (Int32.ofInt 1).toInt = 1) (by first | exact q_c40141e2b1 h51.1 | omega) (by first | exact q_919014a1f8 h51.2.1 | omega)) (fun z54 h55 => ?_)
        refine En_iald (l := 0) (u := 1) rfl rfl tgz_160 (by decide +kernel) h49 (by first | exact q_f9ae7b6bc1 h55 h51.1 | omega) (lnI (by decide +kernel : LN _ = 226) (by first | exact q_4c6d633468 h55 h51.2.1 | omega)) (FTrow 36 27 2 48 (by decide +kernel) (by first | exact q_af8e3f94d3 h55 h51.1 | omega) (by first | exact q_6cc87f4aa1 h55 h51.2.2.1 hu_a h31 h28.2.1 | omega) (by first | exact q_493b8125c1 h51.2.2.1 h55 h51.2.2.2 | omega)) (fun z57 h56 h58 h59 => ?_)
        refine En_callV rfl rfl rfl rfl rfl rfl rfl rfl tgz_159 (by decide +kernel) rfl (c_188 σ48 h49 z43 z57 (geI rfl (by first | exact q_58e6e51dcc h44 | omega)) (leI rfl (by first | exact q_5a4d8a7e08 h45 | omega)) (geI rfl (by first | exact q_58e6e51dcc h58 | omega)) (leI rfl (by first | exact q_9d0c30f9c5 h59 | omega)) y7 ((h50 _ _ (inW tgz_159 (by decide +kernel))).trans ((h38 _ _ (inW tgz_159 (by decide +kernel))).trans ((h27 _ _ (inW tgz_159 (by decide +kernel))).trans h11))) (by first | exact q_d46f366cdb h15 | omega)) (by decide) (by decide) (fun v61 σ62 h60 => ?_)
        obtain ⟨h63, h64, z66, h67, rfl, h65⟩ := h60
        have h68 := Fr_trans h53 h64 (by decide +kernel)
        refine En_Ps 1 (pc' := 46) (lv' := [(2, .int ((y6 + Int32.ofInt 1))), (0, .ref 159), (1, .int a)]) (st' := []) rfl ?_
        refine En_lv1 (addI rfl (by decide : (Int32.ofInt 1).toInt = 1) (by first | exact q_465ab79ac1 h12 | omega) (by first | exact q_d22f73d43b h13 | omega)) (fun z69 h70 => ?_)
        refine En_Ps 1 (pc' := 7) (lv' := [(2, .int z69), (0, .ref 159), (1, .int a)]) (st' := []) rfl ?_
        refine En_lv (lv := [(0, .ref 159), (1, .int a), (2, .int z69)]) ⟨rfl, rfl, rfl, trivial⟩ ?_
        exact ih7 σ62 z69 z66 h63 h68 h67 (by first | exact q_35104ce9d3 h70 h12 | omega) (by first | exact q_54f15c7756 h70 h31 h28.2.1 | omega) (by first | exact q_996aa4c518 h65.1 | omega) (by first | exact q_d1ae77b671 h65.2.2.2.1 h17 h31 h28.2.1 | omega) (by first | exact q_1bf6efff14 h65.2.2.1 h70 h16 | omega) (by first | exact q_1101def2bb h65.2.2.2.1 h70 h17 | omega) (by first | exact q_20fedeb4b2 h70 h18 | omega)
  have := (by decide : (Int32.ofInt 0).toInt = 0)
  have := (by decide : (Int32.ofInt 0).toInt = 0)
  refine En_lv (lv := [(0, .ref 159), (1, .int a), (2, .int ((Int32.ofInt 0)))]) ⟨rfl, rfl, rfl, trivial⟩ ?_
  exact key7 (Int.toNat (13) + 1) σ1 ((Int32.ofInt 0)) ((Int32.ofInt 0)) h2 h3 h4 (by decide) (by decide) (by decide) (by decide) (by omega) (by omega) (by first | exact toN_lt _ | omega)
/-- DoorSchoolModel.isAsTold(I)Z -/
abbrev P_252 (σ0 : SG) (a : Int32) : PO := fun v σ => WT σ ∧ Fr [] σ0 σ ∧ ∃ ret : Int32, v = some (.int ret) ∧ -ret.toInt ≤ 0 ∧ ret.toInt - 1 ≤ 0
set_option maxRecDepth 10000 in
set_option maxHeartbeats 4000000 in
theorem c_252 (σ0 : SG) (hσ0 : WT σ0) (a : Int32) : En 1 21 none mr_252 (P_252 σ0 a) 0 [(0, .ref 159), (1, .int a)] [] σ0 := by
  have hF0 : Fr [] σ0 σ0 := Fr_rfl
  refine En_Ps 2 (pc' := 2) (lv' := [(2, .int ((Int32.ofInt 0))), (0, .ref 159), (1, .int a)]) (st' := []) rfl ?_
  have key2 : ∀ (n2 : Nat) (σ2 : SG) (y1 : Int32), WT σ2 → Fr [] σ0 σ2 → 0 ≤ y1.toInt → y1.toInt ≤ 50 → -y1.toInt + 50 < (n2 : Int) → En 1 21 none mr_252 (P_252 σ0 a) 2 [(0, .ref 159), (1, .int a), (2, .int y1)] [] σ2 := by
    intro n2
    induction n2 with
    | zero =>
      intro σ2 y1 h3 h4 h5 h6 h7
      first | exact (q_0f6934dca7 h7 h6).elim | (exfalso; omega)
    | succ n2 ih2 =>
      intro σ2 y1 h3 h4 h5 h6 h7
      refine En_Ps 2 (pc' := 4) (lv' := [(0, .ref 159), (1, .int a), (2, .int y1)]) (st' := [.ref 159, .int y1]) rfl ?_
      refine En_getI (j := 21) (l := 0) (u := 17) rfl rfl rfl tgz_159 (by decide +kernel) h3 (by decide +kernel) (fun z9 h8 h10 h11 => ?_)
      refine En_icGe _ rfl rfl rfl (fun h12 => ?_) (fun h12 => ?_)
      · refine En_Ps 1 (pc' := 38) (lv' := [(0, .ref 159), (1, .int a), (2, .int y1)]) (st' := [.int ((Int32.ofInt 1))]) rfl ?_
        refine En_top (by decide : (Int32.ofInt 1).toInt = 1) (fun z13 h14 => ?_)
        exact En_ret (v := some (.int z13)) rfl rfl (retZ rfl rfl (by first | exact q_2b07c97645 h14 | omega) (by first | exact q_d9e7cbb253 h14 | omega)) ⟨h3, h4, z13, rfl, ⟨by first | exact q_ad3eee31ca h14 | omega, by first | exact q_81cf297dc4 h14 | omega⟩⟩
      · refine En_Ps 2 (pc' := 12) (lv' := [(0, .ref 159), (1, .int a), (2, .int y1)]) (st' := [.ref 159, .int a]) rfl ?_
        refine En_getU (j := 19) (u := 169) (g' := 45) (q := 0) rfl rfl rfl tgz_159 (by decide +kernel) h3 (by decide +kernel) (by decide +kernel) (fun h15 => ?_)
        refine En_Ps 1 (pc' := 16) (lv' := [(0, .ref 159), (1, .int a), (2, .int y1)]) (st' := [.int y1, .ref 169, .int a]) rfl ?_
        refine En_iald (l := 0) (u := 15) rfl rfl tgz_169 (by decide +kernel) h3 (by first | exact q_58e6e51dcc h5 | omega) (lnI (by decide +kernel : LN _ = 17) (by first | exact q_3c0e2e8016 h12 h11 | omega)) (FTsgl (by decide +kernel)) (fun z18 h17 h19 h20 => ?_)
        refine En_callS rfl rfl rfl rfl rfl rfl rfl rfl rfl (c_202b σ2 h3 a z18) (by decide) (by decide) (fun v22 σ23 h21 => ?_)
        obtain ⟨h24, h25, z27, rfl, h26⟩ := h21
        have h28 := Fr_trans h4 h25 (by decide +kernel)
        refine En_Ps 1 (pc' := 21) (lv' := [(0, .ref 159), (1, .int a), (2, .int y1)]) (st' := [.ref 159, .int z27]) rfl ?_
        refine En_getU (j := 20) (u := 170) (g' := 46) (q := 0) rfl rfl rfl tgz_159 (by decide +kernel) h24 (by decide +kernel) (by decide +kernel) (fun h29 => ?_)
        refine En_Ps 1 (pc' := 25) (lv' := [(0, .ref 159), (1, .int a), (2, .int y1)]) (st' := [.int y1, .ref 170, .int z27]) rfl ?_
        refine En_iald (l := 0) (u := 1) rfl rfl tgz_170 (by decide +kernel) h24 (by first | exact q_58e6e51dcc h5 | omega) (lnI (by decide +kernel : LN _ = 17) (by first | exact q_3c0e2e8016 h12 h11 | omega)) (FTsgl (by decide +kernel)) (fun z32 h31 h33 h34 => ?_)
        refine En_icEq _ rfl rfl rfl (fun h35 => ?_) (fun h35 => ?_)
        · refine En_Ps 1 (pc' := 34) (lv' := [(2, .int ((y1 + Int32.ofInt 1))), (0, .ref 159), (1, .int a)]) (st' := []) rfl ?_
          refine En_lv1 (addI rfl (by decide : (Int32.ofInt 1).toInt = 1) (by first | exact q_465ab79ac1 h5 | omega) (by first | exact q_c4feee4d2e h6 | omega)) (fun z36 h37 => ?_)
          refine En_Ps 1 (pc' := 2) (lv' := [(2, .int z36), (0, .ref 159), (1, .int a)]) (st' := []) rfl ?_
          refine En_lv (lv := [(0, .ref 159), (1, .int a), (2, .int z36)]) ⟨rfl, rfl, rfl, trivial⟩ ?_
          exact ih2 σ23 z36 h24 h28 (by first | exact q_35104ce9d3 h37 h5 | omega) (by first | exact q_e18cd89a20 h37 h12 h11 | omega) (by first | exact q_fc5bfd9d02 h37 h7 | omega)
        · refine En_Ps 1 (pc' := 30) (lv' := [(0, .ref 159), (1, .int a), (2, .int y1)]) (st' := [.int ((Int32.ofInt 0))]) rfl ?_
          refine En_top (by decide : (Int32.ofInt 0).toInt = 0) (fun z38 h39 => ?_)
          exact En_ret (v := some (.int z38)) rfl rfl (retZ rfl rfl (by first | exact q_55451d0a83 h39 | omega) (by first | exact q_87849c3859 h39 | omega)) ⟨h24, h28, z38, rfl, ⟨by first | exact q_097a37c2ae h39 | omega, by first | exact q_e269517bee h39 | omega⟩⟩
  have := (by decide : (Int32.ofInt 0).toInt = 0)
  refine En_lv (lv := [(0, .ref 159), (1, .int a), (2, .int ((Int32.ofInt 0)))]) ⟨rfl, rfl, rfl, trivial⟩ ?_
  exact key2 (Int.toNat (50) + 1) σ0 ((Int32.ofInt 0)) hσ0 hF0 (by decide) (by decide) (by first | exact toN_lt _ | omega)
/-- DoorSchoolModel.firstRule()I -/
abbrev P_229 (σ0 : SG) : PO := fun v σ => WT σ ∧ Fr [] σ0 σ ∧ ∃ ret : Int32, v = some (.int ret) ∧ -ret.toInt - 1 ≤ 0 ∧ ret.toInt - 80 ≤ 0
set_option maxRecDepth 10000 in
set_option maxHeartbeats 4000000 in
theorem c_229 (σ0 : SG) (hσ0 : WT σ0) : En 2 43 none mr_229 (P_229 σ0) 0 [(0, .ref 159)] [] σ0 := by
  have hF0 : Fr [] σ0 σ0 := Fr_rfl
  refine En_Ps 2 (pc' := 2) (lv' := [(1, .int ((Int32.ofInt 0))), (0, .ref 159)]) (st' := []) rfl ?_
  have key2 : ∀ (n2 : Nat) (σ2 : SG) (y1 : Int32), WT σ2 → Fr [] σ0 σ2 → 0 ≤ y1.toInt → y1.toInt ≤ 81 → -y1.toInt + 81 < (n2 : Int) → En 2 43 none mr_229 (P_229 σ0) 2 [(0, .ref 159), (1, .int y1)] [] σ2 := by
    intro n2
    induction n2 with
    | zero =>
      intro σ2 y1 h3 h4 h5 h6 h7
      first | exact (q_ffef14d449 h7 h6).elim | (exfalso; omega)
    | succ n2 ih2 =>
      intro σ2 y1 h3 h4 h5 h6 h7
      refine En_Ps 2 (pc' := 4) (lv' := [(0, .ref 159), (1, .int y1)]) (st' := [.ref 159, .int y1]) rfl ?_
      refine En_getI (j := 18) (l := 0) (u := 81) rfl rfl rfl tgz_159 (by decide +kernel) h3 (by decide +kernel) (fun z9 h8 h10 h11 => ?_)
      refine En_icGe _ rfl rfl rfl (fun h12 => ?_) (fun h12 => ?_)
      · refine En_Ps 1 (pc' := 32) (lv' := [(0, .ref 159), (1, .int y1)]) (st' := [.int ((Int32.ofInt (-1)))]) rfl ?_
        refine En_top (by decide : (Int32.ofInt (-1)).toInt = -1) (fun z13 h14 => ?_)
        exact En_ret (v := some (.int z13)) rfl rfl rfl ⟨h3, h4, z13, rfl, ⟨by first | exact q_6ba54b61e9 h14 | omega, by first | exact q_ed1bd306dd h14 | omega⟩⟩
      · refine En_Ps 2 (pc' := 12) (lv' := [(0, .ref 159), (1, .int y1)]) (st' := [.ref 159, .ref 159]) rfl ?_
        refine En_getU (j := 17) (u := 168) (g' := 44) (q := 0) rfl rfl rfl tgz_159 (by decide +kernel) h3 (by decide +kernel) (by decide +kernel) (fun h15 => ?_)
        refine En_Ps 1 (pc' := 16) (lv' := [(0, .ref 159), (1, .int y1)]) (st' := [.int y1, .ref 168, .ref 159]) rfl ?_
        refine En_iald (l := (-2147483648)) (u := 2147483647) rfl rfl tgz_168 (by decide +kernel) h3 (by first | exact q_58e6e51dcc h5 | omega) (lnI (by decide +kernel : LN _ = 81) (by first | exact q_a0e855914a h12 h11 | omega)) (FTsgl (by decide +kernel)) (fun z18 h17 h19 h20 => ?_)
        refine En_callV rfl rfl rfl rfl rfl rfl rfl rfl tgz_159 (by decide +kernel) rfl (c_252 σ2 h3 z18) (by decide) (by decide) (fun v22 σ23 h21 => ?_)
        obtain ⟨h24, h25, z27, rfl, h26⟩ := h21
        have h28 := Fr_trans h4 h25 (by decide +kernel)
        refine En_iEq _ rfl rfl (fun h29 => ?_) (fun h29 => ?_)
        · refine En_Ps 1 (pc' := 28) (lv' := [(1, .int ((y1 + Int32.ofInt 1))), (0, .ref 159)]) (st' := []) rfl ?_
          refine En_lv1 (addI rfl (by decide : (Int32.ofInt 1).toInt = 1) (by first | exact q_465ab79ac1 h5 | omega) (by first | exact q_d778ff18c8 h6 | omega)) (fun z30 h31 => ?_)
          refine En_Ps 1 (pc' := 2) (lv' := [(1, .int z30), (0, .ref 159)]) (st' := []) rfl ?_
          refine En_lv (lv := [(0, .ref 159), (1, .int z30)]) ⟨rfl, rfl, trivial⟩ ?_
          exact ih2 σ23 z30 h24 h28 (by first | exact q_35104ce9d3 h31 h5 | omega) (by first | exact q_798b104d48 h31 h12 h11 | omega) (by first | exact q_4ff790945b h31 h7 | omega)
        · refine En_Ps 1 (pc' := 24) (lv' := [(0, .ref 159), (1, .int y1)]) (st' := [.int y1]) rfl ?_
          exact En_ret (v := some (.int y1)) rfl rfl rfl ⟨h24, h28, y1, rfl, ⟨by first | exact q_565e7b05df h5 | omega, by first | exact q_6b56ae27a7 h12 h11 | omega⟩⟩
  have := (by decide : (Int32.ofInt 0).toInt = 0)
  refine En_lv (lv := [(0, .ref 159), (1, .int ((Int32.ofInt 0)))]) ⟨rfl, rfl, trivial⟩ ?_
  exact key2 (Int.toNat (81) + 1) σ0 ((Int32.ofInt 0)) hσ0 hF0 (by decide) (by decide) (by first | exact toN_lt _ | omega)
/-- DoorSchoolModel.latestOf(I)I -/
abbrev P_270 (σ0 : SG) (a : Int32) (m : Int32) : PO := fun v σ => WT σ ∧ Fr [] σ0 σ ∧ ∃ ret : Int32, v = some (.int ret) ∧ -ret.toInt - 1 ≤ 0 ∧ ret.toInt - 16 ≤ 0 ∧ ret.toInt - m.toInt + 1 ≤ 0
set_option maxRecDepth 10000 in
set_option maxHeartbeats 4000000 in
theorem c_270 (σ0 : SG) (hσ0 : WT σ0) (a : Int32) (m : Int32) (h_m : (σ0 159)[21]? = some (.int m)) : En 0 0 none mr_270 (P_270 σ0 a m) 0 [(0, .ref 159), (1, .int a)] [] σ0 := by
  obtain ⟨hl_m, hu_m⟩ := WT_int hσ0 (g := 35) (by decide +kernel) (by decide +kernel) (l := 0) (u := 17) (by decide +kernel) h_m
  have hF0 : Fr [] σ0 σ0 := Fr_rfl
  refine En_Ps 1 (pc' := 1) (lv' := [(0, .ref 159), (1, .int a)]) (st' := [.ref 159]) rfl ?_
  refine En_getK (j := 21) h_m rfl rfl rfl tgz_159 (by decide +kernel) ?_
  refine En_Ps 2 (pc' := 6) (lv' := [(0, .ref 159), (1, .int a)]) (st' := [.int ((m - ((Int32.ofInt 1))))]) rfl ?_
  refine En_top (subI rfl (by decide : (Int32.ofInt 1).toInt = 1) (by first | exact q_93f9478bef hl_m | omega) (by first | exact q_05c194ef54 hu_m | omega)) (fun z1 h2 => ?_)
  refine En_Ps 1 (pc' := 7) (lv' := [(2, .int z1), (0, .ref 159), (1, .int a)]) (st' := []) rfl ?_
  have key7 : ∀ (n7 : Nat) (σ4 : SG) (y3 : Int32), WT σ4 → Fr [] σ0 σ4 → (σ4 159)[21]? = some (.int m) → (-1) ≤ y3.toInt → y3.toInt ≤ 16 → y3.toInt - m.toInt + 1 ≤ 0 → y3.toInt + 1 < (n7 : Int) → En 0 0 none mr_270 (P_270 σ0 a m) 7 [(0, .ref 159), (1, .int a), (2, .int y3)] [] σ4 := by
    intro n7
    induction n7 with
    | zero =>
      intro σ4 y3 h5 h6 h7 h8 h9 h10 h11
      first | exact (q_d30ca37d8c h8 h11).elim | (exfalso; omega)
    | succ n7 ih7 =>
      intro σ4 y3 h5 h6 h7 h8 h9 h10 h11
      refine En_Ps 1 (pc' := 8) (lv' := [(0, .ref 159), (1, .int a), (2, .int y3)]) (st' := [.int y3]) rfl ?_
      refine En_iLt _ rfl rfl (fun h12 => ?_) (fun h12 => ?_)
      · refine En_Ps 1 (pc' := 30) (lv' := [(0, .ref 159), (1, .int a), (2, .int y3)]) (st' := [.int ((Int32.ofInt (-1)))]) rfl ?_
        refine En_top (by decide : (Int32.ofInt (-1)).toInt = -1) (fun z13 h14 => ?_)
        exact En_ret (v := some (.int z13)) rfl rfl rfl ⟨h5, h6, z13, rfl, ⟨by first | exact q_6ba54b61e9 h14 | omega, by first | exact q_0fdbae2b22 h14 | omega, by first | exact q_3ce96d76a4 hl_m h14 | omega⟩⟩
      · refine En_Ps 1 (pc' := 12) (lv' := [(0, .ref 159), (1, .int a), (2, .int y3)]) (st' := [.ref 159]) rfl ?_
        refine En_getU (j := 19) (u := 169) (g' := 45) (q := 0) rfl rfl rfl tgz_159 (by decide +kernel) h5 (by decide +kernel) (by decide +kernel) (fun h15 => ?_)
        refine En_Ps 1 (pc' := 16) (lv' := [(0, .ref 159), (1, .int a), (2, .int y3)]) (st' := [.int y3, .ref 169]) rfl ?_
        refine En_iald (l := 0) (u := 15) rfl rfl tgz_169 (by decide +kernel) h5 (by first | exact q_58e6e51dcc h12 | omega) (lnI (by decide +kernel : LN _ = 17) (by first | exact q_3c94711a6f h9 | omega)) (FTsgl (by decide +kernel)) (fun z18 h17 h19 h20 => ?_)
        refine En_Ps 1 (pc' := 18) (lv' := [(0, .ref 159), (1, .int a), (2, .int y3)]) (st' := [.int a, .int z18]) rfl ?_
        refine En_icNe _ rfl rfl rfl (fun h21 => ?_) (fun h21 => ?_)
        · refine En_Ps 1 (pc' := 26) (lv' := [(2, .int ((y3 + Int32.ofInt (-1)))), (0, .ref 159), (1, .int a)]) (st' := []) rfl ?_
          refine En_lv1 (addI rfl (by decide : (Int32.ofInt (-1)).toInt = -1) (by first | exact q_069e58d060 h12 | omega) (by first | exact q_18d94ff330 h9 | omega)) (fun z22 h23 => ?_)
          refine En_Ps 1 (pc' := 7) (lv' := [(2, .int z22), (0, .ref 159), (1, .int a)]) (st' := []) rfl ?_
          refine En_lv (lv := [(0, .ref 159), (1, .int a), (2, .int z22)]) ⟨rfl, rfl, rfl, trivial⟩ ?_
          exact ih7 σ4 z22 h5 h6 h7 (by first | exact q_1dc8c15c2b h23 h12 | omega) (by first | exact q_6ba80c26a7 h23 h9 | omega) (by first | exact q_ad24c9502e h10 h23 | omega) (by first | exact q_03fcbe2dc3 h23 h11 | omega)
        · refine En_Ps 1 (pc' := 22) (lv' := [(0, .ref 159), (1, .int a), (2, .int y3)]) (st' := [.int y3]) rfl ?_
          exact En_ret (v := some (.int y3)) rfl rfl rfl ⟨h5, h6, y3, rfl, ⟨by first | exact q_565e7b05df h12 | omega, by first | exact q_774c92aa9b h9 | omega, by first | exact q_ef157b5a0e h10 | omega⟩⟩
  refine En_lv (lv := [(0, .ref 159), (1, .int a), (2, .int z1)]) ⟨rfl, rfl, rfl, trivial⟩ ?_
  exact key7 (Int.toNat (z1.toInt + 1) + 1) σ0 z1 hσ0 hF0 h_m (by first | exact q_e2c277696c h2 hl_m | omega) (by first | exact q_6a76617d8e h2 hu_m | omega) (by first | exact q_8e6f8e4fd9 h2 | omega) (by first | exact toN_lt _ | omega)
/-- DoorSchoolModel.nearestTo(I)I -/
abbrev P_285 (σ0 : SG) (a : Int32) (m : Int32) : PO := fun v σ => WT σ ∧ Fr [] σ0 σ ∧ ∃ ret : Int32, v = some (.int ret) ∧ -ret.toInt - 1 ≤ 0 ∧ ret.toInt - 16 ≤ 0 ∧ ret.toInt - m.toInt + 1 ≤ 0
set_option maxRecDepth 10000 in
set_option maxHeartbeats 4000000 in
theorem c_285 (σ0 : SG) (hσ0 : WT σ0) (a : Int32) (m : Int32) (h_m : (σ0 159)[21]? = some (.int m)) : En 1 22 none mr_285 (P_285 σ0 a m) 0 [(0, .ref 159), (1, .int a)] [] σ0 := by
  obtain ⟨hl_m, hu_m⟩ := WT_int hσ0 (g := 35) (by decide +kernel) (by decide +kernel) (l := 0) (u := 17) (by decide +kernel) h_m
  have hF0 : Fr [] σ0 σ0 := Fr_rfl
  refine En_Ps 4 (pc' := 4) (lv' := [(3, .int ((Int32.ofInt 0))), (2, .int ((Int32.ofInt (-1)))), (0, .ref 159), (1, .int a)]) (st' := []) rfl ?_
  have key4 : ∀ (n4 : Nat) (σ3 : SG) (y1 : Int32) (y2 : Int32), WT σ3 → Fr [] σ0 σ3 → (σ3 159)[21]? = some (.int m) → (-1) ≤ y1.toInt → y1.toInt ≤ 16 → 0 ≤ y2.toInt → y2.toInt ≤ 17 → y2.toInt - m.toInt ≤ 0 → y1.toInt - y2.toInt + 1 ≤ 0 → m.toInt - y2.toInt < (n4 : Int) → En 1 22 none mr_285 (P_285 σ0 a m) 4 [(0, .ref 159), (1, .int a), (2, .int y1), (3, .int y2)] [] σ3 := by
    intro n4
    induction n4 with
    | zero =>
      intro σ3 y1 y2 h4 h5 h6 h7 h8 h9 h10 h11 h12 h13
      first | exact (q_14257feae7 h11 h13).elim | (exfalso; omega)
    | succ n4 ih4 =>
      intro σ3 y1 y2 h4 h5 h6 h7 h8 h9 h10 h11 h12 h13
      refine En_Ps 2 (pc' := 6) (lv' := [(0, .ref 159), (1, .int a), (2, .int y1), (3, .int y2)]) (st' := [.ref 159, .int y2]) rfl ?_
      refine En_getK (j := 21) h6 rfl rfl rfl tgz_159 (by decide +kernel) ?_
      refine En_icGe _ rfl rfl rfl (fun h14 => ?_) (fun h14 => ?_)
      · refine En_Ps 1 (pc' := 51) (lv' := [(0, .ref 159), (1, .int a), (2, .int y1), (3, .int y2)]) (st' := [.int y1]) rfl ?_
        exact En_ret (v := some (.int y1)) rfl rfl rfl ⟨h4, h5, y1, rfl, ⟨by first | exact q_909eef6c0e h7 | omega, by first | exact q_774c92aa9b h8 | omega, by first | exact q_985cb060c6 h11 h12 | omega⟩⟩
      · refine En_Ps 2 (pc' := 14) (lv' := [(0, .ref 159), (1, .int a), (2, .int y1), (3, .int y2)]) (st' := [.int ((Int32.ofInt (-1))), .int y1]) rfl ?_
        refine En_icEq _ rfl (by decide : (Int32.ofInt (-1)).toInt = -1) rfl (fun h15 => ?_) (fun h15 => ?_)
        · refine En_Ps 3 (pc' := 47) (lv' := [(3, .int ((y2 + Int32.ofInt 1))), (2, .int y2), (0, .ref 159), (1, .int a)]) (st' := []) rfl ?_
          refine En_lv1 (addI rfl (by decide : (Int32.ofInt 1).toInt = 1) (by first | exact q_465ab79ac1 h9 | omega) (by first | exact q_8fddffa1e7 h10 | omega)) (fun z16 h17 => ?_)
          refine En_Ps 1 (pc' := 4) (lv' := [(3, .int z16), (2, .int y2), (0, .ref 159), (1, .int a)]) (st' := []) rfl ?_
          refine En_lv (lv := [(0, .ref 159), (1, .int a), (2, .int y2), (3, .int z16)]) ⟨rfl, rfl, rfl, rfl, trivial⟩ ?_
          exact ih4 σ3 y2 z16 h4 h5 h6 (by first | exact q_5b439548fc h9 | omega) (by first | exact q_9db15d274e h14 hu_m | omega) (by first | exact q_35104ce9d3 h17 h9 | omega) (by first | exact q_7686b24621 h17 h14 hu_m | omega) (by first | exact q_ae2dbf4292 h14 h17 | omega) (by first | exact q_2fedec469a h17 | omega) (by first | exact q_8d03a5a7cb h17 h13 | omega)
        · refine En_Ps 1 (pc' := 18) (lv' := [(0, .ref 159), (1, .int a), (2, .int y1), (3, .int y2)]) (st' := [.ref 159]) rfl ?_
          refine En_getU (j := 19) (u := 169) (g' := 45) (q := 0) rfl rfl rfl tgz_159 (by decide +kernel) h4 (by decide +kernel) (by decide +kernel) (fun h18 => ?_)
          refine En_Ps 1 (pc' := 22) (lv' := [(0, .ref 159), (1, .int a), (2, .int y1), (3, .int y2)]) (st' := [.int y2, .ref 169]) rfl ?_
          refine En_iald (l := 0) (u := 15) rfl rfl tgz_169 (by decide +kernel) h4 (by first | exact q_58e6e51dcc h9 | omega) (lnI (by decide +kernel : LN _ = 17) (by first | exact q_3c0e2e8016 h14 hu_m | omega)) (FTsgl (by decide +kernel)) (fun z21 h20 h22 h23 => ?_)
          refine En_Ps 2 (pc' := 25) (lv' := [(0, .ref 159), (1, .int a), (2, .int y1), (3, .int y2)]) (st' := [.int ((z21 ^^^ a))]) rfl ?_
          refine En_hav (fun z24 => ?_)
          refine En_callS rfl rfl rfl rfl rfl rfl rfl rfl rfl (c_203b σ3 h4 z24) (by decide) (by decide) (fun v26 σ27 h25 => ?_)
          obtain ⟨h28, h29, z31, rfl, h30⟩ := h25
          have h32 := Fr_trans h5 h29 (by decide +kernel)
          refine En_Ps 1 (pc' := 29) (lv' := [(0, .ref 159), (1, .int a), (2, .int y1), (3, .int y2)]) (st' := [.ref 159, .int z31]) rfl ?_
          refine En_getK (j := 19) ((h29 _ _ (inW tgz_159 (by decide +kernel))).trans h18) rfl rfl rfl tgz_159 (by decide +kernel) ?_
          refine En_Ps 1 (pc' := 33) (lv' := [(0, .ref 159), (1, .int a), (2, .int y1), (3, .int y2)]) (st' := [.int y1, .ref 169, .int z31]) rfl ?_
          refine En_iald (l := 0) (u := 15) rfl rfl tgz_169 (by decide +kernel) h28 (by first | exact q_eab05c2344 h15 h7 | omega) (lnI (by decide +kernel : LN _ = 17) (by first | exact q_3c94711a6f h8 | omega)) (FTsgl (by decide +kernel)) (fun z34 h33 h35 h36 => ?_)
          refine En_Ps 2 (pc' := 36) (lv' := [(0, .ref 159), (1, .int a), (2, .int y1), (3, .int y2)]) (st' := [.int ((z34 ^^^ a)), .int z31]) rfl ?_
          refine En_hav (fun z37 => ?_)
          refine En_callS rfl rfl rfl rfl rfl rfl rfl rfl rfl (c_203b σ27 h28 z37) (by decide) (by decide) (fun v39 σ40 h38 => ?_)
          obtain ⟨h41, h42, z44, rfl, h43⟩ := h38
          have h45 := Fr_trans h32 h42 (by decide +kernel)
          refine En_icGe _ rfl rfl rfl (fun h46 => ?_) (fun h46 => ?_)
          · refine En_Ps 1 (pc' := 47) (lv' := [(3, .int ((y2 + Int32.ofInt 1))), (0, .ref 159), (1, .int a), (2, .int y1)]) (st' := []) rfl ?_
            refine En_lv1 (addI rfl (by decide : (Int32.ofInt 1).toInt = 1) (by first | exact q_465ab79ac1 h9 | omega) (by first | exact q_8fddffa1e7 h10 | omega)) (fun z47 h48 => ?_)
            refine En_Ps 1 (pc' := 4) (lv' := [(3, .int z47), (0, .ref 159), (1, .int a), (2, .int y1)]) (st' := []) rfl ?_
            refine En_lv (lv := [(0, .ref 159), (1, .int a), (2, .int y1), (3, .int z47)]) ⟨rfl, rfl, rfl, rfl, trivial⟩ ?_
            exact ih4 σ40 y1 z47 h41 h45 ((h42 _ _ (inW tgz_159 (by decide +kernel))).trans ((h29 _ _ (inW tgz_159 (by decide +kernel))).trans h6)) (by first | exact q_8d1c67ec40 h15 h7 | omega) (by first | exact q_60616f21a7 h8 | omega) (by first | exact q_35104ce9d3 h48 h9 | omega) (by first | exact q_7686b24621 h48 h14 hu_m | omega) (by first | exact q_ae2dbf4292 h14 h48 | omega) (by first | exact q_6591527e3e h12 h48 | omega) (by first | exact q_8d03a5a7cb h48 h13 | omega)
          · refine En_Ps 3 (pc' := 47) (lv' := [(3, .int ((y2 + Int32.ofInt 1))), (2, .int y2), (0, .ref 159), (1, .int a)]) (st' := []) rfl ?_
            refine En_lv1 (addI rfl (by decide : (Int32.ofInt 1).toInt = 1) (by first | exact q_465ab79ac1 h9 | omega) (by first | exact q_8fddffa1e7 h10 | omega)) (fun z49 h50 => ?_)
            refine En_Ps 1 (pc' := 4) (lv' := [(3, .int z49), (2, .int y2), (0, .ref 159), (1, .int a)]) (st' := []) rfl ?_
            refine En_lv (lv := [(0, .ref 159), (1, .int a), (2, .int y2), (3, .int z49)]) ⟨rfl, rfl, rfl, rfl, trivial⟩ ?_
            exact ih4 σ40 y2 z49 h41 h45 ((h42 _ _ (inW tgz_159 (by decide +kernel))).trans ((h29 _ _ (inW tgz_159 (by decide +kernel))).trans h6)) (by first | exact q_5b439548fc h9 | omega) (by first | exact q_9db15d274e h14 hu_m | omega) (by first | exact q_35104ce9d3 h50 h9 | omega) (by first | exact q_7686b24621 h50 h14 hu_m | omega) (by first | exact q_ae2dbf4292 h14 h50 | omega) (by first | exact q_2fedec469a h50 | omega) (by first | exact q_8d03a5a7cb h50 h13 | omega)
  have := (by decide : (Int32.ofInt (-1)).toInt = -1)
  have := (by decide : (Int32.ofInt 0).toInt = 0)
  refine En_lv (lv := [(0, .ref 159), (1, .int a), (2, .int ((Int32.ofInt (-1)))), (3, .int ((Int32.ofInt 0)))]) ⟨rfl, rfl, rfl, rfl, trivial⟩ ?_
  exact key4 (Int.toNat (m.toInt) + 1) σ0 ((Int32.ofInt (-1))) ((Int32.ofInt 0)) hσ0 hF0 h_m (by decide) (by decide) (by decide) (by decide) (by omega) (by omega) (by first | exact toN_lt _ | omega)
/-- DoorSchoolModel.byLesson(II)I -/
abbrev P_204 (σ0 : SG) (a : Int32) (b : Int32) (m : Int32) : PO := fun v σ => WT σ ∧ Fr [] σ0 σ ∧ ∃ ret : Int32, v = some (.int ret) ∧ -ret.toInt - 1 ≤ 0 ∧ ret.toInt - 16 ≤ 0 ∧ ret.toInt - m.toInt + 1 ≤ 0
set_option maxRecDepth 10000 in
set_option maxHeartbeats 4000000 in
theorem c_204 (σ0 : SG) (hσ0 : WT σ0) (a : Int32) (b : Int32) (m : Int32) (h_m : (σ0 159)[21]? = some (.int m)) : En 2 45 none mr_204 (P_204 σ0 a b m) 0 [(0, .ref 159), (1, .int a), (2, .int b)] [] σ0 := by
  obtain ⟨hl_m, hu_m⟩ := WT_int hσ0 (g := 35) (by decide +kernel) (by decide +kernel) (l := 0) (u := 17) (by decide +kernel) h_m
  have hF0 : Fr [] σ0 σ0 := Fr_rfl
  refine En_Ps 1 (pc' := 1) (lv' := [(0, .ref 159), (1, .int a), (2, .int b)]) (st' := [.int a]) rfl ?_
  refine En_iNe _ rfl rfl (fun h1 => ?_) (fun h1 => ?_)
  · refine En_Ps 2 (pc' := 14) (lv' := [(0, .ref 159), (1, .int a), (2, .int b)]) (st' := [.int ((Int32.ofInt 2)), .int a]) rfl ?_
    refine En_icNe _ rfl (by decide : (Int32.ofInt 2).toInt = 2) rfl (fun h2 => ?_) (fun h2 => ?_)
    · refine En_Ps 1 (pc' := 26) (lv' := [(0, .ref 159), (1, .int a), (2, .int b)]) (st' := [.int ((Int32.ofInt (-1)))]) rfl ?_
      refine En_top (by decide : (Int32.ofInt (-1)).toInt = -1) (fun z3 h4 => ?_)
      exact En_ret (v := some (.int z3)) rfl rfl rfl ⟨hσ0, hF0, z3, rfl, ⟨by first | exact q_6ba54b61e9 h4 | omega, by first | exact q_0fdbae2b22 h4 | omega, by first | exact q_3ce96d76a4 hl_m h4 | omega⟩⟩
    · refine En_Ps 2 (pc' := 19) (lv' := [(0, .ref 159), (1, .int a), (2, .int b)]) (st' := [.int b, .ref 159]) rfl ?_
      refine En_callV rfl rfl rfl rfl rfl rfl rfl rfl tgz_159 (by decide +kernel) rfl (c_285 σ0 hσ0 b m h_m) (by decide) (by decide) (fun v6 σ7 h5 => ?_)
      obtain ⟨h8, h9, z11, rfl, h10⟩ := h5
      have h12 := Fr_trans hF0 h9 (by decide +kernel)
      refine En_Ps 1 (pc' := 26) (lv' := [(0, .ref 159), (1, .int a), (2, .int b)]) (st' := [.int z11]) rfl ?_
      exact En_ret (v := some (.int z11)) rfl rfl rfl ⟨h8, h12, z11, rfl, ⟨by first | exact q_98e1bded96 h10.1 | omega, by first | exact q_0e990c4066 h10.2.1 | omega, by first | exact q_ef157b5a0e h10.2.2 | omega⟩⟩
  · refine En_Ps 2 (pc' := 6) (lv' := [(0, .ref 159), (1, .int a), (2, .int b)]) (st' := [.int b, .ref 159]) rfl ?_
    refine En_callV rfl rfl rfl rfl rfl rfl rfl rfl tgz_159 (by decide +kernel) rfl (c_270 σ0 hσ0 b m h_m) (by decide) (by decide) (fun v14 σ15 h13 => ?_)
    obtain ⟨h16, h17, z19, rfl, h18⟩ := h13
    have h20 := Fr_trans hF0 h17 (by decide +kernel)
    refine En_Ps 1 (pc' := 26) (lv' := [(0, .ref 159), (1, .int a), (2, .int b)]) (st' := [.int z19]) rfl ?_
    exact En_ret (v := some (.int z19)) rfl rfl rfl ⟨h16, h20, z19, rfl, ⟨by first | exact q_98e1bded96 h18.1 | omega, by first | exact q_0e990c4066 h18.2.1 | omega, by first | exact q_ef157b5a0e h18.2.2 | omega⟩⟩

