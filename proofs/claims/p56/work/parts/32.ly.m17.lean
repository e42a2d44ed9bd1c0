/-- DoorSchoolModel.sets(III)I -/
abbrev P_314 (σ0 : SG) (a : Int32) (b : Int32) (c : Int32) : PO := fun v σ => WT σ ∧ Fr [(35, 18), (35, 21), (42, 0), (43, 0), (44, 0), (45, 0), (46, 0)] σ0 σ ∧ ∃ ret : Int32, v = some (.int ret) ∧ -ret.toInt - 2 ≤ 0 ∧ ret.toInt - 65536 ≤ 0
set_option maxRecDepth 10000 in
set_option maxHeartbeats 4000000 in
theorem c_314 (σ0 : SG) (hσ0 : WT σ0) (a : Int32) (b : Int32) (c : Int32) : En 5 115 none mr_314 (P_314 σ0 a b c) 0 [(0, .ref 159), (1, .int a), (2, .int b), (3, .int c)] [] σ0 := by
  have hF0 : Fr [(35, 18), (35, 21), (42, 0), (43, 0), (44, 0), (45, 0), (46, 0)] σ0 σ0 := Fr_rfl
  refine En_Ps 1 (pc' := 1) (lv' := [(0, .ref 159), (1, .int a), (2, .int b), (3, .int c)]) (st' := [.int a]) rfl ?_
  refine En_callS rfl rfl rfl rfl rfl rfl rfl rfl rfl (c_268 σ0 hσ0 a) (by decide) (by decide) (fun v2 σ3 h1 => ?_)
  obtain ⟨h4, h5, z7, rfl, h6⟩ := h1
  have h8 := Fr_trans hF0 h5 (by decide +kernel)
  refine En_iEq _ rfl rfl (fun h9 => ?_) (fun h9 => ?_)
  · refine En_Ps 1 (pc' := 29) (lv' := [(0, .ref 159), (1, .int a), (2, .int b), (3, .int c)]) (st' := [.int (((Int8.ofInt (-2)).toInt32))]) rfl ?_
    refine En_top (by decide : ((Int8.ofInt (-2)).toInt32).toInt = -2) (fun z10 h11 => ?_)
    exact En_ret (v := some (.int z10)) rfl rfl rfl ⟨h4, h8, z10, rfl, ⟨by first | exact q_f35c5d346c h11 | omega, by first | exact q_2eeef1728f h11 | omega⟩⟩
  · refine En_Ps 2 (pc' := 9) (lv' := [(0, .ref 159), (1, .int a), (2, .int b), (3, .int c)]) (st' := [.int b, .ref 159]) rfl ?_
    refine En_callV rfl rfl rfl rfl rfl rfl rfl rfl tgz_159 (by decide +kernel) rfl (c_195 σ3 h4 b) (by decide) (by decide) (fun v13 σ14 h12 => ?_)
    obtain ⟨h15, h16, z18, rfl, h17⟩ := h12
    have h19 := Fr_trans h8 h16 (by decide +kernel)
    refine En_iEq _ rfl rfl (fun h20 => ?_) (fun h20 => ?_)
    · refine En_Ps 1 (pc' := 29) (lv' := [(0, .ref 159), (1, .int a), (2, .int b), (3, .int c)]) (st' := [.int (((Int8.ofInt (-2)).toInt32))]) rfl ?_
      refine En_top (by decide : ((Int8.ofInt (-2)).toInt32).toInt = -2) (fun z21 h22 => ?_)
      exact En_ret (v := some (.int z21)) rfl rfl rfl ⟨h15, h19, z21, rfl, ⟨by first | exact q_f35c5d346c h22 | omega, by first | exact q_2eeef1728f h22 | omega⟩⟩
    · refine En_Ps 4 (pc' := 21) (lv' := [(0, .ref 159), (1, .int a), (2, .int b), (3, .int c)]) (st' := [.long ((16 : Int64)), .long ((Int64.ofNat 0)), .long c.toInt64]) rfl ?_
      have : c.toInt64.toInt = c.toInt := (i2lI rfl)
      have := (by decide : ((Int64.ofNat 0)).toInt = 0)
      have := (by decide : ((16 : Int64)).toInt = 16)
      refine En_callS rfl rfl rfl rfl rfl rfl rfl rfl rfl (c_249 σ14 h15 c.toInt64 ((Int64.ofNat 0)) ((16 : Int64))) (by decide) (by decide) (fun v24 σ25 h23 => ?_)
      obtain ⟨h26, h27, z29, rfl, h28⟩ := h23
      have h30 := Fr_trans h19 h27 (by decide +kernel)
      refine En_iNe _ rfl rfl (fun h31 => ?_) (fun h31 => ?_)
      · refine En_Ps 1 (pc' := 31) (lv' := [(0, .ref 159), (1, .int a), (2, .int b), (3, .int c)]) (st' := [.ref 159]) rfl ?_
        obtain ⟨z33, h32, h34, h35⟩ := WT_peekI h26 tgz_160 (by decide +kernel : FT 36 (0 : Int).toNat = (0, 0, 4)) (by decide +kernel)
        obtain ⟨z37, h36, h38, h39⟩ := WT_peekI h26 tgz_160 (by decide +kernel : FT 36 (7 : Int).toNat = (0, 0, 1600)) (by decide +kernel)
        refine En_callV rfl rfl rfl rfl rfl rfl rfl rfl tgz_159 (by decide +kernel) rfl (c_272 σ25 h26 z33 h32 z37 h36) (by decide) (by decide) (fun v41 σ42 h40 => ?_)
        obtain ⟨h43, h44, rfl, h45⟩ := h40
        have h46 := Fr_trans h30 h44 (by decide +kernel)
        refine En_Ps 4 (pc' := 40) (lv' := [(5, .int ((Int32.ofInt 0))), (4, .int ((Int32.ofInt 0))), (0, .ref 159), (1, .int a), (2, .int b), (3, .int c)]) (st' := []) rfl ?_
        have key40 : ∀ (n40 : Nat) (σ49 : SG) (y47 : Int32) (y48 : Int32), WT σ49 → Fr [(35, 18), (35, 21), (42, 0), (43, 0), (44, 0), (45, 0), (46, 0)] σ0 σ49 → (σ49 160)[(0 : Int).toNat]? = some (.int z33) → (σ49 160)[(7 : Int).toNat]? = some (.int z37) → 0 ≤ y47.toInt → y47.toInt ≤ 65536 → 0 ≤ y48.toInt → y48.toInt ≤ 65536 → y47.toInt - y48.toInt ≤ 0 → -y48.toInt + 65536 < (n40 : Int) → En 5 115 none mr_314 (P_314 σ0 a b c) 40 [(0, .ref 159), (1, .int a), (2, .int b), (3, .int c), (4, .int y47), (5, .int y48)] [] σ49 := by
          intro n40
          induction n40 with
          | zero =>
            intro σ49 y47 y48 h50 h51 h52 h53 h54 h55 h56 h57 h58 h59
            first | exact (q_ec59fb8a68 h59 h57).elim | (exfalso; omega)
          | succ n40 ih40 =>
            intro σ49 y47 y48 h50 h51 h52 h53 h54 h55 h56 h57 h58 h59
            refine En_Ps 2 (pc' := 43) (lv' := [(0, .ref 159), (1, .int a), (2, .int b), (3, .int c), (4, .int y47), (5, .int y48)]) (st' := [.ref 159, .int y48]) rfl ?_
            refine En_callV rfl rfl rfl rfl rfl rfl rfl rfl tgz_159 (by decide +kernel) rfl (c_192 σ49 h50) (by decide) (by decide) (fun v61 σ62 h60 => ?_)
            obtain ⟨h63, h64, z66, rfl, h65⟩ := h60
            have h67 := Fr_trans h51 h64 (by decide +kernel)
            refine En_icGt _ rfl rfl rfl (fun h68 => ?_) (fun h68 => ?_)
            · refine En_Ps 1 (pc' := 87) (lv' := [(0, .ref 159), (1, .int a), (2, .int b), (3, .int c), (4, .int y47), (5, .int y48)]) (st' := [.int y47]) rfl ?_
              exact En_ret (v := some (.int y47)) rfl rfl rfl ⟨h63, h67, y47, rfl, ⟨by first | exact q_ea7f0ffdb1 h54 | omega, by first | exact q_9e830a46d8 h55 | omega⟩⟩
            · refine En_Ps 2 (pc' := 53) (lv' := [(0, .ref 159), (1, .int a), (2, .int b), (3, .int c), (4, .int y47), (5, .int y48)]) (st' := [.int y48, .int y47]) rfl ?_
              refine En_callS rfl rfl rfl rfl rfl rfl rfl rfl rfl (c_203b σ62 h63 y48) (by decide) (by decide) (fun v70 σ71 h69 => ?_)
              obtain ⟨h72, h73, z75, rfl, h74⟩ := h69
              have h76 := Fr_trans h67 h73 (by decide +kernel)
              refine En_Ps 1 (pc' := 57) (lv' := [(0, .ref 159), (1, .int a), (2, .int b), (3, .int c), (4, .int y47), (5, .int y48)]) (st' := [.int c, .int z75, .int y47]) rfl ?_
              refine En_icNe _ rfl rfl rfl (fun h77 => ?_) (fun h77 => ?_)
              · refine En_Ps 2 (pc' := 77) (lv' := [(0, .ref 159), (1, .int a), (2, .int b), (3, .int c), (4, .int y47), (5, .int y48)]) (st' := [.int ((y47 + ((Int32.ofInt 0))))]) rfl ?_
                refine En_top (addI rfl (by decide : (Int32.ofInt 0).toInt = 0) (by first | exact q_2f569dfca1 h54 | omega) (by first | exact q_0c61af2615 h55 | omega)) (fun z78 h79 => ?_)
                refine En_Ps 2 (pc' := 82) (lv' := [(5, .int ((y48 + Int32.ofInt 1))), (4, .int z78), (0, .ref 159), (1, .int a), (2, .int b), (3, .int c)]) (st' := []) rfl ?_
                refine En_lv1 (addI rfl (by decide : (Int32.ofInt 1).toInt = 1) (by first | exact q_465ab79ac1 h56 | omega) (by first | exact q_1d2cffc2f0 h57 | omega)) (fun z80 h81 => ?_)
                refine En_Ps 1 (pc' := 40) (lv' := [(5, .int z80), (4, .int z78), (0, .ref 159), (1, .int a), (2, .int b), (3, .int c)]) (st' := []) rfl ?_
                refine En_lv (lv := [(0, .ref 159), (1, .int a), (2, .int b), (3, .int c), (4, .int z78), (5, .int z80)]) ⟨rfl, rfl, rfl, rfl, rfl, rfl, trivial⟩ ?_
                exact ih40 σ71 z78 z80 h72 h76 ((h73 _ _ (inWa tgz_160 (by decide +kernel))).trans ((h64 _ _ (inWa tgz_160 (by decide +kernel))).trans h52)) ((h73 _ _ (inWa tgz_160 (by decide +kernel))).trans ((h64 _ _ (inWa tgz_160 (by decide +kernel))).trans h53)) (by first | exact q_771c4e5138 h79 h54 | omega) (by first | exact q_a524223eca h79 h55 | omega) (by first | exact q_35104ce9d3 h81 h56 | omega) (by first | exact q_14f3993466 h81 h68 h65.2 | omega) (by first | exact q_969c4fd5e6 h79 h81 h58 | omega) (by first | exact q_baf82f6f45 h81 h59 | omega)
              · refine En_Ps 4 (pc' := 65) (lv' := [(0, .ref 159), (1, .int a), (2, .int b), (3, .int c), (4, .int y47), (5, .int y48)]) (st' := [.int b, .int y48, .int a, .ref 159, .int y47]) rfl ?_
                refine En_callV rfl rfl rfl rfl rfl rfl rfl rfl tgz_159 (by decide +kernel) rfl (c_275 σ71 h72 a y48 b) (by decide) (by decide) (fun v83 σ84 h82 => ?_)
                obtain ⟨h85, h86, z88, rfl, h87⟩ := h82
                have h89 := Fr_trans h76 h86 (by decide +kernel)
                refine En_iEq _ rfl rfl (fun h90 => ?_) (fun h90 => ?_)
                · refine En_Ps 2 (pc' := 77) (lv' := [(0, .ref 159), (1, .int a), (2, .int b), (3, .int c), (4, .int y47), (5, .int y48)]) (st' := [.int ((y47 + ((Int32.ofInt 0))))]) rfl ?_
                  refine En_top (addI rfl (by decide : (Int32.ofInt 0).toInt = 0) (by first | exact q_2f569dfca1 h54 | omega) (by first | exact q_0c61af2615 h55 | omega)) (fun z91 h92 => ?_)
                  refine En_Ps 2 (pc' := 82) (lv' := [(5, .int ((y48 + Int32.ofInt 1))), (4, .int z91), (0, .ref 159), (1, .int a), (2, .int b), (3, .int c)]) (st' := []) rfl ?_
                  refine En_lv1 (addI rfl (by decide : (Int32.ofInt 1).toInt = 1) (by first | exact q_465ab79ac1 h56 | omega) (by first | exact q_1d2cffc2f0 h57 | omega)) (fun z93 h94 => ?_)
                  refine En_Ps 1 (pc' := 40) (lv' := [(5, .int z93), (4, .int z91), (0, .ref 159), (1, .int a), (2, .int b), (3, .int c)]) (st' := []) rfl ?_
                  refine En_lv (lv := [(0, .ref 159), (1, .int a), (2, .int b), (3, .int c), (4, .int z91), (5, .int z93)]) ⟨rfl, rfl, rfl, rfl, rfl, rfl, trivial⟩ ?_
                  exact ih40 σ84 z91 z93 h85 h89 ((h86 _ _ (inWa tgz_160 (by decide +kernel))).trans ((h73 _ _ (inWa tgz_160 (by decide +kernel))).trans ((h64 _ _ (inWa tgz_160 (by decide +kernel))).trans h52))) ((h86 _ _ (inWa tgz_160 (by decide +kernel))).trans ((h73 _ _ (inWa tgz_160 (by decide +kernel))).trans ((h64 _ _ (inWa tgz_160 (by decide +kernel))).trans h53))) (by first | exact q_771c4e5138 h92 h54 | omega) (by first | exact q_a524223eca h92 h55 | omega) (by first | exact q_35104ce9d3 h94 h56 | omega) (by first | exact q_14f3993466 h94 h68 h65.2 | omega) (by first | exact q_969c4fd5e6 h92 h94 h58 | omega) (by first | exact q_baf82f6f45 h94 h59 | omega)
                · refine En_Ps 3 (pc' := 77) (lv' := [(0, .ref 159), (1, .int a), (2, .int b), (3, .int c), (4, .int y47), (5, .int y48)]) (st' := [.int ((y47 + ((Int32.ofInt 1))))]) rfl ?_
                  refine En_top (addI rfl (by decide : (Int32.ofInt 1).toInt = 1) (by first | exact q_465ab79ac1 h54 | omega) (by first | exact q_1d2cffc2f0 h55 | omega)) (fun z95 h96 => ?_)
                  refine En_Ps 2 (pc' := 82) (lv' := [(5, .int ((y48 + Int32.ofInt 1))), (4, .int z95), (0, .ref 159), (1, .int a), (2, .int b), (3, .int c)]) (st' := []) rfl ?_
                  refine En_lv1 (addI rfl (by decide : (Int32.ofInt 1).toInt = 1) (by first | exact q_465ab79ac1 h56 | omega) (by first | exact q_1d2cffc2f0 h57 | omega)) (fun z97 h98 => ?_)
                  refine En_Ps 1 (pc' := 40) (lv' := [(5, .int z97), (4, .int z95), (0, .ref 159), (1, .int a), (2, .int b), (3, .int c)]) (st' := []) rfl ?_
                  refine En_lv (lv := [(0, .ref 159), (1, .int a), (2, .int b), (3, .int c), (4, .int z95), (5, .int z97)]) ⟨rfl, rfl, rfl, rfl, rfl, rfl, trivial⟩ ?_
                  exact ih40 σ84 z95 z97 h85 h89 ((h86 _ _ (inWa tgz_160 (by decide +kernel))).trans ((h73 _ _ (inWa tgz_160 (by decide +kernel))).trans ((h64 _ _ (inWa tgz_160 (by decide +kernel))).trans h52))) ((h86 _ _ (inWa tgz_160 (by decide +kernel))).trans ((h73 _ _ (inWa tgz_160 (by decide +kernel))).trans ((h64 _ _ (inWa tgz_160 (by decide +kernel))).trans h53))) (by first | exact q_35104ce9d3 h96 h54 | omega) (by first | exact q_9fadb21f72 h96 h58 h68 h65.2 | omega) (by first | exact q_35104ce9d3 h98 h56 | omega) (by first | exact q_14f3993466 h98 h68 h65.2 | omega) (by first | exact q_1ff421e7a2 h96 h98 h58 | omega) (by first | exact q_baf82f6f45 h98 h59 | omega)
        have := (by decide : (Int32.ofInt 0).toInt = 0)
        have := (by decide : (Int32.ofInt 0).toInt = 0)
        refine En_lv (lv := [(0, .ref 159), (1, .int a), (2, .int b), (3, .int c), (4, .int ((Int32.ofInt 0))), (5, .int ((Int32.ofInt 0)))]) ⟨rfl, rfl, rfl, rfl, rfl, rfl, trivial⟩ ?_
        exact key40 (Int.toNat (65536) + 1) σ42 ((Int32.ofInt 0)) ((Int32.ofInt 0)) h43 h46 ((h44 _ _ (inWa tgz_160 (by decide +kernel))).trans h32) ((h44 _ _ (inWa tgz_160 (by decide +kernel))).trans h36) (by decide) (by decide) (by decide) (by decide) (by omega) (by first | exact toN_lt _ | omega)
      · refine En_Ps 1 (pc' := 29) (lv' := [(0, .ref 159), (1, .int a), (2, .int b), (3, .int c)]) (st' := [.int (((Int8.ofInt (-2)).toInt32))]) rfl ?_
        refine En_top (by decide : ((Int8.ofInt (-2)).toInt32).toInt = -2) (fun z99 h100 => ?_)
        exact En_ret (v := some (.int z99)) rfl rfl rfl ⟨h26, h30, z99, rfl, ⟨by first | exact q_f35c5d346c h100 | omega, by first | exact q_2eeef1728f h100 | omega⟩⟩
/-- DoorSchoolModel.stormed(JI)I -/
abbrev P_316 (σ0 : SG) (a : Int64) (b : Int32) : PO := fun v σ => WT σ ∧ Fr [(35, 18), (35, 21), (35, 31), (42, 0), (43, 0), (44, 0), (45, 0), (46, 0)] σ0 σ ∧ ∃ ret : Int32, v = some (.int ret) ∧ True
set_option maxRecDepth 10000 in
set_option maxHeartbeats 4000000 in
theorem c_316 (σ0 : SG) (hσ0 : WT σ0) (a : Int64) (b : Int32) (hl_b : 0 ≤ b.toInt) (hu_b : b.toInt ≤ 3) (hp0 : -a.toInt ≤ 0) (hp1 : a.toInt - 2147483647 ≤ 0) : En 5 112 none mr_316 (P_316 σ0 a b) 0 [(0, .ref 159), (1, .long a), (3, .int b)] [] σ0 := by
  have hF0 : Fr [(35, 18), (35, 21), (35, 31), (42, 0), (43, 0), (44, 0), (45, 0), (46, 0)] σ0 σ0 := Fr_rfl
  refine En_Ps 4 (pc' := 5) (lv' := [(4, .long a), (0, .ref 159), (1, .long a), (3, .int b)]) (st' := [.int ((Int32.ofInt 0)), .ref 159]) rfl ?_
  refine En_put (j := 31) rfl rfl rfl tgz_159 (by decide +kernel) rfl (vF (by decide +kernel)) hσ0 hF0 (by decide +kernel) (fun σ1 h2 h3 h4 h5 => ?_)
  refine En_Ps 2 (pc' := 10) (lv' := [(4, .long a), (0, .ref 159), (1, .long a), (3, .int b)]) (st' := [.int b, .ref 159]) rfl ?_
  refine En_callV rfl rfl rfl rfl rfl rfl rfl rfl tgz_159 (by decide +kernel) rfl (c_213 σ1 h2 b (geI rfl (by first | exact q_58e6e51dcc hl_b | omega)) (leI rfl (by first | exact q_da5e9b976f hu_b | omega))) (by decide) (by decide) (fun v7 σ8 h6 => ?_)
  obtain ⟨h9, h10, z12, h13, z14, rfl, h11⟩ := h6
  have h15 := Fr_trans h3 h10 (by decide +kernel)
  refine En_Ps 3 (pc' := 18) (lv' := [(7, .int ((Int32.ofInt 0))), (6, .int z14), (4, .long a), (0, .ref 159), (1, .long a), (3, .int b)]) (st' := []) rfl ?_
  have key18 : ∀ (n18 : Nat) (σ20 : SG) (y16 : Int64) (y17 : Int32) (y18 : Int32) (y19 : Int32), WT σ20 → Fr [(35, 18), (35, 21), (35, 31), (42, 0), (43, 0), (44, 0), (45, 0), (46, 0)] σ0 σ20 → (σ20 159)[21]? = some (.int z12) → (σ20 159)[31]? = some (.int y19) → 0 ≤ y16.toInt → y16.toInt ≤ 2147483647 → 0 ≤ y18.toInt → y18.toInt ≤ 16 → 0 ≤ y19.toInt → y19.toInt ≤ 16 → y19.toInt - y18.toInt ≤ 0 → -y18.toInt + 16 < (n18 : Int) → En 5 112 none mr_316 (P_316 σ0 a b) 18 [(0, .ref 159), (1, .long a), (3, .int b), (4, .long y16), (6, .int y17), (7, .int y18)] [] σ20 := by
    intro n18
    induction n18 with
    | zero =>
      intro σ20 y16 y17 y18 y19 h21 h22 h23 h24 h25 h26 h27 h28 h29 h30 h31 h32
      first | exact (q_511f6d33ac h32 h28).elim | (exfalso; omega)
    | succ n18 ih18 =>
      intro σ20 y16 y17 y18 y19 h21 h22 h23 h24 h25 h26 h27 h28 h29 h30 h31 h32
      refine En_Ps 2 (pc' := 21) (lv' := [(0, .ref 159), (1, .long a), (3, .int b), (4, .long y16), (6, .int y17), (7, .int y18)]) (st' := [.ref 159, .int y18]) rfl ?_
      obtain ⟨z34, h33, h35, h36⟩ := WT_peekI h21 tgz_160 (by decide +kernel : FT 36 (0 : Int).toNat = (0, 0, 4)) (by decide +kernel)
      obtain ⟨z38, h37, h39, h40⟩ := WT_peekI h21 tgz_160 (by decide +kernel : FT 36 (7 : Int).toNat = (0, 0, 1600)) (by decide +kernel)
      refine En_callV rfl rfl rfl rfl rfl rfl rfl rfl tgz_159 (by decide +kernel) rfl (c_269 σ20 h21 z34 h33 z38 h37) (by decide) (by decide) (fun v42 σ43 h41 => ?_)
      obtain ⟨h44, h45, z47, rfl, h46⟩ := h41
      have h48 := h46.2.2
      have h49 := Fr_trans h22 h45 (by decide +kernel)
      refine En_icGe _ rfl rfl rfl (fun h50 => ?_) (fun h50 => ?_)
      · refine En_Ps 1 (pc' := 94) (lv' := [(0, .ref 159), (1, .long a), (3, .int b), (4, .long y16), (6, .int y17), (7, .int y18)]) (st' := [.int y17]) rfl ?_
        exact En_ret (v := some (.int y17)) rfl rfl rfl ⟨h44, h49, y17, rfl, trivial⟩
      · refine En_Ps 3 (pc' := 33) (lv' := [(0, .ref 159), (1, .long a), (3, .int b), (4, .long y16), (6, .int y17), (7, .int y18)]) (st' := [.long ((((1103515245 : Int64)) * y16))]) rfl ?_
        refine En_topL (mulL (by decide : (1103515245 : Int64).toInt = 1103515245) rfl (Z := 1103515245 * y16.toInt) (by first | exact q_3838339b47 | omega) (by omega) (by omega)) (fun z51 h52 => ?_)
        refine En_Ps 2 (pc' := 37) (lv' := [(0, .ref 159), (1, .long a), (3, .int b), (4, .long y16), (6, .int y17), (7, .int y18)]) (st' := [.long ((z51 + ((12345 : Int64))))]) rfl ?_
        refine En_topL (addL rfl (by decide : (12345 : Int64).toInt = 12345) (by omega) (by omega)) (fun z53 h54 => ?_)
        refine En_Ps 1 (pc' := 40) (lv' := [(0, .ref 159), (1, .long a), (3, .int b), (4, .long y16), (6, .int y17), (7, .int y18)]) (st' := [.long ((2147483648 : Int64)), .long z53]) rfl ?_
        refine En_lrem (c := 2147483648) rfl rfl (by decide : (2147483648 : Int64).toInt = 2147483648) (by omega) (by decide) (fun z55 h56 => ?_)
        refine En_Ps 3 (pc' := 48) (lv' := [(4, .long z55), (0, .ref 159), (1, .long a), (3, .int b), (6, .int y17), (7, .int y18)]) (st' := [.long ((65536 : Int64)), .long z55]) rfl ?_
        refine En_ldiv (c := 65536) rfl rfl (by decide : (65536 : Int64).toInt = 65536) (by omega) (by decide) (fun z57 h58 => ?_)
        refine En_Ps 1 (pc' := 52) (lv' := [(4, .long z55), (0, .ref 159), (1, .long a), (3, .int b), (6, .int y17), (7, .int y18)]) (st' := [.long ((100 : Int64)), .long z57]) rfl ?_
        refine En_lrem (c := 100) rfl rfl (by decide : (100 : Int64).toInt = 100) (by omega) (by decide) (fun z59 h60 => ?_)
        refine En_Ps 3 (pc' := 56) (lv' := [(4, .long z55), (0, .ref 159), (1, .long a), (3, .int b), (6, .int y17), (7, .int y18)]) (st' := [.int ((Int32.ofInt 1)), .int b, .ref 159, .long z59]) rfl ?_
        have := (by decide : ((Int32.ofInt 1)).toInt = 1)
        obtain ⟨z61, h62, h63, h64⟩ := WT_peekJ (J := (4 * b.toInt + ((Int32.ofInt 1)).toInt + 10)) (l := 0) (u := 50) h44 tgz_160 (by decide +kernel) (by omega) (lnI (by decide +kernel : LN _ = 226) (by omega)) (FTrow 36 11 4 4 (by decide +kernel) (by omega) (by omega) (by omega))
        have := (by decide : ((Int32.ofInt 1)).toInt = 1)
        refine En_callV rfl rfl rfl rfl rfl rfl rfl rfl tgz_159 (by decide +kernel) rfl (c_290b σ43 h44 b ((Int32.ofInt 1)) (geI rfl (by first | exact q_58e6e51dcc hl_b | omega)) (leI rfl (by first | exact q_da5e9b976f hu_b | omega)) (geI (by decide : (Int32.ofInt 1).toInt = 1) (by decide)) (leI (by decide : (Int32.ofInt 1).toInt = 1) (by decide)) z61 h62) (by decide) (by decide) (fun v66 σ67 h65 => ?_)
        obtain ⟨h68, h69, z71, rfl, h70⟩ := h65
        have h72 := Fr_trans h49 h69 (by decide +kernel)
        refine En_Ps 2 (pc' := 61) (lv' := [(4, .long z55), (0, .ref 159), (1, .long a), (3, .int b), (6, .int y17), (7, .int y18)]) (st' := [.int (lg_cmp z59 z71.toInt64)]) rfl ?_
        refine En_lgLt _ rfl (i2lI rfl) rfl (fun h73 => ?_) (fun h73 => ?_)
        · refine En_Ps 4 (pc' := 73) (lv' := [(4, .long z55), (0, .ref 159), (1, .long a), (3, .int b), (6, .int y17), (7, .int y18)]) (st' := [.int ((((Int32.ofInt 1)) <<< (y18 &&& 31))), .int y17]) rfl ?_
          refine En_rng (shl1_p 15 rfl (by omega) (by omega) (by decide)) (fun z74 h75 h76 => ?_)
          refine En_Ps 1 (pc' := 74) (lv' := [(4, .long z55), (0, .ref 159), (1, .long a), (3, .int b), (6, .int y17), (7, .int y18)]) (st' := [.int ((y17 ^^^ z74))]) rfl ?_
          refine En_hav (fun z77 => ?_)
          refine En_Ps 3 (pc' := 78) (lv' := [(6, .int z77), (4, .long z55), (0, .ref 159), (1, .long a), (3, .int b), (7, .int y18)]) (st' := [.ref 159, .ref 159]) rfl ?_
          refine En_getK (j := 31) ((h69 _ _ (inW tgz_159 (by decide +kernel))).trans ((h45 _ _ (inW tgz_159 (by decide +kernel))).trans h24)) rfl rfl rfl tgz_159 (by decide +kernel) ?_
          refine En_Ps 2 (pc' := 83) (lv' := [(6, .int z77), (4, .long z55), (0, .ref 159), (1, .long a), (3, .int b), (7, .int y18)]) (st' := [.int ((y19 + ((Int32.ofInt 1)))), .ref 159]) rfl ?_
          refine En_top (addI rfl (by decide : (Int32.ofInt 1).toInt = 1) (by first | exact q_465ab79ac1 h29 | omega) (by first | exact q_f3f8e04381 h30 | omega)) (fun z78 h79 => ?_)
          refine En_put (j := 31) rfl rfl rfl tgz_159 (by decide +kernel) rfl (vF (by decide +kernel)) h68 h72 (by decide +kernel) (fun σ80 h81 h82 h83 h84 => ?_)
          refine En_Ps 1 (pc' := 89) (lv' := [(7, .int ((y18 + Int32.ofInt 1))), (6, .int z77), (4, .long z55), (0, .ref 159), (1, .long a), (3, .int b)]) (st' := []) rfl ?_
          refine En_lv1 (addI rfl (by decide : (Int32.ofInt 1).toInt = 1) (by first | exact q_465ab79ac1 h27 | omega) (by first | exact q_f3f8e04381 h28 | omega)) (fun z85 h86 => ?_)
          refine En_Ps 1 (pc' := 18) (lv' := [(7, .int z85), (6, .int z77), (4, .long z55), (0, .ref 159), (1, .long a), (3, .int b)]) (st' := []) rfl ?_
          refine En_lv (lv := [(0, .ref 159), (1, .long a), (3, .int b), (4, .long z55), (6, .int z77), (7, .int z85)]) ⟨rfl, rfl, rfl, rfl, rfl, rfl, trivial⟩ ?_
          exact ih18 σ80 z55 z77 z85 z78 h81 h82 ((h84 _ _ (Or.inr (by decide))).trans ((h69 _ _ (inW tgz_159 (by decide +kernel))).trans ((h45 _ _ (inW tgz_159 (by decide +kernel))).trans h23))) h83 (by first | exact q_00a0d70a93 h56 | omega) (by first | exact q_2e44a78811 h56 | omega) (by first | exact q_35104ce9d3 h86 h27 | omega) (by first | exact q_34dc714687 h86 h50 h46.2.1 | omega) (by first | exact q_35104ce9d3 h79 h29 | omega) (by first | exact q_a9e20df30f h79 h31 h50 h46.2.1 | omega) (by first | exact q_1ff421e7a2 h79 h86 h31 | omega) (by first | exact q_c5d740bdff h86 h32 | omega)
        · refine En_Ps 2 (pc' := 89) (lv' := [(7, .int ((y18 + Int32.ofInt 1))), (4, .long z55), (0, .ref 159), (1, .long a), (3, .int b), (6, .int y17)]) (st' := []) rfl ?_
          refine En_lv1 (addI rfl (by decide : (Int32.ofInt 1).toInt = 1) (by first | exact q_465ab79ac1 h27 | omega) (by first | exact q_f3f8e04381 h28 | omega)) (fun z87 h88 => ?_)
          refine En_Ps 1 (pc' := 18) (lv' := [(7, .int z87), (4, .long z55), (0, .ref 159), (1, .long a), (3, .int b), (6, .int y17)]) (st' := []) rfl ?_
          refine En_lv (lv := [(0, .ref 159), (1, .long a), (3, .int b), (4, .long z55), (6, .int y17), (7, .int z87)]) ⟨rfl, rfl, rfl, rfl, rfl, rfl, trivial⟩ ?_
          exact ih18 σ67 z55 y17 z87 y19 h68 h72 ((h69 _ _ (inW tgz_159 (by decide +kernel))).trans ((h45 _ _ (inW tgz_159 (by decide +kernel))).trans h23)) ((h69 _ _ (inW tgz_159 (by decide +kernel))).trans ((h45 _ _ (inW tgz_159 (by decide +kernel))).trans h24)) (by first | exact q_00a0d70a93 h56 | omega) (by first | exact q_2e44a78811 h56 | omega) (by first | exact q_35104ce9d3 h88 h27 | omega) (by first | exact q_34dc714687 h88 h50 h46.2.1 | omega) (by first | exact q_58e6e51dcc h29 | omega) (by first | exact q_60616f21a7 h30 | omega) (by first | exact q_3a5e225620 h31 h88 | omega) (by first | exact q_c5d740bdff h88 h32 | omega)
  have := (by decide : (Int32.ofInt 0).toInt = 0)
  have := (by decide : (Int32.ofInt 0).toInt = 0)
  refine En_lv (lv := [(0, .ref 159), (1, .long a), (3, .int b), (4, .long a), (6, .int z14), (7, .int ((Int32.ofInt 0)))]) ⟨rfl, rfl, rfl, rfl, rfl, rfl, trivial⟩ ?_
  exact key18 (Int.toNat (16) + 1) σ8 a z14 ((Int32.ofInt 0)) ((Int32.ofInt 0)) h9 h15 h13 ((h10 _ _ (inW tgz_159 (by decide +kernel))).trans h4) (by first | exact q_ef1e8e38bf hp0 | omega) (by first | exact q_24a852b6e7 hp1 | omega) (by decide) (by decide) (by decide) (by decide) (by omega) (by first | exact toN_lt _ | omega)
/-- DoorSchoolModel.storm(III)I -/
abbrev P_315 (σ0 : SG) (a : Int32) (b : Int32) (c : Int32) : PO := fun v σ => WT σ ∧ Fr [(35, 18), (35, 21), (35, 31), (42, 0), (43, 0), (44, 0), (45, 0), (46, 0)] σ0 σ ∧ ∃ ret : Int32, v = some (.int ret) ∧ True
set_option maxRecDepth 10000 in
set_option maxHeartbeats 4000000 in
theorem c_315 (σ0 : SG) (hσ0 : WT σ0) (a : Int32) (b : Int32) (c : Int32) : En 6 139 none mr_315 (P_315 σ0 a b c) 0 [(0, .ref 159), (1, .int a), (2, .int b), (3, .int c)] [] σ0 := by
  have hF0 : Fr [(35, 18), (35, 21), (35, 31), (42, 0), (43, 0), (44, 0), (45, 0), (46, 0)] σ0 σ0 := Fr_rfl
  refine En_Ps 1 (pc' := 1) (lv' := [(0, .ref 159), (1, .int a), (2, .int b), (3, .int c)]) (st' := [.int a]) rfl ?_
  refine En_callS rfl rfl rfl rfl rfl rfl rfl rfl rfl (c_265 σ0 hσ0 a) (by decide) (by decide) (fun v2 σ3 h1 => ?_)
  obtain ⟨h4, h5, z7, rfl, h6⟩ := h1
  have h8 := Fr_trans hF0 h5 (by decide +kernel)
  refine En_iEq _ rfl rfl (fun h9 => ?_) (fun h9 => ?_)
  · refine En_Ps 1 (pc' := 29) (lv' := [(0, .ref 159), (1, .int a), (2, .int b), (3, .int c)]) (st' := [.int (((Int8.ofInt (-2)).toInt32))]) rfl ?_
    refine En_top (by decide : ((Int8.ofInt (-2)).toInt32).toInt = -2) (fun z10 h11 => ?_)
    exact En_ret (v := some (.int z10)) rfl rfl rfl ⟨h4, h8, z10, rfl, trivial⟩
  · refine En_Ps 2 (pc' := 9) (lv' := [(0, .ref 159), (1, .int a), (2, .int b), (3, .int c)]) (st' := [.int b, .ref 159]) rfl ?_
    obtain ⟨z13, h12, h14, h15⟩ := WT_peekI h4 tgz_160 (by decide +kernel : FT 36 (2 : Int).toNat = (0, 0, 4)) (by decide +kernel)
    refine En_callV rfl rfl rfl rfl rfl rfl rfl rfl tgz_159 (by decide +kernel) rfl (c_254 σ3 h4 b z13 h12) (by decide) (by decide) (fun v17 σ18 h16 => ?_)
    obtain ⟨h19, h20, z22, rfl, h21⟩ := h16
    have h23 := Fr_trans h8 h20 (by decide +kernel)
    refine En_iEq _ rfl rfl (fun h24 => ?_) (fun h24 => ?_)
    · refine En_Ps 1 (pc' := 29) (lv' := [(0, .ref 159), (1, .int a), (2, .int b), (3, .int c)]) (st' := [.int (((Int8.ofInt (-2)).toInt32))]) rfl ?_
      refine En_top (by decide : ((Int8.ofInt (-2)).toInt32).toInt = -2) (fun z25 h26 => ?_)
      exact En_ret (v := some (.int z25)) rfl rfl rfl ⟨h19, h23, z25, rfl, trivial⟩
    · refine En_Ps 4 (pc' := 21) (lv' := [(0, .ref 159), (1, .int a), (2, .int b), (3, .int c)]) (st' := [.long ((2 : Int64)), .long ((Int64.ofNat 0)), .long c.toInt64]) rfl ?_
      have : c.toInt64.toInt = c.toInt := (i2lI rfl)
      have := (by decide : ((Int64.ofNat 0)).toInt = 0)
      have := (by decide : ((2 : Int64)).toInt = 2)
      refine En_callS rfl rfl rfl rfl rfl rfl rfl rfl rfl (c_249 σ18 h19 c.toInt64 ((Int64.ofNat 0)) ((2 : Int64))) (by decide) (by decide) (fun v28 σ29 h27 => ?_)
      obtain ⟨h30, h31, z33, rfl, h32⟩ := h27
      have h34 := Fr_trans h23 h31 (by decide +kernel)
      refine En_iNe _ rfl rfl (fun h35 => ?_) (fun h35 => ?_)
      · refine En_Ps 4 (pc' := 34) (lv' := [(0, .ref 159), (1, .int a), (2, .int b), (3, .int c)]) (st' := [.int b, .long a.toInt64, .ref 159]) rfl ?_
        have : a.toInt64.toInt = a.toInt := (i2lI rfl)
        refine En_callV rfl rfl rfl rfl rfl rfl rfl rfl tgz_159 (by decide +kernel) rfl (c_316 σ29 h30 a.toInt64 b (geI rfl (by omega)) (leI rfl (by omega)) (by omega) (by omega)) (by decide) (by decide) (fun v37 σ38 h36 => ?_)
        obtain ⟨h39, h40, z42, rfl, h41⟩ := h36
        have h43 := Fr_trans h34 h40 (by decide +kernel)
        refine En_Ps 2 (pc' := 40) (lv' := [(4, .int z42), (0, .ref 159), (1, .int a), (2, .int b), (3, .int c)]) (st' := [.int c]) rfl ?_
        refine En_iNe _ rfl rfl (fun h44 => ?_) (fun h44 => ?_)
        · refine En_Ps 2 (pc' := 50) (lv' := [(4, .int z42), (0, .ref 159), (1, .int a), (2, .int b), (3, .int c)]) (st' := [.int ((Int32.ofInt 1)), .int c]) rfl ?_
          refine En_icNe _ rfl (by decide : (Int32.ofInt 1).toInt = 1) rfl (fun h45 => ?_) (fun h45 => ?_)
          · refine En_Ps 1 (pc' := 63) (lv' := [(4, .int z42), (0, .ref 159), (1, .int a), (2, .int b), (3, .int c)]) (st' := [.ref 159]) rfl ?_
            refine En_getI (j := 31) (l := (-2147483648)) (u := 2147483647) rfl rfl rfl tgz_159 (by decide +kernel) h39 (by decide +kernel) (fun z47 h46 h48 h49 => ?_)
            exact En_ret (v := some (.int z47)) rfl rfl rfl ⟨h39, h43, z47, rfl, trivial⟩
          · refine En_Ps 2 (pc' := 56) (lv' := [(4, .int z42), (0, .ref 159), (1, .int a), (2, .int b), (3, .int c)]) (st' := [.int z42, .ref 159]) rfl ?_
            refine En_callV rfl rfl rfl rfl rfl rfl rfl rfl tgz_159 (by decide +kernel) rfl (c_283 σ38 h39 z42) (by decide) (by decide) (fun v51 σ52 h50 => ?_)
            obtain ⟨h53, h54, z56, rfl, h55⟩ := h50
            have h57 := Fr_trans h43 h54 (by decide +kernel)
            refine En_Ps 1 (pc' := 66) (lv' := [(4, .int z42), (0, .ref 159), (1, .int a), (2, .int b), (3, .int c)]) (st' := [.int z56]) rfl ?_
            exact En_ret (v := some (.int z56)) rfl rfl rfl ⟨h53, h57, z56, rfl, trivial⟩
        · refine En_Ps 2 (pc' := 66) (lv' := [(4, .int z42), (0, .ref 159), (1, .int a), (2, .int b), (3, .int c)]) (st' := [.int z42]) rfl ?_
          exact En_ret (v := some (.int z42)) rfl rfl rfl ⟨h39, h43, z42, rfl, trivial⟩
      · refine En_Ps 1 (pc' := 29) (lv' := [(0, .ref 159), (1, .int a), (2, .int b), (3, .int c)]) (st' := [.int (((Int8.ofInt (-2)).toInt32))]) rfl ?_
        refine En_top (by decide : ((Int8.ofInt (-2)).toInt32).toInt = -2) (fun z58 h59 => ?_)
        exact En_ret (v := some (.int z58)) rfl rfl rfl ⟨h30, h34, z58, rfl, trivial⟩
/-- DoorSchoolModel.sure(II)I -/
abbrev P_317 (σ0 : SG) (a : Int32) (b : Int32) : PO := fun v σ => WT σ ∧ Fr [(35, 18), (42, 0), (43, 0), (44, 0)] σ0 σ ∧ ∃ ret : Int32, v = some (.int ret) ∧ -ret.toInt - 6 ≤ 0 ∧ ret.toInt - 65535 ≤ 0
set_option maxRecDepth 10000 in
set_option maxHeartbeats 4000000 in
theorem c_317 (σ0 : SG) (hσ0 : WT σ0) (a : Int32) (b : Int32) : En 4 87 none mr_317 (P_317 σ0 a b) 0 [(0, .ref 159), (1, .int a), (2, .int b)] [] σ0 := by
  have hF0 : Fr [(35, 18), (42, 0), (43, 0), (44, 0)] σ0 σ0 := Fr_rfl
  refine En_Ps 6 (pc' := 6) (lv' := [(0, .ref 159), (1, .int a), (2, .int b)]) (st' := [.long ((Int64.ofNat 1)), .long ((Int64.ofNat 0)), .long b.toInt64, .int a, .ref 159]) rfl ?_
  have : b.toInt64.toInt = b.toInt := (i2lI rfl)
  have := (by decide : ((Int64.ofNat 0)).toInt = 0)
  have := (by decide : ((Int64.ofNat 1)).toInt = 1)
  refine En_callS rfl rfl rfl rfl rfl rfl rfl rfl rfl (c_249 σ0 hσ0 b.toInt64 ((Int64.ofNat 0)) ((Int64.ofNat 1))) (by decide) (by decide) (fun v2 σ3 h1 => ?_)
  obtain ⟨h4, h5, z7, rfl, h6⟩ := h1
  have h8 := Fr_trans hF0 h5 (by decide +kernel)
  refine En_callV rfl rfl rfl rfl rfl rfl rfl rfl tgz_159 (by decide +kernel) rfl (c_198 σ3 h4 a z7 (geI rfl (by first | exact q_ef1e8e38bf h6.1 | omega)) (leI rfl (by first | exact q_733c8bfbae h6.2.1 | omega))) (by decide) (by decide) (fun v10 σ11 h9 => ?_)
  obtain ⟨h12, h13, z15, rfl, h14⟩ := h9
  have h16 := Fr_trans h8 h13 (by decide +kernel)
  refine En_Ps 2 (pc' := 14) (lv' := [(3, .int z15), (0, .ref 159), (1, .int a), (2, .int b)]) (st' := [.int z15]) rfl ?_
  refine En_iGe _ rfl rfl (fun h17 => ?_) (fun h17 => ?_)
  · refine En_Ps 1 (pc' := 20) (lv' := [(3, .int z15), (0, .ref 159), (1, .int a), (2, .int b)]) (st' := [.ref 159]) rfl ?_
    obtain ⟨z19, h18, h20, h21⟩ := WT_peekI h12 tgz_160 (by decide +kernel : FT 36 (0 : Int).toNat = (0, 0, 4)) (by decide +kernel)
    obtain ⟨z23, h22, h24, h25⟩ := WT_peekI h12 tgz_160 (by decide +kernel : FT 36 (7 : Int).toNat = (0, 0, 1600)) (by decide +kernel)
    refine En_callV rfl rfl rfl rfl rfl rfl rfl rfl tgz_159 (by decide +kernel) rfl (c_272 σ11 h12 z19 h18 z23 h22) (by decide) (by decide) (fun v27 σ28 h26 => ?_)
    obtain ⟨h29, h30, rfl, h31⟩ := h26
    have h32 := Fr_trans h16 h30 (by decide +kernel)
    refine En_Ps 1 (pc' := 24) (lv' := [(3, .int z15), (0, .ref 159), (1, .int a), (2, .int b)]) (st' := [.ref 159]) rfl ?_
    refine En_callV rfl rfl rfl rfl rfl rfl rfl rfl tgz_159 (by decide +kernel) rfl (c_192 σ28 h29) (by decide) (by decide) (fun v34 σ35 h33 => ?_)
    obtain ⟨h36, h37, z39, rfl, h38⟩ := h33
    have h40 := Fr_trans h32 h37 (by decide +kernel)
    refine En_Ps 3 (pc' := 32) (lv' := [(5, .int ((Int32.ofInt 0))), (4, .int z39), (3, .int z15), (0, .ref 159), (1, .int a), (2, .int b)]) (st' := []) rfl ?_
    have key32 : ∀ (n32 : Nat) (σ43 : SG) (y41 : Int32) (y42 : Int32), WT σ43 → Fr [(35, 18), (42, 0), (43, 0), (44, 0)] σ0 σ43 → (σ43 160)[(0 : Int).toNat]? = some (.int z19) → (σ43 160)[(7 : Int).toNat]? = some (.int z23) → 0 ≤ y41.toInt → y41.toInt ≤ 65535 → 0 ≤ y42.toInt → y42.toInt ≤ 81 → -y42.toInt + 81 < (n32 : Int) → En 4 87 none mr_317 (P_317 σ0 a b) 32 [(0, .ref 159), (1, .int a), (2, .int b), (3, .int z15), (4, .int y41), (5, .int y42)] [] σ43 := by
      intro n32
      induction n32 with
      | zero =>
        intro σ43 y41 y42 h44 h45 h46 h47 h48 h49 h50 h51 h52
        first | exact (q_ffef14d449 h52 h51).elim | (exfalso; omega)
      | succ n32 ih32 =>
        intro σ43 y41 y42 h44 h45 h46 h47 h48 h49 h50 h51 h52
        refine En_Ps 2 (pc' := 35) (lv' := [(0, .ref 159), (1, .int a), (2, .int b), (3, .int z15), (4, .int y41), (5, .int y42)]) (st' := [.ref 159, .int y42]) rfl ?_
        refine En_getI (j := 18) (l := 0) (u := 81) rfl rfl rfl tgz_159 (by decide +kernel) h44 (by decide +kernel) (fun z54 h53 h55 h56 => ?_)
        refine En_icGe _ rfl rfl rfl (fun h57 => ?_) (fun h57 => ?_)
        · refine En_Ps 1 (pc' := 92) (lv' := [(0, .ref 159), (1, .int a), (2, .int b), (3, .int z15), (4, .int y41), (5, .int y42)]) (st' := [.int y41]) rfl ?_
          exact En_ret (v := some (.int y41)) rfl rfl rfl ⟨h44, h45, y41, rfl, ⟨by first | exact q_7430e21245 h48 | omega, by first | exact q_e7edf0f95a h49 | omega⟩⟩
        · refine En_Ps 3 (pc' := 44) (lv' := [(0, .ref 159), (1, .int a), (2, .int b), (3, .int z15), (4, .int y41), (5, .int y42)]) (st' := [.ref 159, .int a, .ref 159]) rfl ?_
          refine En_getU (j := 17) (u := 168) (g' := 44) (q := 0) rfl rfl rfl tgz_159 (by decide +kernel) h44 (by decide +kernel) (by decide +kernel) (fun h58 => ?_)
          refine En_Ps 1 (pc' := 49) (lv' := [(0, .ref 159), (1, .int a), (2, .int b), (3, .int z15), (4, .int y41), (5, .int y42)]) (st' := [.int y42, .ref 168, .int a, .ref 159]) rfl ?_
          refine En_iald (l := (-2147483648)) (u := 2147483647) rfl rfl tgz_168 (by decide +kernel) h44 (by first | exact q_58e6e51dcc h50 | omega) (lnI (by decide +kernel : LN _ = 81) (by first | exact q_a0e855914a h57 h56 | omega)) (FTsgl (by decide +kernel)) (fun z61 h60 h62 h63 => ?_)
          refine En_callV rfl rfl rfl rfl rfl rfl rfl rfl tgz_159 (by decide +kernel) rfl (c_218 σ43 h44 a z61 (geI rfl (by omega)) (leI rfl (by omega))) (by decide) (by decide) (fun v65 σ66 h64 => ?_)
          obtain ⟨h67, h68, z70, rfl, h69⟩ := h64
          have h71 := Fr_trans h45 h68 (by decide +kernel)
          refine En_iEq _ rfl rfl (fun h72 => ?_) (fun h72 => ?_)
          · refine En_Ps 1 (pc' := 87) (lv' := [(5, .int ((y42 + Int32.ofInt 1))), (0, .ref 159), (1, .int a), (2, .int b), (3, .int z15), (4, .int y41)]) (st' := []) rfl ?_
            refine En_lv1 (addI rfl (by decide : (Int32.ofInt 1).toInt = 1) (by first | exact q_465ab79ac1 h50 | omega) (by first | exact q_d778ff18c8 h51 | omega)) (fun z73 h74 => ?_)
            refine En_Ps 1 (pc' := 32) (lv' := [(5, .int z73), (0, .ref 159), (1, .int a), (2, .int b), (3, .int z15), (4, .int y41)]) (st' := []) rfl ?_
            refine En_lv (lv := [(0, .ref 159), (1, .int a), (2, .int b), (3, .int z15), (4, .int y41), (5, .int z73)]) ⟨rfl, rfl, rfl, rfl, rfl, rfl, trivial⟩ ?_
            exact ih32 σ66 y41 z73 h67 h71 ((h68 _ _ (inWa tgz_160 (by decide +kernel))).trans h46) ((h68 _ _ (inWa tgz_160 (by decide +kernel))).trans h47) (by first | exact q_58e6e51dcc h48 | omega) (by first | exact q_36eb0a70bf h49 | omega) (by first | exact q_35104ce9d3 h74 h50 | omega) (by first | exact q_798b104d48 h74 h57 h56 | omega) (by first | exact q_4ff790945b h74 h52 | omega)
          · refine En_Ps 2 (pc' := 59) (lv' := [(0, .ref 159), (1, .int a), (2, .int b), (3, .int z15), (4, .int y41), (5, .int y42)]) (st' := [.int b, .int y41]) rfl ?_
            refine En_iNe _ rfl rfl (fun h75 => ?_) (fun h75 => ?_)
            · refine En_Ps 1 (pc' := 73) (lv' := [(0, .ref 159), (1, .int a), (2, .int b), (3, .int z15), (4, .int y41), (5, .int y42)]) (st' := [.ref 159, .int y41]) rfl ?_
              refine En_getK (j := 17) ((h68 _ _ (inW tgz_159 (by decide +kernel))).trans h58) rfl rfl rfl tgz_159 (by decide +kernel) ?_
              refine En_Ps 1 (pc' := 78) (lv' := [(0, .ref 159), (1, .int a), (2, .int b), (3, .int z15), (4, .int y41), (5, .int y42)]) (st' := [.int y42, .ref 168, .int y41]) rfl ?_
              refine En_ialdK ((h68 _ _ (inWa tgz_168 (by decide +kernel))).trans h60) rfl rfl tgz_168 (by decide +kernel) h67 (by first | exact q_58e6e51dcc h50 | omega) (lnI (by decide +kernel : LN _ = 81) (by first | exact q_a0e855914a h57 h56 | omega)) ?_
              refine En_Ps 2 (pc' := 81) (lv' := [(0, .ref 159), (1, .int a), (2, .int b), (3, .int z15), (4, .int y41), (5, .int y42)]) (st' := [.int ((z61 ^^^ ((Int32.ofInt (-1))))), .int y41]) rfl ?_
              refine En_nam (fun z77 h78 => ?_)
              refine En_Ps 1 (pc' := 82) (lv' := [(0, .ref 159), (1, .int a), (2, .int b), (3, .int z15), (4, .int y41), (5, .int y42)]) (st' := [.int ((y41 &&& z77))]) rfl ?_
              refine En_nam (fun z79 h80 => ?_)
              obtain ⟨h81, h82⟩ := andn_rng h80 rfl (by omega) (by omega : _ ≤ (65535 : Int))
              refine En_Ps 2 (pc' := 87) (lv' := [(5, .int ((y42 + Int32.ofInt 1))), (4, .int z79), (0, .ref 159), (1, .int a), (2, .int b), (3, .int z15)]) (st' := []) rfl ?_
              refine En_lv1 (addI rfl (by decide : (Int32.ofInt 1).toInt = 1) (by first | exact q_465ab79ac1 h50 | omega) (by first | exact q_d778ff18c8 h51 | omega)) (fun z83 h84 => ?_)
              refine En_Ps 1 (pc' := 32) (lv' := [(5, .int z83), (4, .int z79), (0, .ref 159), (1, .int a), (2, .int b), (3, .int z15)]) (st' := []) rfl ?_
              refine En_lv (lv := [(0, .ref 159), (1, .int a), (2, .int b), (3, .int z15), (4, .int z79), (5, .int z83)]) ⟨rfl, rfl, rfl, rfl, rfl, rfl, trivial⟩ ?_
              exact ih32 σ66 z79 z83 h67 h71 ((h68 _ _ (inWa tgz_160 (by decide +kernel))).trans h46) ((h68 _ _ (inWa tgz_160 (by decide +kernel))).trans h47) (by omega) (by omega) (by first | exact q_35104ce9d3 h84 h50 | omega) (by first | exact q_798b104d48 h84 h57 h56 | omega) (by first | exact q_4ff790945b h84 h52 | omega)
            · refine En_Ps 1 (pc' := 63) (lv' := [(0, .ref 159), (1, .int a), (2, .int b), (3, .int z15), (4, .int y41), (5, .int y42)]) (st' := [.ref 159, .int y41]) rfl ?_
              refine En_getK (j := 17) ((h68 _ _ (inW tgz_159 (by decide +kernel))).trans h58) rfl rfl rfl tgz_159 (by decide +kernel) ?_
              refine En_Ps 1 (pc' := 68) (lv' := [(0, .ref 159), (1, .int a), (2, .int b), (3, .int z15), (4, .int y41), (5, .int y42)]) (st' := [.int y42, .ref 168, .int y41]) rfl ?_
              refine En_ialdK ((h68 _ _ (inWa tgz_168 (by decide +kernel))).trans h60) rfl rfl tgz_168 (by decide +kernel) h67 (by first | exact q_58e6e51dcc h50 | omega) (lnI (by decide +kernel : LN _ = 81) (by first | exact q_a0e855914a h57 h56 | omega)) ?_
              refine En_Ps 2 (pc' := 82) (lv' := [(0, .ref 159), (1, .int a), (2, .int b), (3, .int z15), (4, .int y41), (5, .int y42)]) (st' := [.int ((y41 &&& z61))]) rfl ?_
              refine En_rng (l := 0) (u := 65535) (andx_rng rfl (by omega) (by omega)) (fun z86 h87 h88 => ?_)
              refine En_Ps 2 (pc' := 87) (lv' := [(5, .int ((y42 + Int32.ofInt 1))), (4, .int z86), (0, .ref 159), (1, .int a), (2, .int b), (3, .int z15)]) (st' := []) rfl ?_
              refine En_lv1 (addI rfl (by decide : (Int32.ofInt 1).toInt = 1) (by first | exact q_465ab79ac1 h50 | omega) (by first | exact q_d778ff18c8 h51 | omega)) (fun z89 h90 => ?_)
              refine En_Ps 1 (pc' := 32) (lv' := [(5, .int z89), (4, .int z86), (0, .ref 159), (1, .int a), (2, .int b), (3, .int z15)]) (st' := []) rfl ?_
              refine En_lv (lv := [(0, .ref 159), (1, .int a), (2, .int b), (3, .int z15), (4, .int z86), (5, .int z89)]) ⟨rfl, rfl, rfl, rfl, rfl, rfl, trivial⟩ ?_
              exact ih32 σ66 z86 z89 h67 h71 ((h68 _ _ (inWa tgz_160 (by decide +kernel))).trans h46) ((h68 _ _ (inWa tgz_160 (by decide +kernel))).trans h47) (by first | exact q_58e6e51dcc h87 | omega) (by first | exact q_36eb0a70bf h88 | omega) (by first | exact q_35104ce9d3 h90 h50 | omega) (by first | exact q_798b104d48 h90 h57 h56 | omega) (by first | exact q_4ff790945b h90 h52 | omega)
    have := (by decide : (Int32.ofInt 0).toInt = 0)
    refine En_lv (lv := [(0, .ref 159), (1, .int a), (2, .int b), (3, .int z15), (4, .int z39), (5, .int ((Int32.ofInt 0)))]) ⟨rfl, rfl, rfl, rfl, rfl, rfl, trivial⟩ ?_
    exact key32 (Int.toNat (81) + 1) σ35 z39 ((Int32.ofInt 0)) h36 h40 ((h37 _ _ (inWa tgz_160 (by decide +kernel))).trans ((h30 _ _ (inWa tgz_160 (by decide +kernel))).trans h18)) ((h37 _ _ (inWa tgz_160 (by decide +kernel))).trans ((h30 _ _ (inWa tgz_160 (by decide +kernel))).trans h22)) (by first | exact q_ef1e8e38bf h38.1 | omega) (by first | exact q_62355f097f h38.2 | omega) (by decide) (by decide) (by first | exact toN_lt _ | omega)
  · refine En_Ps 1 (pc' := 18) (lv' := [(3, .int z15), (0, .ref 159), (1, .int a), (2, .int b)]) (st' := [.int z15]) rfl ?_
    exact En_ret (v := some (.int z15)) rfl rfl rfl ⟨h12, h16, z15, rfl, ⟨by first | exact q_629d629181 h14.1 | omega, by first | exact q_eb099b9e46 h17 | omega⟩⟩
/-- DoorSchoolModel.teacher()I -/
abbrev P_322 (σ0 : SG) : PO := fun v σ => WT σ ∧ Fr [(49, 0), (50, 0)] σ0 σ ∧ ∃ ret : Int32, v = some (.int ret) ∧ -ret.toInt - 1000000 ≤ 0 ∧ ret.toInt - 1000000 ≤ 0
set_option maxRecDepth 10000 in
set_option maxHeartbeats 4000000 in
theorem c_322 (σ0 : SG) (hσ0 : WT σ0) (hT : TPOS σ0) : En 5 122 none mr_322 (P_322 σ0) 0 [(0, .ref 159)] [] σ0 := by
  have hF0 : Fr [(49, 0), (50, 0)] σ0 σ0 := Fr_rfl
  refine En_Ps 1 (pc' := 1) (lv' := [(0, .ref 159)]) (st' := [.ref 159]) rfl ?_
  obtain ⟨z2, h1, h3, h4⟩ := WT_peekI hσ0 tgz_160 (by decide +kernel : FT 36 (7 : Int).toNat = (0, 0, 1600)) (by decide +kernel)
  refine En_callV rfl rfl rfl rfl rfl rfl rfl rfl tgz_159 (by decide +kernel) rfl (c_264 σ0 hσ0 z2 h1) (by decide) (by decide) (fun v6 σ7 h5 => ?_)
  obtain ⟨h8, h9, z11, rfl, h10⟩ := h5
  obtain rfl : σ0 = σ7 := Fr_nil h9
  refine En_iEq _ rfl rfl (fun h12 => ?_) (fun h12 => ?_)
  · refine En_Ps 1 (pc' := 37) (lv' := [(0, .ref 159)]) (st' := [.int (((Int8.ofInt (-2)).toInt32))]) rfl ?_
    refine En_top (by decide : ((Int8.ofInt (-2)).toInt32).toInt = -2) (fun z13 h14 => ?_)
    exact En_ret (v := some (.int z13)) rfl rfl rfl ⟨hσ0, hF0, z13, rfl, ⟨by first | exact q_b9268e245a h14 | omega, by first | exact q_ec7b2e0fd8 h14 | omega⟩⟩
  · refine En_Ps 3 (pc' := 10) (lv' := [(0, .ref 159)]) (st' := [.ref 159, .int ((Int32.ofInt 0)), .ref 159]) rfl ?_
    refine En_getU (j := 1) (u := 160) (g' := 36) (q := 0) rfl rfl rfl tgz_159 (by decide +kernel) hσ0 (by decide +kernel) (by decide +kernel) (fun h15 => ?_)
    refine En_Ps 1 (pc' := 14) (lv' := [(0, .ref 159)]) (st' := [.int ((Int32.ofInt 1)), .ref 160, .int ((Int32.ofInt 0)), .ref 159]) rfl ?_
    refine En_iald (l := 0) (u := 3) rfl (by decide : (Int32.ofInt 1).toInt = 1) tgz_160 (by decide +kernel) hσ0 (by decide) (lnI (by decide +kernel : LN _ = 226) (by decide)) (by decide +kernel) (fun z18 h17 h19 h20 => ?_)
    have h21 : 1 ≤ z18.toInt := by have e1 := ci_at h17 (rfl : (1 : Int) = 1); have e7 := ci_at h1 (rfl : (7 : Int) = 7); have e := hT (Or.inr (by omega)); omega
    have := (by decide : ((Int32.ofInt 0)).toInt = 0)
    refine En_callV rfl rfl rfl rfl rfl rfl rfl rfl tgz_159 (by decide +kernel) rfl (c_277 σ0 hσ0 ((Int32.ofInt 0)) z18 (geI (by decide : (Int32.ofInt 0).toInt = 0) (by decide)) (leI (by decide : (Int32.ofInt 0).toInt = 0) (by decide)) (geI rfl (by omega)) (leI rfl (by first | exact q_571ae29550 h20 | omega)) (by have := n6 hσ0; omega)) (by decide) (by decide) (fun v23 σ24 h22 => ?_)
    obtain ⟨h25, h26, z28, rfl, h27⟩ := h22
    have h29 := h27.2.2
    have h30 := Fr_trans hF0 h26 (by decide +kernel)
    refine En_Ps 3 (pc' := 21) (lv' := [(0, .ref 159)]) (st' := [.ref 159, .int ((Int32.ofInt 0)), .ref 159, .int z28]) rfl ?_
    refine En_getK (j := 1) ((h26 _ _ (inW tgz_159 (by decide +kernel))).trans h15) rfl rfl rfl tgz_159 (by decide +kernel) ?_
    refine En_Ps 1 (pc' := 25) (lv' := [(0, .ref 159)]) (st' := [.int ((Int32.ofInt 1)), .ref 160, .int ((Int32.ofInt 0)), .ref 159, .int z28]) rfl ?_
    refine En_ialdK ((h26 _ _ (inWa tgz_160 (by decide +kernel))).trans h17) rfl (by decide : (Int32.ofInt 1).toInt = 1) tgz_160 (by decide +kernel) h25 (by decide) (lnI (by decide +kernel : LN _ = 226) (by decide)) ?_
    refine En_Ps 2 (pc' := 28) (lv' := [(0, .ref 159)]) (st' := [.int ((z18 + ((Int32.ofInt 1)))), .int ((Int32.ofInt 0)), .ref 159, .int z28]) rfl ?_
    refine En_top (addI rfl (by decide : (Int32.ofInt 1).toInt = 1) (by first | exact q_465ab79ac1 h19 | omega) (by first | exact q_30821ffab8 h20 | omega)) (fun z32 h33 => ?_)
    have := (by decide : ((Int32.ofInt 0)).toInt = 0)
    refine En_callV rfl rfl rfl rfl rfl rfl rfl rfl tgz_159 (by decide +kernel) rfl (c_277 σ24 h25 ((Int32.ofInt 0)) z32 (geI (by decide : (Int32.ofInt 0).toInt = 0) (by decide)) (leI (by decide : (Int32.ofInt 0).toInt = 0) (by decide)) (geI rfl (by first | exact q_246139cee3 h33 h19 | omega)) (leI rfl (by first | exact q_3d6de704c2 h33 h20 | omega)) (by have := n6 h25; omega)) (by decide) (by decide) (fun v35 σ36 h34 => ?_)
    obtain ⟨h37, h38, z40, rfl, h39⟩ := h34
    have h41 := h39.2.2
    have h42 := Fr_trans h30 h38 (by decide +kernel)
    refine En_Ps 1 (pc' := 32) (lv' := [(0, .ref 159)]) (st' := [.int ((z28 - z40))]) rfl ?_
    refine En_top (subI rfl rfl (by first | exact q_32102f5304 h27.1 h39.2.1 | omega) (by first | exact q_80d30d8c4f h27.2.1 h39.1 | omega)) (fun z43 h44 => ?_)
    refine En_Ps 1 (pc' := 37) (lv' := [(0, .ref 159)]) (st' := [.int z43]) rfl ?_
    exact En_ret (v := some (.int z43)) rfl rfl rfl ⟨h37, h42, z43, rfl, ⟨by first | exact q_6a272ab126 h44 h27.1 h39.2.1 | omega, by first | exact q_f5fd317cc8 h44 h27.2.1 h39.1 | omega⟩⟩
/-- DoorSchoolModel.told(II)I -/
abbrev P_324 (σ0 : SG) (a : Int32) (b : Int32) : PO := fun v σ => WT σ ∧ Fr [(35, 18), (42, 0), (43, 0), (44, 0)] σ0 σ ∧ ∃ ret : Int32, v = some (.int ret) ∧ -ret.toInt - 2 ≤ 0 ∧ ret.toInt - 15 ≤ 0
set_option maxRecDepth 10000 in
set_option maxHeartbeats 4000000 in
theorem c_324 (σ0 : SG) (hσ0 : WT σ0) (a : Int32) (b : Int32) : En 4 87 none mr_324 (P_324 σ0 a b) 0 [(0, .ref 159), (1, .int a), (2, .int b)] [] σ0 := by
  have hF0 : Fr [(35, 18), (42, 0), (43, 0), (44, 0)] σ0 σ0 := Fr_rfl
  refine En_Ps 2 (pc' := 2) (lv' := [(0, .ref 159), (1, .int a), (2, .int b)]) (st' := [.int a, .ref 159]) rfl ?_
  refine En_callV rfl rfl rfl rfl rfl rfl rfl rfl tgz_159 (by decide +kernel) rfl (c_195 σ0 hσ0 a) (by decide) (by decide) (fun v2 σ3 h1 => ?_)
  obtain ⟨h4, h5, z7, rfl, h6⟩ := h1
  obtain rfl : σ0 = σ3 := Fr_nil h5
  refine En_iEq _ rfl rfl (fun h8 => ?_) (fun h8 => ?_)
  · refine En_Ps 1 (pc' := 20) (lv' := [(0, .ref 159), (1, .int a), (2, .int b)]) (st' := [.int (((Int8.ofInt (-2)).toInt32))]) rfl ?_
    refine En_top (by decide : ((Int8.ofInt (-2)).toInt32).toInt = -2) (fun z9 h10 => ?_)
    exact En_ret (v := some (.int z9)) rfl rfl rfl ⟨hσ0, hF0, z9, rfl, (by omega)⟩
  · refine En_Ps 4 (pc' := 12) (lv' := [(0, .ref 159), (1, .int a), (2, .int b)]) (st' := [.long ((Int64.ofNat 1)), .long ((Int64.ofNat 0)), .long b.toInt64]) rfl ?_
    have : b.toInt64.toInt = b.toInt := (i2lI rfl)
    have := (by decide : ((Int64.ofNat 0)).toInt = 0)
    have := (by decide : ((Int64.ofNat 1)).toInt = 1)
    refine En_callS rfl rfl rfl rfl rfl rfl rfl rfl rfl (c_249 σ0 hσ0 b.toInt64 ((Int64.ofNat 0)) ((Int64.ofNat 1))) (by decide) (by decide) (fun v12 σ13 h11 => ?_)
    obtain ⟨h14, h15, z17, rfl, h16⟩ := h11
    obtain rfl : σ0 = σ13 := Fr_nil h15
    refine En_iNe _ rfl rfl (fun h18 => ?_) (fun h18 => ?_)
    · refine En_Ps 1 (pc' := 22) (lv' := [(0, .ref 159), (1, .int a), (2, .int b)]) (st' := [.ref 159]) rfl ?_
      obtain ⟨z20, h19, h21, h22⟩ := WT_peekI hσ0 tgz_160 (by decide +kernel : FT 36 (0 : Int).toNat = (0, 0, 4)) (by decide +kernel)
      obtain ⟨z24, h23, h25, h26⟩ := WT_peekI hσ0 tgz_160 (by decide +kernel : FT 36 (7 : Int).toNat = (0, 0, 1600)) (by decide +kernel)
      refine En_callV rfl rfl rfl rfl rfl rfl rfl rfl tgz_159 (by decide +kernel) rfl (c_272 σ0 hσ0 z20 h19 z24 h23) (by decide) (by decide) (fun v28 σ29 h27 => ?_)
      obtain ⟨h30, h31, rfl, h32⟩ := h27
      have h33 := Fr_trans hF0 h31 (by decide +kernel)
      refine En_Ps 2 (pc' := 27) (lv' := [(3, .int ((Int32.ofInt 0))), (0, .ref 159), (1, .int a), (2, .int b)]) (st' := []) rfl ?_
      have key27 : ∀ (n27 : Nat) (σ35 : SG) (y34 : Int32), WT σ35 → Fr [(35, 18), (42, 0), (43, 0), (44, 0)] σ0 σ35 → (σ35 160)[(0 : Int).toNat]? = some (.int z20) → (σ35 160)[(7 : Int).toNat]? = some (.int z24) → 0 ≤ y34.toInt → y34.toInt ≤ 81 → -y34.toInt + 81 < (n27 : Int) → En 4 87 none mr_324 (P_324 σ0 a b) 27 [(0, .ref 159), (1, .int a), (2, .int b), (3, .int y34)] [] σ35 := by
        intro n27
        induction n27 with
        | zero =>
          intro σ35 y34 h36 h37 h38 h39 h40 h41 h42
          exfalso; omega
        | succ n27 ih27 =>
          intro σ35 y34 h36 h37 h38 h39 h40 h41 h42
          refine En_Ps 2 (pc' := 29) (lv' := [(0, .ref 159), (1, .int a), (2, .int b), (3, .int y34)]) (st' := [.ref 159, .int y34]) rfl ?_
          refine En_getI (j := 18) (l := 0) (u := 81) rfl rfl rfl tgz_159 (by decide +kernel) h36 (by decide +kernel) (fun z44 h43 h45 h46 => ?_)
          refine En_icGe _ rfl rfl rfl (fun h47 => ?_) (fun h47 => ?_)
          · refine En_Ps 1 (pc' := 72) (lv' := [(0, .ref 159), (1, .int a), (2, .int b), (3, .int y34)]) (st' := [.int ((Int32.ofInt (-1)))]) rfl ?_
            refine En_top (by decide : (Int32.ofInt (-1)).toInt = -1) (fun z48 h49 => ?_)
            exact En_ret (v := some (.int z48)) rfl rfl rfl ⟨h36, h37, z48, rfl, (by omega)⟩
          · refine En_Ps 1 (pc' := 36) (lv' := [(0, .ref 159), (1, .int a), (2, .int b), (3, .int y34)]) (st' := [.ref 159]) rfl ?_
            refine En_getU (j := 17) (u := 168) (g' := 44) (q := 0) rfl rfl rfl tgz_159 (by decide +kernel) h36 (by decide +kernel) (by decide +kernel) (fun h50 => ?_)
            refine En_Ps 1 (pc' := 40) (lv' := [(0, .ref 159), (1, .int a), (2, .int b), (3, .int y34)]) (st' := [.int y34, .ref 168]) rfl ?_
            refine En_iald (l := (-2147483648)) (u := 2147483647) rfl rfl tgz_168 (by decide +kernel) h36 (by omega) (lnI (by decide +kernel : LN _ = 81) (by omega)) (FTsgl (by decide +kernel)) (fun z53 h52 h54 h55 => ?_)
            refine En_Ps 1 (pc' := 42) (lv' := [(0, .ref 159), (1, .int a), (2, .int b), (3, .int y34)]) (st' := [.int a, .int z53]) rfl ?_
            refine En_icNe _ rfl rfl rfl (fun h56 => ?_) (fun h56 => ?_)
            · refine En_Ps 1 (pc' := 68) (lv' := [(3, .int ((y34 + Int32.ofInt 1))), (0, .ref 159), (1, .int a), (2, .int b)]) (st' := []) rfl ?_
              refine En_lv1 (addI rfl (by decide : (Int32.ofInt 1).toInt = 1) (by omega) (by omega)) (fun z57 h58 => ?_)
              refine En_Ps 1 (pc' := 27) (lv' := [(3, .int z57), (0, .ref 159), (1, .int a), (2, .int b)]) (st' := []) rfl ?_
              refine En_lv (lv := [(0, .ref 159), (1, .int a), (2, .int b), (3, .int z57)]) ⟨rfl, rfl, rfl, rfl, trivial⟩ ?_
              exact ih27 σ35 z57 h36 h37 h38 h39 (by omega) (by omega) (by omega)
            · refine En_Ps 1 (pc' := 46) (lv' := [(0, .ref 159), (1, .int a), (2, .int b), (3, .int y34)]) (st' := [.int b]) rfl ?_
              refine En_iNe _ rfl rfl (fun h59 => ?_) (fun h59 => ?_)
              · refine En_Ps 1 (pc' := 59) (lv' := [(0, .ref 159), (1, .int a), (2, .int b), (3, .int y34)]) (st' := [.ref 159]) rfl ?_
                refine En_getU (j := 16) (u := 167) (g' := 43) (q := 0) rfl rfl rfl tgz_159 (by decide +kernel) h36 (by decide +kernel) (by decide +kernel) (fun h60 => ?_)
                refine En_Ps 1 (pc' := 63) (lv' := [(0, .ref 159), (1, .int a), (2, .int b), (3, .int y34)]) (st' := [.int y34, .ref 167]) rfl ?_
                refine En_iald (l := 0) (u := 15) rfl rfl tgz_167 (by decide +kernel) h36 (by omega) (lnI (by decide +kernel : LN _ = 81) (by omega)) (FTsgl (by decide +kernel)) (fun z63 h62 h64 h65 => ?_)
                exact En_ret (v := some (.int z63)) rfl rfl rfl ⟨h36, h37, z63, rfl, (by omega)⟩
              · refine En_Ps 1 (pc' := 50) (lv' := [(0, .ref 159), (1, .int a), (2, .int b), (3, .int y34)]) (st' := [.ref 159]) rfl ?_
                refine En_getU (j := 15) (u := 166) (g' := 42) (q := 0) rfl rfl rfl tgz_159 (by decide +kernel) h36 (by decide +kernel) (by decide +kernel) (fun h66 => ?_)
                refine En_Ps 1 (pc' := 54) (lv' := [(0, .ref 159), (1, .int a), (2, .int b), (3, .int y34)]) (st' := [.int y34, .ref 166]) rfl ?_
                refine En_iald (l := 0) (u := 15) rfl rfl tgz_166 (by decide +kernel) h36 (by omega) (lnI (by decide +kernel : LN _ = 81) (by omega)) (FTsgl (by decide +kernel)) (fun z69 h68 h70 h71 => ?_)
                refine En_Ps 1 (pc' := 64) (lv' := [(0, .ref 159), (1, .int a), (2, .int b), (3, .int y34)]) (st' := [.int z69]) rfl ?_
                exact En_ret (v := some (.int z69)) rfl rfl rfl ⟨h36, h37, z69, rfl, (by omega)⟩
      have := (by decide : (Int32.ofInt 0).toInt = 0)
      refine En_lv (lv := [(0, .ref 159), (1, .int a), (2, .int b), (3, .int ((Int32.ofInt 0)))]) ⟨rfl, rfl, rfl, rfl, trivial⟩ ?_
      exact key27 (Int.toNat (81) + 1) σ29 ((Int32.ofInt 0)) h30 h33 ((h31 _ _ (inWa tgz_160 (by decide +kernel))).trans h19) ((h31 _ _ (inWa tgz_160 (by decide +kernel))).trans h23) (by omega) (by omega) (by omega)
    · refine En_Ps 1 (pc' := 20) (lv' := [(0, .ref 159), (1, .int a), (2, .int b)]) (st' := [.int (((Int8.ofInt (-2)).toInt32))]) rfl ?_
      refine En_top (by decide : ((Int8.ofInt (-2)).toInt32).toInt = -2) (fun z72 h73 => ?_)
      exact En_ret (v := some (.int z72)) rfl rfl rfl ⟨hσ0, hF0, z72, rfl, (by omega)⟩

