/-- DoorSchoolModel.sets(III)I -/
abbrev P_314 (σ0 : SG) (a : Int32) (b : Int32) (c : Int32) : PO := fun v σ => WT σ ∧ Fr [(35, 18), (35, 21), (42, 0), (43, 0), (44, 0), (45, 0), (46, 0)] σ0 σ ∧ ∃ ret : Int32, v = some (.int ret) ∧ -ret.toInt - 2 ≤ 0 ∧ ret.toInt - 65536 ≤ 0
set_option maxRecDepth 10000 in
set_option maxHeartbeats 4000000 in
theorem c_314 (σ0 : SG) (hσ0 : WT σ0) (a : Int32) (b : Int32) (c : Int32) : En 5 115 none mr_314 (P_314 σ0 a b c) 0 [(0, .ref 159), (1, .int a), (2, .int b), (3, .int c)] [] σ0 := by
  have hF0 : Fr [(35, 18), (35, 21), (42, 0), (43, 0), (44, 0), (45, 0), (46, 0)] σ0 σ0 := Fr_rfl
  refine En_Ps 1 (pc' := 1) (lv' := [(0, .ref 159), (1, .int a), (2, .int b), (3, .int c)]) (st' := [.int a]) rfl ?_
  refine En_callS rfl rfl rfl rfl rfl rfl rfl rfl rfl (c_268 σ0 hσ0 a) (by decide) (by decide) (fun v2 σ3 h1 => ?_)
  obtain ⟨h4, h5, z7, rfl, h6⟩ := h1
  have h8 := Fr_trans hF0 h5 (by decide +kernel)
  refine En_iEq _ rfl rfl (fun h9 => ?_) (fun h9 => ?_)
  · refine En_Ps 1 (pc' := 29) (lv' := [(0, .ref 159), (1, .int a), (2, .int b), (3, .int c)]) (st' := [.int (((Int8.ofInt (-2)).toInt32))]) rfl ?_
    refine En_top (by decide : ((Int8.ofInt (-2)).toInt32).toInt = -2) (fun z10 h11 => ?_)
    exact En_ret (v := some (.int z10)) rfl rfl rfl ⟨h4, h8, z10, rfl, (by omega)⟩
  · refine En_Ps 2 (pc' := 9) (lv' := [(0, .ref 159), (1, .int a), (2, .int b), (3, .int c)]) (st' := [.int b, .ref 159]) rfl ?_
    refine En_callV rfl rfl rfl rfl rfl rfl rfl rfl (by decide +kernel : TG 159 = 35) (by decide +kernel) rfl (c_195 σ3 h4 b) (by decide) (by decide) (fun v13 σ14 h12 => ?_)
    obtain ⟨h15, h16, z18, rfl, h17⟩ := h12
    have h19 := Fr_trans h8 h16 (by decide +kernel)
    refine En_iEq _ rfl rfl (fun h20 => ?_) (fun h20 => ?_)
    · refine En_Ps 1 (pc' := 29) (lv' := [(0, .ref 159), (1, .int a), (2, .int b), (3, .int c)]) (st' := [.int (((Int8.ofInt (-2)).toInt32))]) rfl ?_
      refine En_top (by decide : ((Int8.ofInt (-2)).toInt32).toInt = -2) (fun z21 h22 => ?_)
      exact En_ret (v := some (.int z21)) rfl rfl rfl ⟨h15, h19, z21, rfl, (by omega)⟩
    · refine En_Ps 4 (pc' := 21) (lv' := [(0, .ref 159), (1, .int a), (2, .int b), (3, .int c)]) (st' := [.long ((16 : Int64)), .long ((Int64.ofNat 0)), .long c.toInt64]) rfl ?_
      have : c.toInt64.toInt = c.toInt := (i2lI rfl)
      have := (by decide : ((Int64.ofNat 0)).toInt = 0)
      have := (by decide : ((16 : Int64)).toInt = 16)
      refine En_callS rfl rfl rfl rfl rfl rfl rfl rfl rfl (c_249 σ14 h15 c.toInt64 ((Int64.ofNat 0)) ((16 : Int64))) (by decide) (by decide) (fun v24 σ25 h23 => ?_)
      obtain ⟨h26, h27, z29, rfl, h28⟩ := h23
      have h30 := Fr_trans h19 h27 (by decide +kernel)
      refine En_iNe _ rfl rfl (fun h31 => ?_) (fun h31 => ?_)
      · refine En_Ps 1 (pc' := 31) (lv' := [(0, .ref 159), (1, .int a), (2, .int b), (3, .int c)]) (st' := [.ref 159]) rfl ?_
        obtain ⟨z33, h32, h34, h35⟩ := WT_peekI h26 (by decide +kernel : TG 160 = 36) (by decide +kernel : FT 36 (0 : Int).toNat = (0, 0, 4)) (by decide +kernel)
        obtain ⟨z37, h36, h38, h39⟩ := WT_peekI h26 (by decide +kernel : TG 160 = 36) (by decide +kernel : FT 36 (7 : Int).toNat = (0, 0, 1600)) (by decide +kernel)
        refine En_callV rfl rfl rfl rfl rfl rfl rfl rfl (by decide +kernel : TG 159 = 35) (by decide +kernel) rfl (c_272 σ25 h26 z33 h32 z37 h36) (by decide) (by decide) (fun v41 σ42 h40 => ?_)
        obtain ⟨h43, h44, rfl, h45⟩ := h40
        have h46 := Fr_trans h30 h44 (by decide +kernel)
        refine En_Ps 4 (pc' := 40) (lv' := [(5, .int ((Int32.ofInt 0))), (4, .int ((Int32.ofInt 0))), (0, .ref 159), (1, .int a), (2, .int b), (3, .int c)]) (st' := []) rfl ?_
        have key40 : ∀ (n40 : Nat) (σ49 : SG) (y47 : Int32) (y48 : Int32), WT σ49 → Fr [(35, 18), (35, 21), (42, 0), (43, 0), (44, 0), (45, 0), (46, 0)] σ0 σ49 → (σ49 160)[(0 : Int).toNat]? = some (.int z33) → (σ49 160)[(7 : Int).toNat]? = some (.int z37) → 0 ≤ y47.toInt → y47.toInt ≤ 65536 → 0 ≤ y48.toInt → y48.toInt ≤ 65536 → y47.toInt - y48.toInt ≤ 0 → -y48.toInt + 65536 < (n40 : Int) → En 5 115 none mr_314 (P_314 σ0 a b c) 40 [(0, .ref 159), (1, .int a), (2, .int b), (3, .int c), (4, .int y47), (5, .int y48)] [] σ49 := by
          intro n40
          induction n40 with
          | zero =>
            intro σ49 y47 y48 h50 h51 h52 h53 h54 h55 h56 h57 h58 h59
            exfalso; omega
          | succ n40 ih40 =>
            intro σ49 y47 y48 h50 h51 h52 h53 h54 h55 h56 h57 h58 h59
            refine En_Ps 2 (pc' := 43) (lv' := [(0, .ref 159), (1, .int a), (2, .int b), (3, .int c), (4, .int y47), (5, .int y48)]) (st' := [.ref 159, .int y48]) rfl ?_
            refine En_callV rfl rfl rfl rfl rfl rfl rfl rfl (by decide +kernel : TG 159 = 35) (by decide +kernel) rfl (c_192 σ49 h50) (by decide) (by decide) (fun v61 σ62 h60 => ?_)
            obtain ⟨h63, h64, z66, rfl, h65⟩ := h60
            have h67 := Fr_trans h51 h64 (by decide +kernel)
            refine En_icGt _ rfl rfl rfl (fun h68 => ?_) (fun h68 => ?_)
            · refine En_Ps 1 (pc' := 87) (lv' := [(0, .ref 159), (1, .int a), (2, .int b), (3, .int c), (4, .int y47), (5, .int y48)]) (st' := [.int y47]) rfl ?_
              exact En_ret (v := some (.int y47)) rfl rfl rfl ⟨h63, h67, y47, rfl, (by omega)⟩
            · refine En_Ps 2 (pc' := 53) (lv' := [(0, .ref 159), (1, .int a), (2, .int b), (3, .int c), (4, .int y47), (5, .int y48)]) (st' := [.int y48, .int y47]) rfl ?_
              refine En_callS rfl rfl rfl rfl rfl rfl rfl rfl rfl (c_203b σ62 h63 y48) (by decide) (by decide) (fun v70 σ71 h69 => ?_)
              obtain ⟨h72, h73, z75, rfl, h74⟩ := h69
              have h76 := Fr_trans h67 h73 (by decide +kernel)
              refine En_Ps 1 (pc' := 57) (lv' := [(0, .ref 159), (1, .int a), (2, .int b), (3, .int c), (4, .int y47), (5, .int y48)]) (st' := [.int c, .int z75, .int y47]) rfl ?_
              refine En_icNe _ rfl rfl rfl (fun h77 => ?_) (fun h77 => ?_)
              · refine En_Ps 2 (pc' := 77) (lv' := [(0, .ref 159), (1, .int a), (2, .int b), (3, .int c), (4, .int y47), (5, .int y48)]) (st' := [.int ((y47 + ((Int32.ofInt 0))))]) rfl ?_
                refine En_top (addI rfl (by decide : (Int32.ofInt 0).toInt = 0) (by omega) (by omega)) (fun z78 h79 => ?_)
                refine En_Ps 2 (pc' := 82) (lv' := [(5, .int ((y48 + Int32.ofInt 1))), (4, .int z78), (0, .ref 159), (1, .int a), (2, .int b), (3, .int c)]) (st' := []) rfl ?_
                refine En_lv1 (addI rfl (by decide : (Int32.ofInt 1).toInt = 1) (by omega) (by omega)) (fun z80 h81 => ?_)
                refine En_Ps 1 (pc' := 40) (lv' := [(5, .int z80), (4, .int z78), (0, .ref 159), (1, .int a), (2, .int b), (3, .int c)]) (st' := []) rfl ?_
                refine En_lv (lv := [(0, .ref 159), (1, .int a), (2, .int b), (3, .int c), (4, .int z78), (5, .int z80)]) ⟨rfl, rfl, rfl, rfl, rfl, rfl, trivial⟩ ?_
                exact ih40 σ71 z78 z80 h72 h76 ((h73 _ _ (inWa (by decide +kernel : TG 160 = 36) (by decide +kernel))).trans ((h64 _ _ (inWa (by decide +kernel : TG 160 = 36) (by decide +kernel))).trans h52)) ((h73 _ _ (inWa (by decide +kernel : TG 160 = 36) (by decide +kernel))).trans ((h64 _ _ (inWa (by decide +kernel : TG 160 = 36) (by decide +kernel))).trans h53)) (by omega) (by omega) (by omega) (by omega) (by omega) (by omega)
              · refine En_Ps 4 (pc' := 65) (lv' := [(0, .ref 159), (1, .int a), (2, .int b), (3, .int c), (4, .int y47), (5, .int y48)]) (st' := [.int b, .int y48, .int a, .ref 159, .int y47]) rfl ?_
                refine En_callV rfl rfl rfl rfl rfl rfl rfl rfl (by decide +kernel : TG 159 = 35) (by decide +kernel) rfl (c_275 σ71 h72 a y48 b) (by decide) (by decide) (fun v83 σ84 h82 => ?_)
                obtain ⟨h85, h86, z88, rfl, h87⟩ := h82
                have h89 := Fr_trans h76 h86 (by decide +kernel)
                refine En_iEq _ rfl rfl (fun h90 => ?_) (fun h90 => ?_)
                · refine En_Ps 2 (pc' := 77) (lv' := [(0, .ref 159), (1, .int a), (2, .int b), (3, .int c), (4, .int y47), (5, .int y48)]) (st' := [.int ((y47 + ((Int32.ofInt 0))))]) rfl ?_
                  refine En_top (addI rfl (by decide : (Int32.ofInt 0).toInt = 0) (by omega) (by omega)) (fun z91 h92 => ?_)
                  refine En_Ps 2 (pc' := 82) (lv' := [(5, .int ((y48 + Int32.ofInt 1))), (4, .int z91), (0, .ref 159), (1, .int a), (2, .int b), (3, .int c)]) (st' := []) rfl ?_
                  refine En_lv1 (addI rfl (by decide : (Int32.ofInt 1).toInt = 1) (by omega) (by omega)) (fun z93 h94 => ?_)
                  refine En_Ps 1 (pc' := 40) (lv' := [(5, .int z93), (4, .int z91), (0, .ref 159), (1, .int a), (2, .int b), (3, .int c)]) (st' := []) rfl ?_
                  refine En_lv (lv := [(0, .ref 159), (1, .int a), (2, .int b), (3, .int c), (4, .int z91), (5, .int z93)]) ⟨rfl, rfl, rfl, rfl, rfl, rfl, trivial⟩ ?_
                  exact ih40 σ84 z91 z93 h85 h89 ((h86 _ _ (inWa (by decide +kernel : TG 160 = 36) (by decide +kernel))).trans ((h73 _ _ (inWa (by decide +kernel : TG 160 = 36) (by decide +kernel))).trans ((h64 _ _ (inWa (by decide +kernel : TG 160 = 36) (by decide +kernel))).trans h52))) ((h86 _ _ (inWa (by decide +kernel : TG 160 = 36) (by decide +kernel))).trans ((h73 _ _ (inWa (by decide +kernel : TG 160 = 36) (by decide +kernel))).trans ((h64 _ _ (inWa (by decide +kernel : TG 160 = 36) (by decide +kernel))).trans h53))) (by omega) (by omega) (by omega) (by omega) (by omega) (by omega)
                · refine En_Ps 3 (pc' := 77) (lv' := [(0, .ref 159), (1, .int a), (2, .int b), (3, .int c), (4, .int y47), (5, .int y48)]) (st' := [.int ((y47 + ((Int32.ofInt 1))))]) rfl ?_
                  refine En_top (addI rfl (by decide : (Int32.ofInt 1).toInt = 1) (by omega) (by omega)) (fun z95 h96 => ?_)
                  refine En_Ps 2 (pc' := 82) (lv' := [(5, .int ((y48 + Int32.ofInt 1))), (4, .int z95), (0, .ref 159), (1, .int a), (2, .int b), (3, .int c)]) (st' := []) rfl ?_
                  refine En_lv1 (addI rfl (by decide : (Int32.ofInt 1).toInt = 1) (by omega) (by omega)) (fun z97 h98 => ?_)
                  refine En_Ps 1 (pc' := 40) (lv' := [(5, .int z97), (4, .int z95), (0, .ref 159), (1, .int a), (2, .int b), (3, .int c)]) (st' := []) rfl ?_
                  refine En_lv (lv := [(0, .ref 159), (1, .int a), (2, .int b), (3, .int c), (4, .int z95), (5, .int z97)]) ⟨rfl, rfl, rfl, rfl, rfl, rfl, trivial⟩ ?_
                  exact ih40 σ84 z95 z97 h85 h89 ((h86 _ _ (inWa (by decide +kernel : TG 160 = 36) (by decide +kernel))).trans ((h73 _ _ (inWa (by decide +kernel : TG 160 = 36) (by decide +kernel))).trans ((h64 _ _ (inWa (by decide +kernel : TG 160 = 36) (by decide +kernel))).trans h52))) ((h86 _ _ (inWa (by decide +kernel : TG 160 = 36) (by decide +kernel))).trans ((h73 _ _ (inWa (by decide +kernel : TG 160 = 36) (by decide +kernel))).trans ((h64 _ _ (inWa (by decide +kernel : TG 160 = 36) (by decide +kernel))).trans h53))) (by omega) (by omega) (by omega) (by omega) (by omega) (by omega)
        have := (by decide : (Int32.ofInt 0).toInt = 0)
        have := (by decide : (Int32.ofInt 0).toInt = 0)
        refine En_lv (lv := [(0, .ref 159), (1, .int a), (2, .int b), (3, .int c), (4, .int ((Int32.ofInt 0))), (5, .int ((Int32.ofInt 0)))]) ⟨rfl, rfl, rfl, rfl, rfl, rfl, trivial⟩ ?_
        exact key40 (Int.toNat (65536) + 1) σ42 ((Int32.ofInt 0)) ((Int32.ofInt 0)) h43 h46 ((h44 _ _ (inWa (by decide +kernel : TG 160 = 36) (by decide +kernel))).trans h32) ((h44 _ _ (inWa (by decide +kernel : TG 160 = 36) (by decide +kernel))).trans h36) (by omega) (by omega) (by omega) (by omega) (by omega) (by omega)
      · refine En_Ps 1 (pc' := 29) (lv' := [(0, .ref 159), (1, .int a), (2, .int b), (3, .int c)]) (st' := [.int (((Int8.ofInt (-2)).toInt32))]) rfl ?_
        refine En_top (by decide : ((Int8.ofInt (-2)).toInt32).toInt = -2) (fun z99 h100 => ?_)
        exact En_ret (v := some (.int z99)) rfl rfl rfl ⟨h26, h30, z99, rfl, (by omega)⟩
/-- DoorSchoolModel.sure(II)I -/
abbrev P_317 (σ0 : SG) (a : Int32) (b : Int32) : PO := fun v σ => WT σ ∧ Fr [(35, 18), (42, 0), (43, 0), (44, 0)] σ0 σ ∧ ∃ ret : Int32, v = some (.int ret) ∧ -ret.toInt - 6 ≤ 0 ∧ ret.toInt - 65535 ≤ 0
set_option maxRecDepth 10000 in
set_option maxHeartbeats 4000000 in
theorem c_317 (σ0 : SG) (hσ0 : WT σ0) (a : Int32) (b : Int32) : En 4 87 none mr_317 (P_317 σ0 a b) 0 [(0, .ref 159), (1, .int a), (2, .int b)] [] σ0 := by
  have hF0 : Fr [(35, 18), (42, 0), (43, 0), (44, 0)] σ0 σ0 := Fr_rfl
  refine En_Ps 6 (pc' := 6) (lv' := [(0, .ref 159), (1, .int a), (2, .int b)]) (st' := [.long ((Int64.ofNat 1)), .long ((Int64.ofNat 0)), .long b.toInt64, .int a, .ref 159]) rfl ?_
  have : b.toInt64.toInt = b.toInt := (i2lI rfl)
  have := (by decide : ((Int64.ofNat 0)).toInt = 0)
  have := (by decide : ((Int64.ofNat 1)).toInt = 1)
  refine En_callS rfl rfl rfl rfl rfl rfl rfl rfl rfl (c_249 σ0 hσ0 b.toInt64 ((Int64.ofNat 0)) ((Int64.ofNat 1))) (by decide) (by decide) (fun v2 σ3 h1 => ?_)
  obtain ⟨h4, h5, z7, rfl, h6⟩ := h1
  have h8 := Fr_trans hF0 h5 (by decide +kernel)
  refine En_callV rfl rfl rfl rfl rfl rfl rfl rfl (by decide +kernel : TG 159 = 35) (by decide +kernel) rfl (c_198 σ3 h4 a z7 (geI rfl (by omega)) (leI rfl (by omega))) (by decide) (by decide) (fun v10 σ11 h9 => ?_)
  obtain ⟨h12, h13, z15, rfl, h14⟩ := h9
  have h16 := Fr_trans h8 h13 (by decide +kernel)
  refine En_Ps 2 (pc' := 14) (lv' := [(3, .int z15), (0, .ref 159), (1, .int a), (2, .int b)]) (st' := [.int z15]) rfl ?_
  refine En_iGe _ rfl rfl (fun h17 => ?_) (fun h17 => ?_)
  · refine En_Ps 1 (pc' := 20) (lv' := [(3, .int z15), (0, .ref 159), (1, .int a), (2, .int b)]) (st' := [.ref 159]) rfl ?_
    obtain ⟨z19, h18, h20, h21⟩ := WT_peekI h12 (by decide +kernel : TG 160 = 36) (by decide +kernel : FT 36 (0 : Int).toNat = (0, 0, 4)) (by decide +kernel)
    obtain ⟨z23, h22, h24, h25⟩ := WT_peekI h12 (by decide +kernel : TG 160 = 36) (by decide +kernel : FT 36 (7 : Int).toNat = (0, 0, 1600)) (by decide +kernel)
    refine En_callV rfl rfl rfl rfl rfl rfl rfl rfl (by decide +kernel : TG 159 = 35) (by decide +kernel) rfl (c_272 σ11 h12 z19 h18 z23 h22) (by decide) (by decide) (fun v27 σ28 h26 => ?_)
    obtain ⟨h29, h30, rfl, h31⟩ := h26
    have h32 := Fr_trans h16 h30 (by decide +kernel)
    refine En_Ps 1 (pc' := 24) (lv' := [(3, .int z15), (0, .ref 159), (1, .int a), (2, .int b)]) (st' := [.ref 159]) rfl ?_
    refine En_callV rfl rfl rfl rfl rfl rfl rfl rfl (by decide +kernel : TG 159 = 35) (by decide +kernel) rfl (c_192 σ28 h29) (by decide) (by decide) (fun v34 σ35 h33 => ?_)
    obtain ⟨h36, h37, z39, rfl, h38⟩ := h33
    have h40 := Fr_trans h32 h37 (by decide +kernel)
    refine En_Ps 3 (pc' := 32) (lv' := [(5, .int ((Int32.ofInt 0))), (4, .int z39), (3, .int z15), (0, .ref 159), (1, .int a), (2, .int b)]) (st' := []) rfl ?_
    have key32 : ∀ (n32 : Nat) (σ43 : SG) (y41 : Int32) (y42 : Int32), WT σ43 → Fr [(35, 18), (42, 0), (43, 0), (44, 0)] σ0 σ43 → (σ43 160)[(0 : Int).toNat]? = some (.int z19) → (σ43 160)[(7 : Int).toNat]? = some (.int z23) → 0 ≤ y41.toInt → y41.toInt ≤ 65535 → 0 ≤ y42.toInt → y42.toInt ≤ 81 → -y42.toInt + 81 < (n32 : Int) → En 4 87 none mr_317 (P_317 σ0 a b) 32 [(0, .ref 159), (1, .int a), (2, .int b), (3, .int z15), (4, .int y41), (5, .int y42)] [] σ43 := by
      intro n32
      induction n32 with
      | zero =>
        intro σ43 y41 y42 h44 h45 h46 h47 h48 h49 h50 h51 h52
        exfalso; omega
      | succ n32 ih32 =>
        intro σ43 y41 y42 h44 h45 h46 h47 h48 h49 h50 h51 h52
        refine En_Ps 2 (pc' := 35) (lv' := [(0, .ref 159), (1, .int a), (2, .int b), (3, .int z15), (4, .int y41), (5, .int y42)]) (st' := [.ref 159, .int y42]) rfl ?_
        refine En_getI (j := 18) (l := 0) (u := 81) rfl rfl rfl (by decide +kernel : TG 159 = 35) (by decide +kernel) h44 (by decide +kernel) (fun z54 h53 h55 h56 => ?_)
        refine En_icGe _ rfl rfl rfl (fun h57 => ?_) (fun h57 => ?_)
        · refine En_Ps 1 (pc' := 92) (lv' := [(0, .ref 159), (1, .int a), (2, .int b), (3, .int z15), (4, .int y41), (5, .int y42)]) (st' := [.int y41]) rfl ?_
          exact En_ret (v := some (.int y41)) rfl rfl rfl ⟨h44, h45, y41, rfl, (by omega)⟩
        · refine En_Ps 3 (pc' := 44) (lv' := [(0, .ref 159), (1, .int a), (2, .int b), (3, .int z15), (4, .int y41), (5, .int y42)]) (st' := [.ref 159, .int a, .ref 159]) rfl ?_
          refine En_getU (j := 17) (u := 168) (g' := 44) (q := 0) rfl rfl rfl (by decide +kernel : TG 159 = 35) (by decide +kernel) h44 (by decide +kernel) (by decide +kernel) (fun h58 => ?_)
          refine En_Ps 1 (pc' := 49) (lv' := [(0, .ref 159), (1, .int a), (2, .int b), (3, .int z15), (4, .int y41), (5, .int y42)]) (st' := [.int y42, .ref 168, .int a, .ref 159]) rfl ?_
          refine En_iald (l := (-2147483648)) (u := 2147483647) rfl rfl (by decide +kernel : TG 168 = 44) (by decide +kernel) h44 (by omega) (lnI (by decide +kernel : LN _ = 81) (by omega)) (FTsgl (by decide +kernel)) (fun z61 h60 h62 h63 => ?_)
          refine En_callV rfl rfl rfl rfl rfl rfl rfl rfl (by decide +kernel : TG 159 = 35) (by decide +kernel) rfl (c_218 σ43 h44 a z61 (geI rfl (by omega)) (leI rfl (by omega))) (by decide) (by decide) (fun v65 σ66 h64 => ?_)
          obtain ⟨h67, h68, z70, rfl, h69⟩ := h64
          have h71 := Fr_trans h45 h68 (by decide +kernel)
          refine En_iEq _ rfl rfl (fun h72 => ?_) (fun h72 => ?_)
          · refine En_Ps 1 (pc' := 87) (lv' := [(5, .int ((y42 + Int32.ofInt 1))), (0, .ref 159), (1, .int a), (2, .int b), (3, .int z15), (4, .int y41)]) (st' := []) rfl ?_
            refine En_lv1 (addI rfl (by decide : (Int32.ofInt 1).toInt = 1) (by omega) (by omega)) (fun z73 h74 => ?_)
            refine En_Ps 1 (pc' := 32) (lv' := [(5, .int z73), (0, .ref 159), (1, .int a), (2, .int b), (3, .int z15), (4, .int y41)]) (st' := []) rfl ?_
            refine En_lv (lv := [(0, .ref 159), (1, .int a), (2, .int b), (3, .int z15), (4, .int y41), (5, .int z73)]) ⟨rfl, rfl, rfl, rfl, rfl, rfl, trivial⟩ ?_
            exact ih32 σ66 y41 z73 h67 h71 ((h68 _ _ (inWa (by decide +kernel : TG 160 = 36) (by decide +kernel))).trans h46) ((h68 _ _ (inWa (by decide +kernel : TG 160 = 36) (by decide +kernel))).trans h47) (by omega) (by omega) (by omega) (by omega) (by omega)
          · refine En_Ps 2 (pc' := 59) (lv' := [(0, .ref 159), (1, .int a), (2, .int b), (3, .int z15), (4, .int y41), (5, .int y42)]) (st' := [.int b, .int y41]) rfl ?_
            refine En_iNe _ rfl rfl (fun h75 => ?_) (fun h75 => ?_)
            · refine En_Ps 1 (pc' := 73) (lv' := [(0, .ref 159), (1, .int a), (2, .int b), (3, .int z15), (4, .int y41), (5, .int y42)]) (st' := [.ref 159, .int y41]) rfl ?_
              refine En_getK (j := 17) ((h68 _ _ (inW (by decide +kernel : TG 159 = 35) (by decide +kernel))).trans h58) rfl rfl rfl (by decide +kernel : TG 159 = 35) (by decide +kernel) ?_
              refine En_Ps 1 (pc' := 78) (lv' := [(0, .ref 159), (1, .int a), (2, .int b), (3, .int z15), (4, .int y41), (5, .int y42)]) (st' := [.int y42, .ref 168, .int y41]) rfl ?_
              refine En_ialdK ((h68 _ _ (inWa (by decide +kernel : TG 168 = 44) (by decide +kernel))).trans h60) rfl rfl (by decide +kernel : TG 168 = 44) (by decide +kernel) h67 (by omega) (lnI (by decide +kernel : LN _ = 81) (by omega)) ?_
              refine En_Ps 2 (pc' := 81) (lv' := [(0, .ref 159), (1, .int a), (2, .int b), (3, .int z15), (4, .int y41), (5, .int y42)]) (st' := [.int ((z61 ^^^ ((Int32.ofInt (-1))))), .int y41]) rfl ?_
              refine En_nam (fun z77 h78 => ?_)
              refine En_Ps 1 (pc' := 82) (lv' := [(0, .ref 159), (1, .int a), (2, .int b), (3, .int z15), (4, .int y41), (5, .int y42)]) (st' := [.int ((y41 &&& z77))]) rfl ?_
              refine En_nam (fun z79 h80 => ?_)
              obtain ⟨h81, h82⟩ := andn_rng h80 rfl (by omega) (by omega : _ ≤ (65535 : Int))
              refine En_Ps 2 (pc' := 87) (lv' := [(5, .int ((y42 + Int32.ofInt 1))), (4, .int z79), (0, .ref 159), (1, .int a), (2, .int b), (3, .int z15)]) (st' := []) rfl ?_
              refine En_lv1 (addI rfl (by decide : (Int32.ofInt 1).toInt = 1) (by omega) (by omega)) (fun z83 h84 => ?_)
              refine En_Ps 1 (pc' := 32) (lv' := [(5, .int z83), (4, .int z79), (0, .ref 159), (1, .int a), (2, .int b), (3, .int z15)]) (st' := []) rfl ?_
              refine En_lv (lv := [(0, .ref 159), (1, .int a), (2, .int b), (3, .int z15), (4, .int z79), (5, .int z83)]) ⟨rfl, rfl, rfl, rfl, rfl, rfl, trivial⟩ ?_
              exact ih32 σ66 z79 z83 h67 h71 ((h68 _ _ (inWa (by decide +kernel : TG 160 = 36) (by decide +kernel))).trans h46) ((h68 _ _ (inWa (by decide +kernel : TG 160 = 36) (by decide +kernel))).trans h47) (by omega) (by omega) (by omega) (by omega) (by omega)
            · refine En_Ps 1 (pc' := 63) (lv' := [(0, .ref 159), (1, .int a), (2, .int b), (3, .int z15), (4, .int y41), (5, .int y42)]) (st' := [.ref 159, .int y41]) rfl ?_
              refine En_getK (j := 17) ((h68 _ _ (inW (by decide +kernel : TG 159 = 35) (by decide +kernel))).trans h58) rfl rfl rfl (by decide +kernel : TG 159 = 35) (by decide +kernel) ?_
              refine En_Ps 1 (pc' := 68) (lv' := [(0, .ref 159), (1, .int a), (2, .int b), (3, .int z15), (4, .int y41), (5, .int y42)]) (st' := [.int y42, .ref 168, .int y41]) rfl ?_
              refine En_ialdK ((h68 _ _ (inWa (by decide +kernel : TG 168 = 44) (by decide +kernel))).trans h60) rfl rfl (by decide +kernel : TG 168 = 44) (by decide +kernel) h67 (by omega) (lnI (by decide +kernel : LN _ = 81) (by omega)) ?_
              refine En_Ps 2 (pc' := 82) (lv' := [(0, .ref 159), (1, .int a), (2, .int b), (3, .int z15), (4, .int y41), (5, .int y42)]) (st' := [.int ((y41 &&& z61))]) rfl ?_
              refine En_rng (l := 0) (u := 65535) (andx_rng rfl (by omega) (by omega)) (fun z86 h87 h88 => ?_)
              refine En_Ps 2 (pc' := 87) (lv' := [(5, .int ((y42 + Int32.ofInt 1))), (4, .int z86), (0, .ref 159), (1, .int a), (2, .int b), (3, .int z15)]) (st' := []) rfl ?_
              refine En_lv1 (addI rfl (by decide : (Int32.ofInt 1).toInt = 1) (by omega) (by omega)) (fun z89 h90 => ?_)
              refine En_Ps 1 (pc' := 32) (lv' := [(5, .int z89), (4, .int z86), (0, .ref 159), (1, .int a), (2, .int b), (3, .int z15)]) (st' := []) rfl ?_
              refine En_lv (lv := [(0, .ref 159), (1, .int a), (2, .int b), (3, .int z15), (4, .int z86), (5, .int z89)]) ⟨rfl, rfl, rfl, rfl, rfl, rfl, trivial⟩ ?_
              exact ih32 σ66 z86 z89 h67 h71 ((h68 _ _ (inWa (by decide +kernel : TG 160 = 36) (by decide +kernel))).trans h46) ((h68 _ _ (inWa (by decide +kernel : TG 160 = 36) (by decide +kernel))).trans h47) (by omega) (by omega) (by omega) (by omega) (by omega)
    have := (by decide : (Int32.ofInt 0).toInt = 0)
    refine En_lv (lv := [(0, .ref 159), (1, .int a), (2, .int b), (3, .int z15), (4, .int z39), (5, .int ((Int32.ofInt 0)))]) ⟨rfl, rfl, rfl, rfl, rfl, rfl, trivial⟩ ?_
    exact key32 (Int.toNat (81) + 1) σ35 z39 ((Int32.ofInt 0)) h36 h40 ((h37 _ _ (inWa (by decide +kernel : TG 160 = 36) (by decide +kernel))).trans ((h30 _ _ (inWa (by decide +kernel : TG 160 = 36) (by decide +kernel))).trans h18)) ((h37 _ _ (inWa (by decide +kernel : TG 160 = 36) (by decide +kernel))).trans ((h30 _ _ (inWa (by decide +kernel : TG 160 = 36) (by decide +kernel))).trans h22)) (by omega) (by omega) (by omega) (by omega) (by omega)
  · refine En_Ps 1 (pc' := 18) (lv' := [(3, .int z15), (0, .ref 159), (1, .int a), (2, .int b)]) (st' := [.int z15]) rfl ?_
    exact En_ret (v := some (.int z15)) rfl rfl rfl ⟨h12, h16, z15, rfl, (by omega)⟩
/-- DoorSchoolModel.teacher()I -/
abbrev P_322 (σ0 : SG) : PO := fun v σ => WT σ ∧ Fr [(49, 0), (50, 0)] σ0 σ ∧ ∃ ret : Int32, v = some (.int ret) ∧ -ret.toInt - 1000000 ≤ 0 ∧ ret.toInt - 1000000 ≤ 0
set_option maxRecDepth 10000 in
set_option maxHeartbeats 4000000 in
theorem c_322 (σ0 : SG) (hσ0 : WT σ0) (hT : TPOS σ0) : En 5 122 none mr_322 (P_322 σ0) 0 [(0, .ref 159)] [] σ0 := by
  have hF0 : Fr [(49, 0), (50, 0)] σ0 σ0 := Fr_rfl
  refine En_Ps 1 (pc' := 1) (lv' := [(0, .ref 159)]) (st' := [.ref 159]) rfl ?_
  obtain ⟨z2, h1, h3, h4⟩ := WT_peekI hσ0 (by decide +kernel : TG 160 = 36) (by decide +kernel : FT 36 (7 : Int).toNat = (0, 0, 1600)) (by decide +kernel)
  refine En_callV rfl rfl rfl rfl rfl rfl rfl rfl (by decide +kernel : TG 159 = 35) (by decide +kernel) rfl (c_264 σ0 hσ0 z2 h1) (by decide) (by decide) (fun v6 σ7 h5 => ?_)
  obtain ⟨h8, h9, z11, rfl, h10⟩ := h5
  obtain rfl : σ0 = σ7 := Fr_nil h9
  refine En_iEq _ rfl rfl (fun h12 => ?_) (fun h12 => ?_)
  · refine En_Ps 1 (pc' := 37) (lv' := [(0, .ref 159)]) (st' := [.int (((Int8.ofInt (-2)).toInt32))]) rfl ?_
    refine En_top (by decide : ((Int8.ofInt (-2)).toInt32).toInt = -2) (fun z13 h14 => ?_)
    exact En_ret (v := some (.int z13)) rfl rfl rfl ⟨hσ0, hF0, z13, rfl, (by omega)⟩
  · refine En_Ps 3 (pc' := 10) (lv' := [(0, .ref 159)]) (st' := [.ref 159, .int ((Int32.ofInt 0)), .ref 159]) rfl ?_
    refine En_getU (j := 1) (u := 160) (g' := 36) (q := 0) rfl rfl rfl (by decide +kernel : TG 159 = 35) (by decide +kernel) hσ0 (by decide +kernel) (by decide +kernel) (fun h15 => ?_)
    refine En_Ps 1 (pc' := 14) (lv' := [(0, .ref 159)]) (st' := [.int ((Int32.ofInt 1)), .ref 160, .int ((Int32.ofInt 0)), .ref 159]) rfl ?_
    refine En_iald (l := 0) (u := 3) rfl (by decide : (Int32.ofInt 1).toInt = 1) (by decide +kernel : TG 160 = 36) (by decide +kernel) hσ0 (by omega) (lnI (by decide +kernel : LN _ = 226) (by omega)) (by decide +kernel) (fun z18 h17 h19 h20 => ?_)
    have h21 : 1 ≤ z18.toInt := by have e1 := ci_at h17 (rfl : (1 : Int) = 1); have e7 := ci_at h1 (rfl : (7 : Int) = 7); have e := hT (Or.inr (by omega)); omega
    have := (by decide : ((Int32.ofInt 0)).toInt = 0)
    refine En_callV rfl rfl rfl rfl rfl rfl rfl rfl (by decide +kernel : TG 159 = 35) (by decide +kernel) rfl (c_277 σ0 hσ0 ((Int32.ofInt 0)) z18 (geI (by decide : (Int32.ofInt 0).toInt = 0) (by omega)) (leI (by decide : (Int32.ofInt 0).toInt = 0) (by omega)) (geI rfl (by omega)) (leI rfl (by omega)) (by have := n6 hσ0; omega)) (by decide) (by decide) (fun v23 σ24 h22 => ?_)
    obtain ⟨h25, h26, z28, rfl, h27⟩ := h22
    have h29 := h27.2.2
    have h30 := Fr_trans hF0 h26 (by decide +kernel)
    refine En_Ps 3 (pc' := 21) (lv' := [(0, .ref 159)]) (st' := [.ref 159, .int ((Int32.ofInt 0)), .ref 159, .int z28]) rfl ?_
    refine En_getK (j := 1) ((h26 _ _ (inW (by decide +kernel : TG 159 = 35) (by decide +kernel))).trans h15) rfl rfl rfl (by decide +kernel : TG 159 = 35) (by decide +kernel) ?_
    refine En_Ps 1 (pc' := 25) (lv' := [(0, .ref 159)]) (st' := [.int ((Int32.ofInt 1)), .ref 160, .int ((Int32.ofInt 0)), .ref 159, .int z28]) rfl ?_
    refine En_ialdK ((h26 _ _ (inWa (by decide +kernel : TG 160 = 36) (by decide +kernel))).trans h17) rfl (by decide : (Int32.ofInt 1).toInt = 1) (by decide +kernel : TG 160 = 36) (by decide +kernel) h25 (by omega) (lnI (by decide +kernel : LN _ = 226) (by omega)) ?_
    refine En_Ps 2 (pc' := 28) (lv' := [(0, .ref 159)]) (st' := [.int ((z18 + ((Int32.ofInt 1)))), .int ((Int32.ofInt 0)), .ref 159, .int z28]) rfl ?_
    refine En_top (addI rfl (by decide : (Int32.ofInt 1).toInt = 1) (by omega) (by omega)) (fun z32 h33 => ?_)
    have := (by decide : ((Int32.ofInt 0)).toInt = 0)
    refine En_callV rfl rfl rfl rfl rfl rfl rfl rfl (by decide +kernel : TG 159 = 35) (by decide +kernel) rfl (c_277 σ24 h25 ((Int32.ofInt 0)) z32 (geI (by decide : (Int32.ofInt 0).toInt = 0) (by omega)) (leI (by decide : (Int32.ofInt 0).toInt = 0) (by omega)) (geI rfl (by omega)) (leI rfl (by omega)) (by have := n6 h25; omega)) (by decide) (by decide) (fun v35 σ36 h34 => ?_)
    obtain ⟨h37, h38, z40, rfl, h39⟩ := h34
    have h41 := h39.2.2
    have h42 := Fr_trans h30 h38 (by decide +kernel)
    refine En_Ps 1 (pc' := 32) (lv' := [(0, .ref 159)]) (st' := [.int ((z28 - z40))]) rfl ?_
    refine En_top (subI rfl rfl (by omega) (by omega)) (fun z43 h44 => ?_)
    refine En_Ps 1 (pc' := 37) (lv' := [(0, .ref 159)]) (st' := [.int z43]) rfl ?_
    exact En_ret (v := some (.int z43)) rfl rfl rfl ⟨h37, h42, z43, rfl, (by omega)⟩
