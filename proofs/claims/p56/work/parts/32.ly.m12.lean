/-- DoorSchoolModel.help(I)I -/
abbrev P_243 (σ0 : SG) (a : Int32) : PO := fun v σ => WT σ ∧ Fr [(35, 18), (35, 21), (42, 0), (43, 0), (44, 0), (45, 0), (46, 0)] σ0 σ ∧ ∃ ret : Int32, v = some (.int ret) ∧ -ret.toInt - 2 ≤ 0 ∧ ret.toInt - 49 ≤ 0
set_option maxRecDepth 10000 in
set_option maxHeartbeats 4000000 in
theorem c_243 (σ0 : SG) (hσ0 : WT σ0) (a : Int32) : En 6 136 none mr_243 (P_243 σ0 a) 0 [(0, .ref 159), (1, .int a)] [] σ0 := by
  have hF0 : Fr [(35, 18), (35, 21), (42, 0), (43, 0), (44, 0), (45, 0), (46, 0)] σ0 σ0 := Fr_rfl
  refine En_Ps 2 (pc' := 2) (lv' := [(0, .ref 159), (1, .int a)]) (st' := [.int a, .ref 159]) rfl ?_
  obtain ⟨z2, h1, h3, h4⟩ := WT_peekI hσ0 tgz_160 (by decide +kernel : FT 36 (2 : Int).toNat = (0, 0, 4)) (by decide +kernel)
  refine En_callV rfl rfl rfl rfl rfl rfl rfl rfl tgz_159 (by decide +kernel) rfl (c_254 σ0 hσ0 a z2 h1) (by decide) (by decide) (fun v6 σ7 h5 => ?_)
  obtain ⟨h8, h9, z11, rfl, h10⟩ := h5
  have h12 := Fr_trans hF0 h9 (by decide +kernel)
  refine En_iNe _ rfl rfl (fun h13 => ?_) (fun h13 => ?_)
  · refine En_Ps 3 (pc' := 14) (lv' := [(0, .ref 159), (1, .int a)]) (st' := [.int a, .ref 159, .ref 159]) rfl ?_
    refine En_callV rfl rfl rfl rfl rfl rfl rfl rfl tgz_159 (by decide +kernel) rfl (c_213 σ7 h8 a (geI rfl (by omega)) (leI rfl (by omega))) (by decide) (by decide) (fun v15 σ16 h14 => ?_)
    obtain ⟨h17, h18, z20, h21, z22, rfl, h19⟩ := h14
    have h23 := Fr_trans h12 h18 (by decide +kernel)
    refine En_callV rfl rfl rfl rfl rfl rfl rfl rfl tgz_159 (by decide +kernel) rfl (c_283 σ16 h17 z22) (by decide) (by decide) (fun v25 σ26 h24 => ?_)
    obtain ⟨h27, h28, z30, rfl, h29⟩ := h24
    have h31 := Fr_trans h23 h28 (by decide +kernel)
    refine En_Ps 5 (pc' := 26) (lv' := [(4, .int ((Int32.ofInt 0))), (3, .int ((Int32.ofInt (-1)))), (2, .int z30), (0, .ref 159), (1, .int a)]) (st' := []) rfl ?_
    have key26 : ∀ (n26 : Nat) (σ35 : SG) (y32 : Int32) (y33 : Int32) (y34 : Int32), WT σ35 → Fr [(35, 18), (35, 21), (42, 0), (43, 0), (44, 0), (45, 0), (46, 0)] σ0 σ35 → (σ35 160)[(2 : Int).toNat]? = some (.int z2) → 0 ≤ y32.toInt → y32.toInt ≤ 13 → (-1) ≤ y33.toInt → y33.toInt ≤ 50 → 0 ≤ y34.toInt → y34.toInt ≤ 50 → y33.toInt - y34.toInt + 1 ≤ 0 → -y34.toInt + 50 < (n26 : Int) → En 6 136 none mr_243 (P_243 σ0 a) 26 [(0, .ref 159), (1, .int a), (2, .int y32), (3, .int y33), (4, .int y34)] [] σ35 := by
      intro n26
      induction n26 with
      | zero =>
        intro σ35 y32 y33 y34 h36 h37 h38 h39 h40 h41 h42 h43 h44 h45 h46
        first | exact (q_0f6934dca7 h46 h44).elim | (exfalso; omega)
      | succ n26 ih26 =>
        intro σ35 y32 y33 y34 h36 h37 h38 h39 h40 h41 h42 h43 h44 h45 h46
        refine En_Ps 3 (pc' := 30) (lv' := [(0, .ref 159), (1, .int a), (2, .int y32), (3, .int y33), (4, .int y34)]) (st' := [.ref 159, .int ((Int32.ofInt 2)), .int y34]) rfl ?_
        obtain ⟨z48, h47, h49, h50⟩ := WT_peekI h36 tgz_160 (by decide +kernel : FT 36 (0 : Int).toNat = (0, 0, 4)) (by decide +kernel)
        obtain ⟨z52, h51, h53, h54⟩ := WT_peekI h36 tgz_160 (by decide +kernel : FT 36 (7 : Int).toNat = (0, 0, 1600)) (by decide +kernel)
        refine En_callV rfl rfl rfl rfl rfl rfl rfl rfl tgz_159 (by decide +kernel) rfl (c_269 σ35 h36 z48 h47 z52 h51) (by decide) (by decide) (fun v56 σ57 h55 => ?_)
        obtain ⟨h58, h59, z61, rfl, h60⟩ := h55
        have h62 := h60.2.2
        have h63 := Fr_trans h37 h59 (by decide +kernel)
        refine En_Ps 1 (pc' := 34) (lv' := [(0, .ref 159), (1, .int a), (2, .int y32), (3, .int y33), (4, .int y34)]) (st' := [.int ((((Int32.ofInt 2)) * z61)), .int y34]) rfl ?_
        refine En_top (mulI (by decide : (Int32.ofInt 2).toInt = 2) rfl (Z := 2 * z61.toInt) (by first | exact q_9c4c04fc55 | omega) (by first | exact q_36fa9d12a7 h60.1 | omega) (by first | exact q_9941f753b9 h60.2.1 | omega)) (fun z64 h65 => ?_)
        refine En_icGe _ rfl rfl rfl (fun h66 => ?_) (fun h66 => ?_)
        · refine En_Ps 1 (pc' := 78) (lv' := [(0, .ref 159), (1, .int a), (2, .int y32), (3, .int y33), (4, .int y34)]) (st' := [.int y33]) rfl ?_
          exact En_ret (v := some (.int y33)) rfl rfl rfl ⟨h58, h63, y33, rfl, ⟨by first | exact q_fe58cd40d0 h41 | omega, by first | exact q_61cf7f4980 h45 h44 | omega⟩⟩
        · refine En_Ps 5 (pc' := 43) (lv' := [(0, .ref 159), (1, .int a), (2, .int y32), (3, .int y33), (4, .int y34)]) (st' := [.int ((Int32.ofInt 2)), .int y34, .int a, .ref 159, .ref 159]) rfl ?_
          refine En_idiv (c := 2) rfl rfl (by decide : (Int32.ofInt 2).toInt = 2) (by omega) (by decide) (fun z67 h68 => ?_)
          refine En_Ps 2 (pc' := 47) (lv' := [(0, .ref 159), (1, .int a), (2, .int y32), (3, .int y33), (4, .int y34)]) (st' := [.int ((Int32.ofInt 2)), .int y34, .int z67, .int a, .ref 159, .ref 159]) rfl ?_
          refine En_irem (c := 2) rfl rfl (by decide : (Int32.ofInt 2).toInt = 2) (by omega) (by decide) (fun z69 h70 => ?_)
          refine En_callV rfl rfl rfl rfl rfl rfl rfl rfl tgz_159 (by decide +kernel) rfl (c_214 σ57 h58 a z67 z69 (geI rfl (by omega)) (leI rfl (by omega)) (geI rfl (by first | exact q_5ea82835eb h68 h43 | omega)) (leI rfl (by first | exact q_346e83b918 h68 h66 h65 h60.2.1 | omega)) (geI rfl (by first | exact q_dafedd1c83 h70 | omega)) (leI rfl (by first | exact q_3228505f2f h70 | omega))) (by decide) (by decide) (fun v72 σ73 h71 => ?_)
          obtain ⟨h74, h75, z77, rfl, h76⟩ := h71
          have h78 := Fr_trans h63 h75 (by decide +kernel)
          refine En_callV rfl rfl rfl rfl rfl rfl rfl rfl tgz_159 (by decide +kernel) rfl (c_283 σ73 h74 z77) (by decide) (by decide) (fun v80 σ81 h79 => ?_)
          obtain ⟨h82, h83, z85, rfl, h84⟩ := h79
          have h86 := Fr_trans h78 h83 (by decide +kernel)
          refine En_Ps 3 (pc' := 59) (lv' := [(5, .int z85), (0, .ref 159), (1, .int a), (2, .int y32), (3, .int y33), (4, .int y34)]) (st' := [.int y32, .int z85]) rfl ?_
          refine En_icGt _ rfl rfl rfl (fun h87 => ?_) (fun h87 => ?_)
          · refine En_Ps 5 (pc' := 74) (lv' := [(4, .int ((y34 + Int32.ofInt 1))), (3, .int y34), (2, .int z85), (5, .int z85), (0, .ref 159), (1, .int a)]) (st' := []) rfl ?_
            refine En_lv1 (addI rfl (by decide : (Int32.ofInt 1).toInt = 1) (by first | exact q_465ab79ac1 h43 | omega) (by first | exact q_c4feee4d2e h44 | omega)) (fun z88 h89 => ?_)
            refine En_Ps 1 (pc' := 26) (lv' := [(4, .int z88), (3, .int y34), (2, .int z85), (5, .int z85), (0, .ref 159), (1, .int a)]) (st' := []) rfl ?_
            refine En_lv (lv := [(0, .ref 159), (1, .int a), (2, .int z85), (3, .int y34), (4, .int z88)]) ⟨rfl, rfl, rfl, rfl, rfl, trivial⟩ ?_
            exact ih26 σ81 z85 y34 z88 h82 h86 ((h83 _ _ (inWa tgz_160 (by decide +kernel))).trans ((h75 _ _ (inWa tgz_160 (by decide +kernel))).trans ((h59 _ _ (inWa tgz_160 (by decide +kernel))).trans h38))) (by first | exact q_ef1e8e38bf h84.1 | omega) (by first | exact q_41996583c2 h84.2 | omega) (by first | exact q_5b439548fc h43 | omega) (by first | exact q_2eaa18fab1 h44 | omega) (by first | exact q_35104ce9d3 h89 h43 | omega) (by first | exact q_7ba38ea167 h89 h66 h65 h60.2.1 | omega) (by first | exact q_2fedec469a h89 | omega) (by first | exact q_fc5bfd9d02 h89 h46 | omega)
          · refine En_Ps 2 (pc' := 74) (lv' := [(4, .int ((y34 + Int32.ofInt 1))), (5, .int z85), (0, .ref 159), (1, .int a), (2, .int y32), (3, .int y33)]) (st' := []) rfl ?_
            refine En_lv1 (addI rfl (by decide : (Int32.ofInt 1).toInt = 1) (by first | exact q_465ab79ac1 h43 | omega) (by first | exact q_c4feee4d2e h44 | omega)) (fun z90 h91 => ?_)
            refine En_Ps 1 (pc' := 26) (lv' := [(4, .int z90), (5, .int z85), (0, .ref 159), (1, .int a), (2, .int y32), (3, .int y33)]) (st' := []) rfl ?_
            refine En_lv (lv := [(0, .ref 159), (1, .int a), (2, .int y32), (3, .int y33), (4, .int z90)]) ⟨rfl, rfl, rfl, rfl, rfl, trivial⟩ ?_
            exact ih26 σ81 y32 y33 z90 h82 h86 ((h83 _ _ (inWa tgz_160 (by decide +kernel))).trans ((h75 _ _ (inWa tgz_160 (by decide +kernel))).trans ((h59 _ _ (inWa tgz_160 (by decide +kernel))).trans h38))) (by first | exact q_58e6e51dcc h39 | omega) (by first | exact q_7991346fe8 h40 | omega) (by first | exact q_77b189e83d h41 | omega) (by first | exact q_2eaa18fab1 h42 | omega) (by first | exact q_35104ce9d3 h91 h43 | omega) (by first | exact q_7ba38ea167 h91 h66 h65 h60.2.1 | omega) (by first | exact q_6591527e3e h45 h91 | omega) (by first | exact q_fc5bfd9d02 h91 h46 | omega)
    have := (by decide : (Int32.ofInt (-1)).toInt = -1)
    have := (by decide : (Int32.ofInt 0).toInt = 0)
    refine En_lv (lv := [(0, .ref 159), (1, .int a), (2, .int z30), (3, .int ((Int32.ofInt (-1)))), (4, .int ((Int32.ofInt 0)))]) ⟨rfl, rfl, rfl, rfl, rfl, trivial⟩ ?_
    exact key26 (Int.toNat (50) + 1) σ26 z30 ((Int32.ofInt (-1))) ((Int32.ofInt 0)) h27 h31 ((h28 _ _ (inWa tgz_160 (by decide +kernel))).trans ((h18 _ _ (inWa tgz_160 (by decide +kernel))).trans ((h9 _ _ (inWa tgz_160 (by decide +kernel))).trans h1))) (by first | exact q_ef1e8e38bf h29.1 | omega) (by first | exact q_41996583c2 h29.2 | omega) (by decide) (by decide) (by decide) (by decide) (by omega) (by first | exact toN_lt _ | omega)
  · refine En_Ps 1 (pc' := 10) (lv' := [(0, .ref 159), (1, .int a)]) (st' := [.int (((Int8.ofInt (-2)).toInt32))]) rfl ?_
    refine En_top (by decide : ((Int8.ofInt (-2)).toInt32).toInt = -2) (fun z92 h93 => ?_)
    exact En_ret (v := some (.int z92)) rfl rfl rfl ⟨h8, h12, z92, rfl, ⟨by first | exact q_f35c5d346c h93 | omega, by first | exact q_2e1fc29cd6 h93 | omega⟩⟩
/-- DoorSchoolModel.hours()I -/
abbrev P_244 (σ0 : SG) : PO := fun v σ => WT σ ∧ Fr [(49, 0), (50, 0)] σ0 σ ∧ ∃ ret : Int32, v = some (.int ret) ∧ -ret.toInt - 2 ≤ 0 ∧ ret.toInt - 1000000 ≤ 0
set_option maxRecDepth 10000 in
set_option maxHeartbeats 4000000 in
theorem c_244 (σ0 : SG) (hσ0 : WT σ0) (hT : TPOS σ0) : En 5 122 none mr_244 (P_244 σ0) 0 [(0, .ref 159)] [] σ0 := by
  have hF0 : Fr [(49, 0), (50, 0)] σ0 σ0 := Fr_rfl
  refine En_Ps 1 (pc' := 1) (lv' := [(0, .ref 159)]) (st' := [.ref 159]) rfl ?_
  obtain ⟨z2, h1, h3, h4⟩ := WT_peekI hσ0 tgz_160 (by decide +kernel : FT 36 (7 : Int).toNat = (0, 0, 1600)) (by decide +kernel)
  refine En_callV rfl rfl rfl rfl rfl rfl rfl rfl tgz_159 (by decide +kernel) rfl (c_264 σ0 hσ0 z2 h1) (by decide) (by decide) (fun v6 σ7 h5 => ?_)
  obtain ⟨h8, h9, z11, rfl, h10⟩ := h5
  obtain rfl : σ0 = σ7 := Fr_nil h9
  refine En_iEq _ rfl rfl (fun h12 => ?_) (fun h12 => ?_)
  · refine En_Ps 1 (pc' := 23) (lv' := [(0, .ref 159)]) (st' := [.int (((Int8.ofInt (-2)).toInt32))]) rfl ?_
    refine En_top (by decide : ((Int8.ofInt (-2)).toInt32).toInt = -2) (fun z13 h14 => ?_)
    exact En_ret (v := some (.int z13)) rfl rfl rfl ⟨hσ0, hF0, z13, rfl, ⟨by first | exact q_f35c5d346c h14 | omega, by first | exact q_ec7b2e0fd8 h14 | omega⟩⟩
  · refine En_Ps 3 (pc' := 10) (lv' := [(0, .ref 159)]) (st' := [.ref 159, .int ((Int32.ofInt 0)), .ref 159]) rfl ?_
    refine En_getU (j := 1) (u := 160) (g' := 36) (q := 0) rfl rfl rfl tgz_159 (by decide +kernel) hσ0 (by decide +kernel) (by decide +kernel) (fun h15 => ?_)
    refine En_Ps 1 (pc' := 14) (lv' := [(0, .ref 159)]) (st' := [.int ((Int32.ofInt 1)), .ref 160, .int ((Int32.ofInt 0)), .ref 159]) rfl ?_
    refine En_iald (l := 0) (u := 3) rfl (by decide : (Int32.ofInt 1).toInt = 1) tgz_160 (by decide +kernel) hσ0 (by decide) (lnI (by decide +kernel : LN _ = 226) (by decide)) (by decide +kernel) (fun z18 h17 h19 h20 => ?_)
    have h21 : 1 ≤ z18.toInt := by have e1 := ci_at h17 (rfl : (1 : Int) = 1); have e7 := ci_at h1 (rfl : (7 : Int) = 7); have e := hT (Or.inr (by omega)); omega
    have := (by decide : ((Int32.ofInt 0)).toInt = 0)
    refine En_callV rfl rfl rfl rfl rfl rfl rfl rfl tgz_159 (by decide +kernel) rfl (c_277 σ0 hσ0 ((Int32.ofInt 0)) z18 (geI (by decide : (Int32.ofInt 0).toInt = 0) (by decide)) (leI (by decide : (Int32.ofInt 0).toInt = 0) (by decide)) (geI rfl (by omega)) (leI rfl (by first | exact q_571ae29550 h20 | omega)) (by have := n6 hσ0; omega)) (by decide) (by decide) (fun v23 σ24 h22 => ?_)
    obtain ⟨h25, h26, z28, rfl, h27⟩ := h22
    have h29 := h27.2.2
    have h30 := Fr_trans hF0 h26 (by decide +kernel)
    refine En_Ps 1 (pc' := 23) (lv' := [(0, .ref 159)]) (st' := [.int z28]) rfl ?_
    exact En_ret (v := some (.int z28)) rfl rfl rfl ⟨h25, h30, z28, rfl, ⟨by first | exact q_70a249c7f8 h27.1 | omega, by first | exact q_1c284fde89 h27.2.1 | omega⟩⟩
/-- DoorSchoolModel.house(II)I -/
abbrev P_245 (σ0 : SG) (a : Int32) (b : Int32) : PO := fun v σ => WT σ ∧ Fr [] σ0 σ ∧ ∃ ret : Int32, v = some (.int ret) ∧ True
set_option maxRecDepth 10000 in
set_option maxHeartbeats 4000000 in
theorem c_245 (σ0 : SG) (hσ0 : WT σ0) (a : Int32) (b : Int32) : En 3 64 none mr_245 (P_245 σ0 a b) 0 [(0, .ref 159), (1, .int a), (2, .int b)] [] σ0 := by
  have hF0 : Fr [] σ0 σ0 := Fr_rfl
  refine En_Ps 1 (pc' := 1) (lv' := [(0, .ref 159), (1, .int a), (2, .int b)]) (st' := [.ref 159]) rfl ?_
  obtain ⟨z2, h1, h3, h4⟩ := WT_peekI hσ0 tgz_160 (by decide +kernel : FT 36 (7 : Int).toNat = (0, 0, 1600)) (by decide +kernel)
  refine En_callV rfl rfl rfl rfl rfl rfl rfl rfl tgz_159 (by decide +kernel) rfl (c_264 σ0 hσ0 z2 h1) (by decide) (by decide) (fun v6 σ7 h5 => ?_)
  obtain ⟨h8, h9, z11, rfl, h10⟩ := h5
  have h12 := Fr_trans hF0 h9 (by decide +kernel)
  refine En_iEq _ rfl rfl (fun h13 => ?_) (fun h13 => ?_)
  · refine En_Ps 1 (pc' := 34) (lv' := [(0, .ref 159), (1, .int a), (2, .int b)]) (st' := [.int (((Int8.ofInt (-2)).toInt32))]) rfl ?_
    refine En_top (by decide : ((Int8.ofInt (-2)).toInt32).toInt = -2) (fun z14 h15 => ?_)
    exact En_ret (v := some (.int z14)) rfl rfl rfl ⟨h8, h12, z14, rfl, trivial⟩
  · refine En_Ps 2 (pc' := 9) (lv' := [(0, .ref 159), (1, .int a), (2, .int b)]) (st' := [.int ((Int32.ofInt (-1))), .int a]) rfl ?_
    refine En_icEq _ rfl (by decide : (Int32.ofInt (-1)).toInt = -1) rfl (fun h16 => ?_) (fun h16 => ?_)
    · refine En_Ps 4 (pc' := 26) (lv' := [(0, .ref 159), (1, .int a), (2, .int b)]) (st' := [.long ((2 : Int64)), .long ((Int64.ofNat 0)), .long b.toInt64]) rfl ?_
      have : b.toInt64.toInt = b.toInt := (i2lI rfl)
      have := (by decide : ((Int64.ofNat 0)).toInt = 0)
      have := (by decide : ((2 : Int64)).toInt = 2)
      refine En_callS rfl rfl rfl rfl rfl rfl rfl rfl rfl (c_249 σ7 h8 b.toInt64 ((Int64.ofNat 0)) ((2 : Int64))) (by decide) (by decide) (fun v18 σ19 h17 => ?_)
      obtain ⟨h20, h21, z23, rfl, h22⟩ := h17
      have h24 := Fr_trans h12 h21 (by decide +kernel)
      refine En_iNe _ rfl rfl (fun h25 => ?_) (fun h25 => ?_)
      · refine En_Ps 2 (pc' := 37) (lv' := [(0, .ref 159), (1, .int a), (2, .int b)]) (st' := [.int ((Int32.ofInt (-1))), .int a]) rfl ?_
        refine En_icNe _ rfl (by decide : (Int32.ofInt (-1)).toInt = -1) rfl (fun hx => by first | exact (q_9d3c087e80 hx h16).elim | (exfalso; omega)) (fun h26 => ?_)
        refine En_Ps 5 (pc' := 55) (lv' := [(3, .int (((Int8.ofInt 8).toInt32))), (0, .ref 159), (1, .int a), (2, .int b)]) (st' := [.int ((Int32.ofInt 2)), .int b]) rfl ?_
        refine En_icGe _ rfl (by decide : (Int32.ofInt 2).toInt = 2) rfl (fun h27 => ?_) (fun h27 => ?_)
        · refine En_Ps 2 (pc' := 71) (lv' := [(3, .int (((Int8.ofInt 8).toInt32))), (0, .ref 159), (1, .int a), (2, .int b)]) (st' := [.ref 159, .ref 159]) rfl ?_
          refine En_getU (j := 1) (u := 160) (g' := 36) (q := 0) rfl rfl rfl tgz_159 (by decide +kernel) h20 (by decide +kernel) (by decide +kernel) (fun h28 => ?_)
          refine En_Ps 1 (pc' := 75) (lv' := [(3, .int (((Int8.ofInt 8).toInt32))), (0, .ref 159), (1, .int a), (2, .int b)]) (st' := [.int (((Int8.ofInt 8).toInt32)), .ref 160, .ref 159]) rfl ?_
          refine En_iald (l := 0) (u := 15) rfl (by decide : ((Int8.ofInt 8).toInt32).toInt = 8) tgz_160 (by decide +kernel) h20 (by decide) (lnI (by decide +kernel : LN _ = 226) (by decide)) (by decide +kernel) (fun z31 h30 h32 h33 => ?_)
          refine En_Ps 1 (pc' := 77) (lv' := [(3, .int (((Int8.ofInt 8).toInt32))), (0, .ref 159), (1, .int a), (2, .int b)]) (st' := [.ref 159, .int z31, .ref 159]) rfl ?_
          refine En_getK (j := 1) h28 rfl rfl rfl tgz_159 (by decide +kernel) ?_
          refine En_Ps 3 (pc' := 83) (lv' := [(3, .int (((Int8.ofInt 8).toInt32))), (0, .ref 159), (1, .int a), (2, .int b)]) (st' := [.int (((((Int8.ofInt 8).toInt32)) + ((Int32.ofInt 1)))), .ref 160, .int z31, .ref 159]) rfl ?_
          refine En_top (addI (by decide : ((Int8.ofInt 8).toInt32).toInt = 8) (by decide : (Int32.ofInt 1).toInt = 1) (by decide) (by decide)) (fun z34 h35 => ?_)
          refine En_iald (l := 0) (u := 15) rfl rfl tgz_160 (by decide +kernel) h20 (by first | exact q_e810ca3f33 h35 | omega) (lnI (by decide +kernel : LN _ = 226) (by first | exact q_1887788718 h35 | omega)) (FTrow 36 9 1 1 (by decide +kernel) (by first | exact q_6d8f5396ba h35 | omega) (by first | exact q_c1d3cf08d0 h35 | omega) (by first | exact q_a62048a674 | omega)) (fun z37 h36 h38 h39 => ?_)
          refine En_callV rfl rfl rfl rfl rfl rfl rfl rfl tgz_159 (by decide +kernel) rfl (c_212 σ19 h20 z31 z37) (by decide) (by decide) (fun v41 σ42 h40 => ?_)
          obtain ⟨h43, h44, z46, rfl, h45⟩ := h40
          have h47 := Fr_trans h24 h44 (by decide +kernel)
          refine En_callS rfl rfl rfl rfl rfl rfl rfl rfl rfl (c_203b σ42 h43 z46) (by decide) (by decide) (fun v49 σ50 h48 => ?_)
          obtain ⟨h51, h52, z54, rfl, h53⟩ := h48
          have h55 := Fr_trans h47 h52 (by decide +kernel)
          exact En_ret (v := some (.int z54)) rfl rfl rfl ⟨h51, h55, z54, rfl, trivial⟩
        · refine En_Ps 1 (pc' := 59) (lv' := [(3, .int (((Int8.ofInt 8).toInt32))), (0, .ref 159), (1, .int a), (2, .int b)]) (st' := [.ref 159]) rfl ?_
          refine En_getU (j := 1) (u := 160) (g' := 36) (q := 0) rfl rfl rfl tgz_159 (by decide +kernel) h20 (by decide +kernel) (by decide +kernel) (fun h56 => ?_)
          refine En_Ps 3 (pc' := 65) (lv' := [(3, .int (((Int8.ofInt 8).toInt32))), (0, .ref 159), (1, .int a), (2, .int b)]) (st' := [.int (((((Int8.ofInt 8).toInt32)) + b)), .ref 160]) rfl ?_
          refine En_top (addI (by decide : ((Int8.ofInt 8).toInt32).toInt = 8) rfl (by omega) (by first | exact q_5dcc2bfcf0 h27 | omega)) (fun z58 h59 => ?_)
          refine En_iald (l := 0) (u := 15) rfl rfl tgz_160 (by decide +kernel) h20 (by omega) (lnI (by decide +kernel : LN _ = 226) (by first | exact q_d97e9f540b h59 h27 | omega)) (FTrow 36 8 1 2 (by decide +kernel) (by omega) (by first | exact q_d0029cda06 h59 h27 | omega) (by first | exact q_ca509d6b00 | omega)) (fun z61 h60 h62 h63 => ?_)
          refine En_Ps 1 (pc' := 90) (lv' := [(3, .int (((Int8.ofInt 8).toInt32))), (0, .ref 159), (1, .int a), (2, .int b)]) (st' := [.int z61]) rfl ?_
          exact En_ret (v := some (.int z61)) rfl rfl rfl ⟨h20, h24, z61, rfl, trivial⟩
      · refine En_Ps 1 (pc' := 34) (lv' := [(0, .ref 159), (1, .int a), (2, .int b)]) (st' := [.int (((Int8.ofInt (-2)).toInt32))]) rfl ?_
        refine En_top (by decide : ((Int8.ofInt (-2)).toInt32).toInt = -2) (fun z64 h65 => ?_)
        exact En_ret (v := some (.int z64)) rfl rfl rfl ⟨h20, h24, z64, rfl, trivial⟩
    · refine En_Ps 2 (pc' := 14) (lv' := [(0, .ref 159), (1, .int a), (2, .int b)]) (st' := [.int a, .ref 159]) rfl ?_
      refine En_callV rfl rfl rfl rfl rfl rfl rfl rfl tgz_159 (by decide +kernel) rfl (c_258 σ7 h8 a) (by decide) (by decide) (fun v67 σ68 h66 => ?_)
      obtain ⟨h69, h70, z72, rfl, h71⟩ := h66
      have h73 := Fr_trans h12 h70 (by decide +kernel)
      refine En_iEq _ rfl rfl (fun h74 => ?_) (fun h74 => ?_)
      · refine En_Ps 1 (pc' := 34) (lv' := [(0, .ref 159), (1, .int a), (2, .int b)]) (st' := [.int (((Int8.ofInt (-2)).toInt32))]) rfl ?_
        refine En_top (by decide : ((Int8.ofInt (-2)).toInt32).toInt = -2) (fun z75 h76 => ?_)
        exact En_ret (v := some (.int z75)) rfl rfl rfl ⟨h69, h73, z75, rfl, trivial⟩
      · refine En_Ps 4 (pc' := 26) (lv' := [(0, .ref 159), (1, .int a), (2, .int b)]) (st' := [.long ((2 : Int64)), .long ((Int64.ofNat 0)), .long b.toInt64]) rfl ?_
        have : b.toInt64.toInt = b.toInt := (i2lI rfl)
        have := (by decide : ((Int64.ofNat 0)).toInt = 0)
        have := (by decide : ((2 : Int64)).toInt = 2)
        refine En_callS rfl rfl rfl rfl rfl rfl rfl rfl rfl (c_249 σ68 h69 b.toInt64 ((Int64.ofNat 0)) ((2 : Int64))) (by decide) (by decide) (fun v78 σ79 h77 => ?_)
        obtain ⟨h80, h81, z83, rfl, h82⟩ := h77
        have h84 := Fr_trans h73 h81 (by decide +kernel)
        refine En_iNe _ rfl rfl (fun h85 => ?_) (fun h85 => ?_)
        · refine En_Ps 2 (pc' := 37) (lv' := [(0, .ref 159), (1, .int a), (2, .int b)]) (st' := [.int ((Int32.ofInt (-1))), .int a]) rfl ?_
          refine En_icNe _ rfl (by decide : (Int32.ofInt (-1)).toInt = -1) rfl (fun h86 => ?_) (fun hx => by exfalso; omega)
          refine En_Ps 4 (pc' := 51) (lv' := [(0, .ref 159), (1, .int a), (2, .int b)]) (st' := [.int ((((Int32.ofInt 2)) * a)), .int (((Int16.ofInt 146).toInt32))]) rfl ?_
          refine En_top (mulI (by decide : (Int32.ofInt 2).toInt = 2) rfl (Z := 2 * a.toInt) (by first | exact q_9c4c04fc55 | omega) (by omega) (by omega)) (fun z87 h88 => ?_)
          refine En_Ps 1 (pc' := 52) (lv' := [(0, .ref 159), (1, .int a), (2, .int b)]) (st' := [.int (((((Int16.ofInt 146).toInt32)) + z87))]) rfl ?_
          refine En_top (addI (by decide : ((Int16.ofInt 146).toInt32).toInt = 146) rfl (by omega) (by omega)) (fun z89 h90 => ?_)
          refine En_Ps 3 (pc' := 55) (lv' := [(3, .int z89), (0, .ref 159), (1, .int a), (2, .int b)]) (st' := [.int ((Int32.ofInt 2)), .int b]) rfl ?_
          refine En_icGe _ rfl (by decide : (Int32.ofInt 2).toInt = 2) rfl (fun h91 => ?_) (fun h91 => ?_)
          · refine En_Ps 2 (pc' := 71) (lv' := [(3, .int z89), (0, .ref 159), (1, .int a), (2, .int b)]) (st' := [.ref 159, .ref 159]) rfl ?_
            refine En_getU (j := 1) (u := 160) (g' := 36) (q := 0) rfl rfl rfl tgz_159 (by decide +kernel) h80 (by decide +kernel) (by decide +kernel) (fun h92 => ?_)
            refine En_Ps 1 (pc' := 75) (lv' := [(3, .int z89), (0, .ref 159), (1, .int a), (2, .int b)]) (st' := [.int z89, .ref 160, .ref 159]) rfl ?_
            refine En_iald (l := 0) (u := 15) rfl rfl tgz_160 (by decide +kernel) h80 (by omega) (lnI (by decide +kernel : LN _ = 226) (by omega)) (FTrow 36 146 2 4 (by decide +kernel) (by omega) (by omega) (by first | exact q_d64200d76f h88 h90 | omega)) (fun z95 h94 h96 h97 => ?_)
            refine En_Ps 1 (pc' := 77) (lv' := [(3, .int z89), (0, .ref 159), (1, .int a), (2, .int b)]) (st' := [.ref 159, .int z95, .ref 159]) rfl ?_
            refine En_getK (j := 1) h92 rfl rfl rfl tgz_159 (by decide +kernel) ?_
            refine En_Ps 3 (pc' := 83) (lv' := [(3, .int z89), (0, .ref 159), (1, .int a), (2, .int b)]) (st' := [.int ((z89 + ((Int32.ofInt 1)))), .ref 160, .int z95, .ref 159]) rfl ?_
            refine En_top (addI rfl (by decide : (Int32.ofInt 1).toInt = 1) (by omega) (by omega)) (fun z98 h99 => ?_)
            refine En_iald (l := 0) (u := 15) rfl rfl tgz_160 (by decide +kernel) h80 (by omega) (lnI (by decide +kernel : LN _ = 226) (by omega)) (FTrow 36 147 2 4 (by decide +kernel) (by omega) (by omega) (by first | exact q_19339a33a0 h88 h90 h99 | omega)) (fun z101 h100 h102 h103 => ?_)
            refine En_callV rfl rfl rfl rfl rfl rfl rfl rfl tgz_159 (by decide +kernel) rfl (c_212 σ79 h80 z95 z101) (by decide) (by decide) (fun v105 σ106 h104 => ?_)
            obtain ⟨h107, h108, z110, rfl, h109⟩ := h104
            have h111 := Fr_trans h84 h108 (by decide +kernel)
            refine En_callS rfl rfl rfl rfl rfl rfl rfl rfl rfl (c_203b σ106 h107 z110) (by decide) (by decide) (fun v113 σ114 h112 => ?_)
            obtain ⟨h115, h116, z118, rfl, h117⟩ := h112
            have h119 := Fr_trans h111 h116 (by decide +kernel)
            exact En_ret (v := some (.int z118)) rfl rfl rfl ⟨h115, h119, z118, rfl, trivial⟩
          · refine En_Ps 1 (pc' := 59) (lv' := [(3, .int z89), (0, .ref 159), (1, .int a), (2, .int b)]) (st' := [.ref 159]) rfl ?_
            refine En_getU (j := 1) (u := 160) (g' := 36) (q := 0) rfl rfl rfl tgz_159 (by decide +kernel) h80 (by decide +kernel) (by decide +kernel) (fun h120 => ?_)
            refine En_Ps 3 (pc' := 65) (lv' := [(3, .int z89), (0, .ref 159), (1, .int a), (2, .int b)]) (st' := [.int ((z89 + b)), .ref 160]) rfl ?_
            refine En_top (addI rfl rfl (by omega) (by omega)) (fun z122 h123 => ?_)
            refine En_iald (l := 0) (u := 15) rfl rfl tgz_160 (by decide +kernel) h80 (by omega) (lnI (by decide +kernel : LN _ = 226) (by omega)) (FTrow 36 146 1 8 (by decide +kernel) (by omega) (by omega) (by first | exact q_923275ae08 | omega)) (fun z125 h124 h126 h127 => ?_)
            refine En_Ps 1 (pc' := 90) (lv' := [(3, .int z89), (0, .ref 159), (1, .int a), (2, .int b)]) (st' := [.int z125]) rfl ?_
            exact En_ret (v := some (.int z125)) rfl rfl rfl ⟨h80, h84, z125, rfl, trivial⟩
        · refine En_Ps 1 (pc' := 34) (lv' := [(0, .ref 159), (1, .int a), (2, .int b)]) (st' := [.int (((Int8.ofInt (-2)).toInt32))]) rfl ?_
          refine En_top (by decide : ((Int8.ofInt (-2)).toInt32).toInt = -2) (fun z128 h129 => ?_)
          exact En_ret (v := some (.int z128)) rfl rfl rfl ⟨h80, h84, z128, rfl, trivial⟩
/-- DoorSchoolModel.idle(I)I -/
abbrev P_247 (σ0 : SG) (a : Int32) : PO := fun v σ => WT σ ∧ Fr [(35, 18), (35, 21), (42, 0), (43, 0), (44, 0), (45, 0), (46, 0)] σ0 σ ∧ ∃ ret : Int32, v = some (.int ret) ∧ -ret.toInt - 2 ≤ 0 ∧ ret.toInt - 65535 ≤ 0
set_option maxRecDepth 10000 in
set_option maxHeartbeats 4000000 in
theorem c_247 (σ0 : SG) (hσ0 : WT σ0) (a : Int32) : En 5 114 none mr_247 (P_247 σ0 a) 0 [(0, .ref 159), (1, .int a)] [] σ0 := by
  have hF0 : Fr [(35, 18), (35, 21), (42, 0), (43, 0), (44, 0), (45, 0), (46, 0)] σ0 σ0 := Fr_rfl
  refine En_Ps 2 (pc' := 2) (lv' := [(0, .ref 159), (1, .int a)]) (st' := [.int a, .ref 159]) rfl ?_
  obtain ⟨z2, h1, h3, h4⟩ := WT_peekI hσ0 tgz_160 (by decide +kernel : FT 36 (2 : Int).toNat = (0, 0, 4)) (by decide +kernel)
  refine En_callV rfl rfl rfl rfl rfl rfl rfl rfl tgz_159 (by decide +kernel) rfl (c_254 σ0 hσ0 a z2 h1) (by decide) (by decide) (fun v6 σ7 h5 => ?_)
  obtain ⟨h8, h9, z11, rfl, h10⟩ := h5
  have h12 := Fr_trans hF0 h9 (by decide +kernel)
  refine En_iNe _ rfl rfl (fun h13 => ?_) (fun h13 => ?_)
  · refine En_Ps 2 (pc' := 13) (lv' := [(0, .ref 159), (1, .int a)]) (st' := [.int a, .ref 159]) rfl ?_
    refine En_callV rfl rfl rfl rfl rfl rfl rfl rfl tgz_159 (by decide +kernel) rfl (c_213 σ7 h8 a (geI rfl (by omega)) (leI rfl (by omega))) (by decide) (by decide) (fun v15 σ16 h14 => ?_)
    obtain ⟨h17, h18, z20, h21, z22, rfl, h19⟩ := h14
    have h23 := Fr_trans h12 h18 (by decide +kernel)
    refine En_Ps 5 (pc' := 22) (lv' := [(4, .int ((Int32.ofInt 0))), (3, .int ((Int32.ofInt 0))), (2, .int z22), (0, .ref 159), (1, .int a)]) (st' := []) rfl ?_
    have key22 : ∀ (n22 : Nat) (σ26 : SG) (y24 : Int32) (y25 : Int32), WT σ26 → Fr [(35, 18), (35, 21), (42, 0), (43, 0), (44, 0), (45, 0), (46, 0)] σ0 σ26 → (σ26 160)[(2 : Int).toNat]? = some (.int z2) → 0 ≤ y24.toInt → y24.toInt ≤ 65535 → 0 ≤ y25.toInt → y25.toInt ≤ 13 → -y25.toInt + 13 < (n22 : Int) → En 5 114 none mr_247 (P_247 σ0 a) 22 [(0, .ref 159), (1, .int a), (2, .int z22), (3, .int y24), (4, .int y25)] [] σ26 := by
      intro n22
      induction n22 with
      | zero =>
        intro σ26 y24 y25 h27 h28 h29 h30 h31 h32 h33 h34
        first | exact (q_5583ec5aac h34 h33).elim | (exfalso; omega)
      | succ n22 ih22 =>
        intro σ26 y24 y25 h27 h28 h29 h30 h31 h32 h33 h34
        refine En_Ps 4 (pc' := 27) (lv' := [(0, .ref 159), (1, .int a), (2, .int z22), (3, .int y24), (4, .int y25)]) (st' := [.int ((Int32.ofInt 2)), .int a, .ref 159, .int y25]) rfl ?_
        have := (by decide : ((Int32.ofInt 2)).toInt = 2)
        obtain ⟨z35, h36, h37, h38⟩ := WT_peekJ (J := (4 * a.toInt + ((Int32.ofInt 2)).toInt + 10)) (l := 0) (u := 12) h27 tgz_160 (by decide +kernel) (by omega) (lnI (by decide +kernel : LN _ = 226) (by omega)) (FTrow 36 12 4 4 (by decide +kernel) (by omega) (by omega) (by omega))
        have := (by decide : ((Int32.ofInt 2)).toInt = 2)
        refine En_callV rfl rfl rfl rfl rfl rfl rfl rfl tgz_159 (by decide +kernel) rfl (c_290c σ26 h27 a ((Int32.ofInt 2)) (geI rfl (by omega)) (leI rfl (by omega)) (geI (by decide : (Int32.ofInt 2).toInt = 2) (by decide)) (leI (by decide : (Int32.ofInt 2).toInt = 2) (by decide)) z35 h36) (by decide) (by decide) (fun v40 σ41 h39 => ?_)
        obtain ⟨h42, h43, z45, rfl, h44⟩ := h39
        have h46 := Fr_trans h28 h43 (by decide +kernel)
        refine En_icGe _ rfl rfl rfl (fun h47 => ?_) (fun h47 => ?_)
        · refine En_Ps 1 (pc' := 71) (lv' := [(0, .ref 159), (1, .int a), (2, .int z22), (3, .int y24), (4, .int y25)]) (st' := [.int y24]) rfl ?_
          exact En_ret (v := some (.int y24)) rfl rfl rfl ⟨h42, h46, y24, rfl, ⟨by first | exact q_ea7f0ffdb1 h30 | omega, by first | exact q_e7edf0f95a h31 | omega⟩⟩
        · refine En_Ps 3 (pc' := 36) (lv' := [(0, .ref 159), (1, .int a), (2, .int z22), (3, .int y24), (4, .int y25)]) (st' := [.int a, .ref 159, .int y24]) rfl ?_
          refine En_callV rfl rfl rfl rfl rfl rfl rfl rfl tgz_159 (by decide +kernel) rfl (c_305 σ41 h42 a (geI rfl (by omega)) (leI rfl (by omega))) (by decide) (by decide) (fun v49 σ50 h48 => ?_)
          obtain ⟨h51, h52, z54, rfl, h53⟩ := h48
          have h55 := Fr_trans h46 h52 (by decide +kernel)
          refine En_Ps 1 (pc' := 40) (lv' := [(0, .ref 159), (1, .int a), (2, .int z22), (3, .int y24), (4, .int y25)]) (st' := [.int a, .int z54, .int y24]) rfl ?_
          refine En_icNe _ rfl rfl rfl (fun h56 => ?_) (fun h56 => ?_)
          · refine En_Ps 3 (pc' := 58) (lv' := [(0, .ref 159), (1, .int a), (2, .int z22), (3, .int y24), (4, .int y25)]) (st' := [.int ((((Int32.ofInt 1)) <<< (y25 &&& 31))), .int y24]) rfl ?_
            refine En_rng (shl1_p 11 rfl (by omega) (by omega) (by decide)) (fun z57 h58 h59 => ?_)
            refine En_Ps 2 (pc' := 63) (lv' := [(0, .ref 159), (1, .int a), (2, .int z22), (3, .int y24), (4, .int y25)]) (st' := [.int ((y24 ||| z57))]) rfl ?_
            refine En_rng (l := 0) (u := 65535) (or_rng 16 rfl rfl (by omega) (by omega) (by omega) (by omega) (by decide)) (fun z60 h61 h62 => ?_)
            refine En_Ps 2 (pc' := 67) (lv' := [(4, .int ((y25 + Int32.ofInt 1))), (3, .int z60), (0, .ref 159), (1, .int a), (2, .int z22)]) (st' := []) rfl ?_
            refine En_lv1 (addI rfl (by decide : (Int32.ofInt 1).toInt = 1) (by first | exact q_465ab79ac1 h32 | omega) (by first | exact q_d22f73d43b h33 | omega)) (fun z63 h64 => ?_)
            refine En_Ps 1 (pc' := 22) (lv' := [(4, .int z63), (3, .int z60), (0, .ref 159), (1, .int a), (2, .int z22)]) (st' := []) rfl ?_
            refine En_lv (lv := [(0, .ref 159), (1, .int a), (2, .int z22), (3, .int z60), (4, .int z63)]) ⟨rfl, rfl, rfl, rfl, rfl, trivial⟩ ?_
            exact ih22 σ50 z60 z63 h51 h55 ((h52 _ _ (inWa tgz_160 (by decide +kernel))).trans ((h43 _ _ (inWa tgz_160 (by decide +kernel))).trans h29)) (by first | exact q_58e6e51dcc h61 | omega) (by first | exact q_36eb0a70bf h62 | omega) (by first | exact q_35104ce9d3 h64 h32 | omega) (by first | exact q_54f15c7756 h64 h47 h44.2.1 | omega) (by first | exact q_20fedeb4b2 h64 h34 | omega)
          · refine En_Ps 3 (pc' := 47) (lv' := [(0, .ref 159), (1, .int a), (2, .int z22), (3, .int y24), (4, .int y25)]) (st' := [.int y25, .int a, .ref 159, .int y24]) rfl ?_
            refine En_callV rfl rfl rfl rfl rfl rfl rfl rfl tgz_159 (by decide +kernel) rfl (c_215 σ50 h51 a y25 (geI rfl (by first | exact q_bb72464225 h56 h53.1 | omega)) (leI rfl (by first | exact q_f7ffa9ffb4 h56 h53.2 | omega))) (by decide) (by decide) (fun v66 σ67 h65 => ?_)
            obtain ⟨h68, h69, z71, rfl, h70⟩ := h65
            have h72 := Fr_trans h55 h69 (by decide +kernel)
            refine En_Ps 1 (pc' := 51) (lv' := [(0, .ref 159), (1, .int a), (2, .int z22), (3, .int y24), (4, .int y25)]) (st' := [.int z22, .int z71, .int y24]) rfl ?_
            refine En_icNe _ rfl rfl rfl (fun h73 => ?_) (fun h73 => ?_)
            · refine En_Ps 2 (pc' := 63) (lv' := [(0, .ref 159), (1, .int a), (2, .int z22), (3, .int y24), (4, .int y25)]) (st' := [.int ((y24 ||| ((Int32.ofInt 0))))]) rfl ?_
              refine En_rng (l := 0) (u := 65535) (or_rng 16 rfl (by decide : (Int32.ofInt 0).toInt = 0) (by omega) (by omega) (by omega) (by omega) (by decide)) (fun z74 h75 h76 => ?_)
              refine En_Ps 2 (pc' := 67) (lv' := [(4, .int ((y25 + Int32.ofInt 1))), (3, .int z74), (0, .ref 159), (1, .int a), (2, .int z22)]) (st' := []) rfl ?_
              refine En_lv1 (addI rfl (by decide : (Int32.ofInt 1).toInt = 1) (by first | exact q_465ab79ac1 h32 | omega) (by first | exact q_d22f73d43b h33 | omega)) (fun z77 h78 => ?_)
              refine En_Ps 1 (pc' := 22) (lv' := [(4, .int z77), (3, .int z74), (0, .ref 159), (1, .int a), (2, .int z22)]) (st' := []) rfl ?_
              refine En_lv (lv := [(0, .ref 159), (1, .int a), (2, .int z22), (3, .int z74), (4, .int z77)]) ⟨rfl, rfl, rfl, rfl, rfl, trivial⟩ ?_
              exact ih22 σ67 z74 z77 h68 h72 ((h69 _ _ (inWa tgz_160 (by decide +kernel))).trans ((h52 _ _ (inWa tgz_160 (by decide +kernel))).trans ((h43 _ _ (inWa tgz_160 (by decide +kernel))).trans h29))) (by first | exact q_58e6e51dcc h75 | omega) (by first | exact q_36eb0a70bf h76 | omega) (by first | exact q_35104ce9d3 h78 h32 | omega) (by first | exact q_54f15c7756 h78 h47 h44.2.1 | omega) (by first | exact q_20fedeb4b2 h78 h34 | omega)
            · refine En_Ps 3 (pc' := 58) (lv' := [(0, .ref 159), (1, .int a), (2, .int z22), (3, .int y24), (4, .int y25)]) (st' := [.int ((((Int32.ofInt 1)) <<< (y25 &&& 31))), .int y24]) rfl ?_
              refine En_rng (shl1_p 11 rfl (by omega) (by omega) (by decide)) (fun z79 h80 h81 => ?_)
              refine En_Ps 2 (pc' := 63) (lv' := [(0, .ref 159), (1, .int a), (2, .int z22), (3, .int y24), (4, .int y25)]) (st' := [.int ((y24 ||| z79))]) rfl ?_
              refine En_rng (l := 0) (u := 65535) (or_rng 16 rfl rfl (by omega) (by omega) (by omega) (by omega) (by decide)) (fun z82 h83 h84 => ?_)
              refine En_Ps 2 (pc' := 67) (lv' := [(4, .int ((y25 + Int32.ofInt 1))), (3, .int z82), (0, .ref 159), (1, .int a), (2, .int z22)]) (st' := []) rfl ?_
              refine En_lv1 (addI rfl (by decide : (Int32.ofInt 1).toInt = 1) (by first | exact q_465ab79ac1 h32 | omega) (by first | exact q_d22f73d43b h33 | omega)) (fun z85 h86 => ?_)
              refine En_Ps 1 (pc' := 22) (lv' := [(4, .int z85), (3, .int z82), (0, .ref 159), (1, .int a), (2, .int z22)]) (st' := []) rfl ?_
              refine En_lv (lv := [(0, .ref 159), (1, .int a), (2, .int z22), (3, .int z82), (4, .int z85)]) ⟨rfl, rfl, rfl, rfl, rfl, trivial⟩ ?_
              exact ih22 σ67 z82 z85 h68 h72 ((h69 _ _ (inWa tgz_160 (by decide +kernel))).trans ((h52 _ _ (inWa tgz_160 (by decide +kernel))).trans ((h43 _ _ (inWa tgz_160 (by decide +kernel))).trans h29))) (by first | exact q_58e6e51dcc h83 | omega) (by first | exact q_36eb0a70bf h84 | omega) (by first | exact q_35104ce9d3 h86 h32 | omega) (by first | exact q_54f15c7756 h86 h47 h44.2.1 | omega) (by first | exact q_20fedeb4b2 h86 h34 | omega)
    have := (by decide : (Int32.ofInt 0).toInt = 0)
    have := (by decide : (Int32.ofInt 0).toInt = 0)
    refine En_lv (lv := [(0, .ref 159), (1, .int a), (2, .int z22), (3, .int ((Int32.ofInt 0))), (4, .int ((Int32.ofInt 0)))]) ⟨rfl, rfl, rfl, rfl, rfl, trivial⟩ ?_
    exact key22 (Int.toNat (13) + 1) σ16 ((Int32.ofInt 0)) ((Int32.ofInt 0)) h17 h23 ((h18 _ _ (inWa tgz_160 (by decide +kernel))).trans ((h9 _ _ (inWa tgz_160 (by decide +kernel))).trans h1)) (by decide) (by decide) (by decide) (by decide) (by first | exact toN_lt _ | omega)
  · refine En_Ps 1 (pc' := 10) (lv' := [(0, .ref 159), (1, .int a)]) (st' := [.int (((Int8.ofInt (-2)).toInt32))]) rfl ?_
    refine En_top (by decide : ((Int8.ofInt (-2)).toInt32).toInt = -2) (fun z87 h88 => ?_)
    exact En_ret (v := some (.int z87)) rfl rfl rfl ⟨h8, h12, z87, rfl, ⟨by first | exact q_f35c5d346c h88 | omega, by first | exact q_7aab8371ca h88 | omega⟩⟩
/-- DoorSchoolModel.isRest(III)Z -/
abbrev P_261 (σ0 : SG) (a : Int32) (b : Int32) (c : Int32) : PO := fun v σ => WT σ ∧ Fr [(35, 18), (35, 21), (42, 0), (43, 0), (44, 0), (45, 0), (46, 0)] σ0 σ ∧ ∃ ret : Int32, v = some (.int ret) ∧ -ret.toInt ≤ 0 ∧ ret.toInt - 1 ≤ 0
set_option maxRecDepth 10000 in
set_option maxHeartbeats 4000000 in
theorem c_261 (σ0 : SG) (hσ0 : WT σ0) (a : Int32) (b : Int32) (c : Int32) (hl_a : 0 ≤ a.toInt) (hu_a : a.toInt ≤ 3) (hl_b : 0 ≤ b.toInt) (hu_b : b.toInt ≤ 2) (hl_c : 0 ≤ c.toInt) (hu_c : c.toInt ≤ 15) : En 5 113 none mr_261 (P_261 σ0 a b c) 0 [(0, .ref 159), (1, .int a), (2, .int b), (3, .int c)] [] σ0 := by
  have hF0 : Fr [(35, 18), (35, 21), (42, 0), (43, 0), (44, 0), (45, 0), (46, 0)] σ0 σ0 := Fr_rfl
  refine En_Ps 3 (pc' := 3) (lv' := [(0, .ref 159), (1, .int a), (2, .int b), (3, .int c)]) (st' := [.int b, .int a, .ref 159]) rfl ?_
  refine En_callV rfl rfl rfl rfl rfl rfl rfl rfl tgz_159 (by decide +kernel) rfl (c_211 σ0 hσ0 a b (geI rfl (by first | exact q_58e6e51dcc hl_a | omega)) (leI rfl (by first | exact q_da5e9b976f hu_a | omega))) (by decide) (by decide) (fun v2 σ3 h1 => ?_)
  obtain ⟨h4, h5, z7, rfl, h6⟩ := h1
  have h8 := Fr_trans hF0 h5 (by decide +kernel)
  refine En_Ps 1 (pc' := 7) (lv' := [(0, .ref 159), (1, .int a), (2, .int b), (3, .int c)]) (st' := [.int c, .int z7]) rfl ?_
  refine En_callS rfl rfl rfl rfl rfl rfl rfl rfl rfl (c_202b σ3 h4 z7 c) (by decide) (by decide) (fun v10 σ11 h9 => ?_)
  obtain ⟨h12, h13, z15, rfl, h14⟩ := h9
  have h16 := Fr_trans h8 h13 (by decide +kernel)
  refine En_Ps 3 (pc' := 15) (lv' := [(5, .int ((Int32.ofInt 0))), (4, .int z15), (0, .ref 159), (1, .int a), (2, .int b), (3, .int c)]) (st' := []) rfl ?_
  have key15 : ∀ (n15 : Nat) (σ18 : SG) (y17 : Int32), WT σ18 → Fr [(35, 18), (35, 21), (42, 0), (43, 0), (44, 0), (45, 0), (46, 0)] σ0 σ18 → 0 ≤ y17.toInt → y17.toInt ≤ 16 → -y17.toInt + 16 < (n15 : Int) → En 5 113 none mr_261 (P_261 σ0 a b c) 15 [(0, .ref 159), (1, .int a), (2, .int b), (3, .int c), (4, .int z15), (5, .int y17)] [] σ18 := by
    intro n15
    induction n15 with
    | zero =>
      intro σ18 y17 h19 h20 h21 h22 h23
      first | exact (q_511f6d33ac h23 h22).elim | (exfalso; omega)
    | succ n15 ih15 =>
      intro σ18 y17 h19 h20 h21 h22 h23
      refine En_Ps 2 (pc' := 18) (lv' := [(0, .ref 159), (1, .int a), (2, .int b), (3, .int c), (4, .int z15), (5, .int y17)]) (st' := [.ref 159, .int y17]) rfl ?_
      obtain ⟨z25, h24, h26, h27⟩ := WT_peekI h19 tgz_160 (by decide +kernel : FT 36 (0 : Int).toNat = (0, 0, 4)) (by decide +kernel)
      obtain ⟨z29, h28, h30, h31⟩ := WT_peekI h19 tgz_160 (by decide +kernel : FT 36 (7 : Int).toNat = (0, 0, 1600)) (by decide +kernel)
      refine En_callV rfl rfl rfl rfl rfl rfl rfl rfl tgz_159 (by decide +kernel) rfl (c_269 σ18 h19 z25 h24 z29 h28) (by decide) (by decide) (fun v33 σ34 h32 => ?_)
      obtain ⟨h35, h36, z38, rfl, h37⟩ := h32
      have h39 := h37.2.2
      have h40 := Fr_trans h20 h36 (by decide +kernel)
      refine En_icGe _ rfl rfl rfl (fun h41 => ?_) (fun h41 => ?_)
      · refine En_Ps 2 (pc' := 60) (lv' := [(5, .int ((Int32.ofInt 0))), (0, .ref 159), (1, .int a), (2, .int b), (3, .int c), (4, .int z15)]) (st' := []) rfl ?_
        have key60 : ∀ (n60 : Nat) (σ43 : SG) (y42 : Int32), WT σ43 → Fr [(35, 18), (35, 21), (42, 0), (43, 0), (44, 0), (45, 0), (46, 0)] σ0 σ43 → (σ43 160)[(0 : Int).toNat]? = some (.int z25) → (σ43 160)[(7 : Int).toNat]? = some (.int z29) → 0 ≤ y42.toInt → y42.toInt ≤ 3 → -y42.toInt + 3 < (n60 : Int) → En 5 113 none mr_261 (P_261 σ0 a b c) 60 [(0, .ref 159), (1, .int a), (2, .int b), (3, .int c), (4, .int z15), (5, .int y42)] [] σ43 := by
          intro n60
          induction n60 with
          | zero =>
            intro σ43 y42 h44 h45 h46 h47 h48 h49 h50
            first | exact (q_9f1e7068c9 h50 h49).elim | (exfalso; omega)
          | succ n60 ih60 =>
            intro σ43 y42 h44 h45 h46 h47 h48 h49 h50
            refine En_Ps 2 (pc' := 63) (lv' := [(0, .ref 159), (1, .int a), (2, .int b), (3, .int c), (4, .int z15), (5, .int y42)]) (st' := [.int ((Int32.ofInt 3)), .int y42]) rfl ?_
            refine En_icGe _ rfl (by decide : (Int32.ofInt 3).toInt = 3) rfl (fun h51 => ?_) (fun h51 => ?_)
            · refine En_Ps 1 (pc' := 91) (lv' := [(0, .ref 159), (1, .int a), (2, .int b), (3, .int c), (4, .int z15), (5, .int y42)]) (st' := [.int ((Int32.ofInt 1))]) rfl ?_
              refine En_top (by decide : (Int32.ofInt 1).toInt = 1) (fun z52 h53 => ?_)
              exact En_ret (v := some (.int z52)) rfl rfl (retZ rfl rfl (by first | exact q_2b07c97645 h53 | omega) (by first | exact q_d9e7cbb253 h53 | omega)) ⟨h44, h45, z52, rfl, ⟨by first | exact q_ad3eee31ca h53 | omega, by first | exact q_81cf297dc4 h53 | omega⟩⟩
            · refine En_Ps 3 (pc' := 70) (lv' := [(0, .ref 159), (1, .int a), (2, .int b), (3, .int c), (4, .int z15), (5, .int y42)]) (st' := [.int y42, .int a, .ref 159]) rfl ?_
              refine En_callV rfl rfl rfl rfl rfl rfl rfl rfl tgz_159 (by decide +kernel) rfl (c_211 σ43 h44 a y42 (geI rfl (by first | exact q_58e6e51dcc hl_a | omega)) (leI rfl (by first | exact q_da5e9b976f hu_a | omega))) (by decide) (by decide) (fun v55 σ56 h54 => ?_)
              obtain ⟨h57, h58, z60, rfl, h59⟩ := h54
              have h61 := Fr_trans h45 h58 (by decide +kernel)
              refine En_Ps 1 (pc' := 74) (lv' := [(0, .ref 159), (1, .int a), (2, .int b), (3, .int c), (4, .int z15), (5, .int y42)]) (st' := [.int c, .int z60]) rfl ?_
              refine En_callS rfl rfl rfl rfl rfl rfl rfl rfl rfl (c_202b σ56 h57 z60 c) (by decide) (by decide) (fun v63 σ64 h62 => ?_)
              obtain ⟨h65, h66, z68, rfl, h67⟩ := h62
              have h69 := Fr_trans h61 h66 (by decide +kernel)
              refine En_Ps 1 (pc' := 79) (lv' := [(0, .ref 159), (1, .int a), (2, .int b), (3, .int c), (4, .int z15), (5, .int y42)]) (st' := [.int z15, .int z68]) rfl ?_
              refine En_icGe _ rfl rfl rfl (fun h70 => ?_) (fun h70 => ?_)
              · refine En_Ps 1 (pc' := 87) (lv' := [(5, .int ((y42 + Int32.ofInt 1))), (0, .ref 159), (1, .int a), (2, .int b), (3, .int c), (4, .int z15)]) (st' := []) rfl ?_
                refine En_lv1 (addI rfl (by decide : (Int32.ofInt 1).toInt = 1) (by first | exact q_465ab79ac1 h48 | omega) (by first | exact q_6ae830b01d h51 | omega)) (fun z71 h72 => ?_)
                refine En_Ps 1 (pc' := 60) (lv' := [(5, .int z71), (0, .ref 159), (1, .int a), (2, .int b), (3, .int c), (4, .int z15)]) (st' := []) rfl ?_
                refine En_lv (lv := [(0, .ref 159), (1, .int a), (2, .int b), (3, .int c), (4, .int z15), (5, .int z71)]) ⟨rfl, rfl, rfl, rfl, rfl, rfl, trivial⟩ ?_
                exact ih60 σ64 z71 h65 h69 ((h66 _ _ (inWa tgz_160 (by decide +kernel))).trans ((h58 _ _ (inWa tgz_160 (by decide +kernel))).trans h46)) ((h66 _ _ (inWa tgz_160 (by decide +kernel))).trans ((h58 _ _ (inWa tgz_160 (by decide +kernel))).trans h47)) (by first | exact q_35104ce9d3 h72 h48 | omega) (by first | exact q_84805d5d8e h72 h51 | omega) (by first | exact q_6272716eb4 h72 h50 | omega)
              · refine En_Ps 1 (pc' := 83) (lv' := [(0, .ref 159), (1, .int a), (2, .int b), (3, .int c), (4, .int z15), (5, .int y42)]) (st' := [.int ((Int32.ofInt 0))]) rfl ?_
                refine En_top (by decide : (Int32.ofInt 0).toInt = 0) (fun z73 h74 => ?_)
                exact En_ret (v := some (.int z73)) rfl rfl (retZ rfl rfl (by first | exact q_55451d0a83 h74 | omega) (by first | exact q_87849c3859 h74 | omega)) ⟨h65, h69, z73, rfl, ⟨by first | exact q_097a37c2ae h74 | omega, by first | exact q_e269517bee h74 | omega⟩⟩
        have := (by decide : (Int32.ofInt 0).toInt = 0)
        refine En_lv (lv := [(0, .ref 159), (1, .int a), (2, .int b), (3, .int c), (4, .int z15), (5, .int ((Int32.ofInt 0)))]) ⟨rfl, rfl, rfl, rfl, rfl, rfl, trivial⟩ ?_
        exact key60 (Int.toNat (3) + 1) σ34 ((Int32.ofInt 0)) h35 h40 ((h36 _ _ (inWa tgz_160 (by decide +kernel))).trans h24) ((h36 _ _ (inWa tgz_160 (by decide +kernel))).trans h28) (by decide) (by decide) (by first | exact toN_lt _ | omega)
      · refine En_Ps 2 (pc' := 27) (lv' := [(0, .ref 159), (1, .int a), (2, .int b), (3, .int c), (4, .int z15), (5, .int y17)]) (st' := [.int y17, .ref 159]) rfl ?_
        refine En_callV rfl rfl rfl rfl rfl rfl rfl rfl tgz_159 (by decide +kernel) rfl (c_267 σ34 h35 y17) (by decide) (by decide) (fun v76 σ77 h75 => ?_)
        obtain ⟨h78, h79, z81, rfl, h80⟩ := h75
        have h82 := Fr_trans h40 h79 (by decide +kernel)
        refine En_iEq _ rfl rfl (fun h83 => ?_) (fun h83 => ?_)
        · refine En_Ps 1 (pc' := 54) (lv' := [(5, .int ((y17 + Int32.ofInt 1))), (0, .ref 159), (1, .int a), (2, .int b), (3, .int c), (4, .int z15)]) (st' := []) rfl ?_
          refine En_lv1 (addI rfl (by decide : (Int32.ofInt 1).toInt = 1) (by first | exact q_465ab79ac1 h21 | omega) (by first | exact q_f3f8e04381 h22 | omega)) (fun z84 h85 => ?_)
          refine En_Ps 1 (pc' := 15) (lv' := [(5, .int z84), (0, .ref 159), (1, .int a), (2, .int b), (3, .int c), (4, .int z15)]) (st' := []) rfl ?_
          refine En_lv (lv := [(0, .ref 159), (1, .int a), (2, .int b), (3, .int c), (4, .int z15), (5, .int z84)]) ⟨rfl, rfl, rfl, rfl, rfl, rfl, trivial⟩ ?_
          exact ih15 σ77 z84 h78 h82 (by first | exact q_35104ce9d3 h85 h21 | omega) (by first | exact q_34dc714687 h85 h41 h37.2.1 | omega) (by first | exact q_c5d740bdff h85 h23 | omega)
        · refine En_Ps 3 (pc' := 36) (lv' := [(0, .ref 159), (1, .int a), (2, .int b), (3, .int c), (4, .int z15), (5, .int y17)]) (st' := [.int b, .int a, .ref 159]) rfl ?_
          refine En_callV rfl rfl rfl rfl rfl rfl rfl rfl tgz_159 (by decide +kernel) rfl (c_211 σ77 h78 a b (geI rfl (by first | exact q_58e6e51dcc hl_a | omega)) (leI rfl (by first | exact q_da5e9b976f hu_a | omega))) (by decide) (by decide) (fun v87 σ88 h86 => ?_)
          obtain ⟨h89, h90, z92, rfl, h91⟩ := h86
          have h93 := Fr_trans h82 h90 (by decide +kernel)
          refine En_Ps 1 (pc' := 41) (lv' := [(0, .ref 159), (1, .int a), (2, .int b), (3, .int c), (4, .int z15), (5, .int y17)]) (st' := [.int y17, .int z92]) rfl ?_
          refine En_callS rfl rfl rfl rfl rfl rfl rfl rfl rfl (c_202b σ88 h89 z92 y17) (by decide) (by decide) (fun v95 σ96 h94 => ?_)
          obtain ⟨h97, h98, z100, rfl, h99⟩ := h94
          have h101 := Fr_trans h93 h98 (by decide +kernel)
          refine En_Ps 1 (pc' := 46) (lv' := [(0, .ref 159), (1, .int a), (2, .int b), (3, .int c), (4, .int z15), (5, .int y17)]) (st' := [.int z15, .int z100]) rfl ?_
          refine En_icLe _ rfl rfl rfl (fun h102 => ?_) (fun h102 => ?_)
          · refine En_Ps 1 (pc' := 54) (lv' := [(5, .int ((y17 + Int32.ofInt 1))), (0, .ref 159), (1, .int a), (2, .int b), (3, .int c), (4, .int z15)]) (st' := []) rfl ?_
            refine En_lv1 (addI rfl (by decide : (Int32.ofInt 1).toInt = 1) (by first | exact q_465ab79ac1 h21 | omega) (by first | exact q_f3f8e04381 h22 | omega)) (fun z103 h104 => ?_)
            refine En_Ps 1 (pc' := 15) (lv' := [(5, .int z103), (0, .ref 159), (1, .int a), (2, .int b), (3, .int c), (4, .int z15)]) (st' := []) rfl ?_
            refine En_lv (lv := [(0, .ref 159), (1, .int a), (2, .int b), (3, .int c), (4, .int z15), (5, .int z103)]) ⟨rfl, rfl, rfl, rfl, rfl, rfl, trivial⟩ ?_
            exact ih15 σ96 z103 h97 h101 (by first | exact q_35104ce9d3 h104 h21 | omega) (by first | exact q_34dc714687 h104 h41 h37.2.1 | omega) (by first | exact q_c5d740bdff h104 h23 | omega)
          · refine En_Ps 1 (pc' := 50) (lv' := [(0, .ref 159), (1, .int a), (2, .int b), (3, .int c), (4, .int z15), (5, .int y17)]) (st' := [.int ((Int32.ofInt 0))]) rfl ?_
            refine En_top (by decide : (Int32.ofInt 0).toInt = 0) (fun z105 h106 => ?_)
            exact En_ret (v := some (.int z105)) rfl rfl (retZ rfl rfl (by first | exact q_55451d0a83 h106 | omega) (by first | exact q_87849c3859 h106 | omega)) ⟨h97, h101, z105, rfl, ⟨by first | exact q_097a37c2ae h106 | omega, by first | exact q_e269517bee h106 | omega⟩⟩
  have := (by decide : (Int32.ofInt 0).toInt = 0)
  refine En_lv (lv := [(0, .ref 159), (1, .int a), (2, .int b), (3, .int c), (4, .int z15), (5, .int ((Int32.ofInt 0)))]) ⟨rfl, rfl, rfl, rfl, rfl, rfl, trivial⟩ ?_
  exact key15 (Int.toNat (16) + 1) σ11 ((Int32.ofInt 0)) h12 h16 (by decide) (by decide) (by first | exact toN_lt _ | omega)
/-- DoorSchoolModel.isSeed(I)Z -/
abbrev P_265 (σ0 : SG) (a : Int32) : PO := fun v σ => WT σ ∧ Fr [] σ0 σ ∧ ∃ ret : Int32, v = some (.int ret) ∧ -ret.toInt ≤ 0 ∧ ret.toInt - 1 ≤ 0 ∧ (ret.toInt - 1 ≤ 0 ∧ -ret.toInt + 1 ≤ 0 → -a.toInt ≤ 0 ∧ a.toInt - 2000000000 ≤ 0) ∧ (-a.toInt ≤ 0 ∧ a.toInt - 2000000000 ≤ 0 → ret.toInt - 1 ≤ 0 ∧ -ret.toInt + 1 ≤ 0)
set_option maxRecDepth 10000 in
set_option maxHeartbeats 4000000 in
theorem c_265 (σ0 : SG) (hσ0 : WT σ0) (a : Int32) : En 1 25 none mr_265 (P_265 σ0 a) 0 [(0, .int a)] [] σ0 := by
  have hF0 : Fr [] σ0 σ0 := Fr_rfl
  refine En_Ps 4 (pc' := 6) (lv' := [(0, .int a)]) (st' := [.long ((2000000000 : Int64)), .long ((Int64.ofNat 0)), .long a.toInt64]) rfl ?_
  have : a.toInt64.toInt = a.toInt := (i2lI rfl)
  have := (by decide : ((Int64.ofNat 0)).toInt = 0)
  have := (by decide : ((2000000000 : Int64)).toInt = 2000000000)
  refine En_callS rfl rfl rfl rfl rfl rfl rfl rfl rfl (c_249 σ0 hσ0 a.toInt64 ((Int64.ofNat 0)) ((2000000000 : Int64))) (by decide) (by decide) (fun v2 σ3 h1 => ?_)
  obtain ⟨h4, h5, z7, rfl, h6⟩ := h1
  have h8 := Fr_trans hF0 h5 (by decide +kernel)
  exact En_ret (v := some (.int z7)) rfl rfl (retZ rfl rfl (by first | exact q_ef1e8e38bf h6.1 | omega) (by first | exact q_733c8bfbae h6.2.1 | omega)) ⟨h4, h8, z7, rfl, ⟨by first | exact q_a555021d16 h6.1 | omega, by first | exact q_ad5b726bf8 h6.2.1 | omega, fun _ => by omega, fun _ => by omega⟩⟩
/-- DoorSchoolModel.learnt(II)I -/
abbrev P_276 (σ0 : SG) (a : Int32) (b : Int32) : PO := fun v σ => WT σ ∧ Fr [(35, 18), (35, 21), (35, 22), (35, 23), (42, 0), (43, 0), (44, 0), (45, 0), (46, 0)] σ0 σ ∧ ∃ ret : Int32, v = some (.int ret) ∧ True
set_option maxRecDepth 10000 in
set_option maxHeartbeats 4000000 in
theorem c_276 (σ0 : SG) (hσ0 : WT σ0) (a : Int32) (b : Int32) : En 5 115 none mr_276 (P_276 σ0 a b) 0 [(0, .ref 159), (1, .int a), (2, .int b)] [] σ0 := by
  have hF0 : Fr [(35, 18), (35, 21), (35, 22), (35, 23), (42, 0), (43, 0), (44, 0), (45, 0), (46, 0)] σ0 σ0 := Fr_rfl
  refine En_Ps 1 (pc' := 1) (lv' := [(0, .ref 159), (1, .int a), (2, .int b)]) (st' := [.int a]) rfl ?_
  refine En_callS rfl rfl rfl rfl rfl rfl rfl rfl rfl (c_268 σ0 hσ0 a) (by decide) (by decide) (fun v2 σ3 h1 => ?_)
  obtain ⟨h4, h5, z7, rfl, h6⟩ := h1
  have h8 := Fr_trans hF0 h5 (by decide +kernel)
  refine En_iEq _ rfl rfl (fun h9 => ?_) (fun h9 => ?_)
  · refine En_Ps 1 (pc' := 17) (lv' := [(0, .ref 159), (1, .int a), (2, .int b)]) (st' := [.int (((Int8.ofInt (-2)).toInt32))]) rfl ?_
    refine En_top (by decide : ((Int8.ofInt (-2)).toInt32).toInt = -2) (fun z10 h11 => ?_)
    exact En_ret (v := some (.int z10)) rfl rfl rfl ⟨h4, h8, z10, rfl, trivial⟩
  · refine En_Ps 2 (pc' := 9) (lv' := [(0, .ref 159), (1, .int a), (2, .int b)]) (st' := [.int b, .ref 159]) rfl ?_
    refine En_callV rfl rfl rfl rfl rfl rfl rfl rfl tgz_159 (by decide +kernel) rfl (c_195 σ3 h4 b) (by decide) (by decide) (fun v13 σ14 h12 => ?_)
    obtain ⟨h15, h16, z18, rfl, h17⟩ := h12
    have h19 := Fr_trans h8 h16 (by decide +kernel)
    refine En_iNe _ rfl rfl (fun h20 => ?_) (fun h20 => ?_)
    · refine En_Ps 3 (pc' := 21) (lv' := [(0, .ref 159), (1, .int a), (2, .int b)]) (st' := [.int b, .int a, .ref 159]) rfl ?_
      refine En_callV rfl rfl rfl rfl rfl rfl rfl rfl tgz_159 (by decide +kernel) rfl (c_321 σ14 h15 a b) (by decide) (by decide) (fun v22 σ23 h21 => ?_)
      obtain ⟨h24, h25, rfl, h26⟩ := h21
      have h27 := Fr_trans h19 h25 (by decide +kernel)
      refine En_Ps 1 (pc' := 25) (lv' := [(0, .ref 159), (1, .int a), (2, .int b)]) (st' := [.ref 159]) rfl ?_
      refine En_getI (j := 23) (l := (-2147483648)) (u := 2147483647) rfl rfl rfl tgz_159 (by decide +kernel) h24 (by decide +kernel) (fun z29 h28 h30 h31 => ?_)
      exact En_ret (v := some (.int z29)) rfl rfl rfl ⟨h24, h27, z29, rfl, trivial⟩
    · refine En_Ps 1 (pc' := 17) (lv' := [(0, .ref 159), (1, .int a), (2, .int b)]) (st' := [.int (((Int8.ofInt (-2)).toInt32))]) rfl ?_
      refine En_top (by decide : ((Int8.ofInt (-2)).toInt32).toInt = -2) (fun z32 h33 => ?_)
      exact En_ret (v := some (.int z32)) rfl rfl rfl ⟨h15, h19, z32, rfl, trivial⟩
/-- DoorSchoolModel.leaves(I)I -/
abbrev P_278 (σ0 : SG) (a : Int32) : PO := fun v σ => WT σ ∧ Fr [(35, 18), (42, 0), (43, 0), (44, 0)] σ0 σ ∧ ∃ ret : Int32, v = some (.int ret) ∧ -ret.toInt - 6 ≤ 0 ∧ ret.toInt - 81 ≤ 0
set_option maxRecDepth 10000 in
set_option maxHeartbeats 4000000 in
theorem c_278 (σ0 : SG) (hσ0 : WT σ0) (a : Int32) : En 6 135 none mr_278 (P_278 σ0 a) 0 [(0, .ref 159), (1, .int a)] [] σ0 := by
  have hF0 : Fr [(35, 18), (42, 0), (43, 0), (44, 0)] σ0 σ0 := Fr_rfl
  refine En_Ps 3 (pc' := 3) (lv' := [(0, .ref 159), (1, .int a)]) (st' := [.int ((Int32.ofInt 1)), .int a, .ref 159]) rfl ?_
  have := (by decide : ((Int32.ofInt 1)).toInt = 1)
  refine En_callV rfl rfl rfl rfl rfl rfl rfl rfl tgz_159 (by decide +kernel) rfl (c_198 σ0 hσ0 a ((Int32.ofInt 1)) (geI (by decide : (Int32.ofInt 1).toInt = 1) (by decide)) (leI (by decide : (Int32.ofInt 1).toInt = 1) (by decide))) (by decide) (by decide) (fun v2 σ3 h1 => ?_)
  obtain ⟨h4, h5, z7, rfl, h6⟩ := h1
  have h8 := Fr_trans hF0 h5 (by decide +kernel)
  refine En_Ps 2 (pc' := 8) (lv' := [(2, .int z7), (0, .ref 159), (1, .int a)]) (st' := [.int z7]) rfl ?_
  refine En_iGe _ rfl rfl (fun h9 => ?_) (fun h9 => ?_)
  · refine En_Ps 2 (pc' := 15) (lv' := [(2, .int z7), (0, .ref 159), (1, .int a)]) (st' := [.int a, .ref 159]) rfl ?_
    refine En_callV rfl rfl rfl rfl rfl rfl rfl rfl tgz_159 (by decide +kernel) rfl (c_197 σ3 h4 a (geI rfl (by omega)) (leI rfl (by omega))) (by decide) (by decide) (fun v11 σ12 h10 => ?_)
    obtain ⟨h13, h14, z16, rfl, h15⟩ := h10
    have h17 := Fr_trans h8 h14 (by decide +kernel)
    refine En_Ps 3 (pc' := 21) (lv' := [(3, .int z16), (2, .int z7), (0, .ref 159), (1, .int a)]) (st' := [.int ((Int32.ofInt (-1))), .int z16]) rfl ?_
    refine En_icNe _ rfl (by decide : (Int32.ofInt (-1)).toInt = -1) rfl (fun h18 => ?_) (fun h18 => ?_)
    · refine En_Ps 3 (pc' := 35) (lv' := [(3, .int z16), (2, .int z7), (0, .ref 159), (1, .int a)]) (st' := [.int z16, .int a, .ref 159]) rfl ?_
      refine En_callV rfl rfl rfl rfl rfl rfl rfl rfl tgz_159 (by decide +kernel) rfl (c_332 σ12 h13 a z16 (geI rfl (by omega)) (leI rfl (by omega))) (by decide) (by decide) (fun v20 σ21 h19 => ?_)
      obtain ⟨h22, h23, z25, rfl, h24⟩ := h19
      have h26 := Fr_trans h17 h23 (by decide +kernel)
      exact En_ret (v := some (.int z25)) rfl rfl rfl ⟨h22, h26, z25, rfl, ⟨by first | exact q_8061444f0d h24.1 | omega, by first | exact q_62172f5eca h24.2 | omega⟩⟩
    · refine En_Ps 2 (pc' := 26) (lv' := [(3, .int z16), (2, .int z7), (0, .ref 159), (1, .int a)]) (st' := [.int a, .ref 159]) rfl ?_
      refine En_callV rfl rfl rfl rfl rfl rfl rfl rfl tgz_159 (by decide +kernel) rfl (c_231 σ12 h13 a (geI rfl (by omega)) (leI rfl (by omega))) (by decide) (by decide) (fun v28 σ29 h27 => ?_)
      obtain ⟨h30, h31, z33, rfl, h32⟩ := h27
      have h34 := Fr_trans h17 h31 (by decide +kernel)
      refine En_Ps 1 (pc' := 38) (lv' := [(3, .int z16), (2, .int z7), (0, .ref 159), (1, .int a)]) (st' := [.int z33]) rfl ?_
      exact En_ret (v := some (.int z33)) rfl rfl rfl ⟨h30, h34, z33, rfl, ⟨by first | exact q_8061444f0d h32.1 | omega, by first | exact q_62172f5eca h32.2 | omega⟩⟩
  · refine En_Ps 1 (pc' := 12) (lv' := [(2, .int z7), (0, .ref 159), (1, .int a)]) (st' := [.int z7]) rfl ?_
    exact En_ret (v := some (.int z7)) rfl rfl rfl ⟨h4, h8, z7, rfl, ⟨by first | exact q_629d629181 h6.1 | omega, by first | exact q_5b73750df0 h9 | omega⟩⟩
/-- DoorSchoolModel.left(I)I -/
abbrev P_279 (σ0 : SG) (a : Int32) : PO := fun v σ => WT σ ∧ Fr [(35, 18), (35, 21), (42, 0), (43, 0), (44, 0), (45, 0), (46, 0)] σ0 σ ∧ ∃ ret : Int32, v = some (.int ret) ∧ True
set_option maxRecDepth 10000 in
set_option maxHeartbeats 4000000 in
theorem c_279 (σ0 : SG) (hσ0 : WT σ0) (a : Int32) : En 8 183 none mr_279 (P_279 σ0 a) 0 [(0, .ref 159), (1, .int a)] [] σ0 := by
  have hF0 : Fr [(35, 18), (35, 21), (42, 0), (43, 0), (44, 0), (45, 0), (46, 0)] σ0 σ0 := Fr_rfl
  refine En_Ps 2 (pc' := 2) (lv' := [(0, .ref 159), (1, .int a)]) (st' := [.int a, .ref 159]) rfl ?_
  obtain ⟨z2, h1, h3, h4⟩ := WT_peekI hσ0 tgz_160 (by decide +kernel : FT 36 (2 : Int).toNat = (0, 0, 4)) (by decide +kernel)
  refine En_callV rfl rfl rfl rfl rfl rfl rfl rfl tgz_159 (by decide +kernel) rfl (c_254 σ0 hσ0 a z2 h1) (by decide) (by decide) (fun v6 σ7 h5 => ?_)
  obtain ⟨h8, h9, z11, rfl, h10⟩ := h5
  have h12 := Fr_trans hF0 h9 (by decide +kernel)
  refine En_iNe _ rfl rfl (fun h13 => ?_) (fun h13 => ?_)
  · refine En_Ps 2 (pc' := 13) (lv' := [(0, .ref 159), (1, .int a)]) (st' := [.int a, .ref 159]) rfl ?_
    refine En_callV rfl rfl rfl rfl rfl rfl rfl rfl tgz_159 (by decide +kernel) rfl (c_241 σ7 h8 a z2 ((h9 _ _ (inWa tgz_160 (by decide +kernel))).trans h1)) (by decide) (by decide) (fun v15 σ16 h14 => ?_)
    obtain ⟨h17, h18, z20, rfl, h19⟩ := h14
    have h21 := Fr_trans h12 h18 (by decide +kernel)
    refine En_Ps 3 (pc' := 19) (lv' := [(2, .int z20), (0, .ref 159), (1, .int a)]) (st' := [.int ((Int32.ofInt (-1))), .int z20]) rfl ?_
    refine En_icNe _ rfl (by decide : (Int32.ofInt (-1)).toInt = -1) rfl (fun h22 => ?_) (fun h22 => ?_)
    · refine En_Ps 3 (pc' := 37) (lv' := [(2, .int z20), (0, .ref 159), (1, .int a)]) (st' := [.int z20, .int a, .ref 159]) rfl ?_
      refine En_callV rfl rfl rfl rfl rfl rfl rfl rfl tgz_159 (by decide +kernel) rfl (c_242 σ16 h17 a z20 (geI rfl (by omega)) (leI rfl (by omega)) (geI rfl (by omega)) (leI rfl (by first | exact q_5a5f544404 h19.2.1 | omega))) (by decide) (by decide) (fun v24 σ25 h23 => ?_)
      obtain ⟨h26, h27, z29, rfl, h28⟩ := h23
      have h30 := Fr_trans h21 h27 (by decide +kernel)
      exact En_ret (v := some (.int z29)) rfl rfl rfl ⟨h26, h30, z29, rfl, trivial⟩
    · refine En_Ps 3 (pc' := 25) (lv' := [(2, .int z20), (0, .ref 159), (1, .int a)]) (st' := [.int a, .ref 159, .ref 159]) rfl ?_
      refine En_callV rfl rfl rfl rfl rfl rfl rfl rfl tgz_159 (by decide +kernel) rfl (c_213 σ16 h17 a (geI rfl (by omega)) (leI rfl (by omega))) (by decide) (by decide) (fun v32 σ33 h31 => ?_)
      obtain ⟨h34, h35, z37, h38, z39, rfl, h36⟩ := h31
      have h40 := Fr_trans h21 h35 (by decide +kernel)
      refine En_callV rfl rfl rfl rfl rfl rfl rfl rfl tgz_159 (by decide +kernel) rfl (c_233 σ33 h34 z39) (by decide) (by decide) (fun v42 σ43 h41 => ?_)
      obtain ⟨h44, h45, z47, rfl, h46⟩ := h41
      have h48 := Fr_trans h40 h45 (by decide +kernel)
      refine En_Ps 1 (pc' := 40) (lv' := [(2, .int z20), (0, .ref 159), (1, .int a)]) (st' := [.int z47]) rfl ?_
      exact En_ret (v := some (.int z47)) rfl rfl rfl ⟨h44, h48, z47, rfl, trivial⟩
  · refine En_Ps 1 (pc' := 10) (lv' := [(0, .ref 159), (1, .int a)]) (st' := [.int (((Int8.ofInt (-2)).toInt32))]) rfl ?_
    refine En_top (by decide : ((Int8.ofInt (-2)).toInt32).toInt = -2) (fun z49 h50 => ?_)
    exact En_ret (v := some (.int z49)) rfl rfl rfl ⟨h8, h12, z49, rfl, trivial⟩

