/-- DoorSchoolModel.learns(I)I -/
abbrev P_274 (σ0 : SG) (a : Int32) : PO := fun v σ => WT σ ∧ Fr [] σ0 σ ∧ ∃ ret : Int32, v = some (.int ret) ∧ True
set_option maxRecDepth 10000 in
set_option maxHeartbeats 4000000 in
theorem c_274 (σ0 : SG) (hσ0 : WT σ0) (a : Int32) : En 3 67 none mr_274 (P_274 σ0 a) 0 [(0, .ref 159), (1, .int a)] [] σ0 := by
  have hF0 : Fr [] σ0 σ0 := Fr_rfl
  refine En_Ps 2 (pc' := 2) (lv' := [(0, .ref 159), (1, .int a)]) (st' := [.int ((Int32.ofInt 1)), .int a]) rfl ?_
  refine En_icNe _ rfl (by decide : (Int32.ofInt 1).toInt = 1) rfl (fun h1 => ?_) (fun h1 => ?_)
  · refine En_Ps 4 (pc' := 30) (lv' := [(3, .int ((Int32.ofInt 0))), (2, .int ((Int32.ofInt 0))), (0, .ref 159), (1, .int a)]) (st' := []) rfl ?_
    have key30 : ∀ (n30 : Nat) (σ4 : SG) (y2 : Int32) (y3 : Int32), WT σ4 → Fr [] σ0 σ4 → 0 ≤ y2.toInt → y2.toInt ≤ 65535 → 0 ≤ y3.toInt → y3.toInt ≤ 16 → -y3.toInt + 16 < (n30 : Int) → En 3 67 none mr_274 (P_274 σ0 a) 30 [(0, .ref 159), (1, .int a), (2, .int y2), (3, .int y3)] [] σ4 := by
      intro n30
      induction n30 with
      | zero =>
        intro σ4 y2 y3 h5 h6 h7 h8 h9 h10 h11
        first | exact (q_511f6d33ac h11 h10).elim | (exfalso; omega)
      | succ n30 ih30 =>
        intro σ4 y2 y3 h5 h6 h7 h8 h9 h10 h11
        refine En_Ps 2 (pc' := 32) (lv' := [(0, .ref 159), (1, .int a), (2, .int y2), (3, .int y3)]) (st' := [.ref 159, .int y3]) rfl ?_
        obtain ⟨z13, h12, h14, h15⟩ := WT_peekI h5 tgz_160 (by decide +kernel : FT 36 (0 : Int).toNat = (0, 0, 4)) (by decide +kernel)
        obtain ⟨z17, h16, h18, h19⟩ := WT_peekI h5 tgz_160 (by decide +kernel : FT 36 (7 : Int).toNat = (0, 0, 1600)) (by decide +kernel)
        refine En_callV rfl rfl rfl rfl rfl rfl rfl rfl tgz_159 (by decide +kernel) rfl (c_269 σ4 h5 z13 h12 z17 h16) (by decide) (by decide) (fun v21 σ22 h20 => ?_)
        obtain ⟨h23, h24, z26, rfl, h25⟩ := h20
        have h27 := h25.2.2
        have h28 := Fr_trans h6 h24 (by decide +kernel)
        refine En_icGe _ rfl rfl rfl (fun h29 => ?_) (fun h29 => ?_)
        · refine En_Ps 1 (pc' := 80) (lv' := [(0, .ref 159), (1, .int a), (2, .int y2), (3, .int y3)]) (st' := [.int y2]) rfl ?_
          exact En_ret (v := some (.int y2)) rfl rfl rfl ⟨h23, h28, y2, rfl, trivial⟩
        · refine En_Ps 3 (pc' := 41) (lv' := [(0, .ref 159), (1, .int a), (2, .int y2), (3, .int y3)]) (st' := [.int y3, .int a, .ref 159]) rfl ?_
          obtain ⟨z31, h30, h32, h33⟩ := WT_peekI h23 tgz_159 (by decide +kernel : FT 35 21 = (0, 0, 17)) (by decide +kernel)
          refine En_callV rfl rfl rfl rfl rfl rfl rfl rfl tgz_159 (by decide +kernel) rfl (c_204 σ22 h23 a y3 z31 h30) (by decide) (by decide) (fun v35 σ36 h34 => ?_)
          obtain ⟨h37, h38, z40, rfl, h39⟩ := h34
          have h41 := Fr_trans h28 h38 (by decide +kernel)
          refine En_Ps 4 (pc' := 50) (lv' := [(4, .int z40), (0, .ref 159), (1, .int a), (2, .int y2), (3, .int y3)]) (st' := [.int ((Int32.ofInt (-1))), .int z40, .int y2]) rfl ?_
          refine En_icEq _ rfl (by decide : (Int32.ofInt (-1)).toInt = -1) rfl (fun h42 => ?_) (fun h42 => ?_)
          · refine En_Ps 2 (pc' := 72) (lv' := [(4, .int z40), (0, .ref 159), (1, .int a), (2, .int y2), (3, .int y3)]) (st' := [.int ((y2 ||| ((Int32.ofInt 0))))]) rfl ?_
            refine En_rng (l := 0) (u := 65535) (or_rng 16 rfl (by decide : (Int32.ofInt 0).toInt = 0) (by omega) (by omega) (by omega) (by omega) (by decide)) (fun z43 h44 h45 => ?_)
            refine En_Ps 2 (pc' := 76) (lv' := [(3, .int ((y3 + Int32.ofInt 1))), (2, .int z43), (4, .int z40), (0, .ref 159), (1, .int a)]) (st' := []) rfl ?_
            refine En_lv1 (addI rfl (by decide : (Int32.ofInt 1).toInt = 1) (by first | exact q_465ab79ac1 h9 | omega) (by first | exact q_f3f8e04381 h10 | omega)) (fun z46 h47 => ?_)
            refine En_Ps 1 (pc' := 30) (lv' := [(3, .int z46), (2, .int z43), (4, .int z40), (0, .ref 159), (1, .int a)]) (st' := []) rfl ?_
            refine En_lv (lv := [(0, .ref 159), (1, .int a), (2, .int z43), (3, .int z46)]) ⟨rfl, rfl, rfl, rfl, trivial⟩ ?_
            exact ih30 σ36 z43 z46 h37 h41 (by first | exact q_58e6e51dcc h44 | omega) (by first | exact q_36eb0a70bf h45 | omega) (by first | exact q_35104ce9d3 h47 h9 | omega) (by first | exact q_34dc714687 h47 h29 h25.2.1 | omega) (by first | exact q_c5d740bdff h47 h11 | omega)
          · refine En_Ps 1 (pc' := 54) (lv' := [(4, .int z40), (0, .ref 159), (1, .int a), (2, .int y2), (3, .int y3)]) (st' := [.ref 159, .int y2]) rfl ?_
            refine En_getU (j := 20) (u := 170) (g' := 46) (q := 0) rfl rfl rfl tgz_159 (by decide +kernel) h37 (by decide +kernel) (by decide +kernel) (fun h48 => ?_)
            refine En_Ps 1 (pc' := 59) (lv' := [(4, .int z40), (0, .ref 159), (1, .int a), (2, .int y2), (3, .int y3)]) (st' := [.int z40, .ref 170, .int y2]) rfl ?_
            refine En_iald (l := 0) (u := 1) rfl rfl tgz_170 (by decide +kernel) h37 (by first | exact q_b1cade0df5 h42 h39.1 | omega) (lnI (by decide +kernel : LN _ = 17) (by first | exact q_587b0aad9f h39.2.1 | omega)) (FTsgl (by decide +kernel)) (fun z51 h50 h52 h53 => ?_)
            refine En_Ps 1 (pc' := 61) (lv' := [(4, .int z40), (0, .ref 159), (1, .int a), (2, .int y2), (3, .int y3)]) (st' := [.int ((Int32.ofInt 1)), .int z51, .int y2]) rfl ?_
            refine En_icNe _ rfl (by decide : (Int32.ofInt 1).toInt = 1) rfl (fun h54 => ?_) (fun h54 => ?_)
            · refine En_Ps 2 (pc' := 72) (lv' := [(4, .int z40), (0, .ref 159), (1, .int a), (2, .int y2), (3, .int y3)]) (st' := [.int ((y2 ||| ((Int32.ofInt 0))))]) rfl ?_
              refine En_rng (l := 0) (u := 65535) (or_rng 16 rfl (by decide : (Int32.ofInt 0).toInt = 0) (by omega) (by omega) (by omega) (by omega) (by decide)) (fun z55 h56 h57 => ?_)
              refine En_Ps 2 (pc' := 76) (lv' := [(3, .int ((y3 + Int32.ofInt 1))), (2, .int z55), (4, .int z40), (0, .ref 159), (1, .int a)]) (st' := []) rfl ?_
              refine En_lv1 (addI rfl (by decide : (Int32.ofInt 1).toInt = 1) (by first | exact q_465ab79ac1 h9 | omega) (by first | exact q_f3f8e04381 h10 | omega)) (fun z58 h59 => ?_)
              refine En_Ps 1 (pc' := 30) (lv' := [(3, .int z58), (2, .int z55), (4, .int z40), (0, .ref 159), (1, .int a)]) (st' := []) rfl ?_
              refine En_lv (lv := [(0, .ref 159), (1, .int a), (2, .int z55), (3, .int z58)]) ⟨rfl, rfl, rfl, rfl, trivial⟩ ?_
              exact ih30 σ36 z55 z58 h37 h41 (by first | exact q_58e6e51dcc h56 | omega) (by first | exact q_36eb0a70bf h57 | omega) (by first | exact q_35104ce9d3 h59 h9 | omega) (by first | exact q_34dc714687 h59 h29 h25.2.1 | omega) (by first | exact q_c5d740bdff h59 h11 | omega)
            · refine En_Ps 3 (pc' := 67) (lv' := [(4, .int z40), (0, .ref 159), (1, .int a), (2, .int y2), (3, .int y3)]) (st' := [.int ((((Int32.ofInt 1)) <<< (y3 &&& 31))), .int y2]) rfl ?_
              refine En_rng (shl1_p 15 rfl (by omega) (by omega) (by decide)) (fun z60 h61 h62 => ?_)
              refine En_Ps 2 (pc' := 72) (lv' := [(4, .int z40), (0, .ref 159), (1, .int a), (2, .int y2), (3, .int y3)]) (st' := [.int ((y2 ||| z60))]) rfl ?_
              refine En_rng (l := 0) (u := 65535) (or_rng 16 rfl rfl (by omega) (by omega) (by omega) (by omega) (by decide)) (fun z63 h64 h65 => ?_)
              refine En_Ps 2 (pc' := 76) (lv' := [(3, .int ((y3 + Int32.ofInt 1))), (2, .int z63), (4, .int z40), (0, .ref 159), (1, .int a)]) (st' := []) rfl ?_
              refine En_lv1 (addI rfl (by decide : (Int32.ofInt 1).toInt = 1) (by first | exact q_465ab79ac1 h9 | omega) (by first | exact q_f3f8e04381 h10 | omega)) (fun z66 h67 => ?_)
              refine En_Ps 1 (pc' := 30) (lv' := [(3, .int z66), (2, .int z63), (4, .int z40), (0, .ref 159), (1, .int a)]) (st' := []) rfl ?_
              refine En_lv (lv := [(0, .ref 159), (1, .int a), (2, .int z63), (3, .int z66)]) ⟨rfl, rfl, rfl, rfl, trivial⟩ ?_
              exact ih30 σ36 z63 z66 h37 h41 (by first | exact q_58e6e51dcc h64 | omega) (by first | exact q_36eb0a70bf h65 | omega) (by first | exact q_35104ce9d3 h67 h9 | omega) (by first | exact q_34dc714687 h67 h29 h25.2.1 | omega) (by first | exact q_c5d740bdff h67 h11 | omega)
    have := (by decide : (Int32.ofInt 0).toInt = 0)
    have := (by decide : (Int32.ofInt 0).toInt = 0)
    refine En_lv (lv := [(0, .ref 159), (1, .int a), (2, .int ((Int32.ofInt 0))), (3, .int ((Int32.ofInt 0)))]) ⟨rfl, rfl, rfl, rfl, trivial⟩ ?_
    exact key30 (Int.toNat (16) + 1) σ0 ((Int32.ofInt 0)) ((Int32.ofInt 0)) hσ0 hF0 (by decide) (by decide) (by decide) (by decide) (by first | exact toN_lt _ | omega)
  · refine En_Ps 1 (pc' := 6) (lv' := [(0, .ref 159), (1, .int a)]) (st' := [.ref 159]) rfl ?_
    refine En_callV rfl rfl rfl rfl rfl rfl rfl rfl tgz_159 (by decide +kernel) rfl (c_229 σ0 hσ0) (by decide) (by decide) (fun v69 σ70 h68 => ?_)
    obtain ⟨h71, h72, z74, rfl, h73⟩ := h68
    have h75 := Fr_trans hF0 h72 (by decide +kernel)
    refine En_Ps 3 (pc' := 12) (lv' := [(2, .int z74), (0, .ref 159), (1, .int a)]) (st' := [.int ((Int32.ofInt (-1))), .int z74]) rfl ?_
    refine En_icNe _ rfl (by decide : (Int32.ofInt (-1)).toInt = -1) rfl (fun h76 => ?_) (fun h76 => ?_)
    · refine En_Ps 1 (pc' := 20) (lv' := [(2, .int z74), (0, .ref 159), (1, .int a)]) (st' := [.ref 159]) rfl ?_
      refine En_getU (j := 17) (u := 168) (g' := 44) (q := 0) rfl rfl rfl tgz_159 (by decide +kernel) h71 (by decide +kernel) (by decide +kernel) (fun h77 => ?_)
      refine En_Ps 1 (pc' := 24) (lv' := [(2, .int z74), (0, .ref 159), (1, .int a)]) (st' := [.int z74, .ref 168]) rfl ?_
      refine En_iald (l := (-2147483648)) (u := 2147483647) rfl rfl tgz_168 (by decide +kernel) h71 (by first | exact q_b1cade0df5 h76 h73.1 | omega) (lnI (by decide +kernel : LN _ = 81) (by first | exact q_3ac9ed8367 h73.2 | omega)) (FTsgl (by decide +kernel)) (fun z80 h79 h81 h82 => ?_)
      exact En_ret (v := some (.int z80)) rfl rfl rfl ⟨h71, h75, z80, rfl, trivial⟩
    · refine En_Ps 2 (pc' := 25) (lv' := [(2, .int z74), (0, .ref 159), (1, .int a)]) (st' := [.int ((Int32.ofInt 0))]) rfl ?_
      refine En_top (by decide : (Int32.ofInt 0).toInt = 0) (fun z83 h84 => ?_)
      exact En_ret (v := some (.int z83)) rfl rfl rfl ⟨h71, h75, z83, rfl, trivial⟩
/-- DoorSchoolModel.deedsOfDoor(I)I -/
abbrev P_213 (σ0 : SG) (a : Int32) : PO := fun v σ => WT σ ∧ Fr [(35, 18), (35, 21), (42, 0), (43, 0), (44, 0), (45, 0), (46, 0)] σ0 σ ∧ ∃ m1 : Int32, (σ 159)[21]? = some (.int m1) ∧ ∃ ret : Int32, v = some (.int ret) ∧ -m1.toInt ≤ 0 ∧ m1.toInt - 13 ≤ 0
set_option maxRecDepth 10000 in
set_option maxHeartbeats 4000000 in
theorem c_213 (σ0 : SG) (hσ0 : WT σ0) (a : Int32) (hl_a : 0 ≤ a.toInt) (hu_a : a.toInt ≤ 3) : En 4 91 none mr_213 (P_213 σ0 a) 0 [(0, .ref 159), (1, .int a)] [] σ0 := by
  have hF0 : Fr [(35, 18), (35, 21), (42, 0), (43, 0), (44, 0), (45, 0), (46, 0)] σ0 σ0 := Fr_rfl
  refine En_Ps 1 (pc' := 1) (lv' := [(0, .ref 159), (1, .int a)]) (st' := [.ref 159]) rfl ?_
  obtain ⟨z2, h1, h3, h4⟩ := WT_peekI hσ0 tgz_160 (by decide +kernel : FT 36 (0 : Int).toNat = (0, 0, 4)) (by decide +kernel)
  obtain ⟨z6, h5, h7, h8⟩ := WT_peekI hσ0 tgz_160 (by decide +kernel : FT 36 (7 : Int).toNat = (0, 0, 1600)) (by decide +kernel)
  refine En_callV rfl rfl rfl rfl rfl rfl rfl rfl tgz_159 (by decide +kernel) rfl (c_272 σ0 hσ0 z2 h1 z6 h5) (by decide) (by decide) (fun v10 σ11 h9 => ?_)
  obtain ⟨h12, h13, rfl, h14⟩ := h9
  have h15 := Fr_trans hF0 h13 (by decide +kernel)
  refine En_Ps 3 (pc' := 7) (lv' := [(0, .ref 159), (1, .int a)]) (st' := [.int a, .ref 159, .ref 159]) rfl ?_
  refine En_callV rfl rfl rfl rfl rfl rfl rfl rfl tgz_159 (by decide +kernel) rfl (c_305 σ11 h12 a (geI rfl (by first | exact q_58e6e51dcc hl_a | omega)) (leI rfl (by first | exact q_da5e9b976f hu_a | omega))) (by decide) (by decide) (fun v17 σ18 h16 => ?_)
  obtain ⟨h19, h20, z22, rfl, h21⟩ := h16
  have h23 := Fr_trans h15 h20 (by decide +kernel)
  refine En_callV rfl rfl rfl rfl rfl rfl rfl rfl tgz_159 (by decide +kernel) rfl (c_271 σ18 h19 z22 (geI rfl (by first | exact q_ef1e8e38bf h21.1 | omega)) (leI rfl (by first | exact q_87d9217d84 h21.2 | omega))) (by decide) (by decide) (fun v25 σ26 h24 => ?_)
  obtain ⟨h27, h28, z30, h31, rfl, h29⟩ := h24
  have h32 := Fr_trans h23 h28 (by decide +kernel)
  refine En_Ps 4 (pc' := 17) (lv' := [(0, .ref 159), (1, .int a)]) (st' := [.int a, .ref 159, .ref 159, .ref 159]) rfl ?_
  refine En_callV rfl rfl rfl rfl rfl rfl rfl rfl tgz_159 (by decide +kernel) rfl (c_305 σ26 h27 a (geI rfl (by first | exact q_58e6e51dcc hl_a | omega)) (leI rfl (by first | exact q_da5e9b976f hu_a | omega))) (by decide) (by decide) (fun v34 σ35 h33 => ?_)
  obtain ⟨h36, h37, z39, rfl, h38⟩ := h33
  have h40 := Fr_trans h32 h37 (by decide +kernel)
  refine En_Ps 1 (pc' := 21) (lv' := [(0, .ref 159), (1, .int a)]) (st' := [.int ((Int32.ofInt 0)), .int z39, .ref 159, .ref 159]) rfl ?_
  have := (by decide : ((Int32.ofInt 0)).toInt = 0)
  obtain ⟨z41, h42, h43, h44⟩ := WT_peekJ (J := (4 * z39.toInt + ((Int32.ofInt 0)).toInt + 10)) (l := 0) (u := 2) h36 tgz_160 (by decide +kernel) (by omega) (lnI (by decide +kernel : LN _ = 226) (by omega)) (FTrow 36 10 4 4 (by decide +kernel) (by omega) (by omega) (by omega))
  have := (by decide : ((Int32.ofInt 0)).toInt = 0)
  refine En_callV rfl rfl rfl rfl rfl rfl rfl rfl tgz_159 (by decide +kernel) rfl (c_290a σ35 h36 z39 ((Int32.ofInt 0)) (geI rfl (by first | exact q_ef1e8e38bf h38.1 | omega)) (leI rfl (by first | exact q_87d9217d84 h38.2 | omega)) (geI (by decide : (Int32.ofInt 0).toInt = 0) (by decide)) (leI (by decide : (Int32.ofInt 0).toInt = 0) (by decide)) z41 h42) (by decide) (by decide) (fun v46 σ47 h45 => ?_)
  obtain ⟨h48, h49, z51, rfl, h50⟩ := h45
  have h52 := Fr_trans h40 h49 (by decide +kernel)
  refine En_callV rfl rfl rfl rfl rfl rfl rfl rfl tgz_159 (by decide +kernel) rfl (c_274 σ47 h48 z51) (by decide) (by decide) (fun v54 σ55 h53 => ?_)
  obtain ⟨h56, h57, z59, rfl, h58⟩ := h53
  have h60 := Fr_trans h52 h57 (by decide +kernel)
  exact En_ret (v := some (.int z59)) rfl rfl rfl ⟨h56, h60, z30, ((h57 _ _ (inW tgz_159 (by decide +kernel))).trans ((h49 _ _ (inW tgz_159 (by decide +kernel))).trans ((h37 _ _ (inW tgz_159 (by decide +kernel))).trans h31))), z59, rfl, ⟨by first | exact q_a555021d16 h29.1 | omega, by first | exact q_74b353401a h29.2 | omega⟩⟩
/-- DoorSchoolModel.alike(I)I -/
abbrev P_191 (σ0 : SG) (a : Int32) : PO := fun v σ => WT σ ∧ Fr [(35, 18), (35, 21), (42, 0), (43, 0), (44, 0), (45, 0), (46, 0)] σ0 σ ∧ ∃ ret : Int32, v = some (.int ret) ∧ -ret.toInt - 2 ≤ 0 ∧ ret.toInt - 15 ≤ 0
set_option maxRecDepth 10000 in
set_option maxHeartbeats 4000000 in
theorem c_191 (σ0 : SG) (hσ0 : WT σ0) (a : Int32) : En 5 112 none mr_191 (P_191 σ0 a) 0 [(0, .ref 159), (1, .int a)] [] σ0 := by
  have hF0 : Fr [(35, 18), (35, 21), (42, 0), (43, 0), (44, 0), (45, 0), (46, 0)] σ0 σ0 := Fr_rfl
  refine En_Ps 2 (pc' := 2) (lv' := [(0, .ref 159), (1, .int a)]) (st' := [.int a, .ref 159]) rfl ?_
  obtain ⟨z2, h1, h3, h4⟩ := WT_peekI hσ0 tgz_160 (by decide +kernel : FT 36 (2 : Int).toNat = (0, 0, 4)) (by decide +kernel)
  refine En_callV rfl rfl rfl rfl rfl rfl rfl rfl tgz_159 (by decide +kernel) rfl (c_254 σ0 hσ0 a z2 h1) (by decide) (by decide) (fun v6 σ7 h5 => ?_)
  obtain ⟨h8, h9, z11, rfl, h10⟩ := h5
  have h12 := Fr_trans hF0 h9 (by decide +kernel)
  refine En_iNe _ rfl rfl (fun h13 => ?_) (fun h13 => ?_)
  · refine En_Ps 2 (pc' := 13) (lv' := [(0, .ref 159), (1, .int a)]) (st' := [.int a, .ref 159]) rfl ?_
    refine En_callV rfl rfl rfl rfl rfl rfl rfl rfl tgz_159 (by decide +kernel) rfl (c_213 σ7 h8 a (geI rfl (by omega)) (leI rfl (by omega))) (by decide) (by decide) (fun v15 σ16 h14 => ?_)
    obtain ⟨h17, h18, z20, h21, z22, rfl, h19⟩ := h14
    have h23 := Fr_trans h12 h18 (by decide +kernel)
    refine En_Ps 5 (pc' := 22) (lv' := [(4, .int ((Int32.ofInt 0))), (3, .int ((Int32.ofInt 0))), (2, .int z22), (0, .ref 159), (1, .int a)]) (st' := []) rfl ?_
    have key22 : ∀ (n22 : Nat) (σ27 : SG) (y24 : Int32) (y25 : Int32) (y26 : Int32), WT σ27 → Fr [(35, 18), (35, 21), (42, 0), (43, 0), (44, 0), (45, 0), (46, 0)] σ0 σ27 → (σ27 160)[(2 : Int).toNat]? = some (.int z2) → (σ27 159)[21]? = some (.int y26) → 0 ≤ y24.toInt → y24.toInt ≤ 15 → 0 ≤ y25.toInt → y25.toInt ≤ 4 → 0 ≤ y26.toInt → y26.toInt ≤ 13 → y25.toInt - z2.toInt ≤ 0 → z2.toInt - y25.toInt < (n22 : Int) → En 5 112 none mr_191 (P_191 σ0 a) 22 [(0, .ref 159), (1, .int a), (2, .int z22), (3, .int y24), (4, .int y25)] [] σ27 := by
      intro n22
      induction n22 with
      | zero =>
        intro σ27 y24 y25 y26 h28 h29 h30 h31 h32 h33 h34 h35 h36 h37 h38 h39
        first | exact (q_14257feae7 h38 h39).elim | (exfalso; omega)
      | succ n22 ih22 =>
        intro σ27 y24 y25 y26 h28 h29 h30 h31 h32 h33 h34 h35 h36 h37 h38 h39
        refine En_Ps 2 (pc' := 25) (lv' := [(0, .ref 159), (1, .int a), (2, .int z22), (3, .int y24), (4, .int y25)]) (st' := [.ref 159, .int y25]) rfl ?_
        refine En_getU (j := 1) (u := 160) (g' := 36) (q := 0) rfl rfl rfl tgz_159 (by decide +kernel) h28 (by decide +kernel) (by decide +kernel) (fun h40 => ?_)
        refine En_Ps 1 (pc' := 29) (lv' := [(0, .ref 159), (1, .int a), (2, .int z22), (3, .int y24), (4, .int y25)]) (st' := [.int ((Int32.ofInt 2)), .ref 160, .int y25]) rfl ?_
        refine En_ialdK h30 rfl (by decide : (Int32.ofInt 2).toInt = 2) tgz_160 (by decide +kernel) h28 (by decide) (lnI (by decide +kernel : LN _ = 226) (by decide)) ?_
        refine En_icGe _ rfl rfl rfl (fun h43 => ?_) (fun h43 => ?_)
        · refine En_Ps 1 (pc' := 67) (lv' := [(0, .ref 159), (1, .int a), (2, .int z22), (3, .int y24), (4, .int y25)]) (st' := [.int y24]) rfl ?_
          exact En_ret (v := some (.int y24)) rfl rfl rfl ⟨h28, h29, y24, rfl, ⟨by first | exact q_ea7f0ffdb1 h32 | omega, by first | exact q_867a9ac627 h33 | omega⟩⟩
        · refine En_Ps 3 (pc' := 37) (lv' := [(0, .ref 159), (1, .int a), (2, .int z22), (3, .int y24), (4, .int y25)]) (st' := [.int a, .int y25, .int y24]) rfl ?_
          refine En_icEq _ rfl rfl rfl (fun h44 => ?_) (fun h44 => ?_)
          · refine En_Ps 2 (pc' := 59) (lv' := [(0, .ref 159), (1, .int a), (2, .int z22), (3, .int y24), (4, .int y25)]) (st' := [.int ((y24 ||| ((Int32.ofInt 0))))]) rfl ?_
            refine En_rng (l := 0) (u := 15) (or_rng 4 rfl (by decide : (Int32.ofInt 0).toInt = 0) (by omega) (by omega) (by omega) (by omega) (by decide)) (fun z45 h46 h47 => ?_)
            refine En_Ps 2 (pc' := 63) (lv' := [(4, .int ((y25 + Int32.ofInt 1))), (3, .int z45), (0, .ref 159), (1, .int a), (2, .int z22)]) (st' := []) rfl ?_
            refine En_lv1 (addI rfl (by decide : (Int32.ofInt 1).toInt = 1) (by first | exact q_465ab79ac1 h34 | omega) (by first | exact q_f7282962fd h35 | omega)) (fun z48 h49 => ?_)
            refine En_Ps 1 (pc' := 22) (lv' := [(4, .int z48), (3, .int z45), (0, .ref 159), (1, .int a), (2, .int z22)]) (st' := []) rfl ?_
            refine En_lv (lv := [(0, .ref 159), (1, .int a), (2, .int z22), (3, .int z45), (4, .int z48)]) ⟨rfl, rfl, rfl, rfl, rfl, trivial⟩ ?_
            exact ih22 σ27 z45 z48 y26 h28 h29 h30 h31 (by first | exact q_58e6e51dcc h46 | omega) (by first | exact q_5a4d8a7e08 h47 | omega) (by first | exact q_35104ce9d3 h49 h34 | omega) (by first | exact q_de42116b63 h49 h43 h4 | omega) (by first | exact q_58e6e51dcc h36 | omega) (by first | exact q_7991346fe8 h37 | omega) (by first | exact q_ae2dbf4292 h43 h49 | omega) (by first | exact q_8d03a5a7cb h49 h39 | omega)
          · refine En_Ps 2 (pc' := 43) (lv' := [(0, .ref 159), (1, .int a), (2, .int z22), (3, .int y24), (4, .int y25)]) (st' := [.int y25, .ref 159, .int y24]) rfl ?_
            refine En_callV rfl rfl rfl rfl rfl rfl rfl rfl tgz_159 (by decide +kernel) rfl (c_213 σ27 h28 y25 (geI rfl (by first | exact q_58e6e51dcc h34 | omega)) (leI rfl (by first | exact q_5ab2e90ecc h43 h4 | omega))) (by decide) (by decide) (fun v51 σ52 h50 => ?_)
            obtain ⟨h53, h54, z56, h57, z58, rfl, h55⟩ := h50
            have h59 := Fr_trans h29 h54 (by decide +kernel)
            refine En_Ps 1 (pc' := 47) (lv' := [(0, .ref 159), (1, .int a), (2, .int z22), (3, .int y24), (4, .int y25)]) (st' := [.int z22, .int z58, .int y24]) rfl ?_
            refine En_icNe _ rfl rfl rfl (fun h60 => ?_) (fun h60 => ?_)
            · refine En_Ps 2 (pc' := 59) (lv' := [(0, .ref 159), (1, .int a), (2, .int z22), (3, .int y24), (4, .int y25)]) (st' := [.int ((y24 ||| ((Int32.ofInt 0))))]) rfl ?_
              refine En_rng (l := 0) (u := 15) (or_rng 4 rfl (by decide : (Int32.ofInt 0).toInt = 0) (by omega) (by omega) (by omega) (by omega) (by decide)) (fun z61 h62 h63 => ?_)
              refine En_Ps 2 (pc' := 63) (lv' := [(4, .int ((y25 + Int32.ofInt 1))), (3, .int z61), (0, .ref 159), (1, .int a), (2, .int z22)]) (st' := []) rfl ?_
              refine En_lv1 (addI rfl (by decide : (Int32.ofInt 1).toInt = 1) (by first | exact q_465ab79ac1 h34 | omega) (by first | exact q_f7282962fd h35 | omega)) (fun z64 h65 => ?_)
              refine En_Ps 1 (pc' := 22) (lv' := [(4, .int z64), (3, .int z61), (0, .ref 159), (1, .int a), (2, .int z22)]) (st' := []) rfl ?_
              refine En_lv (lv := [(0, .ref 159), (1, .int a), (2, .int z22), (3, .int z61), (4, .int z64)]) ⟨rfl, rfl, rfl, rfl, rfl, trivial⟩ ?_
              exact ih22 σ52 z61 z64 z56 h53 h59 ((h54 _ _ (inWa tgz_160 (by decide +kernel))).trans h30) h57 (by first | exact q_58e6e51dcc h62 | omega) (by first | exact q_5a4d8a7e08 h63 | omega) (by first | exact q_35104ce9d3 h65 h34 | omega) (by first | exact q_de42116b63 h65 h43 h4 | omega) (by first | exact q_ef1e8e38bf h55.1 | omega) (by first | exact q_41996583c2 h55.2 | omega) (by first | exact q_ae2dbf4292 h43 h65 | omega) (by first | exact q_8d03a5a7cb h65 h39 | omega)
            · refine En_Ps 3 (pc' := 54) (lv' := [(0, .ref 159), (1, .int a), (2, .int z22), (3, .int y24), (4, .int y25)]) (st' := [.int ((((Int32.ofInt 1)) <<< (y25 &&& 31))), .int y24]) rfl ?_
              refine En_rng (shl1_p 3 rfl (by omega) (by omega) (by decide)) (fun z66 h67 h68 => ?_)
              refine En_Ps 2 (pc' := 59) (lv' := [(0, .ref 159), (1, .int a), (2, .int z22), (3, .int y24), (4, .int y25)]) (st' := [.int ((y24 ||| z66))]) rfl ?_
              refine En_rng (l := 0) (u := 15) (or_rng 4 rfl rfl (by omega) (by omega) (by omega) (by omega) (by decide)) (fun z69 h70 h71 => ?_)
              refine En_Ps 2 (pc' := 63) (lv' := [(4, .int ((y25 + Int32.ofInt 1))), (3, .int z69), (0, .ref 159), (1, .int a), (2, .int z22)]) (st' := []) rfl ?_
              refine En_lv1 (addI rfl (by decide : (Int32.ofInt 1).toInt = 1) (by first | exact q_465ab79ac1 h34 | omega) (by first | exact q_f7282962fd h35 | omega)) (fun z72 h73 => ?_)
              refine En_Ps 1 (pc' := 22) (lv' := [(4, .int z72), (3, .int z69), (0, .ref 159), (1, .int a), (2, .int z22)]) (st' := []) rfl ?_
              refine En_lv (lv := [(0, .ref 159), (1, .int a), (2, .int z22), (3, .int z69), (4, .int z72)]) ⟨rfl, rfl, rfl, rfl, rfl, trivial⟩ ?_
              exact ih22 σ52 z69 z72 z56 h53 h59 ((h54 _ _ (inWa tgz_160 (by decide +kernel))).trans h30) h57 (by first | exact q_58e6e51dcc h70 | omega) (by first | exact q_5a4d8a7e08 h71 | omega) (by first | exact q_35104ce9d3 h73 h34 | omega) (by first | exact q_de42116b63 h73 h43 h4 | omega) (by first | exact q_ef1e8e38bf h55.1 | omega) (by first | exact q_41996583c2 h55.2 | omega) (by first | exact q_ae2dbf4292 h43 h73 | omega) (by first | exact q_8d03a5a7cb h73 h39 | omega)
    have := (by decide : (Int32.ofInt 0).toInt = 0)
    have := (by decide : (Int32.ofInt 0).toInt = 0)
    refine En_lv (lv := [(0, .ref 159), (1, .int a), (2, .int z22), (3, .int ((Int32.ofInt 0))), (4, .int ((Int32.ofInt 0)))]) ⟨rfl, rfl, rfl, rfl, rfl, trivial⟩ ?_
    exact key22 (Int.toNat (z2.toInt) + 1) σ16 ((Int32.ofInt 0)) ((Int32.ofInt 0)) z20 h17 h23 ((h18 _ _ (inWa tgz_160 (by decide +kernel))).trans ((h9 _ _ (inWa tgz_160 (by decide +kernel))).trans h1)) h21 (by decide) (by decide) (by decide) (by decide) (by first | exact q_ef1e8e38bf h19.1 | omega) (by first | exact q_41996583c2 h19.2 | omega) (by omega) (by first | exact toN_lt _ | omega)
  · refine En_Ps 1 (pc' := 10) (lv' := [(0, .ref 159), (1, .int a)]) (st' := [.int (((Int8.ofInt (-2)).toInt32))]) rfl ?_
    refine En_top (by decide : ((Int8.ofInt (-2)).toInt32).toInt = -2) (fun z74 h75 => ?_)
    exact En_ret (v := some (.int z74)) rfl rfl rfl ⟨h8, h12, z74, rfl, ⟨by first | exact q_f35c5d346c h75 | omega, by first | exact q_12a74e12a3 h75 | omega⟩⟩
/-- DoorSchoolModel.allKnocks()I -/
abbrev P_192 (σ0 : SG) : PO := fun v σ => WT σ ∧ Fr [] σ0 σ ∧ ∃ ret : Int32, v = some (.int ret) ∧ -ret.toInt ≤ 0 ∧ ret.toInt - 65535 ≤ 0
set_option maxRecDepth 10000 in
set_option maxHeartbeats 4000000 in
theorem c_192 (σ0 : SG) (hσ0 : WT σ0) : En 2 40 none mr_192 (P_192 σ0) 0 [(0, .ref 159)] [] σ0 := by
  have hF0 : Fr [] σ0 σ0 := Fr_rfl
  refine En_Ps 2 (pc' := 2) (lv' := [(0, .ref 159)]) (st' := [.ref 159, .int ((Int32.ofInt 1))]) rfl ?_
  obtain ⟨z2, h1, h3, h4⟩ := WT_peekI hσ0 tgz_160 (by decide +kernel : FT 36 (0 : Int).toNat = (0, 0, 4)) (by decide +kernel)
  obtain ⟨z6, h5, h7, h8⟩ := WT_peekI hσ0 tgz_160 (by decide +kernel : FT 36 (7 : Int).toNat = (0, 0, 1600)) (by decide +kernel)
  refine En_callV rfl rfl rfl rfl rfl rfl rfl rfl tgz_159 (by decide +kernel) rfl (c_269 σ0 hσ0 z2 h1 z6 h5) (by decide) (by decide) (fun v10 σ11 h9 => ?_)
  obtain ⟨h12, h13, z15, rfl, h14⟩ := h9
  have h16 := h14.2.2
  have h17 := Fr_trans hF0 h13 (by decide +kernel)
  refine En_Ps 1 (pc' := 6) (lv' := [(0, .ref 159)]) (st' := [.int ((((Int32.ofInt 1)) <<< (z15 &&& 31)))]) rfl ?_
  refine En_rng (shl1_p 16 rfl (by omega) (by omega) (by decide)) (fun z18 h19 h20 => ?_)
  refine En_Ps 2 (pc' := 8) (lv' := [(0, .ref 159)]) (st' := [.int ((z18 - ((Int32.ofInt 1))))]) rfl ?_
  refine En_top (subI rfl (by decide : (Int32.ofInt 1).toInt = 1) (by first | exact q_96dadfce4b h19 | omega) (by first | exact q_8661d4233b h20 | omega)) (fun z21 h22 => ?_)
  exact En_ret (v := some (.int z21)) rfl rfl rfl ⟨h12, h17, z21, rfl, ⟨by first | exact q_a36023f969 h22 h19 | omega, by first | exact q_3bae1d5aac h22 h20 | omega⟩⟩
/-- DoorSchoolModel.isHouse(I)Z -/
abbrev P_258 (σ0 : SG) (a : Int32) : PO := fun v σ => WT σ ∧ Fr [] σ0 σ ∧ ∃ ret : Int32, v = some (.int ret) ∧ -ret.toInt ≤ 0 ∧ ret.toInt - 1 ≤ 0 ∧ (ret.toInt - 1 ≤ 0 ∧ -ret.toInt + 1 ≤ 0 → -a.toInt ≤ 0 ∧ a.toInt - 3 ≤ 0)
set_option maxRecDepth 10000 in
set_option maxHeartbeats 4000000 in
theorem c_258 (σ0 : SG) (hσ0 : WT σ0) (a : Int32) : En 1 25 none mr_258 (P_258 σ0 a) 0 [(0, .ref 159), (1, .int a)] [] σ0 := by
  have hF0 : Fr [] σ0 σ0 := Fr_rfl
  refine En_Ps 4 (pc' := 4) (lv' := [(0, .ref 159), (1, .int a)]) (st' := [.ref 159, .long ((Int64.ofNat 0)), .long a.toInt64]) rfl ?_
  refine En_getU (j := 1) (u := 160) (g' := 36) (q := 0) rfl rfl rfl tgz_159 (by decide +kernel) hσ0 (by decide +kernel) (by decide +kernel) (fun h1 => ?_)
  refine En_Ps 1 (pc' := 8) (lv' := [(0, .ref 159), (1, .int a)]) (st' := [.int ((Int32.ofInt 4)), .ref 160, .long ((Int64.ofNat 0)), .long a.toInt64]) rfl ?_
  refine En_iald (l := 0) (u := 4) rfl (by decide : (Int32.ofInt 4).toInt = 4) tgz_160 (by decide +kernel) hσ0 (by decide) (lnI (by decide +kernel : LN _ = 226) (by decide)) (by decide +kernel) (fun z4 h3 h5 h6 => ?_)
  refine En_Ps 2 (pc' := 11) (lv' := [(0, .ref 159), (1, .int a)]) (st' := [.int ((z4 - ((Int32.ofInt 1)))), .long ((Int64.ofNat 0)), .long a.toInt64]) rfl ?_
  refine En_top (subI rfl (by decide : (Int32.ofInt 1).toInt = 1) (by first | exact q_93f9478bef h5 | omega) (by first | exact q_cc3cee8591 h6 | omega)) (fun z7 h8 => ?_)
  refine En_Ps 1 (pc' := 12) (lv' := [(0, .ref 159), (1, .int a)]) (st' := [.long z7.toInt64, .long ((Int64.ofNat 0)), .long a.toInt64]) rfl ?_
  have : a.toInt64.toInt = a.toInt := (i2lI rfl)
  have := (by decide : ((Int64.ofNat 0)).toInt = 0)
  have : z7.toInt64.toInt = z7.toInt := (i2lI rfl)
  refine En_callS rfl rfl rfl rfl rfl rfl rfl rfl rfl (c_249 σ0 hσ0 a.toInt64 ((Int64.ofNat 0)) z7.toInt64) (by decide) (by decide) (fun v10 σ11 h9 => ?_)
  obtain ⟨h12, h13, z15, rfl, h14⟩ := h9
  have h16 := Fr_trans hF0 h13 (by decide +kernel)
  exact En_ret (v := some (.int z15)) rfl rfl (retZ rfl rfl (by first | exact q_ef1e8e38bf h14.1 | omega) (by first | exact q_733c8bfbae h14.2.1 | omega)) ⟨h12, h16, z15, rfl, ⟨by first | exact q_a555021d16 h14.1 | omega, by first | exact q_ad5b726bf8 h14.2.1 | omega, fun _ => by omega⟩⟩
/-- DoorSchoolModel.amissOf(II)I -/
abbrev P_194 (σ0 : SG) (a : Int32) (b : Int32) : PO := fun v σ => WT σ ∧ Fr [(35, 18), (35, 21), (42, 0), (43, 0), (44, 0), (45, 0), (46, 0)] σ0 σ ∧ ∃ ret : Int32, v = some (.int ret) ∧ True
set_option maxRecDepth 10000 in
set_option maxHeartbeats 4000000 in
theorem c_194 (σ0 : SG) (hσ0 : WT σ0) (a : Int32) (b : Int32) (hl_a : 0 ≤ a.toInt) (hu_a : a.toInt ≤ 3) (hl_b : 0 ≤ b.toInt) (hu_b : b.toInt ≤ 3) : En 5 112 none mr_194 (P_194 σ0 a b) 0 [(0, .ref 159), (1, .int a), (2, .int b)] [] σ0 := by
  have hF0 : Fr [(35, 18), (35, 21), (42, 0), (43, 0), (44, 0), (45, 0), (46, 0)] σ0 σ0 := Fr_rfl
  refine En_Ps 2 (pc' := 2) (lv' := [(0, .ref 159), (1, .int a), (2, .int b)]) (st' := [.int a, .ref 159]) rfl ?_
  refine En_callV rfl rfl rfl rfl rfl rfl rfl rfl tgz_159 (by decide +kernel) rfl (c_213 σ0 hσ0 a (geI rfl (by first | exact q_58e6e51dcc hl_a | omega)) (leI rfl (by first | exact q_da5e9b976f hu_a | omega))) (by decide) (by decide) (fun v2 σ3 h1 => ?_)
  obtain ⟨h4, h5, z7, h8, z9, rfl, h6⟩ := h1
  have h10 := Fr_trans hF0 h5 (by decide +kernel)
  refine En_Ps 2 (pc' := 7) (lv' := [(0, .ref 159), (1, .int a), (2, .int b)]) (st' := [.ref 159, .ref 159, .int z9]) rfl ?_
  refine En_getU (j := 1) (u := 160) (g' := 36) (q := 0) rfl rfl rfl tgz_159 (by decide +kernel) h4 (by decide +kernel) (by decide +kernel) (fun h11 => ?_)
  refine En_Ps 4 (pc' := 16) (lv' := [(0, .ref 159), (1, .int a), (2, .int b)]) (st' := [.int ((((Int32.ofInt 2)) * b)), .int (((Int16.ofInt 146).toInt32)), .ref 160, .ref 159, .int z9]) rfl ?_
  refine En_top (mulI (by decide : (Int32.ofInt 2).toInt = 2) rfl (Z := 2 * b.toInt) (by first | exact q_9c4c04fc55 | omega) (by first | exact q_1f719a6719 hl_b | omega) (by first | exact q_3ff87b8751 hu_b | omega)) (fun z13 h14 => ?_)
  refine En_Ps 1 (pc' := 17) (lv' := [(0, .ref 159), (1, .int a), (2, .int b)]) (st' := [.int (((((Int16.ofInt 146).toInt32)) + z13)), .ref 160, .ref 159, .int z9]) rfl ?_
  refine En_top (addI (by decide : ((Int16.ofInt 146).toInt32).toInt = 146) rfl (by first | exact q_42b4d5f9e5 h14 hl_b | omega) (by first | exact q_82ff7b9a25 h14 hu_b | omega)) (fun z15 h16 => ?_)
  refine En_iald (l := 0) (u := 15) rfl rfl tgz_160 (by decide +kernel) h4 (by first | exact q_ca048fa9de h16 h14 hl_b | omega) (lnI (by decide +kernel : LN _ = 226) (by first | exact q_8d4790cc3f h16 h14 hu_b | omega)) (FTrow 36 146 2 4 (by decide +kernel) (by first | exact q_dfbb15bd91 h16 h14 hl_b | omega) (by first | exact q_e71d6da6c9 h16 h14 hu_b | omega) (by first | exact q_d64200d76f h14 h16 | omega)) (fun z18 h17 h19 h20 => ?_)
  refine En_Ps 1 (pc' := 19) (lv' := [(0, .ref 159), (1, .int a), (2, .int b)]) (st' := [.ref 159, .int z18, .ref 159, .int z9]) rfl ?_
  refine En_getK (j := 1) h11 rfl rfl rfl tgz_159 (by decide +kernel) ?_
  refine En_Ps 4 (pc' := 28) (lv' := [(0, .ref 159), (1, .int a), (2, .int b)]) (st' := [.int ((((Int32.ofInt 2)) * b)), .int (((Int16.ofInt 146).toInt32)), .ref 160, .int z18, .ref 159, .int z9]) rfl ?_
  refine En_top (mulI (by decide : (Int32.ofInt 2).toInt = 2) rfl (Z := 2 * b.toInt) (by first | exact q_9c4c04fc55 | omega) (by first | exact q_1f719a6719 hl_b | omega) (by first | exact q_3ff87b8751 hu_b | omega)) (fun z21 h22 => ?_)
  refine En_Ps 1 (pc' := 29) (lv' := [(0, .ref 159), (1, .int a), (2, .int b)]) (st' := [.int (((((Int16.ofInt 146).toInt32)) + z21)), .ref 160, .int z18, .ref 159, .int z9]) rfl ?_
  refine En_top (addI (by decide : ((Int16.ofInt 146).toInt32).toInt = 146) rfl (by first | exact q_42b4d5f9e5 h22 hl_b | omega) (by first | exact q_82ff7b9a25 h22 hu_b | omega)) (fun z23 h24 => ?_)
  refine En_Ps 2 (pc' := 31) (lv' := [(0, .ref 159), (1, .int a), (2, .int b)]) (st' := [.int ((z23 + ((Int32.ofInt 1)))), .ref 160, .int z18, .ref 159, .int z9]) rfl ?_
  refine En_top (addI rfl (by decide : (Int32.ofInt 1).toInt = 1) (by first | exact q_8ed88b027b h24 h22 hl_b | omega) (by first | exact q_bb9acf466d h24 h22 hu_b | omega)) (fun z25 h26 => ?_)
  refine En_iald (l := 0) (u := 15) rfl rfl tgz_160 (by decide +kernel) h4 (by first | exact q_2a978cfcfe h26 h24 h22 hl_b | omega) (lnI (by decide +kernel : LN _ = 226) (by first | exact q_c40d0f27ec h26 h24 h22 hu_b | omega)) (FTrow 36 147 2 4 (by decide +kernel) (by first | exact q_f858115c7e h26 h24 h22 hl_b | omega) (by first | exact q_c0c7c1ec7b h26 h24 h22 hu_b | omega) (by first | exact q_19339a33a0 h22 h24 h26 | omega)) (fun z28 h27 h29 h30 => ?_)
  refine En_callV rfl rfl rfl rfl rfl rfl rfl rfl tgz_159 (by decide +kernel) rfl (c_212 σ3 h4 z18 z28) (by decide) (by decide) (fun v32 σ33 h31 => ?_)
  obtain ⟨h34, h35, z37, rfl, h36⟩ := h31
  have h38 := Fr_trans h10 h35 (by decide +kernel)
  refine En_Ps 1 (pc' := 36) (lv' := [(0, .ref 159), (1, .int a), (2, .int b)]) (st' := [.int ((z9 ^^^ z37))]) rfl ?_
  refine En_hav (fun z39 => ?_)
  refine En_callS rfl rfl rfl rfl rfl rfl rfl rfl rfl (c_203b σ33 h34 z39) (by decide) (by decide) (fun v41 σ42 h40 => ?_)
  obtain ⟨h43, h44, z46, rfl, h45⟩ := h40
  have h47 := Fr_trans h38 h44 (by decide +kernel)
  exact En_ret (v := some (.int z46)) rfl rfl rfl ⟨h43, h47, z46, rfl, trivial⟩
/-- DoorSchoolModel.amiss(II)I -/
abbrev P_193 (σ0 : SG) (a : Int32) (b : Int32) : PO := fun v σ => WT σ ∧ Fr [(35, 18), (35, 21), (42, 0), (43, 0), (44, 0), (45, 0), (46, 0)] σ0 σ ∧ ∃ ret : Int32, v = some (.int ret) ∧ True
set_option maxRecDepth 10000 in
set_option maxHeartbeats 4000000 in
theorem c_193 (σ0 : SG) (hσ0 : WT σ0) (a : Int32) (b : Int32) : En 6 134 none mr_193 (P_193 σ0 a b) 0 [(0, .ref 159), (1, .int a), (2, .int b)] [] σ0 := by
  have hF0 : Fr [(35, 18), (35, 21), (42, 0), (43, 0), (44, 0), (45, 0), (46, 0)] σ0 σ0 := Fr_rfl
  refine En_Ps 2 (pc' := 2) (lv' := [(0, .ref 159), (1, .int a), (2, .int b)]) (st' := [.int a, .ref 159]) rfl ?_
  obtain ⟨z2, h1, h3, h4⟩ := WT_peekI hσ0 tgz_160 (by decide +kernel : FT 36 (2 : Int).toNat = (0, 0, 4)) (by decide +kernel)
  refine En_callV rfl rfl rfl rfl rfl rfl rfl rfl tgz_159 (by decide +kernel) rfl (c_254 σ0 hσ0 a z2 h1) (by decide) (by decide) (fun v6 σ7 h5 => ?_)
  obtain ⟨h8, h9, z11, rfl, h10⟩ := h5
  have h12 := Fr_trans hF0 h9 (by decide +kernel)
  refine En_iEq _ rfl rfl (fun h13 => ?_) (fun h13 => ?_)
  · refine En_Ps 1 (pc' := 27) (lv' := [(0, .ref 159), (1, .int a), (2, .int b)]) (st' := [.int (((Int8.ofInt (-2)).toInt32))]) rfl ?_
    refine En_top (by decide : ((Int8.ofInt (-2)).toInt32).toInt = -2) (fun z14 h15 => ?_)
    exact En_ret (v := some (.int z14)) rfl rfl rfl ⟨h8, h12, z14, rfl, trivial⟩
  · refine En_Ps 2 (pc' := 10) (lv' := [(0, .ref 159), (1, .int a), (2, .int b)]) (st' := [.int b, .ref 159]) rfl ?_
    refine En_callV rfl rfl rfl rfl rfl rfl rfl rfl tgz_159 (by decide +kernel) rfl (c_258 σ7 h8 b) (by decide) (by decide) (fun v17 σ18 h16 => ?_)
    obtain ⟨h19, h20, z22, rfl, h21⟩ := h16
    have h23 := Fr_trans h12 h20 (by decide +kernel)
    refine En_iEq _ rfl rfl (fun h24 => ?_) (fun h24 => ?_)
    · refine En_Ps 1 (pc' := 27) (lv' := [(0, .ref 159), (1, .int a), (2, .int b)]) (st' := [.int (((Int8.ofInt (-2)).toInt32))]) rfl ?_
      refine En_top (by decide : ((Int8.ofInt (-2)).toInt32).toInt = -2) (fun z25 h26 => ?_)
      exact En_ret (v := some (.int z25)) rfl rfl rfl ⟨h19, h23, z25, rfl, trivial⟩
    · refine En_Ps 3 (pc' := 19) (lv' := [(0, .ref 159), (1, .int a), (2, .int b)]) (st' := [.int b, .int a, .ref 159]) rfl ?_
      refine En_callV rfl rfl rfl rfl rfl rfl rfl rfl tgz_159 (by decide +kernel) rfl (c_194 σ18 h19 a b (geI rfl (by omega)) (leI rfl (by omega)) (geI rfl (by omega)) (leI rfl (by omega))) (by decide) (by decide) (fun v28 σ29 h27 => ?_)
      obtain ⟨h30, h31, z33, rfl, h32⟩ := h27
      have h34 := Fr_trans h23 h31 (by decide +kernel)
      refine En_Ps 1 (pc' := 27) (lv' := [(0, .ref 159), (1, .int a), (2, .int b)]) (st' := [.int z33]) rfl ?_
      exact En_ret (v := some (.int z33)) rfl rfl rfl ⟨h30, h34, z33, rfl, trivial⟩
/-- DoorSchoolModel.areDeeds(I)Z -/
abbrev P_195 (σ0 : SG) (a : Int32) : PO := fun v σ => WT σ ∧ Fr [] σ0 σ ∧ ∃ ret : Int32, v = some (.int ret) ∧ -ret.toInt ≤ 0 ∧ ret.toInt - 1 ≤ 0 ∧ (ret.toInt - 1 ≤ 0 ∧ -ret.toInt + 1 ≤ 0 → -a.toInt ≤ 0 ∧ a.toInt - 65535 ≤ 0)
set_option maxRecDepth 10000 in
set_option maxHeartbeats 4000000 in
theorem c_195 (σ0 : SG) (hσ0 : WT σ0) (a : Int32) : En 3 60 none mr_195 (P_195 σ0 a) 0 [(0, .ref 159), (1, .int a)] [] σ0 := by
  have hF0 : Fr [] σ0 σ0 := Fr_rfl
  refine En_Ps 1 (pc' := 1) (lv' := [(0, .ref 159), (1, .int a)]) (st' := [.ref 159]) rfl ?_
  obtain ⟨z2, h1, h3, h4⟩ := WT_peekI hσ0 tgz_160 (by decide +kernel : FT 36 (7 : Int).toNat = (0, 0, 1600)) (by decide +kernel)
  refine En_callV rfl rfl rfl rfl rfl rfl rfl rfl tgz_159 (by decide +kernel) rfl (c_264 σ0 hσ0 z2 h1) (by decide) (by decide) (fun v6 σ7 h5 => ?_)
  obtain ⟨h8, h9, z11, rfl, h10⟩ := h5
  have h12 := Fr_trans hF0 h9 (by decide +kernel)
  refine En_iEq _ rfl rfl (fun h13 => ?_) (fun h13 => ?_)
  · refine En_Ps 1 (pc' := 26) (lv' := [(0, .ref 159), (1, .int a)]) (st' := [.int ((Int32.ofInt 0))]) rfl ?_
    refine En_top (by decide : (Int32.ofInt 0).toInt = 0) (fun z14 h15 => ?_)
    exact En_ret (v := some (.int z14)) rfl rfl (retZ rfl rfl (by first | exact q_55451d0a83 h15 | omega) (by first | exact q_87849c3859 h15 | omega)) ⟨h8, h12, z14, rfl, ⟨by first | exact q_097a37c2ae h15 | omega, by first | exact q_e269517bee h15 | omega, fun _ => by omega⟩⟩
  · refine En_Ps 4 (pc' := 11) (lv' := [(0, .ref 159), (1, .int a)]) (st' := [.ref 159, .long ((Int64.ofNat 0)), .long a.toInt64]) rfl ?_
    refine En_callV rfl rfl rfl rfl rfl rfl rfl rfl tgz_159 (by decide +kernel) rfl (c_192 σ7 h8) (by decide) (by decide) (fun v17 σ18 h16 => ?_)
    obtain ⟨h19, h20, z22, rfl, h21⟩ := h16
    have h23 := Fr_trans h12 h20 (by decide +kernel)
    refine En_Ps 1 (pc' := 15) (lv' := [(0, .ref 159), (1, .int a)]) (st' := [.long z22.toInt64, .long ((Int64.ofNat 0)), .long a.toInt64]) rfl ?_
    have : a.toInt64.toInt = a.toInt := (i2lI rfl)
    have := (by decide : ((Int64.ofNat 0)).toInt = 0)
    have : z22.toInt64.toInt = z22.toInt := (i2lI rfl)
    refine En_callS rfl rfl rfl rfl rfl rfl rfl rfl rfl (c_249 σ18 h19 a.toInt64 ((Int64.ofNat 0)) z22.toInt64) (by decide) (by decide) (fun v25 σ26 h24 => ?_)
    obtain ⟨h27, h28, z30, rfl, h29⟩ := h24
    have h31 := Fr_trans h23 h28 (by decide +kernel)
    refine En_iEq _ rfl rfl (fun h32 => ?_) (fun h32 => ?_)
    · refine En_Ps 1 (pc' := 26) (lv' := [(0, .ref 159), (1, .int a)]) (st' := [.int ((Int32.ofInt 0))]) rfl ?_
      refine En_top (by decide : (Int32.ofInt 0).toInt = 0) (fun z33 h34 => ?_)
      exact En_ret (v := some (.int z33)) rfl rfl (retZ rfl rfl (by first | exact q_55451d0a83 h34 | omega) (by first | exact q_87849c3859 h34 | omega)) ⟨h27, h31, z33, rfl, ⟨by first | exact q_097a37c2ae h34 | omega, by first | exact q_e269517bee h34 | omega, fun _ => by omega⟩⟩
    · refine En_Ps 2 (pc' := 26) (lv' := [(0, .ref 159), (1, .int a)]) (st' := [.int ((Int32.ofInt 1))]) rfl ?_
      refine En_top (by decide : (Int32.ofInt 1).toInt = 1) (fun z35 h36 => ?_)
      exact En_ret (v := some (.int z35)) rfl rfl (retZ rfl rfl (by first | exact q_2b07c97645 h36 | omega) (by first | exact q_d9e7cbb253 h36 | omega)) ⟨h27, h31, z35, rfl, ⟨by first | exact q_ad3eee31ca h36 | omega, by first | exact q_81cf297dc4 h36 | omega, fun _ => by omega⟩⟩
/-- DoorSchoolModel.isSlot(I)Z -/
abbrev P_266 (σ0 : SG) (a : Int32) : PO := fun v σ => WT σ ∧ Fr [] σ0 σ ∧ ∃ ret : Int32, v = some (.int ret) ∧ -ret.toInt ≤ 0 ∧ ret.toInt - 1 ≤ 0 ∧ (ret.toInt - 1 ≤ 0 ∧ -ret.toInt + 1 ≤ 0 → -a.toInt ≤ 0 ∧ a.toInt - 3 ≤ 0) ∧ (-a.toInt ≤ 0 ∧ a.toInt - 3 ≤ 0 → ret.toInt - 1 ≤ 0 ∧ -ret.toInt + 1 ≤ 0)
set_option maxRecDepth 10000 in
set_option maxHeartbeats 4000000 in
theorem c_266 (σ0 : SG) (hσ0 : WT σ0) (a : Int32) : En 1 25 none mr_266 (P_266 σ0 a) 0 [(0, .int a)] [] σ0 := by
  have hF0 : Fr [] σ0 σ0 := Fr_rfl
  refine En_Ps 4 (pc' := 6) (lv' := [(0, .int a)]) (st' := [.long ((3 : Int64)), .long ((Int64.ofNat 0)), .long a.toInt64]) rfl ?_
  have : a.toInt64.toInt = a.toInt := (i2lI rfl)
  have := (by decide : ((Int64.ofNat 0)).toInt = 0)
  have := (by decide : ((3 : Int64)).toInt = 3)
  refine En_callS rfl rfl rfl rfl rfl rfl rfl rfl rfl (c_249 σ0 hσ0 a.toInt64 ((Int64.ofNat 0)) ((3 : Int64))) (by decide) (by decide) (fun v2 σ3 h1 => ?_)
  obtain ⟨h4, h5, z7, rfl, h6⟩ := h1
  have h8 := Fr_trans hF0 h5 (by decide +kernel)
  exact En_ret (v := some (.int z7)) rfl rfl (retZ rfl rfl (by first | exact q_ef1e8e38bf h6.1 | omega) (by first | exact q_733c8bfbae h6.2.1 | omega)) ⟨h4, h8, z7, rfl, ⟨by first | exact q_a555021d16 h6.1 | omega, by first | exact q_ad5b726bf8 h6.2.1 | omega, fun _ => by omega, fun _ => by omega⟩⟩
/-- DoorSchoolModel.numberAt(II)J -/
abbrev P_289 (σ0 : SG) (a : Int32) (b : Int32) : PO := fun v σ => WT σ ∧ Fr [] σ0 σ ∧ ∃ ret : Int64, v = some (.long ret) ∧ True
set_option maxRecDepth 10000 in
set_option maxHeartbeats 4000000 in
theorem c_289 (σ0 : SG) (hσ0 : WT σ0) (a : Int32) (b : Int32) (hl_a : 0 ≤ a.toInt) (hu_a : a.toInt ≤ 3) (hl_b : 0 ≤ b.toInt) (hu_b : b.toInt ≤ 59) : En 0 0 none mr_289 (P_289 σ0 a b) 0 [(0, .ref 159), (1, .int a), (2, .int b)] [] σ0 := by
  have hF0 : Fr [] σ0 σ0 := Fr_rfl
  refine En_Ps 1 (pc' := 1) (lv' := [(0, .ref 159), (1, .int a), (2, .int b)]) (st' := [.ref 159]) rfl ?_
  refine En_getU (j := 34) (u := 179) (g' := 55) (q := 0) rfl rfl rfl tgz_159 (by decide +kernel) hσ0 (by decide +kernel) (by decide +kernel) (fun h1 => ?_)
  refine En_Ps 3 (pc' := 8) (lv' := [(0, .ref 159), (1, .int a), (2, .int b)]) (st' := [.int (((((Int8.ofInt 60).toInt32)) * a)), .ref 179]) rfl ?_
  refine En_top (mulI (by decide : ((Int8.ofInt 60).toInt32).toInt = 60) rfl (Z := 60 * a.toInt) (by first | exact q_7a16b37b72 | omega) (by first | exact q_1ce4e59c82 hl_a | omega) (by first | exact q_a3ec378d2c hu_a | omega)) (fun z3 h4 => ?_)
  refine En_Ps 2 (pc' := 10) (lv' := [(0, .ref 159), (1, .int a), (2, .int b)]) (st' := [.int ((z3 + b)), .ref 179]) rfl ?_
  refine En_top (addI rfl rfl (by first | exact q_0fd09a5c3f hl_b h4 hl_a | omega) (by first | exact q_87f4d5cbb8 hu_b h4 hu_a | omega)) (fun z5 h6 => ?_)
  refine En_lald (l := (-9223372036854775808)) (u := 9223372036854775807) rfl rfl tgz_179 (by decide +kernel) hσ0 (by first | exact q_604937762f h6 hl_b h4 hl_a | omega) (lnI (by decide +kernel : LN _ = 240) (by first | exact q_b66ff9fcab h6 hu_b h4 hu_a | omega)) (FTsgl (by decide +kernel)) (fun z8 h7 h9 h10 => ?_)
  exact En_ret (v := some (.long z8)) rfl rfl rfl ⟨hσ0, hF0, z8, rfl, trivial⟩
/-- DoorSchoolModel.isKnock(J)Z -/
abbrev P_259 (σ0 : SG) (a : Int64) : PO := fun v σ => WT σ ∧ Fr [] σ0 σ ∧ ∃ ret : Int32, v = some (.int ret) ∧ -ret.toInt ≤ 0 ∧ ret.toInt - 1 ≤ 0 ∧ (-ret.toInt + 1 ≤ 0 → -a.toInt ≤ 0 ∧ a.toInt - 15 ≤ 0)
set_option maxRecDepth 10000 in
set_option maxHeartbeats 4000000 in
theorem c_259 (σ0 : SG) (hσ0 : WT σ0) (a : Int64) : En 2 40 none mr_259 (P_259 σ0 a) 0 [(0, .ref 159), (1, .long a)] [] σ0 := by
  have hF0 : Fr [] σ0 σ0 := Fr_rfl
  refine En_Ps 3 (pc' := 3) (lv' := [(0, .ref 159), (1, .long a)]) (st' := [.ref 159, .long ((Int64.ofNat 0)), .long a]) rfl ?_
  obtain ⟨z2, h1, h3, h4⟩ := WT_peekI hσ0 tgz_160 (by decide +kernel : FT 36 (0 : Int).toNat = (0, 0, 4)) (by decide +kernel)
  obtain ⟨z6, h5, h7, h8⟩ := WT_peekI hσ0 tgz_160 (by decide +kernel : FT 36 (7 : Int).toNat = (0, 0, 1600)) (by decide +kernel)
  refine En_callV rfl rfl rfl rfl rfl rfl rfl rfl tgz_159 (by decide +kernel) rfl (c_269 σ0 hσ0 z2 h1 z6 h5) (by decide) (by decide) (fun v10 σ11 h9 => ?_)
  obtain ⟨h12, h13, z15, rfl, h14⟩ := h9
  have h16 := h14.2.2
  have h17 := Fr_trans hF0 h13 (by decide +kernel)
  refine En_Ps 2 (pc' := 8) (lv' := [(0, .ref 159), (1, .long a)]) (st' := [.int ((z15 - ((Int32.ofInt 1)))), .long ((Int64.ofNat 0)), .long a]) rfl ?_
  refine En_top (subI rfl (by decide : (Int32.ofInt 1).toInt = 1) (by first | exact q_89a3f9d69a h14.1 | omega) (by first | exact q_9b40fa289d h14.2.1 | omega)) (fun z18 h19 => ?_)
  refine En_Ps 1 (pc' := 9) (lv' := [(0, .ref 159), (1, .long a)]) (st' := [.long z18.toInt64, .long ((Int64.ofNat 0)), .long a]) rfl ?_
  have := (by decide : ((Int64.ofNat 0)).toInt = 0)
  have : z18.toInt64.toInt = z18.toInt := (i2lI rfl)
  refine En_callS rfl rfl rfl rfl rfl rfl rfl rfl rfl (c_249 σ11 h12 a ((Int64.ofNat 0)) z18.toInt64) (by decide) (by decide) (fun v21 σ22 h20 => ?_)
  obtain ⟨h23, h24, z26, rfl, h25⟩ := h20
  have h27 := Fr_trans h17 h24 (by decide +kernel)
  exact En_ret (v := some (.int z26)) rfl rfl (retZ rfl rfl (by first | exact q_ef1e8e38bf h25.1 | omega) (by first | exact q_733c8bfbae h25.2.1 | omega)) ⟨h23, h27, z26, rfl, ⟨by first | exact q_a555021d16 h25.1 | omega, by first | exact q_ad5b726bf8 h25.2.1 | omega, fun _ => by omega⟩⟩
/-- DoorSchoolModel.asksSeen(IZ)I -/
abbrev P_198 (σ0 : SG) (a : Int32) (b : Int32) : PO := fun v σ => WT σ ∧ Fr [] σ0 σ ∧ ∃ ret : Int32, v = some (.int ret) ∧ -ret.toInt - 6 ≤ 0 ∧ ret.toInt ≤ 0 ∧ (-ret.toInt ≤ 0 → -a.toInt ≤ 0 ∧ a.toInt - 3 ≤ 0)
set_option maxRecDepth 10000 in
set_option maxHeartbeats 4000000 in
theorem c_198 (σ0 : SG) (hσ0 : WT σ0) (a : Int32) (b : Int32) (hl_b : 0 ≤ b.toInt) (hu_b : b.toInt ≤ 1) : En 3 62 none mr_198 (P_198 σ0 a b) 0 [(0, .ref 159), (1, .int a), (2, .int b)] [] σ0 := by
  have hF0 : Fr [] σ0 σ0 := Fr_rfl
  refine En_Ps 1 (pc' := 1) (lv' := [(0, .ref 159), (1, .int a), (2, .int b)]) (st' := [.int a]) rfl ?_
  refine En_callS rfl rfl rfl rfl rfl rfl rfl rfl rfl (c_266 σ0 hσ0 a) (by decide) (by decide) (fun v2 σ3 h1 => ?_)
  obtain ⟨h4, h5, z7, rfl, h6⟩ := h1
  obtain rfl : σ0 = σ3 := Fr_nil h5
  refine En_iEq _ rfl rfl (fun h8 => ?_) (fun h8 => ?_)
  · refine En_Ps 1 (pc' := 20) (lv' := [(0, .ref 159), (1, .int a), (2, .int b)]) (st' := [.int (((Int8.ofInt (-2)).toInt32))]) rfl ?_
    refine En_top (by decide : ((Int8.ofInt (-2)).toInt32).toInt = -2) (fun z9 h10 => ?_)
    exact En_ret (v := some (.int z9)) rfl rfl rfl ⟨hσ0, hF0, z9, rfl, ⟨by first | exact q_2583522324 h10 | omega, by first | exact q_bbb39ffa1e h10 | omega, fun _ => by omega⟩⟩
  · refine En_Ps 1 (pc' := 8) (lv' := [(0, .ref 159), (1, .int a), (2, .int b)]) (st' := [.ref 159]) rfl ?_
    obtain ⟨z12, h11, h13, h14⟩ := WT_peekI hσ0 tgz_160 (by decide +kernel : FT 36 (7 : Int).toNat = (0, 0, 1600)) (by decide +kernel)
    refine En_callV rfl rfl rfl rfl rfl rfl rfl rfl tgz_159 (by decide +kernel) rfl (c_264 σ0 hσ0 z12 h11) (by decide) (by decide) (fun v16 σ17 h15 => ?_)
    obtain ⟨h18, h19, z21, rfl, h20⟩ := h15
    obtain rfl : σ0 = σ17 := Fr_nil h19
    refine En_iEq _ rfl rfl (fun h22 => ?_) (fun h22 => ?_)
    · refine En_Ps 1 (pc' := 20) (lv' := [(0, .ref 159), (1, .int a), (2, .int b)]) (st' := [.int (((Int8.ofInt (-2)).toInt32))]) rfl ?_
      refine En_top (by decide : ((Int8.ofInt (-2)).toInt32).toInt = -2) (fun z23 h24 => ?_)
      exact En_ret (v := some (.int z23)) rfl rfl rfl ⟨hσ0, hF0, z23, rfl, ⟨by first | exact q_2583522324 h24 | omega, by first | exact q_bbb39ffa1e h24 | omega, fun _ => by omega⟩⟩
    · refine En_Ps 1 (pc' := 15) (lv' := [(0, .ref 159), (1, .int a), (2, .int b)]) (st' := [.int b]) rfl ?_
      refine En_iNe _ rfl rfl (fun h25 => ?_) (fun h25 => ?_)
      · refine En_Ps 1 (pc' := 22) (lv' := [(0, .ref 159), (1, .int a), (2, .int b)]) (st' := [.ref 159]) rfl ?_
        refine En_getU (j := 32) (u := 177) (g' := 53) (q := 0) rfl rfl rfl tgz_159 (by decide +kernel) hσ0 (by decide +kernel) (by decide +kernel) (fun h26 => ?_)
        refine En_Ps 1 (pc' := 26) (lv' := [(0, .ref 159), (1, .int a), (2, .int b)]) (st' := [.int a, .ref 177]) rfl ?_
        refine En_iald (l := (-1)) (u := 60) rfl rfl tgz_177 (by decide +kernel) hσ0 (by omega) (lnI (by decide +kernel : LN _ = 4) (by omega)) (FTsgl (by decide +kernel)) (fun z29 h28 h30 h31 => ?_)
        refine En_Ps 1 (pc' := 28) (lv' := [(0, .ref 159), (1, .int a), (2, .int b)]) (st' := [.int ((Int32.ofInt (-1))), .int z29]) rfl ?_
        refine En_icNe _ rfl (by decide : (Int32.ofInt (-1)).toInt = -1) rfl (fun h32 => ?_) (fun h32 => ?_)
        · refine En_Ps 1 (pc' := 35) (lv' := [(0, .ref 159), (1, .int a), (2, .int b)]) (st' := [.ref 159]) rfl ?_
          refine En_getK (j := 32) h26 rfl rfl rfl tgz_159 (by decide +kernel) ?_
          refine En_Ps 1 (pc' := 39) (lv' := [(0, .ref 159), (1, .int a), (2, .int b)]) (st' := [.int a, .ref 177]) rfl ?_
          refine En_ialdK h28 rfl rfl tgz_177 (by decide +kernel) hσ0 (by omega) (lnI (by decide +kernel : LN _ = 4) (by omega)) ?_
          refine En_Ps 1 (pc' := 41) (lv' := [(0, .ref 159), (1, .int a), (2, .int b)]) (st' := [.int ((Int32.ofInt 2)), .int z29]) rfl ?_
          refine En_irem (c := 2) rfl rfl (by decide : (Int32.ofInt 2).toInt = 2) (by omega) (by decide) (fun z34 h35 => ?_)
          refine En_iEq _ rfl rfl (fun h36 => ?_) (fun h36 => ?_)
          · refine En_Ps 2 (pc' := 50) (lv' := [(3, .int ((Int32.ofInt 0))), (0, .ref 159), (1, .int a), (2, .int b)]) (st' := []) rfl ?_
            have key50 : ∀ (n50 : Nat) (y37 : Int32), 0 ≤ y37.toInt → y37.toInt ≤ 60 → y37.toInt - z29.toInt - 1 ≤ 0 → -y37.toInt + 60 < (n50 : Int) → y37.toInt % 2 = 0 → En 3 62 none mr_198 (P_198 σ0 a b) 50 [(0, .ref 159), (1, .int a), (2, .int b), (3, .int y37)] [] σ0 := by
              intro n50
              induction n50 with
              | zero =>
                intro y37 h41 h42 h43 h44 h45
                first | exact (q_98ae87e5bf h44 h42).elim | (exfalso; omega)
              | succ n50 ih50 =>
                intro y37 h41 h42 h43 h44 h45
                refine En_Ps 2 (pc' := 52) (lv' := [(0, .ref 159), (1, .int a), (2, .int b), (3, .int y37)]) (st' := [.ref 159, .int y37]) rfl ?_
                refine En_getK (j := 32) h26 rfl rfl rfl tgz_159 (by decide +kernel) ?_
                refine En_Ps 1 (pc' := 56) (lv' := [(0, .ref 159), (1, .int a), (2, .int b), (3, .int y37)]) (st' := [.int a, .ref 177, .int y37]) rfl ?_
                refine En_ialdK h28 rfl rfl tgz_177 (by decide +kernel) hσ0 (by omega) (lnI (by decide +kernel : LN _ = 4) (by omega)) ?_
                refine En_icGe _ rfl rfl rfl (fun h47 => ?_) (fun h47 => ?_)
                · refine En_Ps 1 (pc' := 99) (lv' := [(0, .ref 159), (1, .int a), (2, .int b), (3, .int y37)]) (st' := [.int ((Int32.ofInt 0))]) rfl ?_
                  refine En_top (by decide : (Int32.ofInt 0).toInt = 0) (fun z48 h49 => ?_)
                  exact En_ret (v := some (.int z48)) rfl rfl rfl ⟨hσ0, hF0, z48, rfl, ⟨by first | exact q_49fb6350c2 h49 | omega, by first | exact q_c5d285f1b9 h49 | omega, fun _ => by omega⟩⟩
                · refine En_Ps 4 (pc' := 64) (lv' := [(0, .ref 159), (1, .int a), (2, .int b), (3, .int y37)]) (st' := [.int y37, .int a, .ref 159, .ref 159]) rfl ?_
                  refine En_callV rfl rfl rfl rfl rfl rfl rfl rfl tgz_159 (by decide +kernel) rfl (c_289 σ0 hσ0 a y37 (geI rfl (by omega)) (leI rfl (by omega)) (geI rfl (by first | exact q_58e6e51dcc h41 | omega)) (leI rfl (by first | exact q_a0748cdabb h47 h31 | omega))) (by decide) (by decide) (fun v51 σ52 h50 => ?_)
                  obtain ⟨h53, h54, z56, rfl, h55⟩ := h50
                  obtain rfl : σ0 = σ52 := Fr_nil h54
                  refine En_callV rfl rfl rfl rfl rfl rfl rfl rfl tgz_159 (by decide +kernel) rfl (c_259 σ0 hσ0 z56) (by decide) (by decide) (fun v58 σ59 h57 => ?_)
                  obtain ⟨h60, h61, z63, rfl, h62⟩ := h57
                  obtain rfl : σ0 = σ59 := Fr_nil h61
                  refine En_iEq _ rfl rfl (fun h64 => ?_) (fun h64 => ?_)
                  · refine En_Ps 1 (pc' := 91) (lv' := [(0, .ref 159), (1, .int a), (2, .int b), (3, .int y37)]) (st' := [.int (((Int8.ofInt (-2)).toInt32))]) rfl ?_
                    refine En_top (by decide : ((Int8.ofInt (-2)).toInt32).toInt = -2) (fun z65 h66 => ?_)
                    exact En_ret (v := some (.int z65)) rfl rfl rfl ⟨hσ0, hF0, z65, rfl, ⟨by first | exact q_2583522324 h66 | omega, by first | exact q_bbb39ffa1e h66 | omega, fun _ => by omega⟩⟩
                  · refine En_Ps 4 (pc' := 77) (lv' := [(0, .ref 159), (1, .int a), (2, .int b), (3, .int y37)]) (st' := [.int ((Int32.ofInt 1)), .int y37, .int a, .ref 159]) rfl ?_
                    have h67 : y37.toInt ≤ 58 := by omega
                    refine En_Ps 1 (pc' := 78) (lv' := [(0, .ref 159), (1, .int a), (2, .int b), (3, .int y37)]) (st' := [.int ((y37 + ((Int32.ofInt 1)))), .int a, .ref 159]) rfl ?_
                    refine En_top (addI rfl (by decide : (Int32.ofInt 1).toInt = 1) (by first | exact q_465ab79ac1 h41 | omega) (by first | exact q_232407ab69 h42 | omega)) (fun z68 h69 => ?_)
                    refine En_callV rfl rfl rfl rfl rfl rfl rfl rfl tgz_159 (by decide +kernel) rfl (c_289 σ0 hσ0 a z68 (geI rfl (by omega)) (leI rfl (by omega)) (geI rfl (by first | exact q_35104ce9d3 h69 h41 | omega)) (leI rfl (by omega))) (by decide) (by decide) (fun v71 σ72 h70 => ?_)
                    obtain ⟨h73, h74, z76, rfl, h75⟩ := h70
                    obtain rfl : σ0 = σ72 := Fr_nil h74
                    refine En_Ps 2 (pc' := 83) (lv' := [(0, .ref 159), (1, .int a), (2, .int b), (3, .int y37)]) (st' := [.long ((Int64.ofNat 1)), .long ((Int64.ofNat 0)), .long z76]) rfl ?_
                    have := (by decide : ((Int64.ofNat 0)).toInt = 0)
                    have := (by decide : ((Int64.ofNat 1)).toInt = 1)
                    refine En_callS rfl rfl rfl rfl rfl rfl rfl rfl rfl (c_249 σ0 hσ0 z76 ((Int64.ofNat 0)) ((Int64.ofNat 1))) (by decide) (by decide) (fun v78 σ79 h77 => ?_)
                    obtain ⟨h80, h81, z83, rfl, h82⟩ := h77
                    obtain rfl : σ0 = σ79 := Fr_nil h81
                    refine En_iNe _ rfl rfl (fun h84 => ?_) (fun h84 => ?_)
                    · refine En_Ps 1 (pc' := 95) (lv' := [(3, .int ((y37 + Int32.ofInt 2))), (0, .ref 159), (1, .int a), (2, .int b)]) (st' := []) rfl ?_
                      refine En_lv1 (addI rfl (by decide : (Int32.ofInt 2).toInt = 2) (by first | exact q_f7bbb7a326 h41 | omega) (by first | exact q_f6c848b1e9 h42 | omega)) (fun z85 h86 => ?_)
                      refine En_Ps 1 (pc' := 50) (lv' := [(3, .int z85), (0, .ref 159), (1, .int a), (2, .int b)]) (st' := []) rfl ?_
                      refine En_lv (lv := [(0, .ref 159), (1, .int a), (2, .int b), (3, .int z85)]) ⟨rfl, rfl, rfl, rfl, trivial⟩ ?_
                      exact ih50 z85 (by first | exact q_8f6627763a h86 h41 | omega) (by omega) (by first | exact q_277aaf3cd2 h47 h86 | omega) (by first | exact q_84b996d9f0 h86 h44 | omega) (by omega)
                    · refine En_Ps 1 (pc' := 91) (lv' := [(0, .ref 159), (1, .int a), (2, .int b), (3, .int y37)]) (st' := [.int (((Int8.ofInt (-2)).toInt32))]) rfl ?_
                      refine En_top (by decide : ((Int8.ofInt (-2)).toInt32).toInt = -2) (fun z87 h88 => ?_)
                      exact En_ret (v := some (.int z87)) rfl rfl rfl ⟨hσ0, hF0, z87, rfl, ⟨by first | exact q_2583522324 h88 | omega, by first | exact q_bbb39ffa1e h88 | omega, fun _ => by omega⟩⟩
            have := (by decide : (Int32.ofInt 0).toInt = 0)
            refine En_lv (lv := [(0, .ref 159), (1, .int a), (2, .int b), (3, .int ((Int32.ofInt 0)))]) ⟨rfl, rfl, rfl, rfl, trivial⟩ ?_
            exact key50 (Int.toNat (60) + 1) ((Int32.ofInt 0)) (by decide) (by decide) (by omega) (by first | exact toN_lt _ | omega) (by omega)
          · refine En_Ps 1 (pc' := 47) (lv' := [(0, .ref 159), (1, .int a), (2, .int b)]) (st' := [.int (((Int8.ofInt (-2)).toInt32))]) rfl ?_
            refine En_top (by decide : ((Int8.ofInt (-2)).toInt32).toInt = -2) (fun z89 h90 => ?_)
            exact En_ret (v := some (.int z89)) rfl rfl rfl ⟨hσ0, hF0, z89, rfl, ⟨by first | exact q_2583522324 h90 | omega, by first | exact q_bbb39ffa1e h90 | omega, fun _ => by omega⟩⟩
        · refine En_Ps 1 (pc' := 33) (lv' := [(0, .ref 159), (1, .int a), (2, .int b)]) (st' := [.int (((Int8.ofInt (-6)).toInt32))]) rfl ?_
          refine En_top (by decide : ((Int8.ofInt (-6)).toInt32).toInt = -6) (fun z91 h92 => ?_)
          exact En_ret (v := some (.int z91)) rfl rfl rfl ⟨hσ0, hF0, z91, rfl, ⟨by first | exact q_597c727cce h92 | omega, by first | exact q_9bcb887de1 h92 | omega, fun _ => by omega⟩⟩
      · refine En_Ps 1 (pc' := 20) (lv' := [(0, .ref 159), (1, .int a), (2, .int b)]) (st' := [.int (((Int8.ofInt (-2)).toInt32))]) rfl ?_
        refine En_top (by decide : ((Int8.ofInt (-2)).toInt32).toInt = -2) (fun z93 h94 => ?_)
        exact En_ret (v := some (.int z93)) rfl rfl rfl ⟨hσ0, hF0, z93, rfl, ⟨by first | exact q_2583522324 h94 | omega, by first | exact q_bbb39ffa1e h94 | omega, fun _ => by omega⟩⟩
/-- DoorSchoolModel.doesSo(II)Z -/
abbrev P_218 (σ0 : SG) (a : Int32) (b : Int32) : PO := fun v σ => WT σ ∧ Fr [] σ0 σ ∧ ∃ ret : Int32, v = some (.int ret) ∧ -ret.toInt ≤ 0 ∧ ret.toInt - 1 ≤ 0
set_option maxRecDepth 10000 in
set_option maxHeartbeats 4000000 in
theorem c_218 (σ0 : SG) (hσ0 : WT σ0) (a : Int32) (b : Int32) (hl_a : 0 ≤ a.toInt) (hu_a : a.toInt ≤ 3) : En 1 22 none mr_218 (P_218 σ0 a b) 0 [(0, .ref 159), (1, .int a), (2, .int b)] [] σ0 := by
  have hF0 : Fr [] σ0 σ0 := Fr_rfl
  refine En_Ps 2 (pc' := 2) (lv' := [(3, .int ((Int32.ofInt 0))), (0, .ref 159), (1, .int a), (2, .int b)]) (st' := []) rfl ?_
  have key2 : ∀ (n2 : Nat) (y1 : Int32), 0 ≤ y1.toInt → y1.toInt ≤ 60 → -y1.toInt + 60 < (n2 : Int) → y1.toInt % 2 = 0 → En 1 22 none mr_218 (P_218 σ0 a b) 2 [(0, .ref 159), (1, .int a), (2, .int b), (3, .int y1)] [] σ0 := by
    intro n2
    induction n2 with
    | zero =>
      intro y1 h5 h6 h7 h8
      first | exact (q_98ae87e5bf h7 h6).elim | (exfalso; omega)
    | succ n2 ih2 =>
      intro y1 h5 h6 h7 h8
      refine En_Ps 2 (pc' := 4) (lv' := [(0, .ref 159), (1, .int a), (2, .int b), (3, .int y1)]) (st' := [.ref 159, .int y1]) rfl ?_
      refine En_getU (j := 32) (u := 177) (g' := 53) (q := 0) rfl rfl rfl tgz_159 (by decide +kernel) hσ0 (by decide +kernel) (by decide +kernel) (fun h9 => ?_)
      refine En_Ps 1 (pc' := 8) (lv' := [(0, .ref 159), (1, .int a), (2, .int b), (3, .int y1)]) (st' := [.int a, .ref 177, .int y1]) rfl ?_
      refine En_iald (l := (-1)) (u := 60) rfl rfl tgz_177 (by decide +kernel) hσ0 (by first | exact q_58e6e51dcc hl_a | omega) (lnI (by decide +kernel : LN _ = 4) (by first | exact q_f3bb6f88f7 hu_a | omega)) (FTsgl (by decide +kernel)) (fun z12 h11 h13 h14 => ?_)
      refine En_icGe _ rfl rfl rfl (fun h15 => ?_) (fun h15 => ?_)
      · refine En_Ps 1 (pc' := 45) (lv' := [(0, .ref 159), (1, .int a), (2, .int b), (3, .int y1)]) (st' := [.int ((Int32.ofInt 1))]) rfl ?_
        refine En_top (by decide : (Int32.ofInt 1).toInt = 1) (fun z16 h17 => ?_)
        exact En_ret (v := some (.int z16)) rfl rfl (retZ rfl rfl (by first | exact q_2b07c97645 h17 | omega) (by first | exact q_d9e7cbb253 h17 | omega)) ⟨hσ0, hF0, z16, rfl, ⟨by first | exact q_ad3eee31ca h17 | omega, by first | exact q_81cf297dc4 h17 | omega⟩⟩
      · refine En_Ps 4 (pc' := 16) (lv' := [(0, .ref 159), (1, .int a), (2, .int b), (3, .int y1)]) (st' := [.int y1, .int a, .ref 159, .int b]) rfl ?_
        refine En_callV rfl rfl rfl rfl rfl rfl rfl rfl tgz_159 (by decide +kernel) rfl (c_289 σ0 hσ0 a y1 (geI rfl (by first | exact q_58e6e51dcc hl_a | omega)) (leI rfl (by first | exact q_da5e9b976f hu_a | omega)) (geI rfl (by first | exact q_58e6e51dcc h5 | omega)) (leI rfl (by first | exact q_a0748cdabb h15 h14 | omega))) (by decide) (by decide) (fun v19 σ20 h18 => ?_)
        obtain ⟨h21, h22, z24, rfl, h23⟩ := h18
        obtain rfl : σ0 = σ20 := Fr_nil h22
        refine En_Ps 1 (pc' := 20) (lv' := [(0, .ref 159), (1, .int a), (2, .int b), (3, .int y1)]) (st' := [.int ((z24.toInt32)), .int b]) rfl ?_
        refine En_hav (fun z25 => ?_)
        refine En_callS rfl rfl rfl rfl rfl rfl rfl rfl rfl (c_202b σ0 hσ0 b z25) (by decide) (by decide) (fun v27 σ28 h26 => ?_)
        obtain ⟨h29, h30, z32, rfl, h31⟩ := h26
        obtain rfl : σ0 = σ28 := Fr_nil h30
        refine En_Ps 5 (pc' := 28) (lv' := [(0, .ref 159), (1, .int a), (2, .int b), (3, .int y1)]) (st' := [.int ((Int32.ofInt 1)), .int y1, .int a, .ref 159, .long z32.toInt64]) rfl ?_
        have h33 : y1.toInt ≤ 58 := by omega
        refine En_Ps 1 (pc' := 29) (lv' := [(0, .ref 159), (1, .int a), (2, .int b), (3, .int y1)]) (st' := [.int ((y1 + ((Int32.ofInt 1)))), .int a, .ref 159, .long z32.toInt64]) rfl ?_
        refine En_top (addI rfl (by decide : (Int32.ofInt 1).toInt = 1) (by first | exact q_465ab79ac1 h5 | omega) (by first | exact q_232407ab69 h6 | omega)) (fun z34 h35 => ?_)
        refine En_callV rfl rfl rfl rfl rfl rfl rfl rfl tgz_159 (by decide +kernel) rfl (c_289 σ0 hσ0 a z34 (geI rfl (by first | exact q_58e6e51dcc hl_a | omega)) (leI rfl (by first | exact q_da5e9b976f hu_a | omega)) (geI rfl (by first | exact q_35104ce9d3 h35 h5 | omega)) (leI rfl (by omega))) (by decide) (by decide) (fun v37 σ38 h36 => ?_)
        obtain ⟨h39, h40, z42, rfl, h41⟩ := h36
        obtain rfl : σ0 = σ38 := Fr_nil h40
        refine En_Ps 1 (pc' := 33) (lv' := [(0, .ref 159), (1, .int a), (2, .int b), (3, .int y1)]) (st' := [.int (lg_cmp z32.toInt64 z42)]) rfl ?_
        refine En_lgEq _ (i2lI rfl) rfl rfl (fun h43 => ?_) (fun h43 => ?_)
        · refine En_Ps 1 (pc' := 41) (lv' := [(3, .int ((y1 + Int32.ofInt 2))), (0, .ref 159), (1, .int a), (2, .int b)]) (st' := []) rfl ?_
          refine En_lv1 (addI rfl (by decide : (Int32.ofInt 2).toInt = 2) (by first | exact q_f7bbb7a326 h5 | omega) (by first | exact q_f6c848b1e9 h6 | omega)) (fun z44 h45 => ?_)
          refine En_Ps 1 (pc' := 2) (lv' := [(3, .int z44), (0, .ref 159), (1, .int a), (2, .int b)]) (st' := []) rfl ?_
          refine En_lv (lv := [(0, .ref 159), (1, .int a), (2, .int b), (3, .int z44)]) ⟨rfl, rfl, rfl, rfl, trivial⟩ ?_
          exact ih2 z44 (by first | exact q_8f6627763a h45 h5 | omega) (by omega) (by first | exact q_84b996d9f0 h45 h7 | omega) (by omega)
        · refine En_Ps 1 (pc' := 37) (lv' := [(0, .ref 159), (1, .int a), (2, .int b), (3, .int y1)]) (st' := [.int ((Int32.ofInt 0))]) rfl ?_
          refine En_top (by decide : (Int32.ofInt 0).toInt = 0) (fun z46 h47 => ?_)
          exact En_ret (v := some (.int z46)) rfl rfl (retZ rfl rfl (by first | exact q_55451d0a83 h47 | omega) (by first | exact q_87849c3859 h47 | omega)) ⟨hσ0, hF0, z46, rfl, ⟨by first | exact q_097a37c2ae h47 | omega, by first | exact q_e269517bee h47 | omega⟩⟩
  have := (by decide : (Int32.ofInt 0).toInt = 0)
  refine En_lv (lv := [(0, .ref 159), (1, .int a), (2, .int b), (3, .int ((Int32.ofInt 0)))]) ⟨rfl, rfl, rfl, rfl, trivial⟩ ?_
  exact key2 (Int.toNat (60) + 1) ((Int32.ofInt 0)) (by decide) (by decide) (by first | exact toN_lt _ | omega) (by omega)
/-- DoorSchoolModel.fitsOf(I)I -/
abbrev P_231 (σ0 : SG) (a : Int32) : PO := fun v σ => WT σ ∧ Fr [(35, 18), (42, 0), (43, 0), (44, 0)] σ0 σ ∧ ∃ ret : Int32, v = some (.int ret) ∧ -ret.toInt ≤ 0 ∧ ret.toInt - 81 ≤ 0
set_option maxRecDepth 10000 in
set_option maxHeartbeats 4000000 in
theorem c_231 (σ0 : SG) (hσ0 : WT σ0) (a : Int32) (hl_a : 0 ≤ a.toInt) (hu_a : a.toInt ≤ 3) : En 4 87 none mr_231 (P_231 σ0 a) 0 [(0, .ref 159), (1, .int a)] [] σ0 := by
  have hF0 : Fr [(35, 18), (42, 0), (43, 0), (44, 0)] σ0 σ0 := Fr_rfl
  refine En_Ps 1 (pc' := 1) (lv' := [(0, .ref 159), (1, .int a)]) (st' := [.ref 159]) rfl ?_
  obtain ⟨z2, h1, h3, h4⟩ := WT_peekI hσ0 tgz_160 (by decide +kernel : FT 36 (0 : Int).toNat = (0, 0, 4)) (by decide +kernel)
  obtain ⟨z6, h5, h7, h8⟩ := WT_peekI hσ0 tgz_160 (by decide +kernel : FT 36 (7 : Int).toNat = (0, 0, 1600)) (by decide +kernel)
  refine En_callV rfl rfl rfl rfl rfl rfl rfl rfl tgz_159 (by decide +kernel) rfl (c_272 σ0 hσ0 z2 h1 z6 h5) (by decide) (by decide) (fun v10 σ11 h9 => ?_)
  obtain ⟨h12, h13, rfl, h14⟩ := h9
  have h15 := Fr_trans hF0 h13 (by decide +kernel)
  refine En_Ps 4 (pc' := 8) (lv' := [(3, .int ((Int32.ofInt 0))), (2, .int ((Int32.ofInt 0))), (0, .ref 159), (1, .int a)]) (st' := []) rfl ?_
  have key8 : ∀ (n8 : Nat) (σ18 : SG) (y16 : Int32) (y17 : Int32), WT σ18 → Fr [(35, 18), (42, 0), (43, 0), (44, 0)] σ0 σ18 → (σ18 160)[(0 : Int).toNat]? = some (.int z2) → (σ18 160)[(7 : Int).toNat]? = some (.int z6) → 0 ≤ y16.toInt → y16.toInt ≤ 81 → 0 ≤ y17.toInt → y17.toInt ≤ 81 → y16.toInt - y17.toInt ≤ 0 → -y17.toInt + 81 < (n8 : Int) → En 4 87 none mr_231 (P_231 σ0 a) 8 [(0, .ref 159), (1, .int a), (2, .int y16), (3, .int y17)] [] σ18 := by
    intro n8
    induction n8 with
    | zero =>
      intro σ18 y16 y17 h19 h20 h21 h22 h23 h24 h25 h26 h27 h28
      first | exact (q_ffef14d449 h28 h26).elim | (exfalso; omega)
    | succ n8 ih8 =>
      intro σ18 y16 y17 h19 h20 h21 h22 h23 h24 h25 h26 h27 h28
      refine En_Ps 2 (pc' := 10) (lv' := [(0, .ref 159), (1, .int a), (2, .int y16), (3, .int y17)]) (st' := [.ref 159, .int y17]) rfl ?_
      refine En_getI (j := 18) (l := 0) (u := 81) rfl rfl rfl tgz_159 (by decide +kernel) h19 (by decide +kernel) (fun z30 h29 h31 h32 => ?_)
      refine En_icGe _ rfl rfl rfl (fun h33 => ?_) (fun h33 => ?_)
      · refine En_Ps 1 (pc' := 45) (lv' := [(0, .ref 159), (1, .int a), (2, .int y16), (3, .int y17)]) (st' := [.int y16]) rfl ?_
        exact En_ret (v := some (.int y16)) rfl rfl rfl ⟨h19, h20, y16, rfl, ⟨by first | exact q_c803b490ef h23 | omega, by first | exact q_96a57adcaf h24 | omega⟩⟩
      · refine En_Ps 4 (pc' := 20) (lv' := [(0, .ref 159), (1, .int a), (2, .int y16), (3, .int y17)]) (st' := [.ref 159, .int a, .ref 159, .int y16]) rfl ?_
        refine En_getU (j := 17) (u := 168) (g' := 44) (q := 0) rfl rfl rfl tgz_159 (by decide +kernel) h19 (by decide +kernel) (by decide +kernel) (fun h34 => ?_)
        refine En_Ps 1 (pc' := 24) (lv' := [(0, .ref 159), (1, .int a), (2, .int y16), (3, .int y17)]) (st' := [.int y17, .ref 168, .int a, .ref 159, .int y16]) rfl ?_
        refine En_iald (l := (-2147483648)) (u := 2147483647) rfl rfl tgz_168 (by decide +kernel) h19 (by first | exact q_58e6e51dcc h25 | omega) (lnI (by decide +kernel : LN _ = 81) (by first | exact q_a0e855914a h33 h32 | omega)) (FTsgl (by decide +kernel)) (fun z37 h36 h38 h39 => ?_)
        refine En_callV rfl rfl rfl rfl rfl rfl rfl rfl tgz_159 (by decide +kernel) rfl (c_218 σ18 h19 a z37 (geI rfl (by first | exact q_58e6e51dcc hl_a | omega)) (leI rfl (by first | exact q_da5e9b976f hu_a | omega))) (by decide) (by decide) (fun v41 σ42 h40 => ?_)
        obtain ⟨h43, h44, z46, rfl, h45⟩ := h40
        have h47 := Fr_trans h20 h44 (by decide +kernel)
        refine En_iEq _ rfl rfl (fun h48 => ?_) (fun h48 => ?_)
        · refine En_Ps 2 (pc' := 37) (lv' := [(0, .ref 159), (1, .int a), (2, .int y16), (3, .int y17)]) (st' := [.int ((y16 + ((Int32.ofInt 0))))]) rfl ?_
          refine En_top (addI rfl (by decide : (Int32.ofInt 0).toInt = 0) (by first | exact q_2f569dfca1 h23 | omega) (by first | exact q_a21129f50f h24 | omega)) (fun z49 h50 => ?_)
          refine En_Ps 2 (pc' := 41) (lv' := [(3, .int ((y17 + Int32.ofInt 1))), (2, .int z49), (0, .ref 159), (1, .int a)]) (st' := []) rfl ?_
          refine En_lv1 (addI rfl (by decide : (Int32.ofInt 1).toInt = 1) (by first | exact q_465ab79ac1 h25 | omega) (by first | exact q_d778ff18c8 h26 | omega)) (fun z51 h52 => ?_)
          refine En_Ps 1 (pc' := 8) (lv' := [(3, .int z51), (2, .int z49), (0, .ref 159), (1, .int a)]) (st' := []) rfl ?_
          refine En_lv (lv := [(0, .ref 159), (1, .int a), (2, .int z49), (3, .int z51)]) ⟨rfl, rfl, rfl, rfl, trivial⟩ ?_
          exact ih8 σ42 z49 z51 h43 h47 ((h44 _ _ (inWa tgz_160 (by decide +kernel))).trans h21) ((h44 _ _ (inWa tgz_160 (by decide +kernel))).trans h22) (by first | exact q_771c4e5138 h50 h23 | omega) (by first | exact q_18b5268c76 h50 h24 | omega) (by first | exact q_35104ce9d3 h52 h25 | omega) (by first | exact q_798b104d48 h52 h33 h32 | omega) (by first | exact q_969c4fd5e6 h50 h52 h27 | omega) (by first | exact q_4ff790945b h52 h28 | omega)
        · refine En_Ps 3 (pc' := 37) (lv' := [(0, .ref 159), (1, .int a), (2, .int y16), (3, .int y17)]) (st' := [.int ((y16 + ((Int32.ofInt 1))))]) rfl ?_
          refine En_top (addI rfl (by decide : (Int32.ofInt 1).toInt = 1) (by first | exact q_465ab79ac1 h23 | omega) (by first | exact q_d778ff18c8 h24 | omega)) (fun z53 h54 => ?_)
          refine En_Ps 2 (pc' := 41) (lv' := [(3, .int ((y17 + Int32.ofInt 1))), (2, .int z53), (0, .ref 159), (1, .int a)]) (st' := []) rfl ?_
          refine En_lv1 (addI rfl (by decide : (Int32.ofInt 1).toInt = 1) (by first | exact q_465ab79ac1 h25 | omega) (by first | exact q_d778ff18c8 h26 | omega)) (fun z55 h56 => ?_)
          refine En_Ps 1 (pc' := 8) (lv' := [(3, .int z55), (2, .int z53), (0, .ref 159), (1, .int a)]) (st' := []) rfl ?_
          refine En_lv (lv := [(0, .ref 159), (1, .int a), (2, .int z53), (3, .int z55)]) ⟨rfl, rfl, rfl, rfl, trivial⟩ ?_
          exact ih8 σ42 z53 z55 h43 h47 ((h44 _ _ (inWa tgz_160 (by decide +kernel))).trans h21) ((h44 _ _ (inWa tgz_160 (by decide +kernel))).trans h22) (by first | exact q_35104ce9d3 h54 h23 | omega) (by first | exact q_d53ed2728c h54 h27 h33 h32 | omega) (by first | exact q_35104ce9d3 h56 h25 | omega) (by first | exact q_798b104d48 h56 h33 h32 | omega) (by first | exact q_1ff421e7a2 h54 h56 h27 | omega) (by first | exact q_4ff790945b h56 h28 | omega)
  have := (by decide : (Int32.ofInt 0).toInt = 0)
  have := (by decide : (Int32.ofInt 0).toInt = 0)
  refine En_lv (lv := [(0, .ref 159), (1, .int a), (2, .int ((Int32.ofInt 0))), (3, .int ((Int32.ofInt 0)))]) ⟨rfl, rfl, rfl, rfl, trivial⟩ ?_
  exact key8 (Int.toNat (81) + 1) σ11 ((Int32.ofInt 0)) ((Int32.ofInt 0)) h12 h15 ((h13 _ _ (inWa tgz_160 (by decide +kernel))).trans h1) ((h13 _ _ (inWa tgz_160 (by decide +kernel))).trans h5) (by decide) (by decide) (by decide) (by decide) (by omega) (by first | exact toN_lt _ | omega)
/-- DoorSchoolModel.worstOf(II)I -/
abbrev P_332 (σ0 : SG) (a : Int32) (b : Int32) : PO := fun v σ => WT σ ∧ Fr [] σ0 σ ∧ ∃ ret : Int32, v = some (.int ret) ∧ -ret.toInt ≤ 0 ∧ ret.toInt - 81 ≤ 0
set_option maxRecDepth 10000 in
set_option maxHeartbeats 4000000 in
theorem c_332 (σ0 : SG) (hσ0 : WT σ0) (a : Int32) (b : Int32) (hl_a : 0 ≤ a.toInt) (hu_a : a.toInt ≤ 3) : En 2 45 none mr_332 (P_332 σ0 a b) 0 [(0, .ref 159), (1, .int a), (2, .int b)] [] σ0 := by
  have hF0 : Fr [] σ0 σ0 := Fr_rfl
  refine En_Ps 6 (pc' := 8) (lv' := [(5, .int ((Int32.ofInt 0))), (4, .int ((Int32.ofInt 0))), (3, .int ((Int32.ofInt 0))), (0, .ref 159), (1, .int a), (2, .int b)]) (st' := []) rfl ?_
  have key8 : ∀ (n8 : Nat) (σ4 : SG) (y1 : Int32) (y2 : Int32) (y3 : Int32), WT σ4 → Fr [] σ0 σ4 → 0 ≤ y1.toInt → y1.toInt ≤ 81 → 0 ≤ y2.toInt → y2.toInt ≤ 81 → 0 ≤ y3.toInt → y3.toInt ≤ 81 → y1.toInt - y3.toInt ≤ 0 → y2.toInt - y3.toInt ≤ 0 → -y3.toInt + 81 < (n8 : Int) → En 2 45 none mr_332 (P_332 σ0 a b) 8 [(0, .ref 159), (1, .int a), (2, .int b), (3, .int y1), (4, .int y2), (5, .int y3)] [] σ4 := by
    intro n8
    induction n8 with
    | zero =>
      intro σ4 y1 y2 y3 h5 h6 h7 h8 h9 h10 h11 h12 h13 h14 h15
      first | exact (q_ffef14d449 h15 h12).elim | (exfalso; omega)
    | succ n8 ih8 =>
      intro σ4 y1 y2 y3 h5 h6 h7 h8 h9 h10 h11 h12 h13 h14 h15
      refine En_Ps 2 (pc' := 11) (lv' := [(0, .ref 159), (1, .int a), (2, .int b), (3, .int y1), (4, .int y2), (5, .int y3)]) (st' := [.ref 159, .int y3]) rfl ?_
      refine En_getI (j := 18) (l := 0) (u := 81) rfl rfl rfl tgz_159 (by decide +kernel) h5 (by decide +kernel) (fun z17 h16 h18 h19 => ?_)
      refine En_icGe _ rfl rfl rfl (fun h20 => ?_) (fun h20 => ?_)
      · refine En_Ps 2 (pc' := 76) (lv' := [(0, .ref 159), (1, .int a), (2, .int b), (3, .int y1), (4, .int y2), (5, .int y3)]) (st' := [.int y2, .int y1]) rfl ?_
        refine En_callS rfl rfl rfl rfl rfl rfl rfl rfl rfl (c_10 σ4 h5 y1 y2) (by decide) (by decide) (fun v22 σ23 h21 => ?_)
        obtain ⟨h24, h25, z27, rfl, h26⟩ := h21
        have h28 := Fr_trans h6 h25 (by decide +kernel)
        exact En_ret (v := some (.int z27)) rfl rfl rfl ⟨h24, h28, z27, rfl, ⟨by first | exact q_78165d07a1 h26.1 h7 | omega, by omega⟩⟩
      · refine En_Ps 3 (pc' := 20) (lv' := [(0, .ref 159), (1, .int a), (2, .int b), (3, .int y1), (4, .int y2), (5, .int y3)]) (st' := [.ref 159, .int a, .ref 159]) rfl ?_
        refine En_getU (j := 17) (u := 168) (g' := 44) (q := 0) rfl rfl rfl tgz_159 (by decide +kernel) h5 (by decide +kernel) (by decide +kernel) (fun h29 => ?_)
        refine En_Ps 1 (pc' := 25) (lv' := [(0, .ref 159), (1, .int a), (2, .int b), (3, .int y1), (4, .int y2), (5, .int y3)]) (st' := [.int y3, .ref 168, .int a, .ref 159]) rfl ?_
        refine En_iald (l := (-2147483648)) (u := 2147483647) rfl rfl tgz_168 (by decide +kernel) h5 (by first | exact q_58e6e51dcc h11 | omega) (lnI (by decide +kernel : LN _ = 81) (by first | exact q_a0e855914a h20 h19 | omega)) (FTsgl (by decide +kernel)) (fun z32 h31 h33 h34 => ?_)
        refine En_callV rfl rfl rfl rfl rfl rfl rfl rfl tgz_159 (by decide +kernel) rfl (c_218 σ4 h5 a z32 (geI rfl (by first | exact q_58e6e51dcc hl_a | omega)) (leI rfl (by first | exact q_da5e9b976f hu_a | omega))) (by decide) (by decide) (fun v36 σ37 h35 => ?_)
        obtain ⟨h38, h39, z41, rfl, h40⟩ := h35
        have h42 := Fr_trans h6 h39 (by decide +kernel)
        refine En_iNe _ rfl rfl (fun h43 => ?_) (fun h43 => ?_)
        · refine En_Ps 2 (pc' := 37) (lv' := [(0, .ref 159), (1, .int a), (2, .int b), (3, .int y1), (4, .int y2), (5, .int y3)]) (st' := [.ref 159, .int y1]) rfl ?_
          refine En_getK (j := 17) ((h39 _ _ (inW tgz_159 (by decide +kernel))).trans h29) rfl rfl rfl tgz_159 (by decide +kernel) ?_
          refine En_Ps 1 (pc' := 42) (lv' := [(0, .ref 159), (1, .int a), (2, .int b), (3, .int y1), (4, .int y2), (5, .int y3)]) (st' := [.int y3, .ref 168, .int y1]) rfl ?_
          refine En_ialdK ((h39 _ _ (inWa tgz_168 (by decide +kernel))).trans h31) rfl rfl tgz_168 (by decide +kernel) h38 (by first | exact q_58e6e51dcc h11 | omega) (lnI (by decide +kernel : LN _ = 81) (by first | exact q_a0e855914a h20 h19 | omega)) ?_
          refine En_Ps 1 (pc' := 44) (lv' := [(0, .ref 159), (1, .int a), (2, .int b), (3, .int y1), (4, .int y2), (5, .int y3)]) (st' := [.int b, .int z32, .int y1]) rfl ?_
          refine En_callS rfl rfl rfl rfl rfl rfl rfl rfl rfl (c_202b σ37 h38 z32 b) (by decide) (by decide) (fun v46 σ47 h45 => ?_)
          obtain ⟨h48, h49, z51, rfl, h50⟩ := h45
          have h52 := Fr_trans h42 h49 (by decide +kernel)
          refine En_Ps 1 (pc' := 48) (lv' := [(0, .ref 159), (1, .int a), (2, .int b), (3, .int y1), (4, .int y2), (5, .int y3)]) (st' := [.int ((y1 + z51))]) rfl ?_
          refine En_top (addI rfl rfl (by first | exact q_eb9502dde8 h7 h50.1 | omega) (by first | exact q_16d54bf3c1 h8 h50.2 | omega)) (fun z53 h54 => ?_)
          refine En_Ps 4 (pc' := 53) (lv' := [(3, .int z53), (0, .ref 159), (1, .int a), (2, .int b), (4, .int y2), (5, .int y3)]) (st' := [.ref 159, .int ((Int32.ofInt 1)), .int y2]) rfl ?_
          refine En_getK (j := 17) ((h49 _ _ (inW tgz_159 (by decide +kernel))).trans ((h39 _ _ (inW tgz_159 (by decide +kernel))).trans h29)) rfl rfl rfl tgz_159 (by decide +kernel) ?_
          refine En_Ps 1 (pc' := 58) (lv' := [(3, .int z53), (0, .ref 159), (1, .int a), (2, .int b), (4, .int y2), (5, .int y3)]) (st' := [.int y3, .ref 168, .int ((Int32.ofInt 1)), .int y2]) rfl ?_
          refine En_ialdK ((h49 _ _ (inWa tgz_168 (by decide +kernel))).trans ((h39 _ _ (inWa tgz_168 (by decide +kernel))).trans h31)) rfl rfl tgz_168 (by decide +kernel) h48 (by first | exact q_58e6e51dcc h11 | omega) (lnI (by decide +kernel : LN _ = 81) (by first | exact q_a0e855914a h20 h19 | omega)) ?_
          refine En_Ps 1 (pc' := 60) (lv' := [(3, .int z53), (0, .ref 159), (1, .int a), (2, .int b), (4, .int y2), (5, .int y3)]) (st' := [.int b, .int z32, .int ((Int32.ofInt 1)), .int y2]) rfl ?_
          refine En_callS rfl rfl rfl rfl rfl rfl rfl rfl rfl (c_202b σ47 h48 z32 b) (by decide) (by decide) (fun v57 σ58 h56 => ?_)
          obtain ⟨h59, h60, z62, rfl, h61⟩ := h56
          have h63 := Fr_trans h52 h60 (by decide +kernel)
          refine En_Ps 1 (pc' := 64) (lv' := [(3, .int z53), (0, .ref 159), (1, .int a), (2, .int b), (4, .int y2), (5, .int y3)]) (st' := [.int ((((Int32.ofInt 1)) - z62)), .int y2]) rfl ?_
          refine En_top (subI (by decide : (Int32.ofInt 1).toInt = 1) rfl (by first | exact q_fb40ab176c h61.2 | omega) (by first | exact q_76898f0bce h61.1 | omega)) (fun z64 h65 => ?_)
          refine En_Ps 1 (pc' := 65) (lv' := [(3, .int z53), (0, .ref 159), (1, .int a), (2, .int b), (4, .int y2), (5, .int y3)]) (st' := [.int ((y2 + z64))]) rfl ?_
          refine En_top (addI rfl rfl (by first | exact q_cd2ec6c31a h9 h65 h61.2 | omega) (by first | exact q_a6e2bbed06 h14 h20 h65 h19 h61.1 | omega)) (fun z66 h67 => ?_)
          refine En_Ps 2 (pc' := 70) (lv' := [(5, .int ((y3 + Int32.ofInt 1))), (4, .int z66), (3, .int z53), (0, .ref 159), (1, .int a), (2, .int b)]) (st' := []) rfl ?_
          refine En_lv1 (addI rfl (by decide : (Int32.ofInt 1).toInt = 1) (by first | exact q_465ab79ac1 h11 | omega) (by first | exact q_d778ff18c8 h12 | omega)) (fun z68 h69 => ?_)
          refine En_Ps 1 (pc' := 8) (lv' := [(5, .int z68), (4, .int z66), (3, .int z53), (0, .ref 159), (1, .int a), (2, .int b)]) (st' := []) rfl ?_
          refine En_lv (lv := [(0, .ref 159), (1, .int a), (2, .int b), (3, .int z53), (4, .int z66), (5, .int z68)]) ⟨rfl, rfl, rfl, rfl, rfl, rfl, trivial⟩ ?_
          exact ih8 σ58 z53 z66 z68 h59 h63 (by first | exact q_dda4e24ae9 h54 h7 h50.1 | omega) (by first | exact q_760eda2494 h54 h13 h20 h50.2 h19 | omega) (by first | exact q_c802a74dda h67 h9 h65 h61.2 | omega) (by first | exact q_050160fc03 h67 h14 h20 h65 h19 h61.1 | omega) (by first | exact q_35104ce9d3 h69 h11 | omega) (by first | exact q_798b104d48 h69 h20 h19 | omega) (by first | exact q_2e103d99d1 h54 h69 h13 h50.2 | omega) (by first | exact q_f6af570735 h67 h69 h14 h65 h61.1 | omega) (by first | exact q_4ff790945b h69 h15 | omega)
        · refine En_Ps 2 (pc' := 70) (lv' := [(5, .int ((y3 + Int32.ofInt 1))), (0, .ref 159), (1, .int a), (2, .int b), (3, .int y1), (4, .int y2)]) (st' := []) rfl ?_
          refine En_lv1 (addI rfl (by decide : (Int32.ofInt 1).toInt = 1) (by first | exact q_465ab79ac1 h11 | omega) (by first | exact q_d778ff18c8 h12 | omega)) (fun z70 h71 => ?_)
          refine En_Ps 1 (pc' := 8) (lv' := [(5, .int z70), (0, .ref 159), (1, .int a), (2, .int b), (3, .int y1), (4, .int y2)]) (st' := []) rfl ?_
          refine En_lv (lv := [(0, .ref 159), (1, .int a), (2, .int b), (3, .int y1), (4, .int y2), (5, .int z70)]) ⟨rfl, rfl, rfl, rfl, rfl, rfl, trivial⟩ ?_
          exact ih8 σ37 y1 y2 z70 h38 h42 (by first | exact q_58e6e51dcc h7 | omega) (by first | exact q_938d18a0b8 h8 | omega) (by first | exact q_58e6e51dcc h9 | omega) (by first | exact q_938d18a0b8 h10 | omega) (by first | exact q_35104ce9d3 h71 h11 | omega) (by first | exact q_798b104d48 h71 h20 h19 | omega) (by first | exact q_3a5e225620 h13 h71 | omega) (by first | exact q_3a5e225620 h14 h71 | omega) (by first | exact q_4ff790945b h71 h15 | omega)
  have := (by decide : (Int32.ofInt 0).toInt = 0)
  have := (by decide : (Int32.ofInt 0).toInt = 0)
  have := (by decide : (Int32.ofInt 0).toInt = 0)
  refine En_lv (lv := [(0, .ref 159), (1, .int a), (2, .int b), (3, .int ((Int32.ofInt 0))), (4, .int ((Int32.ofInt 0))), (5, .int ((Int32.ofInt 0)))]) ⟨rfl, rfl, rfl, rfl, rfl, rfl, trivial⟩ ?_
  exact key8 (Int.toNat (81) + 1) σ0 ((Int32.ofInt 0)) ((Int32.ofInt 0)) ((Int32.ofInt 0)) hσ0 hF0 (by decide) (by decide) (by decide) (by decide) (by decide) (by decide) (by omega) (by omega) (by first | exact toN_lt _ | omega)

