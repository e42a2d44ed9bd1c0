/-- DoorSchoolModel.learns(I)I -/
abbrev P_274 (σ0 : SG) (a : Int32) : PO := fun v σ => WT σ ∧ Fr [] σ0 σ ∧ ∃ ret : Int32, v = some (.int ret) ∧ True
set_option maxRecDepth 10000 in
set_option maxHeartbeats 4000000 in
theorem c_274 (σ0 : SG) (hσ0 : WT σ0) (a : Int32) : En 3 67 none mr_274 (P_274 σ0 a) 0 [(0, .ref 159), (1, .int a)] [] σ0 := by
  have hF0 : Fr [] σ0 σ0 := Fr_rfl
  refine En_Ps 2 (pc' := 2) (lv' := [(0, .ref 159), (1, .int a)]) (st' := [.int ((Int32.ofInt 1)), .int a]) rfl ?_
  refine En_icNe _ rfl (by decide : (Int32.ofInt 1).toInt = 1) rfl (fun h1 => ?_) (fun h1 => ?_)
  · refine En_Ps 4 (pc' := 30) (lv' := [(3, .int ((Int32.ofInt 0))), (2, .int ((Int32.ofInt 0))), (0, .ref 159), (1, .int a)]) (st' := []) rfl ?_
    have key30 : ∀ (n30 : Nat) (σ4 : SG) (y2 : Int32) (y3 : Int32), WT σ4 → Fr [] σ0 σ4 → 0 ≤ y2.toInt → y2.toInt ≤ 65535 → 0 ≤ y3.toInt → y3.toInt ≤ 16 → -y3.toInt + 16 < (n30 : Int) → En 3 67 none mr_274 (P_274 σ0 a) 30 [(0, .ref 159), (1, .int a), (2, .int y2), (3, .int y3)] [] σ4 := by
      intro n30
      induction n30 with
      | zero =>
        intro σ4 y2 y3 h5 h6 h7 h8 h9 h10 h11
        exfalso; omega
      | succ n30 ih30 =>
        intro σ4 y2 y3 h5 h6 h7 h8 h9 h10 h11
        refine En_Ps 2 (pc' := 32) (lv' := [(0, .ref 159), (1, .int a), (2, .int y2), (3, .int y3)]) (st' := [.ref 159, .int y3]) rfl ?_
        obtain ⟨z13, h12, h14, h15⟩ := WT_peekI h5 tgz_160 (by decide +kernel : FT 36 (0 : Int).toNat = (0, 0, 4)) (by decide +kernel)
        obtain ⟨z17, h16, h18, h19⟩ := WT_peekI h5 tgz_160 (by decide +kernel : FT 36 (7 : Int).toNat = (0, 0, 1600)) (by decide +kernel)
        refine En_callV rfl rfl rfl rfl rfl rfl rfl rfl tgz_159 (by decide +kernel) rfl (c_269 σ4 h5 z13 h12 z17 h16) (by decide) (by decide) (fun v21 σ22 h20 => ?_)
        obtain ⟨h23, h24, z26, rfl, h25⟩ := h20
        have h27 := h25.2.2
        have h28 := Fr_trans h6 h24 (by decide +kernel)
        refine En_icGe _ rfl rfl rfl (fun h29 => ?_) (fun h29 => ?_)
        · refine En_Ps 1 (pc' := 80) (lv' := [(0, .ref 159), (1, .int a), (2, .int y2), (3, .int y3)]) (st' := [.int y2]) rfl ?_
          exact En_ret (v := some (.int y2)) rfl rfl rfl ⟨h23, h28, y2, rfl, trivial⟩
        · refine En_Ps 3 (pc' := 41) (lv' := [(0, .ref 159), (1, .int a), (2, .int y2), (3, .int y3)]) (st' := [.int y3, .int a, .ref 159]) rfl ?_
          obtain ⟨z31, h30, h32, h33⟩ := WT_peekI h23 tgz_159 (by decide +kernel : FT 35 21 = (0, 0, 17)) (by decide +kernel)
          refine En_callV rfl rfl rfl rfl rfl rfl rfl rfl tgz_159 (by decide +kernel) rfl (c_204 σ22 h23 a y3 z31 h30) (by decide) (by decide) (fun v35 σ36 h34 => ?_)
          obtain ⟨h37, h38, z40, rfl, h39⟩ := h34
          have h41 := Fr_trans h28 h38 (by decide +kernel)
          refine En_Ps 4 (pc' := 50) (lv' := [(4, .int z40), (0, .ref 159), (1, .int a), (2, .int y2), (3, .int y3)]) (st' := [.int ((Int32.ofInt (-1))), .int z40, .int y2]) rfl ?_
          refine En_icEq _ rfl (by decide : (Int32.ofInt (-1)).toInt = -1) rfl (fun h42 => ?_) (fun h42 => ?_)
          · refine En_Ps 2 (pc' := 72) (lv' := [(4, .int z40), (0, .ref 159), (1, .int a), (2, .int y2), (3, .int y3)]) (st' := [.int ((y2 ||| ((Int32.ofInt 0))))]) rfl ?_
            refine En_rng (l := 0) (u := 65535) (or_rng 16 rfl (by decide : (Int32.ofInt 0).toInt = 0) (by omega) (by omega) (by omega) (by omega) (by decide)) (fun z43 h44 h45 => ?_)
            refine En_Ps 2 (pc' := 76) (lv' := [(3, .int ((y3 + Int32.ofInt 1))), (2, .int z43), (4, .int z40), (0, .ref 159), (1, .int a)]) (st' := []) rfl ?_
            refine En_lv1 (addI rfl (by decide : (Int32.ofInt 1).toInt = 1) (by omega) (by omega)) (fun z46 h47 => ?_)
            refine En_Ps 1 (pc' := 30) (lv' := [(3, .int z46), (2, .int z43), (4, .int z40), (0, .ref 159), (1, .int a)]) (st' := []) rfl ?_
            refine En_lv (lv := [(0, .ref 159), (1, .int a), (2, .int z43), (3, .int z46)]) ⟨rfl, rfl, rfl, rfl, trivial⟩ ?_
            exact ih30 σ36 z43 z46 h37 h41 (by omega) (by omega) (by omega) (by omega) (by omega)
          · refine En_Ps 1 (pc' := 54) (lv' := [(4, .int z40), (0, .ref 159), (1, .int a), (2, .int y2), (3, .int y3)]) (st' := [.ref 159, .int y2]) rfl ?_
            refine En_getU (j := 20) (u := 170) (g' := 46) (q := 0) rfl rfl rfl tgz_159 (by decide +kernel) h37 (by decide +kernel) (by decide +kernel) (fun h48 => ?_)
            refine En_Ps 1 (pc' := 59) (lv' := [(4, .int z40), (0, .ref 159), (1, .int a), (2, .int y2), (3, .int y3)]) (st' := [.int z40, .ref 170, .int y2]) rfl ?_
            refine En_iald (l := 0) (u := 1) rfl rfl tgz_170 (by decide +kernel) h37 (by omega) (lnI (by decide +kernel : LN _ = 17) (by omega)) (FTsgl (by decide +kernel)) (fun z51 h50 h52 h53 => ?_)
            refine En_Ps 1 (pc' := 61) (lv' := [(4, .int z40), (0, .ref 159), (1, .int a), (2, .int y2), (3, .int y3)]) (st' := [.int ((Int32.ofInt 1)), .int z51, .int y2]) rfl ?_
            refine En_icNe _ rfl (by decide : (Int32.ofInt 1).toInt = 1) rfl (fun h54 => ?_) (fun h54 => ?_)
            · refine En_Ps 2 (pc' := 72) (lv' := [(4, .int z40), (0, .ref 159), (1, .int a), (2, .int y2), (3, .int y3)]) (st' := [.int ((y2 ||| ((Int32.ofInt 0))))]) rfl ?_
              refine En_rng (l := 0) (u := 65535) (or_rng 16 rfl (by decide : (Int32.ofInt 0).toInt = 0) (by omega) (by omega) (by omega) (by omega) (by decide)) (fun z55 h56 h57 => ?_)
              refine En_Ps 2 (pc' := 76) (lv' := [(3, .int ((y3 + Int32.ofInt 1))), (2, .int z55), (4, .int z40), (0, .ref 159), (1, .int a)]) (st' := []) rfl ?_
              refine En_lv1 (addI rfl (by decide : (Int32.ofInt 1).toInt = 1) (by omega) (by omega)) (fun z58 h59 => ?_)
              refine En_Ps 1 (pc' := 30) (lv' := [(3, .int z58), (2, .int z55), (4, .int z40), (0, .ref 159), (1, .int a)]) (st' := []) rfl ?_
              refine En_lv (lv := [(0, .ref 159), (1, .int a), (2, .int z55), (3, .int z58)]) ⟨rfl, rfl, rfl, rfl, trivial⟩ ?_
              exact ih30 σ36 z55 z58 h37 h41 (by omega) (by omega) (by omega) (by omega) (by omega)
            · refine En_Ps 3 (pc' := 67) (lv' := [(4, .int z40), (0, .ref 159), (1, .int a), (2, .int y2), (3, .int y3)]) (st' := [.int ((((Int32.ofInt 1)) <<< (y3 &&& 31))), .int y2]) rfl ?_
              refine En_rng (shl1_p 15 rfl (by omega) (by omega) (by decide)) (fun z60 h61 h62 => ?_)
              refine En_Ps 2 (pc' := 72) (lv' := [(4, .int z40), (0, .ref 159), (1, .int a), (2, .int y2), (3, .int y3)]) (st' := [.int ((y2 ||| z60))]) rfl ?_
              refine En_rng (l := 0) (u := 65535) (or_rng 16 rfl rfl (by omega) (by omega) (by omega) (by omega) (by decide)) (fun z63 h64 h65 => ?_)
              refine En_Ps 2 (pc' := 76) (lv' := [(3, .int ((y3 + Int32.ofInt 1))), (2, .int z63), (4, .int z40), (0, .ref 159), (1, .int a)]) (st' := []) rfl ?_
              refine En_lv1 (addI rfl (by decide : (Int32.ofInt 1).toInt = 1) (by omega) (by omega)) (fun z66 h67 => ?_)
              refine En_Ps 1 (pc' := 30) (lv' := [(3, .int z66), (2, .int z63), (4, .int z40), (0, .ref 159), (1, .int a)]) (st' := []) rfl ?_
              refine En_lv (lv := [(0, .ref 159), (1, .int a), (2, .int z63), (3, .int z66)]) ⟨rfl, rfl, rfl, rfl, trivial⟩ ?_
              exact ih30 σ36 z63 z66 h37 h41 (by omega) (by omega) (by omega) (by omega) (by omega)
    have := (by decide : (Int32.ofInt 0).toInt = 0)
    have := (by decide : (Int32.ofInt 0).toInt = 0)
    refine En_lv (lv := [(0, .ref 159), (1, .int a), (2, .int ((Int32.ofInt 0))), (3, .int ((Int32.ofInt 0)))]) ⟨rfl, rfl, rfl, rfl, trivial⟩ ?_
    exact key30 (Int.toNat (16) + 1) σ0 ((Int32.ofInt 0)) ((Int32.ofInt 0)) hσ0 hF0 (by omega) (by omega) (by omega) (by omega) (by omega)
  · refine En_Ps 1 (pc' := 6) (lv' := [(0, .ref 159), (1, .int a)]) (st' := [.ref 159]) rfl ?_
    refine En_callV rfl rfl rfl rfl rfl rfl rfl rfl tgz_159 (by decide +kernel) rfl (c_229 σ0 hσ0) (by decide) (by decide) (fun v69 σ70 h68 => ?_)
    obtain ⟨h71, h72, z74, rfl, h73⟩ := h68
    have h75 := Fr_trans hF0 h72 (by decide +kernel)
    refine En_Ps 3 (pc' := 12) (lv' := [(2, .int z74), (0, .ref 159), (1, .int a)]) (st' := [.int ((Int32.ofInt (-1))), .int z74]) rfl ?_
    refine En_icNe _ rfl (by decide : (Int32.ofInt (-1)).toInt = -1) rfl (fun h76 => ?_) (fun h76 => ?_)
    · refine En_Ps 1 (pc' := 20) (lv' := [(2, .int z74), (0, .ref 159), (1, .int a)]) (st' := [.ref 159]) rfl ?_
      refine En_getU (j := 17) (u := 168) (g' := 44) (q := 0) rfl rfl rfl tgz_159 (by decide +kernel) h71 (by decide +kernel) (by decide +kernel) (fun h77 => ?_)
      refine En_Ps 1 (pc' := 24) (lv' := [(2, .int z74), (0, .ref 159), (1, .int a)]) (st' := [.int z74, .ref 168]) rfl ?_
      refine En_iald (l := (-2147483648)) (u := 2147483647) rfl rfl tgz_168 (by decide +kernel) h71 (by omega) (lnI (by decide +kernel : LN _ = 81) (by omega)) (FTsgl (by decide +kernel)) (fun z80 h79 h81 h82 => ?_)
      exact En_ret (v := some (.int z80)) rfl rfl rfl ⟨h71, h75, z80, rfl, trivial⟩
    · refine En_Ps 2 (pc' := 25) (lv' := [(2, .int z74), (0, .ref 159), (1, .int a)]) (st' := [.int ((Int32.ofInt 0))]) rfl ?_
      refine En_top (by decide : (Int32.ofInt 0).toInt = 0) (fun z83 h84 => ?_)
      exact En_ret (v := some (.int z83)) rfl rfl rfl ⟨h71, h75, z83, rfl, trivial⟩
/-- DoorSchoolModel.deedsOfDoor(I)I -/
abbrev P_213 (σ0 : SG) (a : Int32) : PO := fun v σ => WT σ ∧ Fr [(35, 18), (35, 21), (42, 0), (43, 0), (44, 0), (45, 0), (46, 0)] σ0 σ ∧ ∃ m1 : Int32, (σ 159)[21]? = some (.int m1) ∧ ∃ ret : Int32, v = some (.int ret) ∧ -m1.toInt ≤ 0 ∧ m1.toInt - 13 ≤ 0
set_option maxRecDepth 10000 in
set_option maxHeartbeats 4000000 in
theorem c_213 (σ0 : SG) (hσ0 : WT σ0) (a : Int32) (hl_a : 0 ≤ a.toInt) (hu_a : a.toInt ≤ 3) : En 4 91 none mr_213 (P_213 σ0 a) 0 [(0, .ref 159), (1, .int a)] [] σ0 := by
  have hF0 : Fr [(35, 18), (35, 21), (42, 0), (43, 0), (44, 0), (45, 0), (46, 0)] σ0 σ0 := Fr_rfl
  refine En_Ps 1 (pc' := 1) (lv' := [(0, .ref 159), (1, .int a)]) (st' := [.ref 159]) rfl ?_
  obtain ⟨z2, h1, h3, h4⟩ := WT_peekI hσ0 tgz_160 (by decide +kernel : FT 36 (0 : Int).toNat = (0, 0, 4)) (by decide +kernel)
  obtain ⟨z6, h5, h7, h8⟩ := WT_peekI hσ0 tgz_160 (by decide +kernel : FT 36 (7 : Int).toNat = (0, 0, 1600)) (by decide +kernel)
  refine En_callV rfl rfl rfl rfl rfl rfl rfl rfl tgz_159 (by decide +kernel) rfl (c_272 σ0 hσ0 z2 h1 z6 h5) (by decide) (by decide) (fun v10 σ11 h9 => ?_)
  obtain ⟨h12, h13, rfl, h14⟩ := h9
  have h15 := Fr_trans hF0 h13 (by decide +kernel)
  refine En_Ps 3 (pc' := 7) (lv' := [(0, .ref 159), (1, .int a)]) (st' := [.int a, .ref 159, .ref 159]) rfl ?_
  refine En_callV rfl rfl rfl rfl rfl rfl rfl rfl tgz_159 (by decide +kernel) rfl (c_305 σ11 h12 a (geI rfl (by omega)) (leI rfl (by omega))) (by decide) (by decide) (fun v17 σ18 h16 => ?_)
  obtain ⟨h19, h20, z22, rfl, h21⟩ := h16
  have h23 := Fr_trans h15 h20 (by decide +kernel)
  refine En_callV rfl rfl rfl rfl rfl rfl rfl rfl tgz_159 (by decide +kernel) rfl (c_271 σ18 h19 z22 (geI rfl (by omega)) (leI rfl (by omega))) (by decide) (by decide) (fun v25 σ26 h24 => ?_)
  obtain ⟨h27, h28, z30, h31, rfl, h29⟩ := h24
  have h32 := Fr_trans h23 h28 (by decide +kernel)
  refine En_Ps 4 (pc' := 17) (lv' := [(0, .ref 159), (1, .int a)]) (st' := [.int a, .ref 159, .ref 159, .ref 159]) rfl ?_
  refine En_callV rfl rfl rfl rfl rfl rfl rfl rfl tgz_159 (by decide +kernel) rfl (c_305 σ26 h27 a (geI rfl (by omega)) (leI rfl (by omega))) (by decide) (by decide) (fun v34 σ35 h33 => ?_)
  obtain ⟨h36, h37, z39, rfl, h38⟩ := h33
  have h40 := Fr_trans h32 h37 (by decide +kernel)
  refine En_Ps 1 (pc' := 21) (lv' := [(0, .ref 159), (1, .int a)]) (st' := [.int ((Int32.ofInt 0)), .int z39, .ref 159, .ref 159]) rfl ?_
  have := (by decide : ((Int32.ofInt 0)).toInt = 0)
  obtain ⟨z41, h42, h43, h44⟩ := WT_peekJ (J := (4 * z39.toInt + ((Int32.ofInt 0)).toInt + 10)) (l := 0) (u := 2) h36 tgz_160 (by decide +kernel) (by omega) (lnI (by decide +kernel : LN _ = 226) (by omega)) (FTrow 36 10 4 4 (by decide +kernel) (by omega) (by omega) (by omega))
  have := (by decide : ((Int32.ofInt 0)).toInt = 0)
  refine En_callV rfl rfl rfl rfl rfl rfl rfl rfl tgz_159 (by decide +kernel) rfl (c_290a σ35 h36 z39 ((Int32.ofInt 0)) (geI rfl (by omega)) (leI rfl (by omega)) (geI (by decide : (Int32.ofInt 0).toInt = 0) (by omega)) (leI (by decide : (Int32.ofInt 0).toInt = 0) (by omega)) z41 h42) (by decide) (by decide) (fun v46 σ47 h45 => ?_)
  obtain ⟨h48, h49, z51, rfl, h50⟩ := h45
  have h52 := Fr_trans h40 h49 (by decide +kernel)
  refine En_callV rfl rfl rfl rfl rfl rfl rfl rfl tgz_159 (by decide +kernel) rfl (c_274 σ47 h48 z51) (by decide) (by decide) (fun v54 σ55 h53 => ?_)
  obtain ⟨h56, h57, z59, rfl, h58⟩ := h53
  have h60 := Fr_trans h52 h57 (by decide +kernel)
  exact En_ret (v := some (.int z59)) rfl rfl rfl ⟨h56, h60, z30, ((h57 _ _ (inW tgz_159 (by decide +kernel))).trans ((h49 _ _ (inW tgz_159 (by decide +kernel))).trans ((h37 _ _ (inW tgz_159 (by decide +kernel))).trans h31))), z59, rfl, (by omega)⟩
/-- DoorSchoolModel.alike(I)I -/
abbrev P_191 (σ0 : SG) (a : Int32) : PO := fun v σ => WT σ ∧ Fr [(35, 18), (35, 21), (42, 0), (43, 0), (44, 0), (45, 0), (46, 0)] σ0 σ ∧ ∃ ret : Int32, v = some (.int ret) ∧ -ret.toInt - 2 ≤ 0 ∧ ret.toInt - 15 ≤ 0
set_option maxRecDepth 10000 in
set_option maxHeartbeats 4000000 in
theorem c_191 (σ0 : SG) (hσ0 : WT σ0) (a : Int32) : En 5 112 none mr_191 (P_191 σ0 a) 0 [(0, .ref 159), (1, .int a)] [] σ0 := by
  have hF0 : Fr [(35, 18), (35, 21), (42, 0), (43, 0), (44, 0), (45, 0), (46, 0)] σ0 σ0 := Fr_rfl
  refine En_Ps 2 (pc' := 2) (lv' := [(0, .ref 159), (1, .int a)]) (st' := [.int a, .ref 159]) rfl ?_
  obtain ⟨z2, h1, h3, h4⟩ := WT_peekI hσ0 tgz_160 (by decide +kernel : FT 36 (2 : Int).toNat = (0, 0, 4)) (by decide +kernel)
  refine En_callV rfl rfl rfl rfl rfl rfl rfl rfl tgz_159 (by decide +kernel) rfl (c_254 σ0 hσ0 a z2 h1) (by decide) (by decide) (fun v6 σ7 h5 => ?_)
  obtain ⟨h8, h9, z11, rfl, h10⟩ := h5
  have h12 := Fr_trans hF0 h9 (by decide +kernel)
  refine En_iNe _ rfl rfl (fun h13 => ?_) (fun h13 => ?_)
  · refine En_Ps 2 (pc' := 13) (lv' := [(0, .ref 159), (1, .int a)]) (st' := [.int a, .ref 159]) rfl ?_
    refine En_callV rfl rfl rfl rfl rfl rfl rfl rfl tgz_159 (by decide +kernel) rfl (c_213 σ7 h8 a (geI rfl (by omega)) (leI rfl (by omega))) (by decide) (by decide) (fun v15 σ16 h14 => ?_)
    obtain ⟨h17, h18, z20, h21, z22, rfl, h19⟩ := h14
    have h23 := Fr_trans h12 h18 (by decide +kernel)
    refine En_Ps 5 (pc' := 22) (lv' := [(4, .int ((Int32.ofInt 0))), (3, .int ((Int32.ofInt 0))), (2, .int z22), (0, .ref 159), (1, .int a)]) (st' := []) rfl ?_
    have key22 : ∀ (n22 : Nat) (σ27 : SG) (y24 : Int32) (y25 : Int32) (y26 : Int32), WT σ27 → Fr [(35, 18), (35, 21), (42, 0), (43, 0), (44, 0), (45, 0), (46, 0)] σ0 σ27 → (σ27 160)[(2 : Int).toNat]? = some (.int z2) → (σ27 159)[21]? = some (.int y26) → 0 ≤ y24.toInt → y24.toInt ≤ 15 → 0 ≤ y25.toInt → y25.toInt ≤ 4 → 0 ≤ y26.toInt → y26.toInt ≤ 13 → y25.toInt - z2.toInt ≤ 0 → z2.toInt - y25.toInt < (n22 : Int) → En 5 112 none mr_191 (P_191 σ0 a) 22 [(0, .ref 159), (1, .int a), (2, .int z22), (3, .int y24), (4, .int y25)] [] σ27 := by
      intro n22
      induction n22 with
      | zero =>
        intro σ27 y24 y25 y26 h28 h29 h30 h31 h32 h33 h34 h35 h36 h37 h38 h39
        exfalso; omega
      | succ n22 ih22 =>
        intro σ27 y24 y25 y26 h28 h29 h30 h31 h32 h33 h34 h35 h36 h37 h38 h39
        refine En_Ps 2 (pc' := 25) (lv' := [(0, .ref 159), (1, .int a), (2, .int z22), (3, .int y24), (4, .int y25)]) (st' := [.ref 159, .int y25]) rfl ?_
        refine En_getU (j := 1) (u := 160) (g' := 36) (q := 0) rfl rfl rfl tgz_159 (by decide +kernel) h28 (by decide +kernel) (by decide +kernel) (fun h40 => ?_)
        refine En_Ps 1 (pc' := 29) (lv' := [(0, .ref 159), (1, .int a), (2, .int z22), (3, .int y24), (4, .int y25)]) (st' := [.int ((Int32.ofInt 2)), .ref 160, .int y25]) rfl ?_
        refine En_ialdK h30 rfl (by decide : (Int32.ofInt 2).toInt = 2) tgz_160 (by decide +kernel) h28 (by omega) (lnI (by decide +kernel : LN _ = 226) (by omega)) ?_
        refine En_icGe _ rfl rfl rfl (fun h43 => ?_) (fun h43 => ?_)
        · refine En_Ps 1 (pc' := 67) (lv' := [(0, .ref 159), (1, .int a), (2, .int z22), (3, .int y24), (4, .int y25)]) (st' := [.int y24]) rfl ?_
          exact En_ret (v := some (.int y24)) rfl rfl rfl ⟨h28, h29, y24, rfl, (by omega)⟩
        · refine En_Ps 3 (pc' := 37) (lv' := [(0, .ref 159), (1, .int a), (2, .int z22), (3, .int y24), (4, .int y25)]) (st' := [.int a, .int y25, .int y24]) rfl ?_
          refine En_icEq _ rfl rfl rfl (fun h44 => ?_) (fun h44 => ?_)
          · refine En_Ps 2 (pc' := 59) (lv' := [(0, .ref 159), (1, .int a), (2, .int z22), (3, .int y24), (4, .int y25)]) (st' := [.int ((y24 ||| ((Int32.ofInt 0))))]) rfl ?_
            refine En_rng (l := 0) (u := 15) (or_rng 4 rfl (by decide : (Int32.ofInt 0).toInt = 0) (by omega) (by omega) (by omega) (by omega) (by decide)) (fun z45 h46 h47 => ?_)
            refine En_Ps 2 (pc' := 63) (lv' := [(4, .int ((y25 + Int32.ofInt 1))), (3, .int z45), (0, .ref 159), (1, .int a), (2, .int z22)]) (st' := []) rfl ?_
            refine En_lv1 (addI rfl (by decide : (Int32.ofInt 1).toInt = 1) (by omega) (by omega)) (fun z48 h49 => ?_)
            refine En_Ps 1 (pc' := 22) (lv' := [(4, .int z48), (3, .int z45), (0, .ref 159), (1, .int a), (2, .int z22)]) (st' := []) rfl ?_
            refine En_lv (lv := [(0, .ref 159), (1, .int a), (2, .int z22), (3, .int z45), (4, .int z48)]) ⟨rfl, rfl, rfl, rfl, rfl, trivial⟩ ?_
            exact ih22 σ27 z45 z48 y26 h28 h29 h30 h31 (by omega) (by omega) (by omega) (by omega) (by omega) (by omega) (by omega) (by omega)
          · refine En_Ps 2 (pc' := 43) (lv' := [(0, .ref 159), (1, .int a), (2, .int z22), (3, .int y24), (4, .int y25)]) (st' := [.int y25, .ref 159, .int y24]) rfl ?_
            refine En_callV rfl rfl rfl rfl rfl rfl rfl rfl tgz_159 (by decide +kernel) rfl (c_213 σ27 h28 y25 (geI rfl (by omega)) (leI rfl (by omega))) (by decide) (by decide) (fun v51 σ52 h50 => ?_)
            obtain ⟨h53, h54, z56, h57, z58, rfl, h55⟩ := h50
            have h59 := Fr_trans h29 h54 (by decide +kernel)
            refine En_Ps 1 (pc' := 47) (lv' := [(0, .ref 159), (1, .int a), (2, .int z22), (3, .int y24), (4, .int y25)]) (st' := [.int z22, .int z58, .int y24]) rfl ?_
            refine En_icNe _ rfl rfl rfl (fun h60 => ?_) (fun h60 => ?_)
            · refine En_Ps 2 (pc' := 59) (lv' := [(0, .ref 159), (1, .int a), (2, .int z22), (3, .int y24), (4, .int y25)]) (st' := [.int ((y24 ||| ((Int32.ofInt 0))))]) rfl ?_
              refine En_rng (l := 0) (u := 15) (or_rng 4 rfl (by decide : (Int32.ofInt 0).toInt = 0) (by omega) (by omega) (by omega) (by omega) (by decide)) (fun z61 h62 h63 => ?_)
              refine En_Ps 2 (pc' := 63) (lv' := [(4, .int ((y25 + Int32.ofInt 1))), (3, .int z61), (0, .ref 159), (1, .int a), (2, .int z22)]) (st' := []) rfl ?_
              refine En_lv1 (addI rfl (by decide : (Int32.ofInt 1).toInt = 1) (by omega) (by omega)) (fun z64 h65 => ?_)
              refine En_Ps 1 (pc' := 22) (lv' := [(4, .int z64), (3, .int z61), (0, .ref 159), (1, .int a), (2, .int z22)]) (st' := []) rfl ?_
              refine En_lv (lv := [(0, .ref 159), (1, .int a), (2, .int z22), (3, .int z61), (4, .int z64)]) ⟨rfl, rfl, rfl, rfl, rfl, trivial⟩ ?_
              exact ih22 σ52 z61 z64 z56 h53 h59 ((h54 _ _ (inWa tgz_160 (by decide +kernel))).trans h30) h57 (by omega) (by omega) (by omega) (by omega) (by omega) (by omega) (by omega) (by omega)
            · refine En_Ps 3 (pc' := 54) (lv' := [(0, .ref 159), (1, .int a), (2, .int z22), (3, .int y24), (4, .int y25)]) (st' := [.int ((((Int32.ofInt 1)) <<< (y25 &&& 31))), .int y24]) rfl ?_
              refine En_rng (shl1_p 3 rfl (by omega) (by omega) (by decide)) (fun z66 h67 h68 => ?_)
              refine En_Ps 2 (pc' := 59) (lv' := [(0, .ref 159), (1, .int a), (2, .int z22), (3, .int y24), (4, .int y25)]) (st' := [.int ((y24 ||| z66))]) rfl ?_
              refine En_rng (l := 0) (u := 15) (or_rng 4 rfl rfl (by omega) (by omega) (by omega) (by omega) (by decide)) (fun z69 h70 h71 => ?_)
              refine En_Ps 2 (pc' := 63) (lv' := [(4, .int ((y25 + Int32.ofInt 1))), (3, .int z69), (0, .ref 159), (1, .int a), (2, .int z22)]) (st' := []) rfl ?_
              refine En_lv1 (addI rfl (by decide : (Int32.ofInt 1).toInt = 1) (by omega) (by omega)) (fun z72 h73 => ?_)
              refine En_Ps 1 (pc' := 22) (lv' := [(4, .int z72), (3, .int z69), (0, .ref 159), (1, .int a), (2, .int z22)]) (st' := []) rfl ?_
              refine En_lv (lv := [(0, .ref 159), (1, .int a), (2, .int z22), (3, .int z69), (4, .int z72)]) ⟨rfl, rfl, rfl, rfl, rfl, trivial⟩ ?_
              exact ih22 σ52 z69 z72 z56 h53 h59 ((h54 _ _ (inWa tgz_160 (by decide +kernel))).trans h30) h57 (by omega) (by omega) (by omega) (by omega) (by omega) (by omega) (by omega) (by omega)
    have := (by decide : (Int32.ofInt 0).toInt = 0)
    have := (by decide : (Int32.ofInt 0).toInt = 0)
    refine En_lv (lv := [(0, .ref 159), (1, .int a), (2, .int z22), (3, .int ((Int32.ofInt 0))), (4, .int ((Int32.ofInt 0)))]) ⟨rfl, rfl, rfl, rfl, rfl, trivial⟩ ?_
    exact key22 (Int.toNat (z2.toInt) + 1) σ16 ((Int32.ofInt 0)) ((Int32.ofInt 0)) z20 h17 h23 ((h18 _ _ (inWa tgz_160 (by decide +kernel))).trans ((h9 _ _ (inWa tgz_160 (by decide +kernel))).trans h1)) h21 (by omega) (by omega) (by omega) (by omega) (by omega) (by omega) (by omega) (by omega)
  · refine En_Ps 1 (pc' := 10) (lv' := [(0, .ref 159), (1, .int a)]) (st' := [.int (((Int8.ofInt (-2)).toInt32))]) rfl ?_
    refine En_top (by decide : ((Int8.ofInt (-2)).toInt32).toInt = -2) (fun z74 h75 => ?_)
    exact En_ret (v := some (.int z74)) rfl rfl rfl ⟨h8, h12, z74, rfl, (by omega)⟩
/-- DoorSchoolModel.allKnocks()I -/
abbrev P_192 (σ0 : SG) : PO := fun v σ => WT σ ∧ Fr [] σ0 σ ∧ ∃ ret : Int32, v = some (.int ret) ∧ -ret.toInt ≤ 0 ∧ ret.toInt - 65535 ≤ 0
set_option maxRecDepth 10000 in
set_option maxHeartbeats 4000000 in
theorem c_192 (σ0 : SG) (hσ0 : WT σ0) : En 2 40 none mr_192 (P_192 σ0) 0 [(0, .ref 159)] [] σ0 := by
  have hF0 : Fr [] σ0 σ0 := Fr_rfl
  refine En_Ps 2 (pc' := 2) (lv' := [(0, .ref 159)]) (st' := [.ref 159, .int ((Int32.ofInt 1))]) rfl ?_
  obtain ⟨z2, h1, h3, h4⟩ := WT_peekI hσ0 tgz_160 (by decide +kernel : FT 36 (0 : Int).toNat = (0, 0, 4)) (by decide +kernel)
  obtain ⟨z6, h5, h7, h8⟩ := WT_peekI hσ0 tgz_160 (by decide +kernel : FT 36 (7 : Int).toNat = (0, 0, 1600)) (by decide +kernel)
  refine En_callV rfl rfl rfl rfl rfl rfl rfl rfl tgz_159 (by decide +kernel) rfl (c_269 σ0 hσ0 z2 h1 z6 h5) (by decide) (by decide) (fun v10 σ11 h9 => ?_)
  obtain ⟨h12, h13, z15, rfl, h14⟩ := h9
  have h16 := h14.2.2
  have h17 := Fr_trans hF0 h13 (by decide +kernel)
  refine En_Ps 1 (pc' := 6) (lv' := [(0, .ref 159)]) (st' := [.int ((((Int32.ofInt 1)) <<< (z15 &&& 31)))]) rfl ?_
  refine En_rng (shl1_p 16 rfl (by omega) (by omega) (by decide)) (fun z18 h19 h20 => ?_)
  refine En_Ps 2 (pc' := 8) (lv' := [(0, .ref 159)]) (st' := [.int ((z18 - ((Int32.ofInt 1))))]) rfl ?_
  refine En_top (subI rfl (by decide : (Int32.ofInt 1).toInt = 1) (by omega) (by omega)) (fun z21 h22 => ?_)
  exact En_ret (v := some (.int z21)) rfl rfl rfl ⟨h12, h17, z21, rfl, (by omega)⟩
/-- DoorSchoolModel.isHouse(I)Z -/
abbrev P_258 (σ0 : SG) (a : Int32) : PO := fun v σ => WT σ ∧ Fr [] σ0 σ ∧ ∃ ret : Int32, v = some (.int ret) ∧ -ret.toInt ≤ 0 ∧ ret.toInt - 1 ≤ 0 ∧ (ret.toInt - 1 ≤ 0 ∧ -ret.toInt + 1 ≤ 0 → -a.toInt ≤ 0 ∧ a.toInt - 3 ≤ 0)
set_option maxRecDepth 10000 in
set_option maxHeartbeats 4000000 in
theorem c_258 (σ0 : SG) (hσ0 : WT σ0) (a : Int32) : En 1 25 none mr_258 (P_258 σ0 a) 0 [(0, .ref 159), (1, .int a)] [] σ0 := by
  have hF0 : Fr [] σ0 σ0 := Fr_rfl
  refine En_Ps 4 (pc' := 4) (lv' := [(0, .ref 159), (1, .int a)]) (st' := [.ref 159, .long ((Int64.ofNat 0)), .long a.toInt64]) rfl ?_
  refine En_getU (j := 1) (u := 160) (g' := 36) (q := 0) rfl rfl rfl tgz_159 (by decide +kernel) hσ0 (by decide +kernel) (by decide +kernel) (fun h1 => ?_)
  refine En_Ps 1 (pc' := 8) (lv' := [(0, .ref 159), (1, .int a)]) (st' := [.int ((Int32.ofInt 4)), .ref 160, .long ((Int64.ofNat 0)), .long a.toInt64]) rfl ?_
  refine En_iald (l := 0) (u := 4) rfl (by decide : (Int32.ofInt 4).toInt = 4) tgz_160 (by decide +kernel) hσ0 (by omega) (lnI (by decide +kernel : LN _ = 226) (by omega)) (by decide +kernel) (fun z4 h3 h5 h6 => ?_)
  refine En_Ps 2 (pc' := 11) (lv' := [(0, .ref 159), (1, .int a)]) (st' := [.int ((z4 - ((Int32.ofInt 1)))), .long ((Int64.ofNat 0)), .long a.toInt64]) rfl ?_
  refine En_top (subI rfl (by decide : (Int32.ofInt 1).toInt = 1) (by omega) (by omega)) (fun z7 h8 => ?_)
  refine En_Ps 1 (pc' := 12) (lv' := [(0, .ref 159), (1, .int a)]) (st' := [.long z7.toInt64, .long ((Int64.ofNat 0)), .long a.toInt64]) rfl ?_
  have : a.toInt64.toInt = a.toInt := (i2lI rfl)
  have := (by decide : ((Int64.ofNat 0)).toInt = 0)
  have : z7.toInt64.toInt = z7.toInt := (i2lI rfl)
  refine En_callS rfl rfl rfl rfl rfl rfl rfl rfl rfl (c_249 σ0 hσ0 a.toInt64 ((Int64.ofNat 0)) z7.toInt64) (by decide) (by decide) (fun v10 σ11 h9 => ?_)
  obtain ⟨h12, h13, z15, rfl, h14⟩ := h9
  have h16 := Fr_trans hF0 h13 (by decide +kernel)
  exact En_ret (v := some (.int z15)) rfl rfl (retZ rfl rfl (by omega) (by omega)) ⟨h12, h16, z15, rfl, (by omega)⟩
/-- DoorSchoolModel.amissOf(II)I -/
abbrev P_194 (σ0 : SG) (a : Int32) (b : Int32) : PO := fun v σ => WT σ ∧ Fr [(35, 18), (35, 21), (42, 0), (43, 0), (44, 0), (45, 0), (46, 0)] σ0 σ ∧ ∃ ret : Int32, v = some (.int ret) ∧ True
set_option maxRecDepth 10000 in
set_option maxHeartbeats 4000000 in
theorem c_194 (σ0 : SG) (hσ0 : WT σ0) (a : Int32) (b : Int32) (hl_a : 0 ≤ a.toInt) (hu_a : a.toInt ≤ 3) (hl_b : 0 ≤ b.toInt) (hu_b : b.toInt ≤ 3) : En 5 112 none mr_194 (P_194 σ0 a b) 0 [(0, .ref 159), (1, .int a), (2, .int b)] [] σ0 := by
  have hF0 : Fr [(35, 18), (35, 21), (42, 0), (43, 0), (44, 0), (45, 0), (46, 0)] σ0 σ0 := Fr_rfl
  refine En_Ps 2 (pc' := 2) (lv' := [(0, .ref 159), (1, .int a), (2, .int b)]) (st' := [.int a, .ref 159]) rfl ?_
  refine En_callV rfl rfl rfl rfl rfl rfl rfl rfl tgz_159 (by decide +kernel) rfl (c_213 σ0 hσ0 a (geI rfl (by omega)) (leI rfl (by omega))) (by decide) (by decide) (fun v2 σ3 h1 => ?_)
  obtain ⟨h4, h5, z7, h8, z9, rfl, h6⟩ := h1
  have h10 := Fr_trans hF0 h5 (by decide +kernel)
  refine En_Ps 2 (pc' := 7) (lv' := [(0, .ref 159), (1, .int a), (2, .int b)]) (st' := [.ref 159, .ref 159, .int z9]) rfl ?_
  refine En_getU (j := 1) (u := 160) (g' := 36) (q := 0) rfl rfl rfl tgz_159 (by decide +kernel) h4 (by decide +kernel) (by decide +kernel) (fun h11 => ?_)
  refine En_Ps 4 (pc' := 16) (lv' := [(0, .ref 159), (1, .int a), (2, .int b)]) (st' := [.int ((((Int32.ofInt 2)) * b)), .int (((Int16.ofInt 146).toInt32)), .ref 160, .ref 159, .int z9]) rfl ?_
  refine En_top (mulI (by decide : (Int32.ofInt 2).toInt = 2) rfl (Z := 2 * b.toInt) (by omega) (by omega) (by omega)) (fun z13 h14 => ?_)
  refine En_Ps 1 (pc' := 17) (lv' := [(0, .ref 159), (1, .int a), (2, .int b)]) (st' := [.int (((((Int16.ofInt 146).toInt32)) + z13)), .ref 160, .ref 159, .int z9]) rfl ?_
  refine En_top (addI (by decide : ((Int16.ofInt 146).toInt32).toInt = 146) rfl (by omega) (by omega)) (fun z15 h16 => ?_)
  refine En_iald (l := 0) (u := 15) rfl rfl tgz_160 (by decide +kernel) h4 (by omega) (lnI (by decide +kernel : LN _ = 226) (by omega)) (FTrow 36 146 2 4 (by decide +kernel) (by omega) (by omega) (by omega)) (fun z18 h17 h19 h20 => ?_)
  refine En_Ps 1 (pc' := 19) (lv' := [(0, .ref 159), (1, .int a), (2, .int b)]) (st' := [.ref 159, .int z18, .ref 159, .int z9]) rfl ?_
  refine En_getK (j := 1) h11 rfl rfl rfl tgz_159 (by decide +kernel) ?_
  refine En_Ps 4 (pc' := 28) (lv' := [(0, .ref 159), (1, .int a), (2, .int b)]) (st' := [.int ((((Int32.ofInt 2)) * b)), .int (((Int16.ofInt 146).toInt32)), .ref 160, .int z18, .ref 159, .int z9]) rfl ?_
  refine En_top (mulI (by decide : (Int32.ofInt 2).toInt = 2) rfl (Z := 2 * b.toInt) (by omega) (by omega) (by omega)) (fun z21 h22 => ?_)
  refine En_Ps 1 (pc' := 29) (lv' := [(0, .ref 159), (1, .int a), (2, .int b)]) (st' := [.int (((((Int16.ofInt 146).toInt32)) + z21)), .ref 160, .int z18, .ref 159, .int z9]) rfl ?_
  refine En_top (addI (by decide : ((Int16.ofInt 146).toInt32).toInt = 146) rfl (by omega) (by omega)) (fun z23 h24 => ?_)
  refine En_Ps 2 (pc' := 31) (lv' := [(0, .ref 159), (1, .int a), (2, .int b)]) (st' := [.int ((z23 + ((Int32.ofInt 1)))), .ref 160, .int z18, .ref 159, .int z9]) rfl ?_
  refine En_top (addI rfl (by decide : (Int32.ofInt 1).toInt = 1) (by omega) (by omega)) (fun z25 h26 => ?_)
  refine En_iald (l := 0) (u := 15) rfl rfl tgz_160 (by decide +kernel) h4 (by omega) (lnI (by decide +kernel : LN _ = 226) (by omega)) (FTrow 36 147 2 4 (by decide +kernel) (by omega) (by omega) (by omega)) (fun z28 h27 h29 h30 => ?_)
  refine En_callV rfl rfl rfl rfl rfl rfl rfl rfl tgz_159 (by decide +kernel) rfl (c_212 σ3 h4 z18 z28) (by decide) (by decide) (fun v32 σ33 h31 => ?_)
  obtain ⟨h34, h35, z37, rfl, h36⟩ := h31
  have h38 := Fr_trans h10 h35 (by decide +kernel)
  refine En_Ps 1 (pc' := 36) (lv' := [(0, .ref 159), (1, .int a), (2, .int b)]) (st' := [.int ((z9 ^^^ z37))]) rfl ?_
  refine En_hav (fun z39 => ?_)
  refine En_callS rfl rfl rfl rfl rfl rfl rfl rfl rfl (c_203b σ33 h34 z39) (by decide) (by decide) (fun v41 σ42 h40 => ?_)
  obtain ⟨h43, h44, z46, rfl, h45⟩ := h40
  have h47 := Fr_trans h38 h44 (by decide +kernel)
  exact En_ret (v := some (.int z46)) rfl rfl rfl ⟨h43, h47, z46, rfl, trivial⟩
/-- DoorSchoolModel.amiss(II)I -/
abbrev P_193 (σ0 : SG) (a : Int32) (b : Int32) : PO := fun v σ => WT σ ∧ Fr [(35, 18), (35, 21), (42, 0), (43, 0), (44, 0), (45, 0), (46, 0)] σ0 σ ∧ ∃ ret : Int32, v = some (.int ret) ∧ True
set_option maxRecDepth 10000 in
set_option maxHeartbeats 4000000 in
theorem c_193 (σ0 : SG) (hσ0 : WT σ0) (a : Int32) (b : Int32) : En 6 134 none mr_193 (P_193 σ0 a b) 0 [(0, .ref 159), (1, .int a), (2, .int b)] [] σ0 := by
  have hF0 : Fr [(35, 18), (35, 21), (42, 0), (43, 0), (44, 0), (45, 0), (46, 0)] σ0 σ0 := Fr_rfl
  refine En_Ps 2 (pc' := 2) (lv' := [(0, .ref 159), (1, .int a), (2, .int b)]) (st' := [.int a, .ref 159]) rfl ?_
  obtain ⟨z2, h1, h3, h4⟩ := WT_peekI hσ0 tgz_160 (by decide +kernel : FT 36 (2 : Int).toNat = (0, 0, 4)) (by decide +kernel)
  refine En_callV rfl rfl rfl rfl rfl rfl rfl rfl tgz_159 (by decide +kernel) rfl (c_254 σ0 hσ0 a z2 h1) (by decide) (by decide) (fun v6 σ7 h5 => ?_)
  obtain ⟨h8, h9, z11, rfl, h10⟩ := h5
  have h12 := Fr_trans hF0 h9 (by decide +kernel)
  refine En_iEq _ rfl rfl (fun h13 => ?_) (fun h13 => ?_)
  · refine En_Ps 1 (pc' := 27) (lv' := [(0, .ref 159), (1, .int a), (2, .int b)]) (st' := [.int (((Int8.ofInt (-2)).toInt32))]) rfl ?_
    refine En_top (by decide : ((Int8.ofInt (-2)).toInt32).toInt = -2) (fun z14 h15 => ?_)
    exact En_ret (v := some (.int z14)) rfl rfl rfl ⟨h8, h12, z14, rfl, trivial⟩
  · refine En_Ps 2 (pc' := 10) (lv' := [(0, .ref 159), (1, .int a), (2, .int b)]) (st' := [.int b, .ref 159]) rfl ?_
    refine En_callV rfl rfl rfl rfl rfl rfl rfl rfl tgz_159 (by decide +kernel) rfl (c_258 σ7 h8 b) (by decide) (by decide) (fun v17 σ18 h16 => ?_)
    obtain ⟨h19, h20, z22, rfl, h21⟩ := h16
    have h23 := Fr_trans h12 h20 (by decide +kernel)
    refine En_iEq _ rfl rfl (fun h24 => ?_) (fun h24 => ?_)
    · refine En_Ps 1 (pc' := 27) (lv' := [(0, .ref 159), (1, .int a), (2, .int b)]) (st' := [.int (((Int8.ofInt (-2)).toInt32))]) rfl ?_
      refine En_top (by decide : ((Int8.ofInt (-2)).toInt32).toInt = -2) (fun z25 h26 => ?_)
      exact En_ret (v := some (.int z25)) rfl rfl rfl ⟨h19, h23, z25, rfl, trivial⟩
    · refine En_Ps 3 (pc' := 19) (lv' := [(0, .ref 159), (1, .int a), (2, .int b)]) (st' := [.int b, .int a, .ref 159]) rfl ?_
      refine En_callV rfl rfl rfl rfl rfl rfl rfl rfl tgz_159 (by decide +kernel) rfl (c_194 σ18 h19 a b (geI rfl (by omega)) (leI rfl (by omega)) (geI rfl (by omega)) (leI rfl (by omega))) (by decide) (by decide) (fun v28 σ29 h27 => ?_)
      obtain ⟨h30, h31, z33, rfl, h32⟩ := h27
      have h34 := Fr_trans h23 h31 (by decide +kernel)
      refine En_Ps 1 (pc' := 27) (lv' := [(0, .ref 159), (1, .int a), (2, .int b)]) (st' := [.int z33]) rfl ?_
      exact En_ret (v := some (.int z33)) rfl rfl rfl ⟨h30, h34, z33, rfl, trivial⟩
/-- DoorSchoolModel.areDeeds(I)Z -/
abbrev P_195 (σ0 : SG) (a : Int32) : PO := fun v σ => WT σ ∧ Fr [] σ0 σ ∧ ∃ ret : Int32, v = some (.int ret) ∧ -ret.toInt ≤ 0 ∧ ret.toInt - 1 ≤ 0 ∧ (ret.toInt - 1 ≤ 0 ∧ -ret.toInt + 1 ≤ 0 → -a.toInt ≤ 0 ∧ a.toInt - 65535 ≤ 0)
set_option maxRecDepth 10000 in
set_option maxHeartbeats 4000000 in
theorem c_195 (σ0 : SG) (hσ0 : WT σ0) (a : Int32) : En 3 60 none mr_195 (P_195 σ0 a) 0 [(0, .ref 159), (1, .int a)] [] σ0 := by
  have hF0 : Fr [] σ0 σ0 := Fr_rfl
  refine En_Ps 1 (pc' := 1) (lv' := [(0, .ref 159), (1, .int a)]) (st' := [.ref 159]) rfl ?_
  obtain ⟨z2, h1, h3, h4⟩ := WT_peekI hσ0 tgz_160 (by decide +kernel : FT 36 (7 : Int).toNat = (0, 0, 1600)) (by decide +kernel)
  refine En_callV rfl rfl rfl rfl rfl rfl rfl rfl tgz_159 (by decide +kernel) rfl (c_264 σ0 hσ0 z2 h1) (by decide) (by decide) (fun v6 σ7 h5 => ?_)
  obtain ⟨h8, h9, z11, rfl, h10⟩ := h5
  have h12 := Fr_trans hF0 h9 (by decide +kernel)
  refine En_iEq _ rfl rfl (fun h13 => ?_) (fun h13 => ?_)
  · refine En_Ps 1 (pc' := 26) (lv' := [(0, .ref 159), (1, .int a)]) (st' := [.int ((Int32.ofInt 0))]) rfl ?_
    refine En_top (by decide : (Int32.ofInt 0).toInt = 0) (fun z14 h15 => ?_)
    exact En_ret (v := some (.int z14)) rfl rfl (retZ rfl rfl (by omega) (by omega)) ⟨h8, h12, z14, rfl, (by omega)⟩
  · refine En_Ps 4 (pc' := 11) (lv' := [(0, .ref 159), (1, .int a)]) (st' := [.ref 159, .long ((Int64.ofNat 0)), .long a.toInt64]) rfl ?_
    refine En_callV rfl rfl rfl rfl rfl rfl rfl rfl tgz_159 (by decide +kernel) rfl (c_192 σ7 h8) (by decide) (by decide) (fun v17 σ18 h16 => ?_)
    obtain ⟨h19, h20, z22, rfl, h21⟩ := h16
    have h23 := Fr_trans h12 h20 (by decide +kernel)
    refine En_Ps 1 (pc' := 15) (lv' := [(0, .ref 159), (1, .int a)]) (st' := [.long z22.toInt64, .long ((Int64.ofNat 0)), .long a.toInt64]) rfl ?_
    have : a.toInt64.toInt = a.toInt := (i2lI rfl)
    have := (by decide : ((Int64.ofNat 0)).toInt = 0)
    have : z22.toInt64.toInt = z22.toInt := (i2lI rfl)
    refine En_callS rfl rfl rfl rfl rfl rfl rfl rfl rfl (c_249 σ18 h19 a.toInt64 ((Int64.ofNat 0)) z22.toInt64) (by decide) (by decide) (fun v25 σ26 h24 => ?_)
    obtain ⟨h27, h28, z30, rfl, h29⟩ := h24
    have h31 := Fr_trans h23 h28 (by decide +kernel)
    refine En_iEq _ rfl rfl (fun h32 => ?_) (fun h32 => ?_)
    · refine En_Ps 1 (pc' := 26) (lv' := [(0, .ref 159), (1, .int a)]) (st' := [.int ((Int32.ofInt 0))]) rfl ?_
      refine En_top (by decide : (Int32.ofInt 0).toInt = 0) (fun z33 h34 => ?_)
      exact En_ret (v := some (.int z33)) rfl rfl (retZ rfl rfl (by omega) (by omega)) ⟨h27, h31, z33, rfl, (by omega)⟩
    · refine En_Ps 2 (pc' := 26) (lv' := [(0, .ref 159), (1, .int a)]) (st' := [.int ((Int32.ofInt 1))]) rfl ?_
      refine En_top (by decide : (Int32.ofInt 1).toInt = 1) (fun z35 h36 => ?_)
      exact En_ret (v := some (.int z35)) rfl rfl (retZ rfl rfl (by omega) (by omega)) ⟨h27, h31, z35, rfl, (by omega)⟩
/-- DoorSchoolModel.isSlot(I)Z -/
abbrev P_266 (σ0 : SG) (a : Int32) : PO := fun v σ => WT σ ∧ Fr [] σ0 σ ∧ ∃ ret : Int32, v = some (.int ret) ∧ -ret.toInt ≤ 0 ∧ ret.toInt - 1 ≤ 0 ∧ (ret.toInt - 1 ≤ 0 ∧ -ret.toInt + 1 ≤ 0 → -a.toInt ≤ 0 ∧ a.toInt - 3 ≤ 0) ∧ (-a.toInt ≤ 0 ∧ a.toInt - 3 ≤ 0 → ret.toInt - 1 ≤ 0 ∧ -ret.toInt + 1 ≤ 0)
set_option maxRecDepth 10000 in
set_option maxHeartbeats 4000000 in
theorem c_266 (σ0 : SG) (hσ0 : WT σ0) (a : Int32) : En 1 25 none mr_266 (P_266 σ0 a) 0 [(0, .int a)] [] σ0 := by
  have hF0 : Fr [] σ0 σ0 := Fr_rfl
  refine En_Ps 4 (pc' := 6) (lv' := [(0, .int a)]) (st' := [.long ((3 : Int64)), .long ((Int64.ofNat 0)), .long a.toInt64]) rfl ?_
  have : a.toInt64.toInt = a.toInt := (i2lI rfl)
  have := (by decide : ((Int64.ofNat 0)).toInt = 0)
  have := (by decide : ((3 : Int64)).toInt = 3)
  refine En_callS rfl rfl rfl rfl rfl rfl rfl rfl rfl (c_249 σ0 hσ0 a.toInt64 ((Int64.ofNat 0)) ((3 : Int64))) (by decide) (by decide) (fun v2 σ3 h1 => ?_)
  obtain ⟨h4, h5, z7, rfl, h6⟩ := h1
  have h8 := Fr_trans hF0 h5 (by decide +kernel)
  exact En_ret (v := some (.int z7)) rfl rfl (retZ rfl rfl (by omega) (by omega)) ⟨h4, h8, z7, rfl, (by omega)⟩
/-- DoorSchoolModel.numberAt(II)J -/
abbrev P_289 (σ0 : SG) (a : Int32) (b : Int32) : PO := fun v σ => WT σ ∧ Fr [] σ0 σ ∧ ∃ ret : Int64, v = some (.long ret) ∧ True
set_option maxRecDepth 10000 in
set_option maxHeartbeats 4000000 in
theorem c_289 (σ0 : SG) (hσ0 : WT σ0) (a : Int32) (b : Int32) (hl_a : 0 ≤ a.toInt) (hu_a : a.toInt ≤ 3) (hl_b : 0 ≤ b.toInt) (hu_b : b.toInt ≤ 59) : En 0 0 none mr_289 (P_289 σ0 a b) 0 [(0, .ref 159), (1, .int a), (2, .int b)] [] σ0 := by
  have hF0 : Fr [] σ0 σ0 := Fr_rfl
  refine En_Ps 1 (pc' := 1) (lv' := [(0, .ref 159), (1, .int a), (2, .int b)]) (st' := [.ref 159]) rfl ?_
  refine En_getU (j := 34) (u := 179) (g' := 55) (q := 0) rfl rfl rfl tgz_159 (by decide +kernel) hσ0 (by decide +kernel) (by decide +kernel) (fun h1 => ?_)
  refine En_Ps 3 (pc' := 8) (lv' := [(0, .ref 159), (1, .int a), (2, .int b)]) (st' := [.int (((((Int8.ofInt 60).toInt32)) * a)), .ref 179]) rfl ?_
  refine En_top (mulI (by decide : ((Int8.ofInt 60).toInt32).toInt = 60) rfl (Z := 60 * a.toInt) (by omega) (by omega) (by omega)) (fun z3 h4 => ?_)
  refine En_Ps 2 (pc' := 10) (lv' := [(0, .ref 159), (1, .int a), (2, .int b)]) (st' := [.int ((z3 + b)), .ref 179]) rfl ?_
  refine En_top (addI rfl rfl (by omega) (by omega)) (fun z5 h6 => ?_)
  refine En_lald (l := (-9223372036854775808)) (u := 9223372036854775807) rfl rfl tgz_179 (by decide +kernel) hσ0 (by omega) (lnI (by decide +kernel : LN _ = 240) (by omega)) (FTsgl (by decide +kernel)) (fun z8 h7 h9 h10 => ?_)
  exact En_ret (v := some (.long z8)) rfl rfl rfl ⟨hσ0, hF0, z8, rfl, trivial⟩
/-- DoorSchoolModel.isKnock(J)Z -/
abbrev P_259 (σ0 : SG) (a : Int64) : PO := fun v σ => WT σ ∧ Fr [] σ0 σ ∧ ∃ ret : Int32, v = some (.int ret) ∧ -ret.toInt ≤ 0 ∧ ret.toInt - 1 ≤ 0 ∧ (-ret.toInt + 1 ≤ 0 → -a.toInt ≤ 0 ∧ a.toInt - 15 ≤ 0)
set_option maxRecDepth 10000 in
set_option maxHeartbeats 4000000 in
theorem c_259 (σ0 : SG) (hσ0 : WT σ0) (a : Int64) : En 2 40 none mr_259 (P_259 σ0 a) 0 [(0, .ref 159), (1, .long a)] [] σ0 := by
  have hF0 : Fr [] σ0 σ0 := Fr_rfl
  refine En_Ps 3 (pc' := 3) (lv' := [(0, .ref 159), (1, .long a)]) (st' := [.ref 159, .long ((Int64.ofNat 0)), .long a]) rfl ?_
  obtain ⟨z2, h1, h3, h4⟩ := WT_peekI hσ0 tgz_160 (by decide +kernel : FT 36 (0 : Int).toNat = (0, 0, 4)) (by decide +kernel)
  obtain ⟨z6, h5, h7, h8⟩ := WT_peekI hσ0 tgz_160 (by decide +kernel : FT 36 (7 : Int).toNat = (0, 0, 1600)) (by decide +kernel)
  refine En_callV rfl rfl rfl rfl rfl rfl rfl rfl tgz_159 (by decide +kernel) rfl (c_269 σ0 hσ0 z2 h1 z6 h5) (by decide) (by decide) (fun v10 σ11 h9 => ?_)
  obtain ⟨h12, h13, z15, rfl, h14⟩ := h9
  have h16 := h14.2.2
  have h17 := Fr_trans hF0 h13 (by decide +kernel)
  refine En_Ps 2 (pc' := 8) (lv' := [(0, .ref 159), (1, .long a)]) (st' := [.int ((z15 - ((Int32.ofInt 1)))), .long ((Int64.ofNat 0)), .long a]) rfl ?_
  refine En_top (subI rfl (by decide : (Int32.ofInt 1).toInt = 1) (by omega) (by omega)) (fun z18 h19 => ?_)
  refine En_Ps 1 (pc' := 9) (lv' := [(0, .ref 159), (1, .long a)]) (st' := [.long z18.toInt64, .long ((Int64.ofNat 0)), .long a]) rfl ?_
  have := (by decide : ((Int64.ofNat 0)).toInt = 0)
  have : z18.toInt64.toInt = z18.toInt := (i2lI rfl)
  refine En_callS rfl rfl rfl rfl rfl rfl rfl rfl rfl (c_249 σ11 h12 a ((Int64.ofNat 0)) z18.toInt64) (by decide) (by decide) (fun v21 σ22 h20 => ?_)
  obtain ⟨h23, h24, z26, rfl, h25⟩ := h20
  have h27 := Fr_trans h17 h24 (by decide +kernel)
  exact En_ret (v := some (.int z26)) rfl rfl (retZ rfl rfl (by omega) (by omega)) ⟨h23, h27, z26, rfl, (by omega)⟩
/-- DoorSchoolModel.asksSeen(IZ)I -/
abbrev P_198 (σ0 : SG) (a : Int32) (b : Int32) : PO := fun v σ => WT σ ∧ Fr [] σ0 σ ∧ ∃ ret : Int32, v = some (.int ret) ∧ -ret.toInt - 6 ≤ 0 ∧ ret.toInt ≤ 0 ∧ (-ret.toInt ≤ 0 → -a.toInt ≤ 0 ∧ a.toInt - 3 ≤ 0)
set_option maxRecDepth 10000 in
set_option maxHeartbeats 4000000 in
theorem c_198 (σ0 : SG) (hσ0 : WT σ0) (a : Int32) (b : Int32) (hl_b : 0 ≤ b.toInt) (hu_b : b.toInt ≤ 1) : En 3 62 none mr_198 (P_198 σ0 a b) 0 [(0, .ref 159), (1, .int a), (2, .int b)] [] σ0 := by
  have hF0 : Fr [] σ0 σ0 := Fr_rfl
  refine En_Ps 1 (pc' := 1) (lv' := [(0, .ref 159), (1, .int a), (2, .int b)]) (st' := [.int a]) rfl ?_
  refine En_callS rfl rfl rfl rfl rfl rfl rfl rfl rfl (c_266 σ0 hσ0 a) (by decide) (by decide) (fun v2 σ3 h1 => ?_)
  obtain ⟨h4, h5, z7, rfl, h6⟩ := h1
  obtain rfl : σ0 = σ3 := Fr_nil h5
  refine En_iEq _ rfl rfl (fun h8 => ?_) (fun h8 => ?_)
  · refine En_Ps 1 (pc' := 20) (lv' := [(0, .ref 159), (1, .int a), (2, .int b)]) (st' := [.int (((Int8.ofInt (-2)).toInt32))]) rfl ?_
    refine En_top (by decide : ((Int8.ofInt (-2)).toInt32).toInt = -2) (fun z9 h10 => ?_)
    exact En_ret (v := some (.int z9)) rfl rfl rfl ⟨hσ0, hF0, z9, rfl, (by omega)⟩
  · refine En_Ps 1 (pc' := 8) (lv' := [(0, .ref 159), (1, .int a), (2, .int b)]) (st' := [.ref 159]) rfl ?_
    obtain ⟨z12, h11, h13, h14⟩ := WT_peekI hσ0 tgz_160 (by decide +kernel : FT 36 (7 : Int).toNat = (0, 0, 1600)) (by decide +kernel)
    refine En_callV rfl rfl rfl rfl rfl rfl rfl rfl tgz_159 (by decide +kernel) rfl (c_264 σ0 hσ0 z12 h11) (by decide) (by decide) (fun v16 σ17 h15 => ?_)
    obtain ⟨h18, h19, z21, rfl, h20⟩ := h15
    obtain rfl : σ0 = σ17 := Fr_nil h19
    refine En_iEq _ rfl rfl (fun h22 => ?_) (fun h22 => ?_)
    · refine En_Ps 1 (pc' := 20) (lv' := [(0, .ref 159), (1, .int a), (2, .int b)]) (st' := [.int (((Int8.ofInt (-2)).toInt32))]) rfl ?_
      refine En_top (by decide : ((Int8.ofInt (-2)).toInt32).toInt = -2) (fun z23 h24 => ?_)
      exact En_ret (v := some (.int z23)) rfl rfl rfl ⟨hσ0, hF0, z23, rfl, (by omega)⟩
    · refine En_Ps 1 (pc' := 15) (lv' := [(0, .ref 159), (1, .int a), (2, .int b)]) (st' := [.int b]) rfl ?_
      refine En_iNe _ rfl rfl (fun h25 => ?_) (fun h25 => ?_)
      · refine En_Ps 1 (pc' := 22) (lv' := [(0, .ref 159), (1, .int a), (2, .int b)]) (st' := [.ref 159]) rfl ?_
        refine En_getU (j := 32) (u := 177) (g' := 53) (q := 0) rfl rfl rfl tgz_159 (by decide +kernel) hσ0 (by decide +kernel) (by decide +kernel) (fun h26 => ?_)
        refine En_Ps 1 (pc' := 26) (lv' := [(0, .ref 159), (1, .int a), (2, .int b)]) (st' := [.int a, .ref 177]) rfl ?_
        refine En_iald (l := (-1)) (u := 60) rfl rfl tgz_177 (by decide +kernel) hσ0 (by omega) (lnI (by decide +kernel : LN _ = 4) (by omega)) (FTsgl (by decide +kernel)) (fun z29 h28 h30 h31 => ?_)
        refine En_Ps 1 (pc' := 28) (lv' := [(0, .ref 159), (1, .int a), (2, .int b)]) (st' := [.int ((Int32.ofInt (-1))), .int z29]) rfl ?_
        refine En_icNe _ rfl (by decide : (Int32.ofInt (-1)).toInt = -1) rfl (fun h32 => ?_) (fun h32 => ?_)
        · refine En_Ps 1 (pc' := 35) (lv' := [(0, .ref 159), (1, .int a), (2, .int b)]) (st' := [.ref 159]) rfl ?_
          refine En_getK (j := 32) h26 rfl rfl rfl tgz_159 (by decide +kernel) ?_
          refine En_Ps 1 (pc' := 39) (lv' := [(0, .ref 159), (1, .int a), (2, .int b)]) (st' := [.int a, .ref 177]) rfl ?_
          refine En_ialdK h28 rfl rfl tgz_177 (by decide +kernel) hσ0 (by omega) (lnI (by decide +kernel : LN _ = 4) (by omega)) ?_
          refine En_Ps 1 (pc' := 41) (lv' := [(0, .ref 159), (1, .int a), (2, .int b)]) (st' := [.int ((Int32.ofInt 2)), .int z29]) rfl ?_
          refine En_irem (c := 2) rfl rfl (by decide : (Int32.ofInt 2).toInt = 2) (by omega) (by decide) (fun z34 h35 => ?_)
          refine En_iEq _ rfl rfl (fun h36 => ?_) (fun h36 => ?_)
          · refine En_Ps 2 (pc' := 50) (lv' := [(3, .int ((Int32.ofInt 0))), (0, .ref 159), (1, .int a), (2, .int b)]) (st' := []) rfl ?_
            have key50 : ∀ (n50 : Nat) (y37 : Int32), 0 ≤ y37.toInt → y37.toInt ≤ 60 → y37.toInt - z29.toInt - 1 ≤ 0 → -y37.toInt + 60 < (n50 : Int) → y37.toInt % 2 = 0 → En 3 62 none mr_198 (P_198 σ0 a b) 50 [(0, .ref 159), (1, .int a), (2, .int b), (3, .int y37)] [] σ0 := by
              intro n50
              induction n50 with
              | zero =>
                intro y37 h41 h42 h43 h44 h45
                exfalso; omega
              | succ n50 ih50 =>
                intro y37 h41 h42 h43 h44 h45
                refine En_Ps 2 (pc' := 52) (lv' := [(0, .ref 159), (1, .int a), (2, .int b), (3, .int y37)]) (st' := [.ref 159, .int y37]) rfl ?_
                refine En_getK (j := 32) h26 rfl rfl rfl tgz_159 (by decide +kernel) ?_
                refine En_Ps 1 (pc' := 56) (lv' := [(0, .ref 159), (1, .int a), (2, .int b), (3, .int y37)]) (st' := [.int a, .ref 177, .int y37]) rfl ?_
                refine En_ialdK h28 rfl rfl tgz_177 (by decide +kernel) hσ0 (by omega) (lnI (by decide +kernel : LN _ = 4) (by omega)) ?_
                refine En_icGe _ rfl rfl rfl (fun h47 => ?_) (fun h47 => ?_)
                · refine En_Ps 1 (pc' := 99) (lv' := [(0, .ref 159), (1, .int a), (2, .int b), (3, .int y37)]) (st' := [.int ((Int32.ofInt 0))]) rfl ?_
                  refine En_top (by decide : (Int32.ofInt 0).toInt = 0) (fun z48 h49 => ?_)
                  exact En_ret (v := some (.int z48)) rfl rfl rfl ⟨hσ0, hF0, z48, rfl, (by omega)⟩
                · refine En_Ps 4 (pc' := 64) (lv' := [(0, .ref 159), (1, .int a), (2, .int b), (3, .int y37)]) (st' := [.int y37, .int a, .ref 159, .ref 159]) rfl ?_
                  refine En_callV rfl rfl rfl rfl rfl rfl rfl rfl tgz_159 (by decide +kernel) rfl (c_289 σ0 hσ0 a y37 (geI rfl (by omega)) (leI rfl (by omega)) (geI rfl (by omega)) (leI rfl (by omega))) (by decide) (by decide) (fun v51 σ52 h50 => ?_)
                  obtain ⟨h53, h54, z56, rfl, h55⟩ := h50
                  obtain rfl : σ0 = σ52 := Fr_nil h54
                  refine En_callV rfl rfl rfl rfl rfl rfl rfl rfl tgz_159 (by decide +kernel) rfl (c_259 σ0 hσ0 z56) (by decide) (by decide) (fun v58 σ59 h57 => ?_)
                  obtain ⟨h60, h61, z63, rfl, h62⟩ := h57
                  obtain rfl : σ0 = σ59 := Fr_nil h61
                  refine En_iEq _ rfl rfl (fun h64 => ?_) (fun h64 => ?_)
                  · refine En_Ps 1 (pc' := 91) (lv' := [(0, .ref 159), (1, .int a), (2, .int b), (3, .int y37)]) (st' := [.int (((Int8.ofInt (-2)).toInt32))]) rfl ?_
                    refine En_top (by decide : ((Int8.ofInt (-2)).toInt32).toInt = -2) (fun z65 h66 => ?_)
                    exact En_ret (v := some (.int z65)) rfl rfl rfl ⟨hσ0, hF0, z65, rfl, (by omega)⟩
                  · refine En_Ps 4 (pc' := 77) (lv' := [(0, .ref 159), (1, .int a), (2, .int b), (3, .int y37)]) (st' := [.int ((Int32.ofInt 1)), .int y37, .int a, .ref 159]) rfl ?_
                    have h67 : y37.toInt ≤ 58 := by omega
                    refine En_Ps 1 (pc' := 78) (lv' := [(0, .ref 159), (1, .int a), (2, .int b), (3, .int y37)]) (st' := [.int ((y37 + ((Int32.ofInt 1)))), .int a, .ref 159]) rfl ?_
                    refine En_top (addI rfl (by decide : (Int32.ofInt 1).toInt = 1) (by omega) (by omega)) (fun z68 h69 => ?_)
                    refine En_callV rfl rfl rfl rfl rfl rfl rfl rfl tgz_159 (by decide +kernel) rfl (c_289 σ0 hσ0 a z68 (geI rfl (by omega)) (leI rfl (by omega)) (geI rfl (by omega)) (leI rfl (by omega))) (by decide) (by decide) (fun v71 σ72 h70 => ?_)
                    obtain ⟨h73, h74, z76, rfl, h75⟩ := h70
                    obtain rfl : σ0 = σ72 := Fr_nil h74
                    refine En_Ps 2 (pc' := 83) (lv' := [(0, .ref 159), (1, .int a), (2, .int b), (3, .int y37)]) (st' := [.long ((Int64.ofNat 1)), .long ((Int64.ofNat 0)), .long z76]) rfl ?_
                    have := (by decide : ((Int64.ofNat 0)).toInt = 0)
                    have := (by decide : ((Int64.ofNat 1)).toInt = 1)
                    refine En_callS rfl rfl rfl rfl rfl rfl rfl rfl rfl (c_249 σ0 hσ0 z76 ((Int64.ofNat 0)) ((Int64.ofNat 1))) (by decide) (by decide) (fun v78 σ79 h77 => ?_)
                    obtain ⟨h80, h81, z83, rfl, h82⟩ := h77
                    obtain rfl : σ0 = σ79 := Fr_nil h81
                    refine En_iNe _ rfl rfl (fun h84 => ?_) (fun h84 => ?_)
                    · refine En_Ps 1 (pc' := 95) (lv' := [(3, .int ((y37 + Int32.ofInt 2))), (0, .ref 159), (1, .int a), (2, .int b)]) (st' := []) rfl ?_
                      refine En_lv1 (addI rfl (by decide : (Int32.ofInt 2).toInt = 2) (by omega) (by omega)) (fun z85 h86 => ?_)
                      refine En_Ps 1 (pc' := 50) (lv' := [(3, .int z85), (0, .ref 159), (1, .int a), (2, .int b)]) (st' := []) rfl ?_
                      refine En_lv (lv := [(0, .ref 159), (1, .int a), (2, .int b), (3, .int z85)]) ⟨rfl, rfl, rfl, rfl, trivial⟩ ?_
                      exact ih50 z85 (by omega) (by omega) (by omega) (by omega) (by omega)
                    · refine En_Ps 1 (pc' := 91) (lv' := [(0, .ref 159), (1, .int a), (2, .int b), (3, .int y37)]) (st' := [.int (((Int8.ofInt (-2)).toInt32))]) rfl ?_
                      refine En_top (by decide : ((Int8.ofInt (-2)).toInt32).toInt = -2) (fun z87 h88 => ?_)
                      exact En_ret (v := some (.int z87)) rfl rfl rfl ⟨hσ0, hF0, z87, rfl, (by omega)⟩
            have := (by decide : (Int32.ofInt 0).toInt = 0)
            refine En_lv (lv := [(0, .ref 159), (1, .int a), (2, .int b), (3, .int ((Int32.ofInt 0)))]) ⟨rfl, rfl, rfl, rfl, trivial⟩ ?_
            exact key50 (Int.toNat (60) + 1) ((Int32.ofInt 0)) (by omega) (by omega) (by omega) (by omega) (by omega)
          · refine En_Ps 1 (pc' := 47) (lv' := [(0, .ref 159), (1, .int a), (2, .int b)]) (st' := [.int (((Int8.ofInt (-2)).toInt32))]) rfl ?_
            refine En_top (by decide : ((Int8.ofInt (-2)).toInt32).toInt = -2) (fun z89 h90 => ?_)
            exact En_ret (v := some (.int z89)) rfl rfl rfl ⟨hσ0, hF0, z89, rfl, (by omega)⟩
        · refine En_Ps 1 (pc' := 33) (lv' := [(0, .ref 159), (1, .int a), (2, .int b)]) (st' := [.int (((Int8.ofInt (-6)).toInt32))]) rfl ?_
          refine En_top (by decide : ((Int8.ofInt (-6)).toInt32).toInt = -6) (fun z91 h92 => ?_)
          exact En_ret (v := some (.int z91)) rfl rfl rfl ⟨hσ0, hF0, z91, rfl, (by omega)⟩
      · refine En_Ps 1 (pc' := 20) (lv' := [(0, .ref 159), (1, .int a), (2, .int b)]) (st' := [.int (((Int8.ofInt (-2)).toInt32))]) rfl ?_
        refine En_top (by decide : ((Int8.ofInt (-2)).toInt32).toInt = -2) (fun z93 h94 => ?_)
        exact En_ret (v := some (.int z93)) rfl rfl rfl ⟨hσ0, hF0, z93, rfl, (by omega)⟩
/-- DoorSchoolModel.doesSo(II)Z -/
abbrev P_218 (σ0 : SG) (a : Int32) (b : Int32) : PO := fun v σ => WT σ ∧ Fr [] σ0 σ ∧ ∃ ret : Int32, v = some (.int ret) ∧ -ret.toInt ≤ 0 ∧ ret.toInt - 1 ≤ 0
set_option maxRecDepth 10000 in
set_option maxHeartbeats 4000000 in
theorem c_218 (σ0 : SG) (hσ0 : WT σ0) (a : Int32) (b : Int32) (hl_a : 0 ≤ a.toInt) (hu_a : a.toInt ≤ 3) : En 1 22 none mr_218 (P_218 σ0 a b) 0 [(0, .ref 159), (1, .int a), (2, .int b)] [] σ0 := by
  have hF0 : Fr [] σ0 σ0 := Fr_rfl
  refine En_Ps 2 (pc' := 2) (lv' := [(3, .int ((Int32.ofInt 0))), (0, .ref 159), (1, .int a), (2, .int b)]) (st' := []) rfl ?_
  have key2 : ∀ (n2 : Nat) (y1 : Int32), 0 ≤ y1.toInt → y1.toInt ≤ 60 → -y1.toInt + 60 < (n2 : Int) → y1.toInt % 2 = 0 → En 1 22 none mr_218 (P_218 σ0 a b) 2 [(0, .ref 159), (1, .int a), (2, .int b), (3, .int y1)] [] σ0 := by
    intro n2
    induction n2 with
    | zero =>
      intro y1 h5 h6 h7 h8
      exfalso; omega
    | succ n2 ih2 =>
      intro y1 h5 h6 h7 h8
      refine En_Ps 2 (pc' := 4) (lv' := [(0, .ref 159), (1, .int a), (2, .int b), (3, .int y1)]) (st' := [.ref 159, .int y1]) rfl ?_
      refine En_getU (j := 32) (u := 177) (g' := 53) (q := 0) rfl rfl rfl tgz_159 (by decide +kernel) hσ0 (by decide +kernel) (by decide +kernel) (fun h9 => ?_)
      refine En_Ps 1 (pc' := 8) (lv' := [(0, .ref 159), (1, .int a), (2, .int b), (3, .int y1)]) (st' := [.int a, .ref 177, .int y1]) rfl ?_
      refine En_iald (l := (-1)) (u := 60) rfl rfl tgz_177 (by decide +kernel) hσ0 (by omega) (lnI (by decide +kernel : LN _ = 4) (by omega)) (FTsgl (by decide +kernel)) (fun z12 h11 h13 h14 => ?_)
      refine En_icGe _ rfl rfl rfl (fun h15 => ?_) (fun h15 => ?_)
      · refine En_Ps 1 (pc' := 45) (lv' := [(0, .ref 159), (1, .int a), (2, .int b), (3, .int y1)]) (st' := [.int ((Int32.ofInt 1))]) rfl ?_
        refine En_top (by decide : (Int32.ofInt 1).toInt = 1) (fun z16 h17 => ?_)
        exact En_ret (v := some (.int z16)) rfl rfl (retZ rfl rfl (by omega) (by omega)) ⟨hσ0, hF0, z16, rfl, (by omega)⟩
      · refine En_Ps 4 (pc' := 16) (lv' := [(0, .ref 159), (1, .int a), (2, .int b), (3, .int y1)]) (st' := [.int y1, .int a, .ref 159, .int b]) rfl ?_
        refine En_callV rfl rfl rfl rfl rfl rfl rfl rfl tgz_159 (by decide +kernel) rfl (c_289 σ0 hσ0 a y1 (geI rfl (by omega)) (leI rfl (by omega)) (geI rfl (by omega)) (leI rfl (by omega))) (by decide) (by decide) (fun v19 σ20 h18 => ?_)
        obtain ⟨h21, h22, z24, rfl, h23⟩ := h18
        obtain rfl : σ0 = σ20 := Fr_nil h22
        refine En_Ps 1 (pc' := 20) (lv' := [(0, .ref 159), (1, .int a), (2, .int b), (3, .int y1)]) (st' := [.int ((z24.toInt32)), .int b]) rfl ?_
        refine En_hav (fun z25 => ?_)
        refine En_callS rfl rfl rfl rfl rfl rfl rfl rfl rfl (c_202b σ0 hσ0 b z25) (by decide) (by decide) (fun v27 σ28 h26 => ?_)
        obtain ⟨h29, h30, z32, rfl, h31⟩ := h26
        obtain rfl : σ0 = σ28 := Fr_nil h30
        refine En_Ps 5 (pc' := 28) (lv' := [(0, .ref 159), (1, .int a), (2, .int b), (3, .int y1)]) (st' := [.int ((Int32.ofInt 1)), .int y1, .int a, .ref 159, .long z32.toInt64]) rfl ?_
        have h33 : y1.toInt ≤ 58 := by omega
        refine En_Ps 1 (pc' := 29) (lv' := [(0, .ref 159), (1, .int a), (2, .int b), (3, .int y1)]) (st' := [.int ((y1 + ((Int32.ofInt 1)))), .int a, .ref 159, .long z32.toInt64]) rfl ?_
        refine En_top (addI rfl (by decide : (Int32.ofInt 1).toInt = 1) (by omega) (by omega)) (fun z34 h35 => ?_)
        refine En_callV rfl rfl rfl rfl rfl rfl rfl rfl tgz_159 (by decide +kernel) rfl (c_289 σ0 hσ0 a z34 (geI rfl (by omega)) (leI rfl (by omega)) (geI rfl (by omega)) (leI rfl (by omega))) (by decide) (by decide) (fun v37 σ38 h36 => ?_)
        obtain ⟨h39, h40, z42, rfl, h41⟩ := h36
        obtain rfl : σ0 = σ38 := Fr_nil h40
        refine En_Ps 1 (pc' := 33) (lv' := [(0, .ref 159), (1, .int a), (2, .int b), (3, .int y1)]) (st' := [.int (lg_cmp z32.toInt64 z42)]) rfl ?_
        refine En_lgEq _ (i2lI rfl) rfl rfl (fun h43 => ?_) (fun h43 => ?_)
        · refine En_Ps 1 (pc' := 41) (lv' := [(3, .int ((y1 + Int32.ofInt 2))), (0, .ref 159), (1, .int a), (2, .int b)]) (st' := []) rfl ?_
          refine En_lv1 (addI rfl (by decide : (Int32.ofInt 2).toInt = 2) (by omega) (by omega)) (fun z44 h45 => ?_)
          refine En_Ps 1 (pc' := 2) (lv' := [(3, .int z44), (0, .ref 159), (1, .int a), (2, .int b)]) (st' := []) rfl ?_
          refine En_lv (lv := [(0, .ref 159), (1, .int a), (2, .int b), (3, .int z44)]) ⟨rfl, rfl, rfl, rfl, trivial⟩ ?_
          exact ih2 z44 (by omega) (by omega) (by omega) (by omega)
        · refine En_Ps 1 (pc' := 37) (lv' := [(0, .ref 159), (1, .int a), (2, .int b), (3, .int y1)]) (st' := [.int ((Int32.ofInt 0))]) rfl ?_
          refine En_top (by decide : (Int32.ofInt 0).toInt = 0) (fun z46 h47 => ?_)
          exact En_ret (v := some (.int z46)) rfl rfl (retZ rfl rfl (by omega) (by omega)) ⟨hσ0, hF0, z46, rfl, (by omega)⟩
  have := (by decide : (Int32.ofInt 0).toInt = 0)
  refine En_lv (lv := [(0, .ref 159), (1, .int a), (2, .int b), (3, .int ((Int32.ofInt 0)))]) ⟨rfl, rfl, rfl, rfl, trivial⟩ ?_
  exact key2 (Int.toNat (60) + 1) ((Int32.ofInt 0)) (by omega) (by omega) (by omega) (by omega)
/-- DoorSchoolModel.fitsOf(I)I -/
abbrev P_231 (σ0 : SG) (a : Int32) : PO := fun v σ => WT σ ∧ Fr [(35, 18), (42, 0), (43, 0), (44, 0)] σ0 σ ∧ ∃ ret : Int32, v = some (.int ret) ∧ -ret.toInt ≤ 0 ∧ ret.toInt - 81 ≤ 0
set_option maxRecDepth 10000 in
set_option maxHeartbeats 4000000 in
theorem c_231 (σ0 : SG) (hσ0 : WT σ0) (a : Int32) (hl_a : 0 ≤ a.toInt) (hu_a : a.toInt ≤ 3) : En 4 87 none mr_231 (P_231 σ0 a) 0 [(0, .ref 159), (1, .int a)] [] σ0 := by
  have hF0 : Fr [(35, 18), (42, 0), (43, 0), (44, 0)] σ0 σ0 := Fr_rfl
  refine En_Ps 1 (pc' := 1) (lv' := [(0, .ref 159), (1, .int a)]) (st' := [.ref 159]) rfl ?_
  obtain ⟨z2, h1, h3, h4⟩ := WT_peekI hσ0 tgz_160 (by decide +kernel : FT 36 (0 : Int).toNat = (0, 0, 4)) (by decide +kernel)
  obtain ⟨z6, h5, h7, h8⟩ := WT_peekI hσ0 tgz_160 (by decide +kernel : FT 36 (7 : Int).toNat = (0, 0, 1600)) (by decide +kernel)
  refine En_callV rfl rfl rfl rfl rfl rfl rfl rfl tgz_159 (by decide +kernel) rfl (c_272 σ0 hσ0 z2 h1 z6 h5) (by decide) (by decide) (fun v10 σ11 h9 => ?_)
  obtain ⟨h12, h13, rfl, h14⟩ := h9
  have h15 := Fr_trans hF0 h13 (by decide +kernel)
  refine En_Ps 4 (pc' := 8) (lv' := [(3, .int ((Int32.ofInt 0))), (2, .int ((Int32.ofInt 0))), (0, .ref 159), (1, .int a)]) (st' := []) rfl ?_
  have key8 : ∀ (n8 : Nat) (σ18 : SG) (y16 : Int32) (y17 : Int32), WT σ18 → Fr [(35, 18), (42, 0), (43, 0), (44, 0)] σ0 σ18 → (σ18 160)[(0 : Int).toNat]? = some (.int z2) → (σ18 160)[(7 : Int).toNat]? = some (.int z6) → 0 ≤ y16.toInt → y16.toInt ≤ 81 → 0 ≤ y17.toInt → y17.toInt ≤ 81 → y16.toInt - y17.toInt ≤ 0 → -y17.toInt + 81 < (n8 : Int) → En 4 87 none mr_231 (P_231 σ0 a) 8 [(0, .ref 159), (1, .int a), (2, .int y16), (3, .int y17)] [] σ18 := by
    intro n8
    induction n8 with
    | zero =>
      intro σ18 y16 y17 h19 h20 h21 h22 h23 h24 h25 h26 h27 h28
      exfalso; omega
    | succ n8 ih8 =>
      intro σ18 y16 y17 h19 h20 h21 h22 h23 h24 h25 h26 h27 h28
      refine En_Ps 2 (pc' := 10) (lv' := [(0, .ref 159), (1, .int a), (2, .int y16), (3, .int y17)]) (st' := [.ref 159, .int y17]) rfl ?_
      refine En_getI (j := 18) (l := 0) (u := 81) rfl rfl rfl tgz_159 (by decide +kernel) h19 (by decide +kernel) (fun z30 h29 h31 h32 => ?_)
      refine En_icGe _ rfl rfl rfl (fun h33 => ?_) (fun h33 => ?_)
      · refine En_Ps 1 (pc' := 45) (lv' := [(0, .ref 159), (1, .int a), (2, .int y16), (3, .int y17)]) (st' := [.int y16]) rfl ?_
        exact En_ret (v := some (.int y16)) rfl rfl rfl ⟨h19, h20, y16, rfl, (by omega)⟩
      · refine En_Ps 4 (pc' := 20) (lv' := [(0, .ref 159), (1, .int a), (2, .int y16), (3, .int y17)]) (st' := [.ref 159, .int a, .ref 159, .int y16]) rfl ?_
        refine En_getU (j := 17) (u := 168) (g' := 44) (q := 0) rfl rfl rfl tgz_159 (by decide +kernel) h19 (by decide +kernel) (by decide +kernel) (fun h34 => ?_)
        refine En_Ps 1 (pc' := 24) (lv' := [(0, .ref 159), (1, .int a), (2, .int y16), (3, .int y17)]) (st' := [.int y17, .ref 168, .int a, .ref 159, .int y16]) rfl ?_
        refine En_iald (l := (-2147483648)) (u := 2147483647) rfl rfl tgz_168 (by decide +kernel) h19 (by omega) (lnI (by decide +kernel : LN _ = 81) (by omega)) (FTsgl (by decide +kernel)) (fun z37 h36 h38 h39 => ?_)
        refine En_callV rfl rfl rfl rfl rfl rfl rfl rfl tgz_159 (by decide +kernel) rfl (c_218 σ18 h19 a z37 (geI rfl (by omega)) (leI rfl (by omega))) (by decide) (by decide) (fun v41 σ42 h40 => ?_)
        obtain ⟨h43, h44, z46, rfl, h45⟩ := h40
        have h47 := Fr_trans h20 h44 (by decide +kernel)
        refine En_iEq _ rfl rfl (fun h48 => ?_) (fun h48 => ?_)
        · refine En_Ps 2 (pc' := 37) (lv' := [(0, .ref 159), (1, .int a), (2, .int y16), (3, .int y17)]) (st' := [.int ((y16 + ((Int32.ofInt 0))))]) rfl ?_
          refine En_top (addI rfl (by decide : (Int32.ofInt 0).toInt = 0) (by omega) (by omega)) (fun z49 h50 => ?_)
          refine En_Ps 2 (pc' := 41) (lv' := [(3, .int ((y17 + Int32.ofInt 1))), (2, .int z49), (0, .ref 159), (1, .int a)]) (st' := []) rfl ?_
          refine En_lv1 (addI rfl (by decide : (Int32.ofInt 1).toInt = 1) (by omega) (by omega)) (fun z51 h52 => ?_)
          refine En_Ps 1 (pc' := 8) (lv' := [(3, .int z51), (2, .int z49), (0, .ref 159), (1, .int a)]) (st' := []) rfl ?_
          refine En_lv (lv := [(0, .ref 159), (1, .int a), (2, .int z49), (3, .int z51)]) ⟨rfl, rfl, rfl, rfl, trivial⟩ ?_
          exact ih8 σ42 z49 z51 h43 h47 ((h44 _ _ (inWa tgz_160 (by decide +kernel))).trans h21) ((h44 _ _ (inWa tgz_160 (by decide +kernel))).trans h22) (by omega) (by omega) (by omega) (by omega) (by omega) (by omega)
        · refine En_Ps 3 (pc' := 37) (lv' := [(0, .ref 159), (1, .int a), (2, .int y16), (3, .int y17)]) (st' := [.int ((y16 + ((Int32.ofInt 1))))]) rfl ?_
          refine En_top (addI rfl (by decide : (Int32.ofInt 1).toInt = 1) (by omega) (by omega)) (fun z53 h54 => ?_)
          refine En_Ps 2 (pc' := 41) (lv' := [(3, .int ((y17 + Int32.ofInt 1))), (2, .int z53), (0, .ref 159), (1, .int a)]) (st' := []) rfl ?_
          refine En_lv1 (addI rfl (by decide : (Int32.ofInt 1).toInt = 1) (by omega) (by omega)) (fun z55 h56 => ?_)
          refine En_Ps 1 (pc' := 8) (lv' := [(3, .int z55), (2, .int z53), (0, .ref 159), (1, .int a)]) (st' := []) rfl ?_
          refine En_lv (lv := [(0, .ref 159), (1, .int a), (2, .int z53), (3, .int z55)]) ⟨rfl, rfl, rfl, rfl, trivial⟩ ?_
          exact ih8 σ42 z53 z55 h43 h47 ((h44 _ _ (inWa tgz_160 (by decide +kernel))).trans h21) ((h44 _ _ (inWa tgz_160 (by decide +kernel))).trans h22) (by omega) (by omega) (by omega) (by omega) (by omega) (by omega)
  have := (by decide : (Int32.ofInt 0).toInt = 0)
  have := (by decide : (Int32.ofInt 0).toInt = 0)
  refine En_lv (lv := [(0, .ref 159), (1, .int a), (2, .int ((Int32.ofInt 0))), (3, .int ((Int32.ofInt 0)))]) ⟨rfl, rfl, rfl, rfl, trivial⟩ ?_
  exact key8 (Int.toNat (81) + 1) σ11 ((Int32.ofInt 0)) ((Int32.ofInt 0)) h12 h15 ((h13 _ _ (inWa tgz_160 (by decide +kernel))).trans h1) ((h13 _ _ (inWa tgz_160 (by decide +kernel))).trans h5) (by omega) (by omega) (by omega) (by omega) (by omega) (by omega)
/-- DoorSchoolModel.worstOf(II)I -/
abbrev P_332 (σ0 : SG) (a : Int32) (b : Int32) : PO := fun v σ => WT σ ∧ Fr [] σ0 σ ∧ ∃ ret : Int32, v = some (.int ret) ∧ -ret.toInt ≤ 0 ∧ ret.toInt - 81 ≤ 0
set_option maxRecDepth 10000 in
set_option maxHeartbeats 4000000 in
theorem c_332 (σ0 : SG) (hσ0 : WT σ0) (a : Int32) (b : Int32) (hl_a : 0 ≤ a.toInt) (hu_a : a.toInt ≤ 3) : En 2 45 none mr_332 (P_332 σ0 a b) 0 [(0, .ref 159), (1, .int a), (2, .int b)] [] σ0 := by
  have hF0 : Fr [] σ0 σ0 := Fr_rfl
  refine En_Ps 6 (pc' := 8) (lv' := [(5, .int ((Int32.ofInt 0))), (4, .int ((Int32.ofInt 0))), (3, .int ((Int32.ofInt 0))), (0, .ref 159), (1, .int a), (2, .int b)]) (st' := []) rfl ?_
  have key8 : ∀ (n8 : Nat) (σ4 : SG) (y1 : Int32) (y2 : Int32) (y3 : Int32), WT σ4 → Fr [] σ0 σ4 → 0 ≤ y1.toInt → y1.toInt ≤ 81 → 0 ≤ y2.toInt → y2.toInt ≤ 81 → 0 ≤ y3.toInt → y3.toInt ≤ 81 → y1.toInt - y3.toInt ≤ 0 → y2.toInt - y3.toInt ≤ 0 → -y3.toInt + 81 < (n8 : Int) → En 2 45 none mr_332 (P_332 σ0 a b) 8 [(0, .ref 159), (1, .int a), (2, .int b), (3, .int y1), (4, .int y2), (5, .int y3)] [] σ4 := by
    intro n8
    induction n8 with
    | zero =>
      intro σ4 y1 y2 y3 h5 h6 h7 h8 h9 h10 h11 h12 h13 h14 h15
      exfalso; omega
    | succ n8 ih8 =>
      intro σ4 y1 y2 y3 h5 h6 h7 h8 h9 h10 h11 h12 h13 h14 h15
      refine En_Ps 2 (pc' := 11) (lv' := [(0, .ref 159), (1, .int a), (2, .int b), (3, .int y1), (4, .int y2), (5, .int y3)]) (st' := [.ref 159, .int y3]) rfl ?_
      refine En_getI (j := 18) (l := 0) (u := 81) rfl rfl rfl tgz_159 (by decide +kernel) h5 (by decide +kernel) (fun z17 h16 h18 h19 => ?_)
      refine En_icGe _ rfl rfl rfl (fun h20 => ?_) (fun h20 => ?_)
      · refine En_Ps 2 (pc' := 76) (lv' := [(0, .ref 159), (1, .int a), (2, .int b), (3, .int y1), (4, .int y2), (5, .int y3)]) (st' := [.int y2, .int y1]) rfl ?_
        refine En_callS rfl rfl rfl rfl rfl rfl rfl rfl rfl (c_10 σ4 h5 y1 y2) (by decide) (by decide) (fun v22 σ23 h21 => ?_)
        obtain ⟨h24, h25, z27, rfl, h26⟩ := h21
        have h28 := Fr_trans h6 h25 (by decide +kernel)
        exact En_ret (v := some (.int z27)) rfl rfl rfl ⟨h24, h28, z27, rfl, (by omega)⟩
      · refine En_Ps 3 (pc' := 20) (lv' := [(0, .ref 159), (1, .int a), (2, .int b), (3, .int y1), (4, .int y2), (5, .int y3)]) (st' := [.ref 159, .int a, .ref 159]) rfl ?_
        refine En_getU (j := 17) (u := 168) (g' := 44) (q := 0) rfl rfl rfl tgz_159 (by decide +kernel) h5 (by decide +kernel) (by decide +kernel) (fun h29 => ?_)
        refine En_Ps 1 (pc' := 25) (lv' := [(0, .ref 159), (1, .int a), (2, .int b), (3, .int y1), (4, .int y2), (5, .int y3)]) (st' := [.int y3, .ref 168, .int a, .ref 159]) rfl ?_
        refine En_iald (l := (-2147483648)) (u := 2147483647) rfl rfl tgz_168 (by decide +kernel) h5 (by omega) (lnI (by decide +kernel : LN _ = 81) (by omega)) (FTsgl (by decide +kernel)) (fun z32 h31 h33 h34 => ?_)
        refine En_callV rfl rfl rfl rfl rfl rfl rfl rfl tgz_159 (by decide +kernel) rfl (c_218 σ4 h5 a z32 (geI rfl (by omega)) (leI rfl (by omega))) (by decide) (by decide) (fun v36 σ37 h35 => ?_)
        obtain ⟨h38, h39, z41, rfl, h40⟩ := h35
        have h42 := Fr_trans h6 h39 (by decide +kernel)
        refine En_iNe _ rfl rfl (fun h43 => ?_) (fun h43 => ?_)
        · refine En_Ps 2 (pc' := 37) (lv' := [(0, .ref 159), (1, .int a), (2, .int b), (3, .int y1), (4, .int y2), (5, .int y3)]) (st' := [.ref 159, .int y1]) rfl ?_
          refine En_getK (j := 17) ((h39 _ _ (inW tgz_159 (by decide +kernel))).trans h29) rfl rfl rfl tgz_159 (by decide +kernel) ?_
          refine En_Ps 1 (pc' := 42) (lv' := [(0, .ref 159), (1, .int a), (2, .int b), (3, .int y1), (4, .int y2), (5, .int y3)]) (st' := [.int y3, .ref 168, .int y1]) rfl ?_
          refine En_ialdK ((h39 _ _ (inWa tgz_168 (by decide +kernel))).trans h31) rfl rfl tgz_168 (by decide +kernel) h38 (by omega) (lnI (by decide +kernel : LN _ = 81) (by omega)) ?_
          refine En_Ps 1 (pc' := 44) (lv' := [(0, .ref 159), (1, .int a), (2, .int b), (3, .int y1), (4, .int y2), (5, .int y3)]) (st' := [.int b, .int z32, .int y1]) rfl ?_
          refine En_callS rfl rfl rfl rfl rfl rfl rfl rfl rfl (c_202b σ37 h38 z32 b) (by decide) (by decide) (fun v46 σ47 h45 => ?_)
          obtain ⟨h48, h49, z51, rfl, h50⟩ := h45
          have h52 := Fr_trans h42 h49 (by decide +kernel)
          refine En_Ps 1 (pc' := 48) (lv' := [(0, .ref 159), (1, .int a), (2, .int b), (3, .int y1), (4, .int y2), (5, .int y3)]) (st' := [.int ((y1 + z51))]) rfl ?_
          refine En_top (addI rfl rfl (by omega) (by omega)) (fun z53 h54 => ?_)
          refine En_Ps 4 (pc' := 53) (lv' := [(3, .int z53), (0, .ref 159), (1, .int a), (2, .int b), (4, .int y2), (5, .int y3)]) (st' := [.ref 159, .int ((Int32.ofInt 1)), .int y2]) rfl ?_
          refine En_getK (j := 17) ((h49 _ _ (inW tgz_159 (by decide +kernel))).trans ((h39 _ _ (inW tgz_159 (by decide +kernel))).trans h29)) rfl rfl rfl tgz_159 (by decide +kernel) ?_
          refine En_Ps 1 (pc' := 58) (lv' := [(3, .int z53), (0, .ref 159), (1, .int a), (2, .int b), (4, .int y2), (5, .int y3)]) (st' := [.int y3, .ref 168, .int ((Int32.ofInt 1)), .int y2]) rfl ?_
          refine En_ialdK ((h49 _ _ (inWa tgz_168 (by decide +kernel))).trans ((h39 _ _ (inWa tgz_168 (by decide +kernel))).trans h31)) rfl rfl tgz_168 (by decide +kernel) h48 (by omega) (lnI (by decide +kernel : LN _ = 81) (by omega)) ?_
          refine En_Ps 1 (pc' := 60) (lv' := [(3, .int z53), (0, .ref 159), (1, .int a), (2, .int b), (4, .int y2), (5, .int y3)]) (st' := [.int b, .int z32, .int ((Int32.ofInt 1)), .int y2]) rfl ?_
          refine En_callS rfl rfl rfl rfl rfl rfl rfl rfl rfl (c_202b σ47 h48 z32 b) (by decide) (by decide) (fun v57 σ58 h56 => ?_)
          obtain ⟨h59, h60, z62, rfl, h61⟩ := h56
          have h63 := Fr_trans h52 h60 (by decide +kernel)
          refine En_Ps 1 (pc' := 64) (lv' := [(3, .int z53), (0, .ref 159), (1, .int a), (2, .int b), (4, .int y2), (5, .int y3)]) (st' := [.int ((((Int32.ofInt 1)) - z62)), .int y2]) rfl ?_
          refine En_top (subI (by decide : (Int32.ofInt 1).toInt = 1) rfl (by omega) (by omega)) (fun z64 h65 => ?_)
          refine En_Ps 1 (pc' := 65) (lv' := [(3, .int z53), (0, .ref 159), (1, .int a), (2, .int b), (4, .int y2), (5, .int y3)]) (st' := [.int ((y2 + z64))]) rfl ?_
          refine En_top (addI rfl rfl (by omega) (by omega)) (fun z66 h67 => ?_)
          refine En_Ps 2 (pc' := 70) (lv' := [(5, .int ((y3 + Int32.ofInt 1))), (4, .int z66), (3, .int z53), (0, .ref 159), (1, .int a), (2, .int b)]) (st' := []) rfl ?_
          refine En_lv1 (addI rfl (by decide : (Int32.ofInt 1).toInt = 1) (by omega) (by omega)) (fun z68 h69 => ?_)
          refine En_Ps 1 (pc' := 8) (lv' := [(5, .int z68), (4, .int z66), (3, .int z53), (0, .ref 159), (1, .int a), (2, .int b)]) (st' := []) rfl ?_
          refine En_lv (lv := [(0, .ref 159), (1, .int a), (2, .int b), (3, .int z53), (4, .int z66), (5, .int z68)]) ⟨rfl, rfl, rfl, rfl, rfl, rfl, trivial⟩ ?_
          exact ih8 σ58 z53 z66 z68 h59 h63 (by omega) (by omega) (by omega) (by omega) (by omega) (by omega) (by omega) (by omega) (by omega)
        · refine En_Ps 2 (pc' := 70) (lv' := [(5, .int ((y3 + Int32.ofInt 1))), (0, .ref 159), (1, .int a), (2, .int b), (3, .int y1), (4, .int y2)]) (st' := []) rfl ?_
          refine En_lv1 (addI rfl (by decide : (Int32.ofInt 1).toInt = 1) (by omega) (by omega)) (fun z70 h71 => ?_)
          refine En_Ps 1 (pc' := 8) (lv' := [(5, .int z70), (0, .ref 159), (1, .int a), (2, .int b), (3, .int y1), (4, .int y2)]) (st' := []) rfl ?_
          refine En_lv (lv := [(0, .ref 159), (1, .int a), (2, .int b), (3, .int y1), (4, .int y2), (5, .int z70)]) ⟨rfl, rfl, rfl, rfl, rfl, rfl, trivial⟩ ?_
          exact ih8 σ37 y1 y2 z70 h38 h42 (by omega) (by omega) (by omega) (by omega) (by omega) (by omega) (by omega) (by omega) (by omega)
  have := (by decide : (Int32.ofInt 0).toInt = 0)
  have := (by decide : (Int32.ofInt 0).toInt = 0)
  have := (by decide : (Int32.ofInt 0).toInt = 0)
  refine En_lv (lv := [(0, .ref 159), (1, .int a), (2, .int b), (3, .int ((Int32.ofInt 0))), (4, .int ((Int32.ofInt 0))), (5, .int ((Int32.ofInt 0)))]) ⟨rfl, rfl, rfl, rfl, rfl, rfl, trivial⟩ ?_
  exact key8 (Int.toNat (81) + 1) σ0 ((Int32.ofInt 0)) ((Int32.ofInt 0)) ((Int32.ofInt 0)) hσ0 hF0 (by omega) (by omega) (by omega) (by omega) (by omega) (by omega) (by omega) (by omega) (by omega)

