/-- DoorSchoolModel.deeds(I)I -/
abbrev P_210 (σ0 : SG) (a : Int32) : PO := fun v σ => WT σ ∧ Fr [(35, 18), (35, 21), (42, 0), (43, 0), (44, 0), (45, 0), (46, 0)] σ0 σ ∧ ∃ ret : Int32, v = some (.int ret) ∧ True
set_option maxRecDepth 10000 in
set_option maxHeartbeats 4000000 in
theorem c_210 (σ0 : SG) (hσ0 : WT σ0) (a : Int32) : En 5 112 none mr_210 (P_210 σ0 a) 0 [(0, .ref 159), (1, .int a)] [] σ0 := by
  have hF0 : Fr [(35, 18), (35, 21), (42, 0), (43, 0), (44, 0), (45, 0), (46, 0)] σ0 σ0 := Fr_rfl
  refine En_Ps 2 (pc' := 2) (lv' := [(0, .ref 159), (1, .int a)]) (st' := [.int a, .ref 159]) rfl ?_
  obtain ⟨z2, h1, h3, h4⟩ := WT_peekI hσ0 tgz_160 (by decide +kernel : FT 36 (2 : Int).toNat = (0, 0, 4)) (by decide +kernel)
  refine En_callV rfl rfl rfl rfl rfl rfl rfl rfl tgz_159 (by decide +kernel) rfl (c_254 σ0 hσ0 a z2 h1) (by decide) (by decide) (fun v6 σ7 h5 => ?_)
  obtain ⟨h8, h9, z11, rfl, h10⟩ := h5
  have h12 := Fr_trans hF0 h9 (by decide +kernel)
  refine En_iEq _ rfl rfl (fun h13 => ?_) (fun h13 => ?_)
  · refine En_Ps 1 (pc' := 18) (lv' := [(0, .ref 159), (1, .int a)]) (st' := [.int (((Int8.ofInt (-2)).toInt32))]) rfl ?_
    refine En_top (by decide : ((Int8.ofInt (-2)).toInt32).toInt = -2) (fun z14 h15 => ?_)
    exact En_ret (v := some (.int z14)) rfl rfl rfl ⟨h8, h12, z14, rfl, trivial⟩
  · refine En_Ps 2 (pc' := 10) (lv' := [(0, .ref 159), (1, .int a)]) (st' := [.int a, .ref 159]) rfl ?_
    refine En_callV rfl rfl rfl rfl rfl rfl rfl rfl tgz_159 (by decide +kernel) rfl (c_213 σ7 h8 a (geI rfl (by omega)) (leI rfl (by omega))) (by decide) (by decide) (fun v17 σ18 h16 => ?_)
    obtain ⟨h19, h20, z22, h23, z24, rfl, h21⟩ := h16
    have h25 := Fr_trans h12 h20 (by decide +kernel)
    refine En_Ps 1 (pc' := 18) (lv' := [(0, .ref 159), (1, .int a)]) (st' := [.int z24]) rfl ?_
    exact En_ret (v := some (.int z24)) rfl rfl rfl ⟨h19, h25, z24, rfl, trivial⟩
/-- DoorSchoolModel.deedsByWay(II)I -/
abbrev P_211 (σ0 : SG) (a : Int32) (b : Int32) : PO := fun v σ => WT σ ∧ Fr [(35, 18), (35, 21), (42, 0), (43, 0), (44, 0), (45, 0), (46, 0)] σ0 σ ∧ ∃ ret : Int32, v = some (.int ret) ∧ True
set_option maxRecDepth 10000 in
set_option maxHeartbeats 4000000 in
theorem c_211 (σ0 : SG) (hσ0 : WT σ0) (a : Int32) (b : Int32) (hl_a : 0 ≤ a.toInt) (hu_a : a.toInt ≤ 3) : En 4 91 none mr_211 (P_211 σ0 a b) 0 [(0, .ref 159), (1, .int a), (2, .int b)] [] σ0 := by
  have hF0 : Fr [(35, 18), (35, 21), (42, 0), (43, 0), (44, 0), (45, 0), (46, 0)] σ0 σ0 := Fr_rfl
  refine En_Ps 1 (pc' := 1) (lv' := [(0, .ref 159), (1, .int a), (2, .int b)]) (st' := [.ref 159]) rfl ?_
  obtain ⟨z2, h1, h3, h4⟩ := WT_peekI hσ0 tgz_160 (by decide +kernel : FT 36 (0 : Int).toNat = (0, 0, 4)) (by decide +kernel)
  obtain ⟨z6, h5, h7, h8⟩ := WT_peekI hσ0 tgz_160 (by decide +kernel : FT 36 (7 : Int).toNat = (0, 0, 1600)) (by decide +kernel)
  refine En_callV rfl rfl rfl rfl rfl rfl rfl rfl tgz_159 (by decide +kernel) rfl (c_272 σ0 hσ0 z2 h1 z6 h5) (by decide) (by decide) (fun v10 σ11 h9 => ?_)
  obtain ⟨h12, h13, rfl, h14⟩ := h9
  have h15 := Fr_trans hF0 h13 (by decide +kernel)
  refine En_Ps 2 (pc' := 6) (lv' := [(0, .ref 159), (1, .int a), (2, .int b)]) (st' := [.int a, .ref 159]) rfl ?_
  refine En_callV rfl rfl rfl rfl rfl rfl rfl rfl tgz_159 (by decide +kernel) rfl (c_271 σ11 h12 a (geI rfl (by first | exact q_58e6e51dcc hl_a | omega)) (leI rfl (by first | exact q_da5e9b976f hu_a | omega))) (by decide) (by decide) (fun v17 σ18 h16 => ?_)
  obtain ⟨h19, h20, z22, h23, rfl, h21⟩ := h16
  have h24 := Fr_trans h15 h20 (by decide +kernel)
  refine En_Ps 2 (pc' := 11) (lv' := [(0, .ref 159), (1, .int a), (2, .int b)]) (st' := [.int b, .ref 159]) rfl ?_
  refine En_callV rfl rfl rfl rfl rfl rfl rfl rfl tgz_159 (by decide +kernel) rfl (c_274 σ18 h19 b) (by decide) (by decide) (fun v26 σ27 h25 => ?_)
  obtain ⟨h28, h29, z31, rfl, h30⟩ := h25
  have h32 := Fr_trans h24 h29 (by decide +kernel)
  exact En_ret (v := some (.int z31)) rfl rfl rfl ⟨h28, h32, z31, rfl, trivial⟩
/-- DoorSchoolModel.deedsWith(III)I -/
abbrev P_214 (σ0 : SG) (a : Int32) (b : Int32) (c : Int32) : PO := fun v σ => WT σ ∧ Fr [(35, 18), (35, 21), (42, 0), (43, 0), (44, 0), (45, 0), (46, 0)] σ0 σ ∧ ∃ ret : Int32, v = some (.int ret) ∧ True
set_option maxRecDepth 10000 in
set_option maxHeartbeats 4000000 in
theorem c_214 (σ0 : SG) (hσ0 : WT σ0) (a : Int32) (b : Int32) (c : Int32) (hl_a : 0 ≤ a.toInt) (hu_a : a.toInt ≤ 3) (hl_b : 0 ≤ b.toInt) (hu_b : b.toInt ≤ 15) (hl_c : 0 ≤ c.toInt) (hu_c : c.toInt ≤ 1) : En 5 112 none mr_214 (P_214 σ0 a b c) 0 [(0, .ref 159), (1, .int a), (2, .int b), (3, .int c)] [] σ0 := by
  have hF0 : Fr [(35, 18), (35, 21), (42, 0), (43, 0), (44, 0), (45, 0), (46, 0)] σ0 σ0 := Fr_rfl
  refine En_Ps 2 (pc' := 2) (lv' := [(0, .ref 159), (1, .int a), (2, .int b), (3, .int c)]) (st' := [.int a, .ref 159]) rfl ?_
  refine En_callV rfl rfl rfl rfl rfl rfl rfl rfl tgz_159 (by decide +kernel) rfl (c_213 σ0 hσ0 a (geI rfl (by first | exact q_58e6e51dcc hl_a | omega)) (leI rfl (by first | exact q_da5e9b976f hu_a | omega))) (by decide) (by decide) (fun v2 σ3 h1 => ?_)
  obtain ⟨h4, h5, z7, h8, z9, rfl, h6⟩ := h1
  have h10 := Fr_trans hF0 h5 (by decide +kernel)
  refine En_Ps 3 (pc' := 9) (lv' := [(4, .int z9), (0, .ref 159), (1, .int a), (2, .int b), (3, .int c)]) (st' := [.int a, .ref 159]) rfl ?_
  refine En_callV rfl rfl rfl rfl rfl rfl rfl rfl tgz_159 (by decide +kernel) rfl (c_305 σ3 h4 a (geI rfl (by first | exact q_58e6e51dcc hl_a | omega)) (leI rfl (by first | exact q_da5e9b976f hu_a | omega))) (by decide) (by decide) (fun v12 σ13 h11 => ?_)
  obtain ⟨h14, h15, z17, rfl, h16⟩ := h11
  have h18 := Fr_trans h10 h15 (by decide +kernel)
  refine En_Ps 1 (pc' := 13) (lv' := [(4, .int z9), (0, .ref 159), (1, .int a), (2, .int b), (3, .int c)]) (st' := [.int a, .int z17]) rfl ?_
  refine En_icEq _ rfl rfl rfl (fun h19 => ?_) (fun h19 => ?_)
  · refine En_Ps 3 (pc' := 22) (lv' := [(4, .int z9), (0, .ref 159), (1, .int a), (2, .int b), (3, .int c)]) (st' := [.int c, .int b, .ref 159]) rfl ?_
    refine En_callV rfl rfl rfl rfl rfl rfl rfl rfl tgz_159 (by decide +kernel) rfl (c_188 σ13 h14 b c (geI rfl (by first | exact q_58e6e51dcc hl_b | omega)) (leI rfl (by first | exact q_5a4d8a7e08 hu_b | omega)) (geI rfl (by first | exact q_58e6e51dcc hl_c | omega)) (leI rfl (by first | exact q_9d0c30f9c5 hu_c | omega)) z7 ((h15 _ _ (inW tgz_159 (by decide +kernel))).trans h8) (by first | exact q_3601b11376 h6.2 | omega)) (by decide) (by decide) (fun v21 σ22 h20 => ?_)
    obtain ⟨h23, h24, z26, h27, rfl, h25⟩ := h20
    have h28 := Fr_trans h18 h24 (by decide +kernel)
    refine En_Ps 4 (pc' := 29) (lv' := [(4, .int z9), (0, .ref 159), (1, .int a), (2, .int b), (3, .int c)]) (st' := [.int ((Int32.ofInt 0)), .int a, .ref 159, .ref 159]) rfl ?_
    have := (by decide : ((Int32.ofInt 0)).toInt = 0)
    obtain ⟨z29, h30, h31, h32⟩ := WT_peekJ (J := (4 * a.toInt + ((Int32.ofInt 0)).toInt + 10)) (l := 0) (u := 2) h23 tgz_160 (by decide +kernel) (by omega) (lnI (by decide +kernel : LN _ = 226) (by omega)) (FTrow 36 10 4 4 (by decide +kernel) (by omega) (by omega) (by omega))
    have := (by decide : ((Int32.ofInt 0)).toInt = 0)
    refine En_callV rfl rfl rfl rfl rfl rfl rfl rfl tgz_159 (by decide +kernel) rfl (c_290a σ22 h23 a ((Int32.ofInt 0)) (geI rfl (by first | exact q_58e6e51dcc hl_a | omega)) (leI rfl (by first | exact q_da5e9b976f hu_a | omega)) (geI (by decide : (Int32.ofInt 0).toInt = 0) (by decide)) (leI (by decide : (Int32.ofInt 0).toInt = 0) (by decide)) z29 h30) (by decide) (by decide) (fun v34 σ35 h33 => ?_)
    obtain ⟨h36, h37, z39, rfl, h38⟩ := h33
    have h40 := Fr_trans h28 h37 (by decide +kernel)
    refine En_callV rfl rfl rfl rfl rfl rfl rfl rfl tgz_159 (by decide +kernel) rfl (c_274 σ35 h36 z39) (by decide) (by decide) (fun v42 σ43 h41 => ?_)
    obtain ⟨h44, h45, z47, rfl, h46⟩ := h41
    have h48 := Fr_trans h40 h45 (by decide +kernel)
    exact En_ret (v := some (.int z47)) rfl rfl rfl ⟨h44, h48, z47, rfl, trivial⟩
  · refine En_Ps 1 (pc' := 18) (lv' := [(4, .int z9), (0, .ref 159), (1, .int a), (2, .int b), (3, .int c)]) (st' := [.int z9]) rfl ?_
    exact En_ret (v := some (.int z9)) rfl rfl rfl ⟨h14, h18, z9, rfl, trivial⟩
/-- DoorSchoolModel.deedsWithout(II)I -/
abbrev P_215 (σ0 : SG) (a : Int32) (b : Int32) : PO := fun v σ => WT σ ∧ Fr [(35, 18), (35, 21), (42, 0), (43, 0), (44, 0), (45, 0), (46, 0)] σ0 σ ∧ ∃ ret : Int32, v = some (.int ret) ∧ True
set_option maxRecDepth 10000 in
set_option maxHeartbeats 4000000 in
theorem c_215 (σ0 : SG) (hσ0 : WT σ0) (a : Int32) (b : Int32) (hl_a : 0 ≤ a.toInt) (hu_a : a.toInt ≤ 3) : En 4 91 none mr_215 (P_215 σ0 a b) 0 [(0, .ref 159), (1, .int a), (2, .int b)] [] σ0 := by
  have hF0 : Fr [(35, 18), (35, 21), (42, 0), (43, 0), (44, 0), (45, 0), (46, 0)] σ0 σ0 := Fr_rfl
  refine En_Ps 1 (pc' := 1) (lv' := [(0, .ref 159), (1, .int a), (2, .int b)]) (st' := [.ref 159]) rfl ?_
  obtain ⟨z2, h1, h3, h4⟩ := WT_peekI hσ0 tgz_160 (by decide +kernel : FT 36 (0 : Int).toNat = (0, 0, 4)) (by decide +kernel)
  obtain ⟨z6, h5, h7, h8⟩ := WT_peekI hσ0 tgz_160 (by decide +kernel : FT 36 (7 : Int).toNat = (0, 0, 1600)) (by decide +kernel)
  refine En_callV rfl rfl rfl rfl rfl rfl rfl rfl tgz_159 (by decide +kernel) rfl (c_272 σ0 hσ0 z2 h1 z6 h5) (by decide) (by decide) (fun v10 σ11 h9 => ?_)
  obtain ⟨h12, h13, rfl, h14⟩ := h9
  have h15 := Fr_trans hF0 h13 (by decide +kernel)
  refine En_Ps 2 (pc' := 6) (lv' := [(0, .ref 159), (1, .int a), (2, .int b)]) (st' := [.int ((Int32.ofInt 0)), .ref 159]) rfl ?_
  refine En_put (j := 21) rfl rfl rfl tgz_159 (by decide +kernel) rfl (vI (l := 0) (u := 17) (by decide +kernel) (by decide : (Int32.ofInt 0).toInt = 0) (by decide) (by decide)) h12 h15 (by decide +kernel) (fun σ16 h17 h18 h19 h20 => ?_)
  refine En_Ps 2 (pc' := 11) (lv' := [(3, .int ((Int32.ofInt 0))), (0, .ref 159), (1, .int a), (2, .int b)]) (st' := []) rfl ?_
  have key11 : ∀ (n11 : Nat) (σ23 : SG) (y21 : Int32) (y22 : Int32), WT σ23 → Fr [(35, 18), (35, 21), (42, 0), (43, 0), (44, 0), (45, 0), (46, 0)] σ0 σ23 → (σ23 160)[(0 : Int).toNat]? = some (.int z2) → (σ23 160)[(7 : Int).toNat]? = some (.int z6) → (σ23 159)[21]? = some (.int y22) → 0 ≤ y21.toInt → y21.toInt ≤ 13 → 0 ≤ y22.toInt → y22.toInt ≤ 13 → y22.toInt - y21.toInt ≤ 0 → -y21.toInt + 13 < (n11 : Int) → En 4 91 none mr_215 (P_215 σ0 a b) 11 [(0, .ref 159), (1, .int a), (2, .int b), (3, .int y21)] [] σ23 := by
    intro n11
    induction n11 with
    | zero =>
      intro σ23 y21 y22 h24 h25 h26 h27 h28 h29 h30 h31 h32 h33 h34
      first | exact (q_5583ec5aac h34 h30).elim | (exfalso; omega)
    | succ n11 ih11 =>
      intro σ23 y21 y22 h24 h25 h26 h27 h28 h29 h30 h31 h32 h33 h34
      refine En_Ps 4 (pc' := 15) (lv' := [(0, .ref 159), (1, .int a), (2, .int b), (3, .int y21)]) (st' := [.int ((Int32.ofInt 2)), .int a, .ref 159, .int y21]) rfl ?_
      have := (by decide : ((Int32.ofInt 2)).toInt = 2)
      obtain ⟨z35, h36, h37, h38⟩ := WT_peekJ (J := (4 * a.toInt + ((Int32.ofInt 2)).toInt + 10)) (l := 0) (u := 12) h24 tgz_160 (by decide +kernel) (by omega) (lnI (by decide +kernel : LN _ = 226) (by omega)) (FTrow 36 12 4 4 (by decide +kernel) (by omega) (by omega) (by omega))
      have := (by decide : ((Int32.ofInt 2)).toInt = 2)
      refine En_callV rfl rfl rfl rfl rfl rfl rfl rfl tgz_159 (by decide +kernel) rfl (c_290c σ23 h24 a ((Int32.ofInt 2)) (geI rfl (by first | exact q_58e6e51dcc hl_a | omega)) (leI rfl (by first | exact q_da5e9b976f hu_a | omega)) (geI (by decide : (Int32.ofInt 2).toInt = 2) (by decide)) (leI (by decide : (Int32.ofInt 2).toInt = 2) (by decide)) z35 h36) (by decide) (by decide) (fun v40 σ41 h39 => ?_)
      obtain ⟨h42, h43, z45, rfl, h44⟩ := h39
      have h46 := Fr_trans h25 h43 (by decide +kernel)
      refine En_icGe _ rfl rfl rfl (fun h47 => ?_) (fun h47 => ?_)
      · refine En_Ps 4 (pc' := 62) (lv' := [(0, .ref 159), (1, .int a), (2, .int b), (3, .int y21)]) (st' := [.int ((Int32.ofInt 0)), .int a, .ref 159, .ref 159]) rfl ?_
        have := (by decide : ((Int32.ofInt 0)).toInt = 0)
        obtain ⟨z48, h49, h50, h51⟩ := WT_peekJ (J := (4 * a.toInt + ((Int32.ofInt 0)).toInt + 10)) (l := 0) (u := 2) h42 tgz_160 (by decide +kernel) (by omega) (lnI (by decide +kernel : LN _ = 226) (by omega)) (FTrow 36 10 4 4 (by decide +kernel) (by omega) (by omega) (by omega))
        have := (by decide : ((Int32.ofInt 0)).toInt = 0)
        refine En_callV rfl rfl rfl rfl rfl rfl rfl rfl tgz_159 (by decide +kernel) rfl (c_290a σ41 h42 a ((Int32.ofInt 0)) (geI rfl (by first | exact q_58e6e51dcc hl_a | omega)) (leI rfl (by first | exact q_da5e9b976f hu_a | omega)) (geI (by decide : (Int32.ofInt 0).toInt = 0) (by decide)) (leI (by decide : (Int32.ofInt 0).toInt = 0) (by decide)) z48 h49) (by decide) (by decide) (fun v53 σ54 h52 => ?_)
        obtain ⟨h55, h56, z58, rfl, h57⟩ := h52
        have h59 := Fr_trans h46 h56 (by decide +kernel)
        refine En_callV rfl rfl rfl rfl rfl rfl rfl rfl tgz_159 (by decide +kernel) rfl (c_274 σ54 h55 z58) (by decide) (by decide) (fun v61 σ62 h60 => ?_)
        obtain ⟨h63, h64, z66, rfl, h65⟩ := h60
        have h67 := Fr_trans h59 h64 (by decide +kernel)
        exact En_ret (v := some (.int z66)) rfl rfl rfl ⟨h63, h67, z66, rfl, trivial⟩
      · refine En_Ps 2 (pc' := 23) (lv' := [(0, .ref 159), (1, .int a), (2, .int b), (3, .int y21)]) (st' := [.int b, .int y21]) rfl ?_
        refine En_icEq _ rfl rfl rfl (fun h68 => ?_) (fun h68 => ?_)
        · refine En_Ps 1 (pc' := 55) (lv' := [(3, .int ((y21 + Int32.ofInt 1))), (0, .ref 159), (1, .int a), (2, .int b)]) (st' := []) rfl ?_
          refine En_lv1 (addI rfl (by decide : (Int32.ofInt 1).toInt = 1) (by first | exact q_465ab79ac1 h29 | omega) (by first | exact q_d22f73d43b h30 | omega)) (fun z69 h70 => ?_)
          refine En_Ps 1 (pc' := 11) (lv' := [(3, .int z69), (0, .ref 159), (1, .int a), (2, .int b)]) (st' := []) rfl ?_
          refine En_lv (lv := [(0, .ref 159), (1, .int a), (2, .int b), (3, .int z69)]) ⟨rfl, rfl, rfl, rfl, trivial⟩ ?_
          exact ih11 σ41 z69 y22 h42 h46 ((h43 _ _ (inWa tgz_160 (by decide +kernel))).trans h26) ((h43 _ _ (inWa tgz_160 (by decide +kernel))).trans h27) ((h43 _ _ (inW tgz_159 (by decide +kernel))).trans h28) (by first | exact q_35104ce9d3 h70 h29 | omega) (by first | exact q_f7427ec6b2 h70 h47 h44.2.2.1 h38 | omega) (by first | exact q_58e6e51dcc h31 | omega) (by first | exact q_7991346fe8 h32 | omega) (by first | exact q_3a5e225620 h33 h70 | omega) (by first | exact q_20fedeb4b2 h70 h34 | omega)
        · refine En_Ps 2 (pc' := 28) (lv' := [(0, .ref 159), (1, .int a), (2, .int b), (3, .int y21)]) (st' := [.ref 159, .ref 159]) rfl ?_
          refine En_getU (j := 1) (u := 160) (g' := 36) (q := 0) rfl rfl rfl tgz_159 (by decide +kernel) h42 (by decide +kernel) (by decide +kernel) (fun h71 => ?_)
          refine En_Ps 2 (pc' := 33) (lv' := [(0, .ref 159), (1, .int a), (2, .int b), (3, .int y21)]) (st' := [.int y21, .int a, .ref 160, .ref 159]) rfl ?_
          refine En_callS rfl rfl rfl rfl rfl rfl rfl rfl rfl (c_281 σ41 h42 a y21 (geI rfl (by first | exact q_58e6e51dcc hl_a | omega)) (leI rfl (by first | exact q_da5e9b976f hu_a | omega)) (geI rfl (by first | exact q_58e6e51dcc h29 | omega)) (leI rfl (by first | exact q_d923c6da86 h47 h44.2.1 | omega))) (by decide) (by decide) (fun v74 σ75 h73 => ?_)
          obtain ⟨h76, h77, z79, rfl, h78⟩ := h73
          have h80 := Fr_trans h46 h77 (by decide +kernel)
          refine En_iald (l := 0) (u := 15) rfl rfl tgz_160 (by decide +kernel) h76 (by first | exact q_2c9de765f8 h78.1 | omega) (lnI (by decide +kernel : LN _ = 226) (by first | exact q_0616d82733 h78.2.1 | omega)) (FTrow 36 26 2 48 (by decide +kernel) (by first | exact q_cfcbae6494 h78.1 | omega) (by first | exact q_c04962bf42 h78.2.2.1 hu_a h47 h44.2.1 | omega) (by first | exact q_bfc7928b1f h78.2.2.1 h78.2.2.2 | omega)) (fun z82 h81 h83 h84 => ?_)
          refine En_Ps 1 (pc' := 38) (lv' := [(0, .ref 159), (1, .int a), (2, .int b), (3, .int y21)]) (st' := [.ref 159, .int z82, .ref 159]) rfl ?_
          refine En_getK (j := 1) ((h77 _ _ (inW tgz_159 (by decide +kernel))).trans h71) rfl rfl rfl tgz_159 (by decide +kernel) ?_
          refine En_Ps 2 (pc' := 43) (lv' := [(0, .ref 159), (1, .int a), (2, .int b), (3, .int y21)]) (st' := [.int y21, .int a, .ref 160, .int z82, .ref 159]) rfl ?_
          refine En_callS rfl rfl rfl rfl rfl rfl rfl rfl rfl (c_281 σ75 h76 a y21 (geI rfl (by first | exact q_58e6e51dcc hl_a | omega)) (leI rfl (by first | exact q_da5e9b976f hu_a | omega)) (geI rfl (by first | exact q_58e6e51dcc h29 | omega)) (leI rfl (by first | exact q_d923c6da86 h47 h44.2.1 | omega))) (by decide) (by decide) (fun v86 σ87 h85 => ?_)
          obtain ⟨h88, h89, z91, rfl, h90⟩ := h85
          have h92 := Fr_trans h80 h89 (by decide +kernel)
          refine En_Ps 2 (pc' := 48) (lv' := [(0, .ref 159), (1, .int a), (2, .int b), (3, .int y21)]) (st' := [.int ((z91 + ((Int32.ofInt 1)))), .ref 160, .int z82, .ref 159]) rfl ?_
          refine En_top (addI rfl (by decide : (Int32.ofInt 1).toInt = 1) (by first | exact q_c40141e2b1 h90.1 | omega) (by first | exact q_919014a1f8 h90.2.1 | omega)) (fun z93 h94 => ?_)
          refine En_iald (l := 0) (u := 1) rfl rfl tgz_160 (by decide +kernel) h88 (by first | exact q_f9ae7b6bc1 h94 h90.1 | omega) (lnI (by decide +kernel : LN _ = 226) (by first | exact q_4c6d633468 h94 h90.2.1 | omega)) (FTrow 36 27 2 48 (by decide +kernel) (by first | exact q_af8e3f94d3 h94 h90.1 | omega) (by first | exact q_6cc87f4aa1 h94 h90.2.2.1 hu_a h47 h44.2.1 | omega) (by first | exact q_493b8125c1 h90.2.2.1 h94 h90.2.2.2 | omega)) (fun z96 h95 h97 h98 => ?_)
          refine En_callV rfl rfl rfl rfl rfl rfl rfl rfl tgz_159 (by decide +kernel) rfl (c_188 σ87 h88 z82 z96 (geI rfl (by first | exact q_58e6e51dcc h83 | omega)) (leI rfl (by first | exact q_5a4d8a7e08 h84 | omega)) (geI rfl (by first | exact q_58e6e51dcc h97 | omega)) (leI rfl (by first | exact q_9d0c30f9c5 h98 | omega)) y22 ((h89 _ _ (inW tgz_159 (by decide +kernel))).trans ((h77 _ _ (inW tgz_159 (by decide +kernel))).trans ((h43 _ _ (inW tgz_159 (by decide +kernel))).trans h28))) (by first | exact q_d46f366cdb h32 | omega)) (by decide) (by decide) (fun v100 σ101 h99 => ?_)
          obtain ⟨h102, h103, z105, h106, rfl, h104⟩ := h99
          have h107 := Fr_trans h92 h103 (by decide +kernel)
          refine En_Ps 1 (pc' := 55) (lv' := [(3, .int ((y21 + Int32.ofInt 1))), (0, .ref 159), (1, .int a), (2, .int b)]) (st' := []) rfl ?_
          refine En_lv1 (addI rfl (by decide : (Int32.ofInt 1).toInt = 1) (by first | exact q_465ab79ac1 h29 | omega) (by first | exact q_d22f73d43b h30 | omega)) (fun z108 h109 => ?_)
          refine En_Ps 1 (pc' := 11) (lv' := [(3, .int z108), (0, .ref 159), (1, .int a), (2, .int b)]) (st' := []) rfl ?_
          refine En_lv (lv := [(0, .ref 159), (1, .int a), (2, .int b), (3, .int z108)]) ⟨rfl, rfl, rfl, rfl, trivial⟩ ?_
          exact ih11 σ101 z108 z105 h102 h107 ((h103 _ _ (inWa tgz_160 (by decide +kernel))).trans ((h89 _ _ (inWa tgz_160 (by decide +kernel))).trans ((h77 _ _ (inWa tgz_160 (by decide +kernel))).trans ((h43 _ _ (inWa tgz_160 (by decide +kernel))).trans h26)))) ((h103 _ _ (inWa tgz_160 (by decide +kernel))).trans ((h89 _ _ (inWa tgz_160 (by decide +kernel))).trans ((h77 _ _ (inWa tgz_160 (by decide +kernel))).trans ((h43 _ _ (inWa tgz_160 (by decide +kernel))).trans h27)))) h106 (by first | exact q_35104ce9d3 h109 h29 | omega) (by first | exact q_54f15c7756 h109 h47 h44.2.1 | omega) (by first | exact q_996aa4c518 h104.1 | omega) (by first | exact q_77a00303e0 h104.2.2.2.1 h33 h47 h44.2.1 | omega) (by first | exact q_cbb20cbf38 h104.2.2.2.1 h109 h33 | omega) (by first | exact q_20fedeb4b2 h109 h34 | omega)
  have := (by decide : (Int32.ofInt 0).toInt = 0)
  have := (by decide : (Int32.ofInt 0).toInt = 0)
  refine En_lv (lv := [(0, .ref 159), (1, .int a), (2, .int b), (3, .int ((Int32.ofInt 0)))]) ⟨rfl, rfl, rfl, rfl, trivial⟩ ?_
  exact key11 (Int.toNat (13) + 1) σ16 ((Int32.ofInt 0)) ((Int32.ofInt 0)) h17 h18 ((h20 _ _ (Or.inl (neTG tgz_160 tgz_159 (by decide)))).trans ((h13 _ _ (inWa tgz_160 (by decide +kernel))).trans h1)) ((h20 _ _ (Or.inl (neTG tgz_160 tgz_159 (by decide)))).trans ((h13 _ _ (inWa tgz_160 (by decide +kernel))).trans h5)) h19 (by decide) (by decide) (by decide) (by decide) (by omega) (by first | exact toN_lt _ | omega)
/-- DoorSchoolModel.isRule(II)Z -/
abbrev P_263 (σ0 : SG) (a : Int32) (b : Int32) : PO := fun v σ => WT σ ∧ Fr [] σ0 σ ∧ ∃ ret : Int32, v = some (.int ret) ∧ -ret.toInt ≤ 0 ∧ ret.toInt - 1 ≤ 0 ∧ (ret.toInt - 1 ≤ 0 ∧ -ret.toInt + 1 ≤ 0 → -a.toInt ≤ 0 ∧ a.toInt - 15 ≤ 0 ∧ -b.toInt ≤ 0 ∧ b.toInt - 15 ≤ 0)
set_option maxRecDepth 10000 in
set_option maxHeartbeats 4000000 in
theorem c_263 (σ0 : SG) (hσ0 : WT σ0) (a : Int32) (b : Int32) : En 3 62 none mr_263 (P_263 σ0 a b) 0 [(0, .ref 159), (1, .int a), (2, .int b)] [] σ0 := by
  have hF0 : Fr [] σ0 σ0 := Fr_rfl
  refine En_Ps 3 (pc' := 3) (lv' := [(0, .ref 159), (1, .int a), (2, .int b)]) (st' := [.long a.toInt64, .ref 159]) rfl ?_
  have : a.toInt64.toInt = a.toInt := (i2lI rfl)
  refine En_callV rfl rfl rfl rfl rfl rfl rfl rfl tgz_159 (by decide +kernel) rfl (c_259 σ0 hσ0 a.toInt64) (by decide) (by decide) (fun v2 σ3 h1 => ?_)
  obtain ⟨h4, h5, z7, rfl, h6⟩ := h1
  have h8 := Fr_trans hF0 h5 (by decide +kernel)
  refine En_iEq _ rfl rfl (fun h9 => ?_) (fun h9 => ?_)
  · refine En_Ps 1 (pc' := 31) (lv' := [(0, .ref 159), (1, .int a), (2, .int b)]) (st' := [.int ((Int32.ofInt 0))]) rfl ?_
    refine En_top (by decide : (Int32.ofInt 0).toInt = 0) (fun z10 h11 => ?_)
    exact En_ret (v := some (.int z10)) rfl rfl (retZ rfl rfl (by first | exact q_55451d0a83 h11 | omega) (by first | exact q_87849c3859 h11 | omega)) ⟨h4, h8, z10, rfl, ⟨by first | exact q_097a37c2ae h11 | omega, by first | exact q_e269517bee h11 | omega, fun _ => by omega⟩⟩
  · refine En_Ps 3 (pc' := 12) (lv' := [(0, .ref 159), (1, .int a), (2, .int b)]) (st' := [.long b.toInt64, .ref 159]) rfl ?_
    have : b.toInt64.toInt = b.toInt := (i2lI rfl)
    refine En_callV rfl rfl rfl rfl rfl rfl rfl rfl tgz_159 (by decide +kernel) rfl (c_259 σ3 h4 b.toInt64) (by decide) (by decide) (fun v13 σ14 h12 => ?_)
    obtain ⟨h15, h16, z18, rfl, h17⟩ := h12
    have h19 := Fr_trans h8 h16 (by decide +kernel)
    refine En_iEq _ rfl rfl (fun h20 => ?_) (fun h20 => ?_)
    · refine En_Ps 1 (pc' := 31) (lv' := [(0, .ref 159), (1, .int a), (2, .int b)]) (st' := [.int ((Int32.ofInt 0))]) rfl ?_
      refine En_top (by decide : (Int32.ofInt 0).toInt = 0) (fun z21 h22 => ?_)
      exact En_ret (v := some (.int z21)) rfl rfl (retZ rfl rfl (by first | exact q_55451d0a83 h22 | omega) (by first | exact q_87849c3859 h22 | omega)) ⟨h15, h19, z21, rfl, ⟨by first | exact q_097a37c2ae h22 | omega, by first | exact q_e269517bee h22 | omega, fun _ => by omega⟩⟩
    · refine En_Ps 4 (pc' := 22) (lv' := [(0, .ref 159), (1, .int a), (2, .int b)]) (st' := [.int ((a ^^^ ((Int32.ofInt (-1))))), .int b]) rfl ?_
      refine En_nam (fun z23 h24 => ?_)
      refine En_Ps 1 (pc' := 23) (lv' := [(0, .ref 159), (1, .int a), (2, .int b)]) (st' := [.int ((b &&& z23))]) rfl ?_
      refine En_nam (fun z25 h26 => ?_)
      obtain ⟨h27, h28⟩ := andn_rng h26 rfl (by omega) (by omega : _ ≤ (15 : Int))
      refine En_iNe _ rfl rfl (fun h29 => ?_) (fun h29 => ?_)
      · refine En_Ps 1 (pc' := 31) (lv' := [(0, .ref 159), (1, .int a), (2, .int b)]) (st' := [.int ((Int32.ofInt 0))]) rfl ?_
        refine En_top (by decide : (Int32.ofInt 0).toInt = 0) (fun z30 h31 => ?_)
        exact En_ret (v := some (.int z30)) rfl rfl (retZ rfl rfl (by first | exact q_55451d0a83 h31 | omega) (by first | exact q_87849c3859 h31 | omega)) ⟨h15, h19, z30, rfl, ⟨by first | exact q_097a37c2ae h31 | omega, by first | exact q_e269517bee h31 | omega, fun _ => by omega⟩⟩
      · obtain ⟨h32, h33⟩ := andn_zero h26 h24 h29 rfl rfl (by omega)
        refine En_Ps 2 (pc' := 31) (lv' := [(0, .ref 159), (1, .int a), (2, .int b)]) (st' := [.int ((Int32.ofInt 1))]) rfl ?_
        refine En_top (by decide : (Int32.ofInt 1).toInt = 1) (fun z34 h35 => ?_)
        exact En_ret (v := some (.int z34)) rfl rfl (retZ rfl rfl (by first | exact q_2b07c97645 h35 | omega) (by first | exact q_d9e7cbb253 h35 | omega)) ⟨h15, h19, z34, rfl, ⟨by first | exact q_ad3eee31ca h35 | omega, by first | exact q_81cf297dc4 h35 | omega, fun _ => by omega⟩⟩
/-- DoorSchoolModel.does(II)I -/
abbrev P_216 (σ0 : SG) (a : Int32) (b : Int32) : PO := fun v σ => WT σ ∧ Fr [] σ0 σ ∧ ∃ ret : Int32, v = some (.int ret) ∧ -ret.toInt - 2 ≤ 0 ∧ ret.toInt - 65535 ≤ 0
set_option maxRecDepth 10000 in
set_option maxHeartbeats 4000000 in
theorem c_216 (σ0 : SG) (hσ0 : WT σ0) (a : Int32) (b : Int32) : En 4 84 none mr_216 (P_216 σ0 a b) 0 [(0, .ref 159), (1, .int a), (2, .int b)] [] σ0 := by
  have hF0 : Fr [] σ0 σ0 := Fr_rfl
  refine En_Ps 3 (pc' := 3) (lv' := [(0, .ref 159), (1, .int a), (2, .int b)]) (st' := [.int b, .int a, .ref 159]) rfl ?_
  refine En_callV rfl rfl rfl rfl rfl rfl rfl rfl tgz_159 (by decide +kernel) rfl (c_263 σ0 hσ0 a b) (by decide) (by decide) (fun v2 σ3 h1 => ?_)
  obtain ⟨h4, h5, z7, rfl, h6⟩ := h1
  have h8 := Fr_trans hF0 h5 (by decide +kernel)
  refine En_iEq _ rfl rfl (fun h9 => ?_) (fun h9 => ?_)
  · refine En_Ps 1 (pc' := 20) (lv' := [(0, .ref 159), (1, .int a), (2, .int b)]) (st' := [.int (((Int8.ofInt (-2)).toInt32))]) rfl ?_
    refine En_top (by decide : ((Int8.ofInt (-2)).toInt32).toInt = -2) (fun z10 h11 => ?_)
    exact En_ret (v := some (.int z10)) rfl rfl rfl ⟨h4, h8, z10, rfl, ⟨by first | exact q_f35c5d346c h11 | omega, by first | exact q_7aab8371ca h11 | omega⟩⟩
  · refine En_Ps 3 (pc' := 12) (lv' := [(0, .ref 159), (1, .int a), (2, .int b)]) (st' := [.int b, .int a, .ref 159]) rfl ?_
    refine En_callV rfl rfl rfl rfl rfl rfl rfl rfl tgz_159 (by decide +kernel) rfl (c_212 σ3 h4 a b) (by decide) (by decide) (fun v13 σ14 h12 => ?_)
    obtain ⟨h15, h16, z18, rfl, h17⟩ := h12
    have h19 := Fr_trans h8 h16 (by decide +kernel)
    refine En_Ps 1 (pc' := 20) (lv' := [(0, .ref 159), (1, .int a), (2, .int b)]) (st' := [.int z18]) rfl ?_
    exact En_ret (v := some (.int z18)) rfl rfl rfl ⟨h15, h19, z18, rfl, ⟨by first | exact q_70a249c7f8 h17.1 | omega, by first | exact q_ef123ba13c h17.2 | omega⟩⟩
/-- DoorSchoolModel.door(II)I -/
abbrev P_219 (σ0 : SG) (a : Int32) (b : Int32) : PO := fun v σ => WT σ ∧ Fr [] σ0 σ ∧ ∃ ret : Int32, v = some (.int ret) ∧ -ret.toInt - 2 ≤ 0 ∧ ret.toInt - 50 ≤ 0
set_option maxRecDepth 10000 in
set_option maxHeartbeats 4000000 in
theorem c_219 (σ0 : SG) (hσ0 : WT σ0) (a : Int32) (b : Int32) : En 2 46 none mr_219 (P_219 σ0 a b) 0 [(0, .ref 159), (1, .int a), (2, .int b)] [] σ0 := by
  have hF0 : Fr [] σ0 σ0 := Fr_rfl
  refine En_Ps 2 (pc' := 2) (lv' := [(0, .ref 159), (1, .int a), (2, .int b)]) (st' := [.int a, .ref 159]) rfl ?_
  obtain ⟨z2, h1, h3, h4⟩ := WT_peekI hσ0 tgz_160 (by decide +kernel : FT 36 (2 : Int).toNat = (0, 0, 4)) (by decide +kernel)
  refine En_callV rfl rfl rfl rfl rfl rfl rfl rfl tgz_159 (by decide +kernel) rfl (c_254 σ0 hσ0 a z2 h1) (by decide) (by decide) (fun v6 σ7 h5 => ?_)
  obtain ⟨h8, h9, z11, rfl, h10⟩ := h5
  have h12 := Fr_trans hF0 h9 (by decide +kernel)
  refine En_iEq _ rfl rfl (fun h13 => ?_) (fun h13 => ?_)
  · refine En_Ps 1 (pc' := 31) (lv' := [(0, .ref 159), (1, .int a), (2, .int b)]) (st' := [.int (((Int8.ofInt (-2)).toInt32))]) rfl ?_
    refine En_top (by decide : ((Int8.ofInt (-2)).toInt32).toInt = -2) (fun z14 h15 => ?_)
    exact En_ret (v := some (.int z14)) rfl rfl rfl ⟨h8, h12, z14, rfl, ⟨by first | exact q_f35c5d346c h15 | omega, by first | exact q_307520f238 h15 | omega⟩⟩
  · refine En_Ps 4 (pc' := 14) (lv' := [(0, .ref 159), (1, .int a), (2, .int b)]) (st' := [.long ((3 : Int64)), .long ((Int64.ofNat 0)), .long b.toInt64]) rfl ?_
    have : b.toInt64.toInt = b.toInt := (i2lI rfl)
    have := (by decide : ((Int64.ofNat 0)).toInt = 0)
    have := (by decide : ((3 : Int64)).toInt = 3)
    refine En_callS rfl rfl rfl rfl rfl rfl rfl rfl rfl (c_249 σ7 h8 b.toInt64 ((Int64.ofNat 0)) ((3 : Int64))) (by decide) (by decide) (fun v17 σ18 h16 => ?_)
    obtain ⟨h19, h20, z22, rfl, h21⟩ := h16
    have h23 := Fr_trans h12 h20 (by decide +kernel)
    refine En_iEq _ rfl rfl (fun h24 => ?_) (fun h24 => ?_)
    · refine En_Ps 1 (pc' := 31) (lv' := [(0, .ref 159), (1, .int a), (2, .int b)]) (st' := [.int (((Int8.ofInt (-2)).toInt32))]) rfl ?_
      refine En_top (by decide : ((Int8.ofInt (-2)).toInt32).toInt = -2) (fun z25 h26 => ?_)
      exact En_ret (v := some (.int z25)) rfl rfl rfl ⟨h19, h23, z25, rfl, ⟨by first | exact q_f35c5d346c h26 | omega, by first | exact q_307520f238 h26 | omega⟩⟩
    · refine En_Ps 3 (pc' := 23) (lv' := [(0, .ref 159), (1, .int a), (2, .int b)]) (st' := [.int b, .int a, .ref 159]) rfl ?_
      refine En_callV rfl rfl rfl rfl rfl rfl rfl rfl tgz_159 (by decide +kernel) rfl (c_290e σ18 h19 a b (geI rfl (by omega)) (leI rfl (by omega)) (geI rfl (by omega)) (leI rfl (by omega))) (by decide) (by decide) (fun v28 σ29 h27 => ?_)
      obtain ⟨h30, h31, z33, rfl, h32⟩ := h27
      have h34 := Fr_trans h23 h31 (by decide +kernel)
      refine En_Ps 1 (pc' := 31) (lv' := [(0, .ref 159), (1, .int a), (2, .int b)]) (st' := [.int z33]) rfl ?_
      exact En_ret (v := some (.int z33)) rfl rfl rfl ⟨h30, h34, z33, rfl, ⟨by first | exact q_108dc72d76 h32.1 | omega, by first | exact q_ff529c7430 h32.2 | omega⟩⟩
/-- DoorSchoolModel.easiest(I)I -/
abbrev P_220 (σ0 : SG) (a : Int32) : PO := fun v σ => WT σ ∧ Fr [(35, 18), (35, 21), (42, 0), (43, 0), (44, 0), (45, 0), (46, 0)] σ0 σ ∧ ∃ ret : Int32, v = some (.int ret) ∧ -ret.toInt - 2 ≤ 0 ∧ ret.toInt - 2 ≤ 0
set_option maxRecDepth 10000 in
set_option maxHeartbeats 4000000 in
theorem c_220 (σ0 : SG) (hσ0 : WT σ0) (a : Int32) : En 6 139 none mr_220 (P_220 σ0 a) 0 [(0, .ref 159), (1, .int a)] [] σ0 := by
  have hF0 : Fr [(35, 18), (35, 21), (42, 0), (43, 0), (44, 0), (45, 0), (46, 0)] σ0 σ0 := Fr_rfl
  refine En_Ps 2 (pc' := 2) (lv' := [(0, .ref 159), (1, .int a)]) (st' := [.int a, .ref 159]) rfl ?_
  refine En_callV rfl rfl rfl rfl rfl rfl rfl rfl tgz_159 (by decide +kernel) rfl (c_195 σ0 hσ0 a) (by decide) (by decide) (fun v2 σ3 h1 => ?_)
  obtain ⟨h4, h5, z7, rfl, h6⟩ := h1
  have h8 := Fr_trans hF0 h5 (by decide +kernel)
  refine En_iNe _ rfl rfl (fun h9 => ?_) (fun h9 => ?_)
  · refine En_Ps 6 (pc' := 20) (lv' := [(4, .int ((Int32.ofInt 0))), (3, .int ((1000000 : Int32))), (2, .int ((Int32.ofInt (-1)))), (0, .ref 159), (1, .int a)]) (st' := []) rfl ?_
    have key20 : ∀ (n20 : Nat) (σ13 : SG) (y10 : Int32) (y11 : Int32) (y12 : Int32), WT σ13 → Fr [(35, 18), (35, 21), (42, 0), (43, 0), (44, 0), (45, 0), (46, 0)] σ0 σ13 → (-1) ≤ y10.toInt → y10.toInt ≤ 2 → 0 ≤ y12.toInt → y12.toInt ≤ 3 → y10.toInt - y12.toInt + 1 ≤ 0 → -y12.toInt + 3 < (n20 : Int) → En 6 139 none mr_220 (P_220 σ0 a) 20 [(0, .ref 159), (1, .int a), (2, .int y10), (3, .int y11), (4, .int y12)] [] σ13 := by
      intro n20
      induction n20 with
      | zero =>
        intro σ13 y10 y11 y12 h14 h15 h16 h17 h18 h19 h20 h21
        first | exact (q_9f1e7068c9 h21 h19).elim | (exfalso; omega)
      | succ n20 ih20 =>
        intro σ13 y10 y11 y12 h14 h15 h16 h17 h18 h19 h20 h21
        refine En_Ps 2 (pc' := 23) (lv' := [(0, .ref 159), (1, .int a), (2, .int y10), (3, .int y11), (4, .int y12)]) (st' := [.int ((Int32.ofInt 3)), .int y12]) rfl ?_
        refine En_icGe _ rfl (by decide : (Int32.ofInt 3).toInt = 3) rfl (fun h22 => ?_) (fun h22 => ?_)
        · refine En_Ps 1 (pc' := 69) (lv' := [(0, .ref 159), (1, .int a), (2, .int y10), (3, .int y11), (4, .int y12)]) (st' := [.int y10]) rfl ?_
          exact En_ret (v := some (.int y10)) rfl rfl rfl ⟨h14, h15, y10, rfl, ⟨by first | exact q_fe58cd40d0 h16 | omega, by first | exact q_316dab1512 h17 | omega⟩⟩
        · refine En_Ps 3 (pc' := 30) (lv' := [(0, .ref 159), (1, .int a), (2, .int y10), (3, .int y11), (4, .int y12)]) (st' := [.int a, .int y12, .ref 159]) rfl ?_
          refine En_callV rfl rfl rfl rfl rfl rfl rfl rfl tgz_159 (by decide +kernel) rfl (c_228 σ13 h14 y12 a) (by decide) (by decide) (fun v24 σ25 h23 => ?_)
          obtain ⟨h26, h27, z29, rfl, h28⟩ := h23
          have h30 := Fr_trans h15 h27 (by decide +kernel)
          refine En_Ps 3 (pc' := 38) (lv' := [(5, .int z29), (0, .ref 159), (1, .int a), (2, .int y10), (3, .int y11), (4, .int y12)]) (st' := [.int ((Int32.ofInt (-1))), .int z29]) rfl ?_
          refine En_icEq _ rfl (by decide : (Int32.ofInt (-1)).toInt = -1) rfl (fun h31 => ?_) (fun h31 => ?_)
          · refine En_Ps 1 (pc' := 65) (lv' := [(4, .int ((y12 + Int32.ofInt 1))), (5, .int z29), (0, .ref 159), (1, .int a), (2, .int y10), (3, .int y11)]) (st' := []) rfl ?_
            refine En_lv1 (addI rfl (by decide : (Int32.ofInt 1).toInt = 1) (by first | exact q_465ab79ac1 h18 | omega) (by first | exact q_6ae830b01d h22 | omega)) (fun z32 h33 => ?_)
            refine En_Ps 1 (pc' := 20) (lv' := [(4, .int z32), (5, .int z29), (0, .ref 159), (1, .int a), (2, .int y10), (3, .int y11)]) (st' := []) rfl ?_
            refine En_lv (lv := [(0, .ref 159), (1, .int a), (2, .int y10), (3, .int y11), (4, .int z32)]) ⟨rfl, rfl, rfl, rfl, rfl, trivial⟩ ?_
            exact ih20 σ25 y10 y11 z32 h26 h30 (by first | exact q_77b189e83d h16 | omega) (by first | exact q_a85463bd0d h17 | omega) (by first | exact q_35104ce9d3 h33 h18 | omega) (by first | exact q_84805d5d8e h33 h22 | omega) (by first | exact q_6591527e3e h20 h33 | omega) (by first | exact q_6272716eb4 h33 h21 | omega)
          · refine En_Ps 1 (pc' := 43) (lv' := [(5, .int z29), (0, .ref 159), (1, .int a), (2, .int y10), (3, .int y11), (4, .int y12)]) (st' := [.int z29]) rfl ?_
            refine En_callS rfl rfl rfl rfl rfl rfl rfl rfl rfl (c_203b σ25 h26 z29) (by decide) (by decide) (fun v35 σ36 h34 => ?_)
            obtain ⟨h37, h38, z40, rfl, h39⟩ := h34
            have h41 := Fr_trans h30 h38 (by decide +kernel)
            refine En_Ps 1 (pc' := 47) (lv' := [(5, .int z29), (0, .ref 159), (1, .int a), (2, .int y10), (3, .int y11), (4, .int y12)]) (st' := [.int y11, .int z40]) rfl ?_
            refine En_icLt _ rfl rfl rfl (fun h42 => ?_) (fun h42 => ?_)
            · refine En_Ps 1 (pc' := 55) (lv' := [(5, .int z29), (0, .ref 159), (1, .int a), (2, .int y10), (3, .int y11), (4, .int y12)]) (st' := [.int z29]) rfl ?_
              refine En_callS rfl rfl rfl rfl rfl rfl rfl rfl rfl (c_203b σ36 h37 z29) (by decide) (by decide) (fun v44 σ45 h43 => ?_)
              obtain ⟨h46, h47, z49, rfl, h48⟩ := h43
              have h50 := Fr_trans h41 h47 (by decide +kernel)
              refine En_Ps 4 (pc' := 65) (lv' := [(4, .int ((y12 + Int32.ofInt 1))), (2, .int y12), (3, .int z49), (5, .int z29), (0, .ref 159), (1, .int a)]) (st' := []) rfl ?_
              refine En_lv1 (addI rfl (by decide : (Int32.ofInt 1).toInt = 1) (by first | exact q_465ab79ac1 h18 | omega) (by first | exact q_6ae830b01d h22 | omega)) (fun z51 h52 => ?_)
              refine En_Ps 1 (pc' := 20) (lv' := [(4, .int z51), (2, .int y12), (3, .int z49), (5, .int z29), (0, .ref 159), (1, .int a)]) (st' := []) rfl ?_
              refine En_lv (lv := [(0, .ref 159), (1, .int a), (2, .int y12), (3, .int z49), (4, .int z51)]) ⟨rfl, rfl, rfl, rfl, rfl, trivial⟩ ?_
              exact ih20 σ45 y12 z49 z51 h46 h50 (by first | exact q_5b439548fc h18 | omega) (by first | exact q_f1519f12c0 h22 | omega) (by first | exact q_35104ce9d3 h52 h18 | omega) (by first | exact q_84805d5d8e h52 h22 | omega) (by first | exact q_2fedec469a h52 | omega) (by first | exact q_6272716eb4 h52 h21 | omega)
            · refine En_Ps 2 (pc' := 65) (lv' := [(4, .int ((y12 + Int32.ofInt 1))), (5, .int z29), (0, .ref 159), (1, .int a), (2, .int y10), (3, .int y11)]) (st' := []) rfl ?_
              refine En_lv1 (addI rfl (by decide : (Int32.ofInt 1).toInt = 1) (by first | exact q_465ab79ac1 h18 | omega) (by first | exact q_6ae830b01d h22 | omega)) (fun z53 h54 => ?_)
              refine En_Ps 1 (pc' := 20) (lv' := [(4, .int z53), (5, .int z29), (0, .ref 159), (1, .int a), (2, .int y10), (3, .int y11)]) (st' := []) rfl ?_
              refine En_lv (lv := [(0, .ref 159), (1, .int a), (2, .int y10), (3, .int y11), (4, .int z53)]) ⟨rfl, rfl, rfl, rfl, rfl, trivial⟩ ?_
              exact ih20 σ36 y10 y11 z53 h37 h41 (by first | exact q_77b189e83d h16 | omega) (by first | exact q_a85463bd0d h17 | omega) (by first | exact q_35104ce9d3 h54 h18 | omega) (by first | exact q_84805d5d8e h54 h22 | omega) (by first | exact q_6591527e3e h20 h54 | omega) (by first | exact q_6272716eb4 h54 h21 | omega)
    have := (by decide : (Int32.ofInt (-1)).toInt = -1)
    have := (by decide : (1000000 : Int32).toInt = 1000000)
    have := (by decide : (Int32.ofInt 0).toInt = 0)
    refine En_lv (lv := [(0, .ref 159), (1, .int a), (2, .int ((Int32.ofInt (-1)))), (3, .int ((1000000 : Int32))), (4, .int ((Int32.ofInt 0)))]) ⟨rfl, rfl, rfl, rfl, rfl, trivial⟩ ?_
    exact key20 (Int.toNat (3) + 1) σ3 ((Int32.ofInt (-1))) ((1000000 : Int32)) ((Int32.ofInt 0)) h4 h8 (by decide) (by decide) (by decide) (by decide) (by omega) (by first | exact toN_lt _ | omega)
  · refine En_Ps 1 (pc' := 10) (lv' := [(0, .ref 159), (1, .int a)]) (st' := [.int (((Int8.ofInt (-2)).toInt32))]) rfl ?_
    refine En_top (by decide : ((Int8.ofInt (-2)).toInt32).toInt = -2) (fun z55 h56 => ?_)
    exact En_ret (v := some (.int z55)) rfl rfl rfl ⟨h4, h8, z55, rfl, ⟨by first | exact q_f35c5d346c h56 | omega, by first | exact q_53fa448498 h56 | omega⟩⟩
/-- DoorSchoolModel.teachAll(II)V -/
abbrev P_321 (σ0 : SG) (a : Int32) (b : Int32) : PO := fun v σ => WT σ ∧ Fr [(35, 18), (35, 21), (35, 22), (35, 23), (42, 0), (43, 0), (44, 0), (45, 0), (46, 0)] σ0 σ ∧ v = none ∧ True
set_option maxRecDepth 10000 in
set_option maxHeartbeats 4000000 in
theorem c_321 (σ0 : SG) (hσ0 : WT σ0) (a : Int32) (b : Int32) : En 4 91 none mr_321 (P_321 σ0 a b) 0 [(0, .ref 159), (1, .int a), (2, .int b)] [] σ0 := by
  have hF0 : Fr [(35, 18), (35, 21), (35, 22), (35, 23), (42, 0), (43, 0), (44, 0), (45, 0), (46, 0)] σ0 σ0 := Fr_rfl
  refine En_Ps 1 (pc' := 1) (lv' := [(0, .ref 159), (1, .int a), (2, .int b)]) (st' := [.ref 159]) rfl ?_
  obtain ⟨z2, h1, h3, h4⟩ := WT_peekI hσ0 tgz_160 (by decide +kernel : FT 36 (0 : Int).toNat = (0, 0, 4)) (by decide +kernel)
  obtain ⟨z6, h5, h7, h8⟩ := WT_peekI hσ0 tgz_160 (by decide +kernel : FT 36 (7 : Int).toNat = (0, 0, 1600)) (by decide +kernel)
  refine En_callV rfl rfl rfl rfl rfl rfl rfl rfl tgz_159 (by decide +kernel) rfl (c_272 σ0 hσ0 z2 h1 z6 h5) (by decide) (by decide) (fun v10 σ11 h9 => ?_)
  obtain ⟨h12, h13, rfl, h14⟩ := h9
  have h15 := Fr_trans hF0 h13 (by decide +kernel)
  refine En_Ps 2 (pc' := 6) (lv' := [(0, .ref 159), (1, .int a), (2, .int b)]) (st' := [.int ((Int32.ofInt 0)), .ref 159]) rfl ?_
  refine En_put (j := 22) rfl rfl rfl tgz_159 (by decide +kernel) rfl (vF (by decide +kernel)) h12 h15 (by decide +kernel) (fun σ16 h17 h18 h19 h20 => ?_)
  refine En_Ps 2 (pc' := 11) (lv' := [(0, .ref 159), (1, .int a), (2, .int b)]) (st' := [.int ((Int32.ofInt 0)), .ref 159]) rfl ?_
  refine En_put (j := 23) rfl rfl rfl tgz_159 (by decide +kernel) rfl (vF (by decide +kernel)) h17 h18 (by decide +kernel) (fun σ21 h22 h23 h24 h25 => ?_)
  refine En_Ps 2 (pc' := 16) (lv' := [(3, .int ((Int32.ofInt 0))), (0, .ref 159), (1, .int a), (2, .int b)]) (st' := []) rfl ?_
  have key16 : ∀ (n16 : Nat) (σ29 : SG) (y26 : Int32) (y27 : Int32) (y28 : Int32), WT σ29 → Fr [(35, 18), (35, 21), (35, 22), (35, 23), (42, 0), (43, 0), (44, 0), (45, 0), (46, 0)] σ0 σ29 → (σ29 160)[(0 : Int).toNat]? = some (.int z2) → (σ29 160)[(7 : Int).toNat]? = some (.int z6) → (σ29 159)[22]? = some (.int y27) → (σ29 159)[23]? = some (.int y28) → 0 ≤ y26.toInt → y26.toInt ≤ 81 → 0 ≤ y28.toInt → y28.toInt ≤ 81 → y28.toInt - y26.toInt ≤ 0 → -y26.toInt + 81 < (n16 : Int) → En 4 91 none mr_321 (P_321 σ0 a b) 16 [(0, .ref 159), (1, .int a), (2, .int b), (3, .int y26)] [] σ29 := by
    intro n16
    induction n16 with
    | zero =>
      intro σ29 y26 y27 y28 h30 h31 h32 h33 h34 h35 h36 h37 h38 h39 h40 h41
      first | exact (q_ffef14d449 h41 h37).elim | (exfalso; omega)
    | succ n16 ih16 =>
      intro σ29 y26 y27 y28 h30 h31 h32 h33 h34 h35 h36 h37 h38 h39 h40 h41
      refine En_Ps 2 (pc' := 18) (lv' := [(0, .ref 159), (1, .int a), (2, .int b), (3, .int y26)]) (st' := [.ref 159, .int y26]) rfl ?_
      refine En_getI (j := 18) (l := 0) (u := 81) rfl rfl rfl tgz_159 (by decide +kernel) h30 (by decide +kernel) (fun z43 h42 h44 h45 => ?_)
      refine En_icGe _ rfl rfl rfl (fun h46 => ?_) (fun h46 => ?_)
      · exact En_ret (v := none) rfl rfl rfl ⟨h30, h31, rfl, trivial⟩
      · refine En_Ps 3 (pc' := 27) (lv' := [(0, .ref 159), (1, .int a), (2, .int b), (3, .int y26)]) (st' := [.ref 159, .int b, .ref 159]) rfl ?_
        refine En_getU (j := 17) (u := 168) (g' := 44) (q := 0) rfl rfl rfl tgz_159 (by decide +kernel) h30 (by decide +kernel) (by decide +kernel) (fun h47 => ?_)
        refine En_Ps 1 (pc' := 31) (lv' := [(0, .ref 159), (1, .int a), (2, .int b), (3, .int y26)]) (st' := [.int y26, .ref 168, .int b, .ref 159]) rfl ?_
        refine En_iald (l := (-2147483648)) (u := 2147483647) rfl rfl tgz_168 (by decide +kernel) h30 (by first | exact q_58e6e51dcc h36 | omega) (lnI (by decide +kernel : LN _ = 81) (by first | exact q_a0e855914a h46 h45 | omega)) (FTsgl (by decide +kernel)) (fun z50 h49 h51 h52 => ?_)
        refine En_callV rfl rfl rfl rfl rfl rfl rfl rfl tgz_159 (by decide +kernel) rfl (c_273 σ29 h30 b z50) (by decide) (by decide) (fun v54 σ55 h53 => ?_)
        obtain ⟨h56, h57, rfl, h58⟩ := h53
        have h59 := Fr_trans h31 h57 (by decide +kernel)
        refine En_Ps 2 (pc' := 37) (lv' := [(0, .ref 159), (1, .int a), (2, .int b), (3, .int y26)]) (st' := [.int a, .ref 159]) rfl ?_
        refine En_callV rfl rfl rfl rfl rfl rfl rfl rfl tgz_159 (by decide +kernel) rfl (c_274 σ55 h56 a) (by decide) (by decide) (fun v61 σ62 h60 => ?_)
        obtain ⟨h63, h64, z66, rfl, h65⟩ := h60
        have h67 := Fr_trans h59 h64 (by decide +kernel)
        refine En_Ps 1 (pc' := 41) (lv' := [(0, .ref 159), (1, .int a), (2, .int b), (3, .int y26)]) (st' := [.ref 159, .int z66]) rfl ?_
        refine En_getK (j := 17) ((h64 _ _ (inW tgz_159 (by decide +kernel))).trans ((h57 _ _ (inW tgz_159 (by decide +kernel))).trans h47)) rfl rfl rfl tgz_159 (by decide +kernel) ?_
        refine En_Ps 1 (pc' := 45) (lv' := [(0, .ref 159), (1, .int a), (2, .int b), (3, .int y26)]) (st' := [.int y26, .ref 168, .int z66]) rfl ?_
        refine En_ialdK ((h64 _ _ (inWa tgz_168 (by decide +kernel))).trans ((h57 _ _ (inWa tgz_168 (by decide +kernel))).trans h49)) rfl rfl tgz_168 (by decide +kernel) h63 (by first | exact q_58e6e51dcc h36 | omega) (lnI (by decide +kernel : LN _ = 81) (by first | exact q_a0e855914a h46 h45 | omega)) ?_
        refine En_Ps 1 (pc' := 47) (lv' := [(0, .ref 159), (1, .int a), (2, .int b), (3, .int y26)]) (st' := [.int ((z66 ^^^ z50))]) rfl ?_
        refine En_hav (fun z69 => ?_)
        refine En_callS rfl rfl rfl rfl rfl rfl rfl rfl rfl (c_203b σ62 h63 z69) (by decide) (by decide) (fun v71 σ72 h70 => ?_)
        obtain ⟨h73, h74, z76, rfl, h75⟩ := h70
        have h77 := Fr_trans h67 h74 (by decide +kernel)
        refine En_Ps 3 (pc' := 54) (lv' := [(4, .int z76), (0, .ref 159), (1, .int a), (2, .int b), (3, .int y26)]) (st' := [.ref 159, .ref 159]) rfl ?_
        refine En_getK (j := 22) ((h74 _ _ (inW tgz_159 (by decide +kernel))).trans ((h64 _ _ (inW tgz_159 (by decide +kernel))).trans ((h57 _ _ (inW tgz_159 (by decide +kernel))).trans h34))) rfl rfl rfl tgz_159 (by decide +kernel) ?_
        refine En_Ps 2 (pc' := 60) (lv' := [(4, .int z76), (0, .ref 159), (1, .int a), (2, .int b), (3, .int y26)]) (st' := [.int ((y27 + z76)), .ref 159]) rfl ?_
        refine En_hav (fun z78 => ?_)
        refine En_put (j := 22) rfl rfl rfl tgz_159 (by decide +kernel) rfl (vF (by decide +kernel)) h73 h77 (by decide +kernel) (fun σ79 h80 h81 h82 h83 => ?_)
        refine En_Ps 2 (pc' := 65) (lv' := [(4, .int z76), (0, .ref 159), (1, .int a), (2, .int b), (3, .int y26)]) (st' := [.ref 159, .ref 159]) rfl ?_
        refine En_getK (j := 23) ((h83 _ _ (Or.inr (by decide))).trans ((h74 _ _ (inW tgz_159 (by decide +kernel))).trans ((h64 _ _ (inW tgz_159 (by decide +kernel))).trans ((h57 _ _ (inW tgz_159 (by decide +kernel))).trans h35)))) rfl rfl rfl tgz_159 (by decide +kernel) ?_
        refine En_Ps 1 (pc' := 70) (lv' := [(4, .int z76), (0, .ref 159), (1, .int a), (2, .int b), (3, .int y26)]) (st' := [.int z76, .int y28, .ref 159]) rfl ?_
        refine En_iNe _ rfl rfl (fun h84 => ?_) (fun h84 => ?_)
        · refine En_Ps 2 (pc' := 79) (lv' := [(4, .int z76), (0, .ref 159), (1, .int a), (2, .int b), (3, .int y26)]) (st' := [.int ((y28 + ((Int32.ofInt 0)))), .ref 159]) rfl ?_
          refine En_top (addI rfl (by decide : (Int32.ofInt 0).toInt = 0) (by first | exact q_2f569dfca1 h38 | omega) (by first | exact q_a21129f50f h39 | omega)) (fun z85 h86 => ?_)
          refine En_put (j := 23) rfl rfl rfl tgz_159 (by decide +kernel) rfl (vF (by decide +kernel)) h80 h81 (by decide +kernel) (fun σ87 h88 h89 h90 h91 => ?_)
          refine En_Ps 1 (pc' := 85) (lv' := [(3, .int ((y26 + Int32.ofInt 1))), (4, .int z76), (0, .ref 159), (1, .int a), (2, .int b)]) (st' := []) rfl ?_
          refine En_lv1 (addI rfl (by decide : (Int32.ofInt 1).toInt = 1) (by first | exact q_465ab79ac1 h36 | omega) (by first | exact q_d778ff18c8 h37 | omega)) (fun z92 h93 => ?_)
          refine En_Ps 1 (pc' := 16) (lv' := [(3, .int z92), (4, .int z76), (0, .ref 159), (1, .int a), (2, .int b)]) (st' := []) rfl ?_
          refine En_lv (lv := [(0, .ref 159), (1, .int a), (2, .int b), (3, .int z92)]) ⟨rfl, rfl, rfl, rfl, trivial⟩ ?_
          exact ih16 σ87 z92 z78 z85 h88 h89 ((h91 _ _ (Or.inl (neTG tgz_160 tgz_159 (by decide)))).trans ((h83 _ _ (Or.inl (neTG tgz_160 tgz_159 (by decide)))).trans ((h74 _ _ (inWa tgz_160 (by decide +kernel))).trans ((h64 _ _ (inWa tgz_160 (by decide +kernel))).trans ((h57 _ _ (inWa tgz_160 (by decide +kernel))).trans h32))))) ((h91 _ _ (Or.inl (neTG tgz_160 tgz_159 (by decide)))).trans ((h83 _ _ (Or.inl (neTG tgz_160 tgz_159 (by decide)))).trans ((h74 _ _ (inWa tgz_160 (by decide +kernel))).trans ((h64 _ _ (inWa tgz_160 (by decide +kernel))).trans ((h57 _ _ (inWa tgz_160 (by decide +kernel))).trans h33))))) ((h91 _ _ (Or.inr (by decide))).trans h82) h90 (by first | exact q_35104ce9d3 h93 h36 | omega) (by first | exact q_798b104d48 h93 h46 h45 | omega) (by first | exact q_771c4e5138 h86 h38 | omega) (by first | exact q_18b5268c76 h86 h39 | omega) (by first | exact q_969c4fd5e6 h86 h93 h40 | omega) (by first | exact q_4ff790945b h93 h41 | omega)
        · refine En_Ps 3 (pc' := 79) (lv' := [(4, .int z76), (0, .ref 159), (1, .int a), (2, .int b), (3, .int y26)]) (st' := [.int ((y28 + ((Int32.ofInt 1)))), .ref 159]) rfl ?_
          refine En_top (addI rfl (by decide : (Int32.ofInt 1).toInt = 1) (by first | exact q_465ab79ac1 h38 | omega) (by first | exact q_d778ff18c8 h39 | omega)) (fun z94 h95 => ?_)
          refine En_put (j := 23) rfl rfl rfl tgz_159 (by decide +kernel) rfl (vF (by decide +kernel)) h80 h81 (by decide +kernel) (fun σ96 h97 h98 h99 h100 => ?_)
          refine En_Ps 1 (pc' := 85) (lv' := [(3, .int ((y26 + Int32.ofInt 1))), (4, .int z76), (0, .ref 159), (1, .int a), (2, .int b)]) (st' := []) rfl ?_
          refine En_lv1 (addI rfl (by decide : (Int32.ofInt 1).toInt = 1) (by first | exact q_465ab79ac1 h36 | omega) (by first | exact q_d778ff18c8 h37 | omega)) (fun z101 h102 => ?_)
          refine En_Ps 1 (pc' := 16) (lv' := [(3, .int z101), (4, .int z76), (0, .ref 159), (1, .int a), (2, .int b)]) (st' := []) rfl ?_
          refine En_lv (lv := [(0, .ref 159), (1, .int a), (2, .int b), (3, .int z101)]) ⟨rfl, rfl, rfl, rfl, trivial⟩ ?_
          exact ih16 σ96 z101 z78 z94 h97 h98 ((h100 _ _ (Or.inl (neTG tgz_160 tgz_159 (by decide)))).trans ((h83 _ _ (Or.inl (neTG tgz_160 tgz_159 (by decide)))).trans ((h74 _ _ (inWa tgz_160 (by decide +kernel))).trans ((h64 _ _ (inWa tgz_160 (by decide +kernel))).trans ((h57 _ _ (inWa tgz_160 (by decide +kernel))).trans h32))))) ((h100 _ _ (Or.inl (neTG tgz_160 tgz_159 (by decide)))).trans ((h83 _ _ (Or.inl (neTG tgz_160 tgz_159 (by decide)))).trans ((h74 _ _ (inWa tgz_160 (by decide +kernel))).trans ((h64 _ _ (inWa tgz_160 (by decide +kernel))).trans ((h57 _ _ (inWa tgz_160 (by decide +kernel))).trans h33))))) ((h100 _ _ (Or.inr (by decide))).trans h82) h99 (by first | exact q_35104ce9d3 h102 h36 | omega) (by first | exact q_798b104d48 h102 h46 h45 | omega) (by first | exact q_35104ce9d3 h95 h38 | omega) (by first | exact q_d53ed2728c h95 h40 h46 h45 | omega) (by first | exact q_1ff421e7a2 h95 h102 h40 | omega) (by first | exact q_4ff790945b h102 h41 | omega)
  have := (by decide : (Int32.ofInt 0).toInt = 0)
  have := (by decide : (Int32.ofInt 0).toInt = 0)
  have := (by decide : (Int32.ofInt 0).toInt = 0)
  refine En_lv (lv := [(0, .ref 159), (1, .int a), (2, .int b), (3, .int ((Int32.ofInt 0)))]) ⟨rfl, rfl, rfl, rfl, trivial⟩ ?_
  exact key16 (Int.toNat (81) + 1) σ21 ((Int32.ofInt 0)) ((Int32.ofInt 0)) ((Int32.ofInt 0)) h22 h23 ((h25 _ _ (Or.inl (neTG tgz_160 tgz_159 (by decide)))).trans ((h20 _ _ (Or.inl (neTG tgz_160 tgz_159 (by decide)))).trans ((h13 _ _ (inWa tgz_160 (by decide +kernel))).trans h1))) ((h25 _ _ (Or.inl (neTG tgz_160 tgz_159 (by decide)))).trans ((h20 _ _ (Or.inl (neTG tgz_160 tgz_159 (by decide)))).trans ((h13 _ _ (inWa tgz_160 (by decide +kernel))).trans h5))) ((h25 _ _ (Or.inr (by decide))).trans h19) h24 (by decide) (by decide) (by decide) (by decide) (by omega) (by first | exact toN_lt _ | omega)
/-- DoorSchoolModel.errors(II)I -/
abbrev P_222 (σ0 : SG) (a : Int32) (b : Int32) : PO := fun v σ => WT σ ∧ Fr [(35, 18), (35, 21), (35, 22), (35, 23), (42, 0), (43, 0), (44, 0), (45, 0), (46, 0)] σ0 σ ∧ ∃ ret : Int32, v = some (.int ret) ∧ True
set_option maxRecDepth 10000 in
set_option maxHeartbeats 4000000 in
theorem c_222 (σ0 : SG) (hσ0 : WT σ0) (a : Int32) (b : Int32) : En 5 115 none mr_222 (P_222 σ0 a b) 0 [(0, .ref 159), (1, .int a), (2, .int b)] [] σ0 := by
  have hF0 : Fr [(35, 18), (35, 21), (35, 22), (35, 23), (42, 0), (43, 0), (44, 0), (45, 0), (46, 0)] σ0 σ0 := Fr_rfl
  refine En_Ps 1 (pc' := 1) (lv' := [(0, .ref 159), (1, .int a), (2, .int b)]) (st' := [.int a]) rfl ?_
  refine En_callS rfl rfl rfl rfl rfl rfl rfl rfl rfl (c_268 σ0 hσ0 a) (by decide) (by decide) (fun v2 σ3 h1 => ?_)
  obtain ⟨h4, h5, z7, rfl, h6⟩ := h1
  have h8 := Fr_trans hF0 h5 (by decide +kernel)
  refine En_iEq _ rfl rfl (fun h9 => ?_) (fun h9 => ?_)
  · refine En_Ps 1 (pc' := 17) (lv' := [(0, .ref 159), (1, .int a), (2, .int b)]) (st' := [.int (((Int8.ofInt (-2)).toInt32))]) rfl ?_
    refine En_top (by decide : ((Int8.ofInt (-2)).toInt32).toInt = -2) (fun z10 h11 => ?_)
    exact En_ret (v := some (.int z10)) rfl rfl rfl ⟨h4, h8, z10, rfl, trivial⟩
  · refine En_Ps 2 (pc' := 9) (lv' := [(0, .ref 159), (1, .int a), (2, .int b)]) (st' := [.int b, .ref 159]) rfl ?_
    refine En_callV rfl rfl rfl rfl rfl rfl rfl rfl tgz_159 (by decide +kernel) rfl (c_195 σ3 h4 b) (by decide) (by decide) (fun v13 σ14 h12 => ?_)
    obtain ⟨h15, h16, z18, rfl, h17⟩ := h12
    have h19 := Fr_trans h8 h16 (by decide +kernel)
    refine En_iNe _ rfl rfl (fun h20 => ?_) (fun h20 => ?_)
    · refine En_Ps 3 (pc' := 21) (lv' := [(0, .ref 159), (1, .int a), (2, .int b)]) (st' := [.int b, .int a, .ref 159]) rfl ?_
      refine En_callV rfl rfl rfl rfl rfl rfl rfl rfl tgz_159 (by decide +kernel) rfl (c_321 σ14 h15 a b) (by decide) (by decide) (fun v22 σ23 h21 => ?_)
      obtain ⟨h24, h25, rfl, h26⟩ := h21
      have h27 := Fr_trans h19 h25 (by decide +kernel)
      refine En_Ps 1 (pc' := 25) (lv' := [(0, .ref 159), (1, .int a), (2, .int b)]) (st' := [.ref 159]) rfl ?_
      refine En_getI (j := 22) (l := (-2147483648)) (u := 2147483647) rfl rfl rfl tgz_159 (by decide +kernel) h24 (by decide +kernel) (fun z29 h28 h30 h31 => ?_)
      exact En_ret (v := some (.int z29)) rfl rfl rfl ⟨h24, h27, z29, rfl, trivial⟩
    · refine En_Ps 1 (pc' := 17) (lv' := [(0, .ref 159), (1, .int a), (2, .int b)]) (st' := [.int (((Int8.ofInt (-2)).toInt32))]) rfl ?_
      refine En_top (by decide : ((Int8.ofInt (-2)).toInt32).toInt = -2) (fun z32 h33 => ?_)
      exact En_ret (v := some (.int z32)) rfl rfl rfl ⟨h15, h19, z32, rfl, trivial⟩
/-- DoorSchoolModel.isExam(I)Z -/
abbrev P_255 (σ0 : SG) (a : Int32) : PO := fun v σ => WT σ ∧ Fr [] σ0 σ ∧ ∃ ret : Int32, v = some (.int ret) ∧ -ret.toInt ≤ 0 ∧ ret.toInt - 1 ≤ 0 ∧ (ret.toInt - 1 ≤ 0 ∧ -ret.toInt + 1 ≤ 0 → -a.toInt ≤ 0 ∧ a.toInt - 11 ≤ 0)
set_option maxRecDepth 10000 in
set_option maxHeartbeats 4000000 in
theorem c_255 (σ0 : SG) (hσ0 : WT σ0) (a : Int32) : En 1 25 none mr_255 (P_255 σ0 a) 0 [(0, .ref 159), (1, .int a)] [] σ0 := by
  have hF0 : Fr [] σ0 σ0 := Fr_rfl
  refine En_Ps 4 (pc' := 4) (lv' := [(0, .ref 159), (1, .int a)]) (st' := [.ref 159, .long ((Int64.ofNat 0)), .long a.toInt64]) rfl ?_
  refine En_getU (j := 1) (u := 160) (g' := 36) (q := 0) rfl rfl rfl tgz_159 (by decide +kernel) hσ0 (by decide +kernel) (by decide +kernel) (fun h1 => ?_)
  refine En_Ps 1 (pc' := 8) (lv' := [(0, .ref 159), (1, .int a)]) (st' := [.int ((Int32.ofInt 3)), .ref 160, .long ((Int64.ofNat 0)), .long a.toInt64]) rfl ?_
  refine En_iald (l := 0) (u := 12) rfl (by decide : (Int32.ofInt 3).toInt = 3) tgz_160 (by decide +kernel) hσ0 (by decide) (lnI (by decide +kernel : LN _ = 226) (by decide)) (by decide +kernel) (fun z4 h3 h5 h6 => ?_)
  refine En_Ps 2 (pc' := 11) (lv' := [(0, .ref 159), (1, .int a)]) (st' := [.int ((z4 - ((Int32.ofInt 1)))), .long ((Int64.ofNat 0)), .long a.toInt64]) rfl ?_
  refine En_top (subI rfl (by decide : (Int32.ofInt 1).toInt = 1) (by first | exact q_93f9478bef h5 | omega) (by first | exact q_5f4a85dce3 h6 | omega)) (fun z7 h8 => ?_)
  refine En_Ps 1 (pc' := 12) (lv' := [(0, .ref 159), (1, .int a)]) (st' := [.long z7.toInt64, .long ((Int64.ofNat 0)), .long a.toInt64]) rfl ?_
  have : a.toInt64.toInt = a.toInt := (i2lI rfl)
  have := (by decide : ((Int64.ofNat 0)).toInt = 0)
  have : z7.toInt64.toInt = z7.toInt := (i2lI rfl)
  refine En_callS rfl rfl rfl rfl rfl rfl rfl rfl rfl (c_249 σ0 hσ0 a.toInt64 ((Int64.ofNat 0)) z7.toInt64) (by decide) (by decide) (fun v10 σ11 h9 => ?_)
  obtain ⟨h12, h13, z15, rfl, h14⟩ := h9
  have h16 := Fr_trans hF0 h13 (by decide +kernel)
  exact En_ret (v := some (.int z15)) rfl rfl (retZ rfl rfl (by first | exact q_ef1e8e38bf h14.1 | omega) (by first | exact q_733c8bfbae h14.2.1 | omega)) ⟨h12, h16, z15, rfl, ⟨by first | exact q_a555021d16 h14.1 | omega, by first | exact q_ad5b726bf8 h14.2.1 | omega, fun _ => by omega⟩⟩
/-- DoorSchoolModel.exam(II)I -/
abbrev P_224 (σ0 : SG) (a : Int32) (b : Int32) : PO := fun v σ => WT σ ∧ Fr [] σ0 σ ∧ ∃ ret : Int32, v = some (.int ret) ∧ -ret.toInt - 2 ≤ 0 ∧ ret.toInt - 15 ≤ 0
set_option maxRecDepth 10000 in
set_option maxHeartbeats 4000000 in
theorem c_224 (σ0 : SG) (hσ0 : WT σ0) (a : Int32) (b : Int32) : En 2 46 none mr_224 (P_224 σ0 a b) 0 [(0, .ref 159), (1, .int a), (2, .int b)] [] σ0 := by
  have hF0 : Fr [] σ0 σ0 := Fr_rfl
  refine En_Ps 2 (pc' := 2) (lv' := [(0, .ref 159), (1, .int a), (2, .int b)]) (st' := [.int a, .ref 159]) rfl ?_
  refine En_callV rfl rfl rfl rfl rfl rfl rfl rfl tgz_159 (by decide +kernel) rfl (c_255 σ0 hσ0 a) (by decide) (by decide) (fun v2 σ3 h1 => ?_)
  obtain ⟨h4, h5, z7, rfl, h6⟩ := h1
  have h8 := Fr_trans hF0 h5 (by decide +kernel)
  refine En_iEq _ rfl rfl (fun h9 => ?_) (fun h9 => ?_)
  · refine En_Ps 1 (pc' := 36) (lv' := [(0, .ref 159), (1, .int a), (2, .int b)]) (st' := [.int (((Int8.ofInt (-2)).toInt32))]) rfl ?_
    refine En_top (by decide : ((Int8.ofInt (-2)).toInt32).toInt = -2) (fun z10 h11 => ?_)
    exact En_ret (v := some (.int z10)) rfl rfl rfl ⟨h4, h8, z10, rfl, ⟨by first | exact q_f35c5d346c h11 | omega, by first | exact q_12a74e12a3 h11 | omega⟩⟩
  · refine En_Ps 4 (pc' := 12) (lv' := [(0, .ref 159), (1, .int a), (2, .int b)]) (st' := [.long ((Int64.ofNat 1)), .long ((Int64.ofNat 0)), .long b.toInt64]) rfl ?_
    have : b.toInt64.toInt = b.toInt := (i2lI rfl)
    have := (by decide : ((Int64.ofNat 0)).toInt = 0)
    have := (by decide : ((Int64.ofNat 1)).toInt = 1)
    refine En_callS rfl rfl rfl rfl rfl rfl rfl rfl rfl (c_249 σ3 h4 b.toInt64 ((Int64.ofNat 0)) ((Int64.ofNat 1))) (by decide) (by decide) (fun v13 σ14 h12 => ?_)
    obtain ⟨h15, h16, z18, rfl, h17⟩ := h12
    have h19 := Fr_trans h8 h16 (by decide +kernel)
    refine En_iEq _ rfl rfl (fun h20 => ?_) (fun h20 => ?_)
    · refine En_Ps 1 (pc' := 36) (lv' := [(0, .ref 159), (1, .int a), (2, .int b)]) (st' := [.int (((Int8.ofInt (-2)).toInt32))]) rfl ?_
      refine En_top (by decide : ((Int8.ofInt (-2)).toInt32).toInt = -2) (fun z21 h22 => ?_)
      exact En_ret (v := some (.int z21)) rfl rfl rfl ⟨h15, h19, z21, rfl, ⟨by first | exact q_f35c5d346c h22 | omega, by first | exact q_12a74e12a3 h22 | omega⟩⟩
    · refine En_Ps 1 (pc' := 19) (lv' := [(0, .ref 159), (1, .int a), (2, .int b)]) (st' := [.ref 159]) rfl ?_
      refine En_getU (j := 1) (u := 160) (g' := 36) (q := 0) rfl rfl rfl tgz_159 (by decide +kernel) h15 (by decide +kernel) (by decide +kernel) (fun h23 => ?_)
      refine En_Ps 4 (pc' := 27) (lv' := [(0, .ref 159), (1, .int a), (2, .int b)]) (st' := [.int ((((Int32.ofInt 2)) * a)), .int (((Int8.ofInt 122).toInt32)), .ref 160]) rfl ?_
      refine En_top (mulI (by decide : (Int32.ofInt 2).toInt = 2) rfl (Z := 2 * a.toInt) (by first | exact q_9c4c04fc55 | omega) (by omega) (by omega)) (fun z25 h26 => ?_)
      refine En_Ps 1 (pc' := 28) (lv' := [(0, .ref 159), (1, .int a), (2, .int b)]) (st' := [.int (((((Int8.ofInt 122).toInt32)) + z25)), .ref 160]) rfl ?_
      refine En_top (addI (by decide : ((Int8.ofInt 122).toInt32).toInt = 122) rfl (by omega) (by omega)) (fun z27 h28 => ?_)
      refine En_Ps 2 (pc' := 30) (lv' := [(0, .ref 159), (1, .int a), (2, .int b)]) (st' := [.int ((z27 + b)), .ref 160]) rfl ?_
      refine En_top (addI rfl rfl (by omega) (by omega)) (fun z29 h30 => ?_)
      rcases (show z29.toInt = 122 ∨ z29.toInt = 123 ∨ z29.toInt = 124 ∨ z29.toInt = 125 ∨ z29.toInt = 126 ∨ z29.toInt = 127 ∨ z29.toInt = 128 ∨ z29.toInt = 129 ∨ z29.toInt = 130 ∨ z29.toInt = 131 ∨ z29.toInt = 132 ∨ z29.toInt = 133 ∨ z29.toInt = 134 ∨ z29.toInt = 135 ∨ z29.toInt = 136 ∨ z29.toInt = 137 ∨ z29.toInt = 138 ∨ z29.toInt = 139 ∨ z29.toInt = 140 ∨ z29.toInt = 141 ∨ z29.toInt = 142 ∨ z29.toInt = 143 ∨ z29.toInt = 144 ∨ z29.toInt = 145 by omega) with h31 | h31 | h31 | h31 | h31 | h31 | h31 | h31 | h31 | h31 | h31 | h31 | h31 | h31 | h31 | h31 | h31 | h31 | h31 | h31 | h31 | h31 | h31 | h31
      · refine En_iald (l := 0) (u := 15) rfl h31 tgz_160 (by decide +kernel) h15 (by decide) (lnI (by decide +kernel : LN _ = 226) (by decide)) (by decide +kernel) (fun z33 h32 h34 h35 => ?_)
        refine En_Ps 1 (pc' := 36) (lv' := [(0, .ref 159), (1, .int a), (2, .int b)]) (st' := [.int z33]) rfl ?_
        exact En_ret (v := some (.int z33)) rfl rfl rfl ⟨h15, h19, z33, rfl, ⟨by first | exact q_ea7f0ffdb1 h34 | omega, by first | exact q_867a9ac627 h35 | omega⟩⟩
      · refine En_iald (l := 0) (u := 1) rfl h31 tgz_160 (by decide +kernel) h15 (by decide) (lnI (by decide +kernel : LN _ = 226) (by decide)) (by decide +kernel) (fun z37 h36 h38 h39 => ?_)
        refine En_Ps 1 (pc' := 36) (lv' := [(0, .ref 159), (1, .int a), (2, .int b)]) (st' := [.int z37]) rfl ?_
        exact En_ret (v := some (.int z37)) rfl rfl rfl ⟨h15, h19, z37, rfl, ⟨by first | exact q_ea7f0ffdb1 h38 | omega, by first | exact q_31525ae3c9 h39 | omega⟩⟩
      · refine En_iald (l := 0) (u := 15) rfl h31 tgz_160 (by decide +kernel) h15 (by decide) (lnI (by decide +kernel : LN _ = 226) (by decide)) (by decide +kernel) (fun z41 h40 h42 h43 => ?_)
        refine En_Ps 1 (pc' := 36) (lv' := [(0, .ref 159), (1, .int a), (2, .int b)]) (st' := [.int z41]) rfl ?_
        exact En_ret (v := some (.int z41)) rfl rfl rfl ⟨h15, h19, z41, rfl, ⟨by first | exact q_ea7f0ffdb1 h42 | omega, by first | exact q_867a9ac627 h43 | omega⟩⟩
      · refine En_iald (l := 0) (u := 1) rfl h31 tgz_160 (by decide +kernel) h15 (by decide) (lnI (by decide +kernel : LN _ = 226) (by decide)) (by decide +kernel) (fun z45 h44 h46 h47 => ?_)
        refine En_Ps 1 (pc' := 36) (lv' := [(0, .ref 159), (1, .int a), (2, .int b)]) (st' := [.int z45]) rfl ?_
        exact En_ret (v := some (.int z45)) rfl rfl rfl ⟨h15, h19, z45, rfl, ⟨by first | exact q_ea7f0ffdb1 h46 | omega, by first | exact q_31525ae3c9 h47 | omega⟩⟩
      · refine En_iald (l := 0) (u := 15) rfl h31 tgz_160 (by decide +kernel) h15 (by decide) (lnI (by decide +kernel : LN _ = 226) (by decide)) (by decide +kernel) (fun z49 h48 h50 h51 => ?_)
        refine En_Ps 1 (pc' := 36) (lv' := [(0, .ref 159), (1, .int a), (2, .int b)]) (st' := [.int z49]) rfl ?_
        exact En_ret (v := some (.int z49)) rfl rfl rfl ⟨h15, h19, z49, rfl, ⟨by first | exact q_ea7f0ffdb1 h50 | omega, by first | exact q_867a9ac627 h51 | omega⟩⟩
      · refine En_iald (l := 0) (u := 1) rfl h31 tgz_160 (by decide +kernel) h15 (by decide) (lnI (by decide +kernel : LN _ = 226) (by decide)) (by decide +kernel) (fun z53 h52 h54 h55 => ?_)
        refine En_Ps 1 (pc' := 36) (lv' := [(0, .ref 159), (1, .int a), (2, .int b)]) (st' := [.int z53]) rfl ?_
        exact En_ret (v := some (.int z53)) rfl rfl rfl ⟨h15, h19, z53, rfl, ⟨by first | exact q_ea7f0ffdb1 h54 | omega, by first | exact q_31525ae3c9 h55 | omega⟩⟩
      · refine En_iald (l := 0) (u := 15) rfl h31 tgz_160 (by decide +kernel) h15 (by decide) (lnI (by decide +kernel : LN _ = 226) (by decide)) (by decide +kernel) (fun z57 h56 h58 h59 => ?_)
        refine En_Ps 1 (pc' := 36) (lv' := [(0, .ref 159), (1, .int a), (2, .int b)]) (st' := [.int z57]) rfl ?_
        exact En_ret (v := some (.int z57)) rfl rfl rfl ⟨h15, h19, z57, rfl, ⟨by first | exact q_ea7f0ffdb1 h58 | omega, by first | exact q_867a9ac627 h59 | omega⟩⟩
      · refine En_iald (l := 0) (u := 1) rfl h31 tgz_160 (by decide +kernel) h15 (by decide) (lnI (by decide +kernel : LN _ = 226) (by decide)) (by decide +kernel) (fun z61 h60 h62 h63 => ?_)
        refine En_Ps 1 (pc' := 36) (lv' := [(0, .ref 159), (1, .int a), (2, .int b)]) (st' := [.int z61]) rfl ?_
        exact En_ret (v := some (.int z61)) rfl rfl rfl ⟨h15, h19, z61, rfl, ⟨by first | exact q_ea7f0ffdb1 h62 | omega, by first | exact q_31525ae3c9 h63 | omega⟩⟩
      · refine En_iald (l := 0) (u := 15) rfl h31 tgz_160 (by decide +kernel) h15 (by decide) (lnI (by decide +kernel : LN _ = 226) (by decide)) (by decide +kernel) (fun z65 h64 h66 h67 => ?_)
        refine En_Ps 1 (pc' := 36) (lv' := [(0, .ref 159), (1, .int a), (2, .int b)]) (st' := [.int z65]) rfl ?_
        exact En_ret (v := some (.int z65)) rfl rfl rfl ⟨h15, h19, z65, rfl, ⟨by first | exact q_ea7f0ffdb1 h66 | omega, by first | exact q_867a9ac627 h67 | omega⟩⟩
      · refine En_iald (l := 0) (u := 1) rfl h31 tgz_160 (by decide +kernel) h15 (by decide) (lnI (by decide +kernel : LN _ = 226) (by decide)) (by decide +kernel) (fun z69 h68 h70 h71 => ?_)
        refine En_Ps 1 (pc' := 36) (lv' := [(0, .ref 159), (1, .int a), (2, .int b)]) (st' := [.int z69]) rfl ?_
        exact En_ret (v := some (.int z69)) rfl rfl rfl ⟨h15, h19, z69, rfl, ⟨by first | exact q_ea7f0ffdb1 h70 | omega, by first | exact q_31525ae3c9 h71 | omega⟩⟩
      · refine En_iald (l := 0) (u := 15) rfl h31 tgz_160 (by decide +kernel) h15 (by decide) (lnI (by decide +kernel : LN _ = 226) (by decide)) (by decide +kernel) (fun z73 h72 h74 h75 => ?_)
        refine En_Ps 1 (pc' := 36) (lv' := [(0, .ref 159), (1, .int a), (2, .int b)]) (st' := [.int z73]) rfl ?_
        exact En_ret (v := some (.int z73)) rfl rfl rfl ⟨h15, h19, z73, rfl, ⟨by first | exact q_ea7f0ffdb1 h74 | omega, by first | exact q_867a9ac627 h75 | omega⟩⟩
      · refine En_iald (l := 0) (u := 1) rfl h31 tgz_160 (by decide +kernel) h15 (by decide) (lnI (by decide +kernel : LN _ = 226) (by decide)) (by decide +kernel) (fun z77 h76 h78 h79 => ?_)
        refine En_Ps 1 (pc' := 36) (lv' := [(0, .ref 159), (1, .int a), (2, .int b)]) (st' := [.int z77]) rfl ?_
        exact En_ret (v := some (.int z77)) rfl rfl rfl ⟨h15, h19, z77, rfl, ⟨by first | exact q_ea7f0ffdb1 h78 | omega, by first | exact q_31525ae3c9 h79 | omega⟩⟩
      · refine En_iald (l := 0) (u := 15) rfl h31 tgz_160 (by decide +kernel) h15 (by decide) (lnI (by decide +kernel : LN _ = 226) (by decide)) (by decide +kernel) (fun z81 h80 h82 h83 => ?_)
        refine En_Ps 1 (pc' := 36) (lv' := [(0, .ref 159), (1, .int a), (2, .int b)]) (st' := [.int z81]) rfl ?_
        exact En_ret (v := some (.int z81)) rfl rfl rfl ⟨h15, h19, z81, rfl, ⟨by first | exact q_ea7f0ffdb1 h82 | omega, by first | exact q_867a9ac627 h83 | omega⟩⟩
      · refine En_iald (l := 0) (u := 1) rfl h31 tgz_160 (by decide +kernel) h15 (by decide) (lnI (by decide +kernel : LN _ = 226) (by decide)) (by decide +kernel) (fun z85 h84 h86 h87 => ?_)
        refine En_Ps 1 (pc' := 36) (lv' := [(0, .ref 159), (1, .int a), (2, .int b)]) (st' := [.int z85]) rfl ?_
        exact En_ret (v := some (.int z85)) rfl rfl rfl ⟨h15, h19, z85, rfl, ⟨by first | exact q_ea7f0ffdb1 h86 | omega, by first | exact q_31525ae3c9 h87 | omega⟩⟩
      · refine En_iald (l := 0) (u := 15) rfl h31 tgz_160 (by decide +kernel) h15 (by decide) (lnI (by decide +kernel : LN _ = 226) (by decide)) (by decide +kernel) (fun z89 h88 h90 h91 => ?_)
        refine En_Ps 1 (pc' := 36) (lv' := [(0, .ref 159), (1, .int a), (2, .int b)]) (st' := [.int z89]) rfl ?_
        exact En_ret (v := some (.int z89)) rfl rfl rfl ⟨h15, h19, z89, rfl, ⟨by first | exact q_ea7f0ffdb1 h90 | omega, by first | exact q_867a9ac627 h91 | omega⟩⟩
      · refine En_iald (l := 0) (u := 1) rfl h31 tgz_160 (by decide +kernel) h15 (by decide) (lnI (by decide +kernel : LN _ = 226) (by decide)) (by decide +kernel) (fun z93 h92 h94 h95 => ?_)
        refine En_Ps 1 (pc' := 36) (lv' := [(0, .ref 159), (1, .int a), (2, .int b)]) (st' := [.int z93]) rfl ?_
        exact En_ret (v := some (.int z93)) rfl rfl rfl ⟨h15, h19, z93, rfl, ⟨by first | exact q_ea7f0ffdb1 h94 | omega, by first | exact q_31525ae3c9 h95 | omega⟩⟩
      · refine En_iald (l := 0) (u := 15) rfl h31 tgz_160 (by decide +kernel) h15 (by decide) (lnI (by decide +kernel : LN _ = 226) (by decide)) (by decide +kernel) (fun z97 h96 h98 h99 => ?_)
        refine En_Ps 1 (pc' := 36) (lv' := [(0, .ref 159), (1, .int a), (2, .int b)]) (st' := [.int z97]) rfl ?_
        exact En_ret (v := some (.int z97)) rfl rfl rfl ⟨h15, h19, z97, rfl, ⟨by first | exact q_ea7f0ffdb1 h98 | omega, by first | exact q_867a9ac627 h99 | omega⟩⟩
      · refine En_iald (l := 0) (u := 1) rfl h31 tgz_160 (by decide +kernel) h15 (by decide) (lnI (by decide +kernel : LN _ = 226) (by decide)) (by decide +kernel) (fun z101 h100 h102 h103 => ?_)
        refine En_Ps 1 (pc' := 36) (lv' := [(0, .ref 159), (1, .int a), (2, .int b)]) (st' := [.int z101]) rfl ?_
        exact En_ret (v := some (.int z101)) rfl rfl rfl ⟨h15, h19, z101, rfl, ⟨by first | exact q_ea7f0ffdb1 h102 | omega, by first | exact q_31525ae3c9 h103 | omega⟩⟩
      · refine En_iald (l := 0) (u := 15) rfl h31 tgz_160 (by decide +kernel) h15 (by decide) (lnI (by decide +kernel : LN _ = 226) (by decide)) (by decide +kernel) (fun z105 h104 h106 h107 => ?_)
        refine En_Ps 1 (pc' := 36) (lv' := [(0, .ref 159), (1, .int a), (2, .int b)]) (st' := [.int z105]) rfl ?_
        exact En_ret (v := some (.int z105)) rfl rfl rfl ⟨h15, h19, z105, rfl, ⟨by first | exact q_ea7f0ffdb1 h106 | omega, by first | exact q_867a9ac627 h107 | omega⟩⟩
      · refine En_iald (l := 0) (u := 1) rfl h31 tgz_160 (by decide +kernel) h15 (by decide) (lnI (by decide +kernel : LN _ = 226) (by decide)) (by decide +kernel) (fun z109 h108 h110 h111 => ?_)
        refine En_Ps 1 (pc' := 36) (lv' := [(0, .ref 159), (1, .int a), (2, .int b)]) (st' := [.int z109]) rfl ?_
        exact En_ret (v := some (.int z109)) rfl rfl rfl ⟨h15, h19, z109, rfl, ⟨by first | exact q_ea7f0ffdb1 h110 | omega, by first | exact q_31525ae3c9 h111 | omega⟩⟩
      · refine En_iald (l := 0) (u := 15) rfl h31 tgz_160 (by decide +kernel) h15 (by decide) (lnI (by decide +kernel : LN _ = 226) (by decide)) (by decide +kernel) (fun z113 h112 h114 h115 => ?_)
        refine En_Ps 1 (pc' := 36) (lv' := [(0, .ref 159), (1, .int a), (2, .int b)]) (st' := [.int z113]) rfl ?_
        exact En_ret (v := some (.int z113)) rfl rfl rfl ⟨h15, h19, z113, rfl, ⟨by first | exact q_ea7f0ffdb1 h114 | omega, by first | exact q_867a9ac627 h115 | omega⟩⟩
      · refine En_iald (l := 0) (u := 1) rfl h31 tgz_160 (by decide +kernel) h15 (by decide) (lnI (by decide +kernel : LN _ = 226) (by decide)) (by decide +kernel) (fun z117 h116 h118 h119 => ?_)
        refine En_Ps 1 (pc' := 36) (lv' := [(0, .ref 159), (1, .int a), (2, .int b)]) (st' := [.int z117]) rfl ?_
        exact En_ret (v := some (.int z117)) rfl rfl rfl ⟨h15, h19, z117, rfl, ⟨by first | exact q_ea7f0ffdb1 h118 | omega, by first | exact q_31525ae3c9 h119 | omega⟩⟩
      · refine En_iald (l := 0) (u := 15) rfl h31 tgz_160 (by decide +kernel) h15 (by decide) (lnI (by decide +kernel : LN _ = 226) (by decide)) (by decide +kernel) (fun z121 h120 h122 h123 => ?_)
        refine En_Ps 1 (pc' := 36) (lv' := [(0, .ref 159), (1, .int a), (2, .int b)]) (st' := [.int z121]) rfl ?_
        exact En_ret (v := some (.int z121)) rfl rfl rfl ⟨h15, h19, z121, rfl, ⟨by first | exact q_ea7f0ffdb1 h122 | omega, by first | exact q_867a9ac627 h123 | omega⟩⟩
      · refine En_iald (l := 0) (u := 1) rfl h31 tgz_160 (by decide +kernel) h15 (by decide) (lnI (by decide +kernel : LN _ = 226) (by decide)) (by decide +kernel) (fun z125 h124 h126 h127 => ?_)
        refine En_Ps 1 (pc' := 36) (lv' := [(0, .ref 159), (1, .int a), (2, .int b)]) (st' := [.int z125]) rfl ?_
        exact En_ret (v := some (.int z125)) rfl rfl rfl ⟨h15, h19, z125, rfl, ⟨by first | exact q_ea7f0ffdb1 h126 | omega, by first | exact q_31525ae3c9 h127 | omega⟩⟩
