/-! 33.b03 -/
section
set_option maxRecDepth 10000 in
set_option maxHeartbeats 4000000 in
theorem law_c42 {L : Nat} {xs : Nat → Int32} {P : PO} (hL : L ≤ 3072) (y : Int32) (h0 : 0 ≤ y.toInt) (h1 : y.toInt + 6 ≤ (L : Int)) (σ0 : SG) (hσ0 : WT σ0) (hC : INVc σ0) (hI : WI σ0) (hL : LHN σ0) (k : ∀ σ, WT σ → INVc σ → WI σ → LHN σ → En 2048 84000 (some (L, xs)) mr_336 P 2236 [(0, .retAddr 0), (1, .ref 0), (2, .ref 159), (3, .int y)] [] σ) : En 2048 84000 (some (L, xs)) mr_336 P 1540 [(0, .retAddr 0), (1, .ref 0), (2, .ref 159), (3, .int y)] [] σ0 := by
  obtain ⟨⟨hR, hQ, hX⟩, hCx, hBz⟩ := hL
  obtain ⟨p, p2, sg, hp, hp2, h_p, h_p2, hne, h_sg, hl_sg⟩ := id hC
  obtain ⟨-, hu_sg⟩ := WT_int hσ0 (g := 18) hp (by decide +kernel) (l := (-1)) (u := 4) (by decide +kernel) h_sg
  have hF0 : Fr [(35, 18), (35, 21), (42, 0), (43, 0), (44, 0), (45, 0), (46, 0)] σ0 σ0 := Fr_rfl
  obtain ⟨t, h_t1, h_t2, -⟩ := id hR.1
  obtain ⟨hl_t, hu_t⟩ := WT_int hσ0 (g := 1) tgz_1 (by decide +kernel) (l := 0) (u := 1600) (by decide +kernel) h_t1
  refine En_Ps 5 (pc' := 1545) (lv' := [(0, .retAddr 0), (1, .ref 0), (2, .ref 159), (3, .int y)]) (st' := [.int ((y + ((Int32.ofInt 1)))), .retAddr 0, .ref 0]) rfl ?_
  refine En_top (addI rfl (by decide : (Int32.ofInt 1).toInt = 1) (by omega) (by omega)) (fun z1 h2 => ?_)
  refine En_sld rfl rfl (by omega) (by omega) (fun z3 h4 => ?_)
  refine En_callV rfl rfl rfl rfl rfl rfl rfl rfl tgz_0 (by decide +kernel) rfl (c_101 σ0 hσ0 z3 p hp h_p sg h_sg (by omega)) (by decide) (by decide) (fun v6 σ7 h5 => ?_)
  obtain ⟨h8, h9, z11, rfl, h10⟩ := h5
  have h12 := Fr_trans hF0 h9 (by decide +kernel)
  have h13 := INVc_fr h9 (by decide +kernel) hC
  have h14 := WI_fr h9 (by decide +kernel) (by decide +kernel) hI
  refine En_Ps 6 (pc' := 1555) (lv' := [(0, .retAddr 0), (1, .ref 0), (2, .ref 159), (3, .int y)]) (st' := [.int ((y + ((Int32.ofInt 1)))), .retAddr 0, .ref 159]) rfl ?_
  refine En_top (addI rfl (by decide : (Int32.ofInt 1).toInt = 1) (by omega) (by omega)) (fun z15 h16 => ?_)
  refine En_sld rfl rfl (by omega) (by omega) (fun z17 h18 => ?_)
  have h19 : z17.toInt = z3.toInt := by rw [h18, h4, show z15.toInt = z1.toInt by omega]
  refine En_callV rfl rfl rfl rfl rfl rfl rfl rfl tgz_159 (by decide +kernel) rfl (c_191 σ7 h8 z17) (by decide) (by decide) (fun v21 σ22 h20 => ?_)
  obtain ⟨h23, h24, z26, rfl, h25⟩ := h20
  have h27 := Fr_trans h12 h24 (by decide +kernel)
  have h28 := INVc_fr h24 (by decide +kernel) h13
  have h29 := WI_fr h24 (by decide +kernel) (by decide +kernel) h14
  refine En_Ps 2 (pc' := 2236) (lv' := [(0, .retAddr 0), (1, .ref 0), (2, .ref 159), (3, .int y)]) (st' := []) rfl ?_
  have h30 : FUL σ22 := (FUL_kp hR h9 h24 (by decide +kernel) (by decide +kernel) (RDL_fr hR.1 h9 h24 (by decide +kernel) (by decide +kernel)))
  exact k _ h23 h28 h29 ⟨⟨h30, (RUT_fr hQ h9 h24 (by decide +kernel) (by decide +kernel)), (QXS_fr hX h9 h24 (by decide +kernel) (by decide +kernel))⟩, (CXS_fr hCx h9 h24 (by decide +kernel) (by decide +kernel)), (BSZ_fr hBz h9 h24 (by decide +kernel) (by decide +kernel))⟩
set_option maxRecDepth 10000 in
set_option maxHeartbeats 4000000 in
theorem law_c43 {L : Nat} {xs : Nat → Int32} {P : PO} (hL : L ≤ 3072) (y : Int32) (h0 : 0 ≤ y.toInt) (h1 : y.toInt + 6 ≤ (L : Int)) (σ0 : SG) (hσ0 : WT σ0) (hC : INVc σ0) (hI : WI σ0) (hL : LHN σ0) (k : ∀ σ, WT σ → INVc σ → WI σ → LHN σ → En 2048 84000 (some (L, xs)) mr_336 P 2236 [(0, .retAddr 0), (1, .ref 0), (2, .ref 159), (3, .int y)] [] σ) : En 2048 84000 (some (L, xs)) mr_336 P 1563 [(0, .retAddr 0), (1, .ref 0), (2, .ref 159), (3, .int y)] [] σ0 := by
  obtain ⟨⟨hR, hQ, hX⟩, hCx, hBz⟩ := hL
  obtain ⟨p, p2, sg, hp, hp2, h_p, h_p2, hne, h_sg, hl_sg⟩ := id hC
  obtain ⟨-, hu_sg⟩ := WT_int hσ0 (g := 18) hp (by decide +kernel) (l := (-1)) (u := 4) (by decide +kernel) h_sg
  have hF0 : Fr [(28, 3), (36, 0)] σ0 σ0 := Fr_rfl
  obtain ⟨t, h_t1, h_t2, -⟩ := id hR.1
  obtain ⟨hl_t, hu_t⟩ := WT_int hσ0 (g := 1) tgz_1 (by decide +kernel) (l := 0) (u := 1600) (by decide +kernel) h_t1
  refine En_Ps 5 (pc' := 1568) (lv' := [(0, .retAddr 0), (1, .ref 0), (2, .ref 159), (3, .int y)]) (st' := [.int ((y + ((Int32.ofInt 1)))), .retAddr 0, .ref 0]) rfl ?_
  refine En_top (addI rfl (by decide : (Int32.ofInt 1).toInt = 1) (by omega) (by omega)) (fun z1 h2 => ?_)
  refine En_sld rfl rfl (by omega) (by omega) (fun z3 h4 => ?_)
  refine En_Ps 4 (pc' := 1573) (lv' := [(0, .retAddr 0), (1, .ref 0), (2, .ref 159), (3, .int y)]) (st' := [.int ((y + ((Int32.ofInt 2)))), .retAddr 0, .int z3, .ref 0]) rfl ?_
  refine En_top (addI rfl (by decide : (Int32.ofInt 2).toInt = 2) (by omega) (by omega)) (fun z5 h6 => ?_)
  refine En_sld rfl rfl (by omega) (by omega) (fun z7 h8 => ?_)
  refine En_callV rfl rfl rfl rfl rfl rfl rfl rfl tgz_0 (by decide +kernel) rfl (c_109x σ0 hσ0 z3 z7 p hp h_p sg h_sg (by omega) (PLA_of hp) (FXP_p hR.1 hp) (hR.2.2.2.1 p h_p).2) (by decide) (by decide) (fun v10 σ11 h9 => ?_)
  obtain ⟨h12, h13, z15, rfl, h14⟩ := h9
  have h16 := h14.2.2
  have h17 := Fr_trans hF0 h13 (by decide +kernel)
  have h18 := INVc_fr h13 (by decide +kernel) hC
  have h19 := WI_fr h13 (by decide +kernel) (by decide +kernel) hI
  refine En_Ps 6 (pc' := 1583) (lv' := [(0, .retAddr 0), (1, .ref 0), (2, .ref 159), (3, .int y)]) (st' := [.int ((y + ((Int32.ofInt 1)))), .retAddr 0, .ref 159]) rfl ?_
  refine En_top (addI rfl (by decide : (Int32.ofInt 1).toInt = 1) (by omega) (by omega)) (fun z20 h21 => ?_)
  refine En_sld rfl rfl (by omega) (by omega) (fun z22 h23 => ?_)
  have h24 : z22.toInt = z3.toInt := by rw [h23, h4, show z20.toInt = z1.toInt by omega]
  refine En_Ps 4 (pc' := 1588) (lv' := [(0, .retAddr 0), (1, .ref 0), (2, .ref 159), (3, .int y)]) (st' := [.int ((y + ((Int32.ofInt 2)))), .retAddr 0, .int z22, .ref 159]) rfl ?_
  refine En_top (addI rfl (by decide : (Int32.ofInt 2).toInt = 2) (by omega) (by omega)) (fun z25 h26 => ?_)
  refine En_sld rfl rfl (by omega) (by omega) (fun z27 h28 => ?_)
  have h29 : z27.toInt = z7.toInt := by rw [h28, h8, show z25.toInt = z5.toInt by omega]
  refine En_callV rfl rfl rfl rfl rfl rfl rfl rfl tgz_159 (by decide +kernel) rfl (c_205x σ11 h12 z22 z27 (by rw [wf_fr h13 (by decide +kernel)]; exact hR.2.2.2.2.1)) (by decide) (by decide) (fun v31 σ32 h30 => ?_)
  obtain ⟨h33, h34, z36, rfl, h35⟩ := h30
  have h37 := h35.2.2
  have h38 := Fr_trans h17 h34 (by decide +kernel)
  have h39 := INVc_fr h34 (by decide +kernel) h18
  have h40 := WI_w h34 (by decide +kernel) h19 (WINV_sam h37.1 h19.1)
  refine En_Ps 2 (pc' := 2236) (lv' := [(0, .retAddr 0), (1, .ref 0), (2, .ref 159), (3, .int y)]) (st' := []) rfl ?_
  have h41 : FUL σ32 := (FUL_ch hR h33 h_p h13 h34 (RDL_fr hR.1 h13 h34 (by decide +kernel) (by decide +kernel)) (by decide +kernel) (by decide +kernel) h16 (fun i i0 i1 => (h37.2 i i0 i1).trans (congrFun (cyW_cg (wf_fr h13 (by decide +kernel)) (by omega) (by omega)) i)) (cyW_twn hR.2.2.2.2.1 (NNw_w hσ0).2.1) (cy_tg hR.2.2.2.2.2.1 (NNw_w hσ0)))
  have h42 := cy7 (w := wf σ0) (d := z3.toInt) (o := z7.toInt)
  exact k _ h33 h39 h40 ⟨⟨h41, (RUT_ch hQ h13 h34 (by decide +kernel) (by decide +kernel) (fun i i0 i1 => (h37.2 i i0 i1).trans (congrFun (cyW_cg (wf_fr h13 (by decide +kernel)) (by omega) (by omega)) i)) h42.1 h42.2.2), (QXS_w hX h13 h34 (by decide +kernel) (by decide +kernel) (fun i i0 i1 => (h37.2 i i0 i1).trans (congrFun (cyW_cg (wf_fr h13 (by decide +kernel)) (by omega) (by omega)) i)) h42.2.1 h42.2.2)⟩, (CXS_w hCx h13 h34 (by decide +kernel) (by decide +kernel) (fun i i0 i1 => (h37.2 i i0 i1).trans (congrFun (cyW_cg (wf_fr h13 (by decide +kernel)) (by omega) (by omega)) i)) (cyX (NNw_w hσ0))), (BSZ_fr hBz h13 h34 (by decide +kernel) (by decide +kernel))⟩
set_option maxRecDepth 10000 in
set_option maxHeartbeats 4000000 in
theorem law_c44 {L : Nat} {xs : Nat → Int32} {P : PO} (hL : L ≤ 3072) (y : Int32) (h0 : 0 ≤ y.toInt) (h1 : y.toInt + 6 ≤ (L : Int)) (σ0 : SG) (hσ0 : WT σ0) (hC : INVc σ0) (hI : WI σ0) (hL : LHN σ0) (k : ∀ σ, WT σ → INVc σ → WI σ → LHN σ → En 2048 84000 (some (L, xs)) mr_336 P 2236 [(0, .retAddr 0), (1, .ref 0), (2, .ref 159), (3, .int y)] [] σ) : En 2048 84000 (some (L, xs)) mr_336 P 1596 [(0, .retAddr 0), (1, .ref 0), (2, .ref 159), (3, .int y)] [] σ0 := by
  obtain ⟨⟨hR, hQ, hX⟩, hCx, hBz⟩ := hL
  obtain ⟨p, p2, sg, hp, hp2, h_p, h_p2, hne, h_sg, hl_sg⟩ := id hC
  obtain ⟨-, hu_sg⟩ := WT_int hσ0 (g := 18) hp (by decide +kernel) (l := (-1)) (u := 4) (by decide +kernel) h_sg
  have hF0 : Fr [(10, 3), (10, 4), (10, 5), (11, 0), (12, 0), (13, 0), (35, 18), (35, 21), (35, 26), (42, 0), (43, 0), (44, 0), (45, 0), (46, 0), (47, 0), (48, 0)] σ0 σ0 := Fr_rfl
  obtain ⟨t, h_t1, h_t2, -⟩ := id hR.1
  obtain ⟨hl_t, hu_t⟩ := WT_int hσ0 (g := 1) tgz_1 (by decide +kernel) (l := 0) (u := 1600) (by decide +kernel) h_t1
  refine En_Ps 1 (pc' := 1597) (lv' := [(0, .retAddr 0), (1, .ref 0), (2, .ref 159), (3, .int y)]) (st' := [.ref 0]) rfl ?_
  refine En_callV rfl rfl rfl rfl rfl rfl rfl rfl tgz_0 (by decide +kernel) rfl (c_133 σ0 hσ0 p hp h_p sg h_sg (by omega)) (by decide) (by decide) (fun v2 σ3 h1 => ?_)
  obtain ⟨h4, h5, z7, rfl, h6⟩ := h1
  have h8 := Fr_trans hF0 h5 (by decide +kernel)
  have h9 := INVc_fr h5 (by decide +kernel) hC
  have h10 := WI_fr h5 (by decide +kernel) (by decide +kernel) hI
  refine En_Ps 2 (pc' := 1602) (lv' := [(0, .retAddr 0), (1, .ref 0), (2, .ref 159), (3, .int y)]) (st' := [.ref 159]) rfl ?_
  refine En_callV rfl rfl rfl rfl rfl rfl rfl rfl tgz_159 (by decide +kernel) rfl (c_239 σ3 h4) (by decide) (by decide) (fun v12 σ13 h11 => ?_)
  obtain ⟨h14, h15, z17, rfl, h16⟩ := h11
  have h18 := Fr_trans h8 h15 (by decide +kernel)
  have h19 := INVc_fr h15 (by decide +kernel) h9
  have h20 := WI_fr h15 (by decide +kernel) (by decide +kernel) h10
  refine En_Ps 2 (pc' := 2236) (lv' := [(0, .retAddr 0), (1, .ref 0), (2, .ref 159), (3, .int y)]) (st' := []) rfl ?_
  have h21 : FUL σ13 := (FUL_kp hR h5 h15 (by decide +kernel) (by decide +kernel) (RDL_fr hR.1 h5 h15 (by decide +kernel) (by decide +kernel)))
  exact k _ h14 h19 h20 ⟨⟨h21, (RUT_fr hQ h5 h15 (by decide +kernel) (by decide +kernel)), (QXS_fr hX h5 h15 (by decide +kernel) (by decide +kernel))⟩, (CXS_fr hCx h5 h15 (by decide +kernel) (by decide +kernel)), (BSZ_fr hBz h5 h15 (by decide +kernel) (by decide +kernel))⟩
set_option maxRecDepth 10000 in
set_option maxHeartbeats 4000000 in
theorem law_c45 {L : Nat} {xs : Nat → Int32} {P : PO} (hL : L ≤ 3072) (y : Int32) (h0 : 0 ≤ y.toInt) (h1 : y.toInt + 6 ≤ (L : Int)) (σ0 : SG) (hσ0 : WT σ0) (hC : INVc σ0) (hI : WI σ0) (hL : LHN σ0) (k : ∀ σ, WT σ → INVc σ → WI σ → LHN σ → En 2048 84000 (some (L, xs)) mr_336 P 2236 [(0, .retAddr 0), (1, .ref 0), (2, .ref 159), (3, .int y)] [] σ) : En 2048 84000 (some (L, xs)) mr_336 P 1609 [(0, .retAddr 0), (1, .ref 0), (2, .ref 159), (3, .int y)] [] σ0 := by
  obtain ⟨⟨hR, hQ, hX⟩, hCx, hBz⟩ := hL
  obtain ⟨p, p2, sg, hp, hp2, h_p, h_p2, hne, h_sg, hl_sg⟩ := id hC
  obtain ⟨-, hu_sg⟩ := WT_int hσ0 (g := 18) hp (by decide +kernel) (l := (-1)) (u := 4) (by decide +kernel) h_sg
  have hF0 : Fr [(10, 3), (10, 4), (10, 5), (11, 0), (12, 0), (13, 0), (35, 18), (35, 21), (35, 26), (42, 0), (43, 0), (44, 0), (45, 0), (46, 0), (47, 0), (48, 0)] σ0 σ0 := Fr_rfl
  obtain ⟨t, h_t1, h_t2, -⟩ := id hR.1
  obtain ⟨hl_t, hu_t⟩ := WT_int hσ0 (g := 1) tgz_1 (by decide +kernel) (l := 0) (u := 1600) (by decide +kernel) h_t1
  refine En_Ps 5 (pc' := 1614) (lv' := [(0, .retAddr 0), (1, .ref 0), (2, .ref 159), (3, .int y)]) (st' := [.int ((y + ((Int32.ofInt 1)))), .retAddr 0, .ref 0]) rfl ?_
  refine En_top (addI rfl (by decide : (Int32.ofInt 1).toInt = 1) (by omega) (by omega)) (fun z1 h2 => ?_)
  refine En_sld rfl rfl (by omega) (by omega) (fun z3 h4 => ?_)
  refine En_callV rfl rfl rfl rfl rfl rfl rfl rfl tgz_0 (by decide +kernel) rfl (c_140 σ0 hσ0 z3 p hp h_p sg h_sg (by omega)) (by decide) (by decide) (fun v6 σ7 h5 => ?_)
  obtain ⟨h8, h9, z11, rfl, h10⟩ := h5
  have h12 := Fr_trans hF0 h9 (by decide +kernel)
  have h13 := INVc_fr h9 (by decide +kernel) hC
  have h14 := WI_fr h9 (by decide +kernel) (by decide +kernel) hI
  refine En_Ps 6 (pc' := 1624) (lv' := [(0, .retAddr 0), (1, .ref 0), (2, .ref 159), (3, .int y)]) (st' := [.int ((y + ((Int32.ofInt 1)))), .retAddr 0, .ref 159]) rfl ?_
  refine En_top (addI rfl (by decide : (Int32.ofInt 1).toInt = 1) (by omega) (by omega)) (fun z15 h16 => ?_)
  refine En_sld rfl rfl (by omega) (by omega) (fun z17 h18 => ?_)
  have h19 : z17.toInt = z3.toInt := by rw [h18, h4, show z15.toInt = z1.toInt by omega]
  refine En_callV rfl rfl rfl rfl rfl rfl rfl rfl tgz_159 (by decide +kernel) rfl (c_246 σ7 h8 z17) (by decide) (by decide) (fun v21 σ22 h20 => ?_)
  obtain ⟨h23, h24, z26, rfl, h25⟩ := h20
  have h27 := Fr_trans h12 h24 (by decide +kernel)
  have h28 := INVc_fr h24 (by decide +kernel) h13
  have h29 := WI_fr h24 (by decide +kernel) (by decide +kernel) h14
  refine En_Ps 2 (pc' := 2236) (lv' := [(0, .retAddr 0), (1, .ref 0), (2, .ref 159), (3, .int y)]) (st' := []) rfl ?_
  have h30 : FUL σ22 := (FUL_kp hR h9 h24 (by decide +kernel) (by decide +kernel) (RDL_fr hR.1 h9 h24 (by decide +kernel) (by decide +kernel)))
  exact k _ h23 h28 h29 ⟨⟨h30, (RUT_fr hQ h9 h24 (by decide +kernel) (by decide +kernel)), (QXS_fr hX h9 h24 (by decide +kernel) (by decide +kernel))⟩, (CXS_fr hCx h9 h24 (by decide +kernel) (by decide +kernel)), (BSZ_fr hBz h9 h24 (by decide +kernel) (by decide +kernel))⟩
set_option maxRecDepth 10000 in
set_option maxHeartbeats 4000000 in
theorem law_c46 {L : Nat} {xs : Nat → Int32} {P : PO} (hL : L ≤ 3072) (y : Int32) (h0 : 0 ≤ y.toInt) (h1 : y.toInt + 6 ≤ (L : Int)) (σ0 : SG) (hσ0 : WT σ0) (hC : INVc σ0) (hI : WI σ0) (hL : LHN σ0) (k : ∀ σ, WT σ → INVc σ → WI σ → LHN σ → En 2048 84000 (some (L, xs)) mr_336 P 2236 [(0, .retAddr 0), (1, .ref 0), (2, .ref 159), (3, .int y)] [] σ) : En 2048 84000 (some (L, xs)) mr_336 P 1632 [(0, .retAddr 0), (1, .ref 0), (2, .ref 159), (3, .int y)] [] σ0 := by
  obtain ⟨⟨hR, hQ, hX⟩, hCx, hBz⟩ := hL
  obtain ⟨p, p2, sg, hp, hp2, h_p, h_p2, hne, h_sg, hl_sg⟩ := id hC
  obtain ⟨-, hu_sg⟩ := WT_int hσ0 (g := 18) hp (by decide +kernel) (l := (-1)) (u := 4) (by decide +kernel) h_sg
  have hF0 : Fr [(35, 18), (35, 21), (42, 0), (43, 0), (44, 0), (45, 0), (46, 0)] σ0 σ0 := Fr_rfl
  obtain ⟨t, h_t1, h_t2, -⟩ := id hR.1
  obtain ⟨hl_t, hu_t⟩ := WT_int hσ0 (g := 1) tgz_1 (by decide +kernel) (l := 0) (u := 1600) (by decide +kernel) h_t1
  refine En_Ps 5 (pc' := 1637) (lv' := [(0, .retAddr 0), (1, .ref 0), (2, .ref 159), (3, .int y)]) (st' := [.int ((y + ((Int32.ofInt 1)))), .retAddr 0, .ref 0]) rfl ?_
  refine En_top (addI rfl (by decide : (Int32.ofInt 1).toInt = 1) (by omega) (by omega)) (fun z1 h2 => ?_)
  refine En_sld rfl rfl (by omega) (by omega) (fun z3 h4 => ?_)
  refine En_Ps 4 (pc' := 1642) (lv' := [(0, .retAddr 0), (1, .ref 0), (2, .ref 159), (3, .int y)]) (st' := [.int ((y + ((Int32.ofInt 2)))), .retAddr 0, .int z3, .ref 0]) rfl ?_
  refine En_top (addI rfl (by decide : (Int32.ofInt 2).toInt = 2) (by omega) (by omega)) (fun z5 h6 => ?_)
  refine En_sld rfl rfl (by omega) (by omega) (fun z7 h8 => ?_)
  refine En_callV rfl rfl rfl rfl rfl rfl rfl rfl tgz_0 (by decide +kernel) rfl (c_102 σ0 hσ0 z3 z7 p hp h_p sg h_sg (by omega)) (by decide) (by decide) (fun v10 σ11 h9 => ?_)
  obtain ⟨h12, h13, z15, rfl, h14⟩ := h9
  have h16 := Fr_trans hF0 h13 (by decide +kernel)
  have h17 := INVc_fr h13 (by decide +kernel) hC
  have h18 := WI_fr h13 (by decide +kernel) (by decide +kernel) hI
  refine En_Ps 6 (pc' := 1652) (lv' := [(0, .retAddr 0), (1, .ref 0), (2, .ref 159), (3, .int y)]) (st' := [.int ((y + ((Int32.ofInt 1)))), .retAddr 0, .ref 159]) rfl ?_
  refine En_top (addI rfl (by decide : (Int32.ofInt 1).toInt = 1) (by omega) (by omega)) (fun z19 h20 => ?_)
  refine En_sld rfl rfl (by omega) (by omega) (fun z21 h22 => ?_)
  have h23 : z21.toInt = z3.toInt := by rw [h22, h4, show z19.toInt = z1.toInt by omega]
  refine En_Ps 4 (pc' := 1657) (lv' := [(0, .retAddr 0), (1, .ref 0), (2, .ref 159), (3, .int y)]) (st' := [.int ((y + ((Int32.ofInt 2)))), .retAddr 0, .int z21, .ref 159]) rfl ?_
  refine En_top (addI rfl (by decide : (Int32.ofInt 2).toInt = 2) (by omega) (by omega)) (fun z24 h25 => ?_)
  refine En_sld rfl rfl (by omega) (by omega) (fun z26 h27 => ?_)
  have h28 : z26.toInt = z7.toInt := by rw [h27, h8, show z24.toInt = z5.toInt by omega]
  refine En_callV rfl rfl rfl rfl rfl rfl rfl rfl tgz_159 (by decide +kernel) rfl (c_193 σ11 h12 z21 z26) (by decide) (by decide) (fun v30 σ31 h29 => ?_)
  obtain ⟨h32, h33, z35, rfl, h34⟩ := h29
  have h36 := Fr_trans h16 h33 (by decide +kernel)
  have h37 := INVc_fr h33 (by decide +kernel) h17
  have h38 := WI_fr h33 (by decide +kernel) (by decide +kernel) h18
  refine En_Ps 2 (pc' := 2236) (lv' := [(0, .retAddr 0), (1, .ref 0), (2, .ref 159), (3, .int y)]) (st' := []) rfl ?_
  have h39 : FUL σ31 := (FUL_kp hR h13 h33 (by decide +kernel) (by decide +kernel) (RDL_fr hR.1 h13 h33 (by decide +kernel) (by decide +kernel)))
  exact k _ h32 h37 h38 ⟨⟨h39, (RUT_fr hQ h13 h33 (by decide +kernel) (by decide +kernel)), (QXS_fr hX h13 h33 (by decide +kernel) (by decide +kernel))⟩, (CXS_fr hCx h13 h33 (by decide +kernel) (by decide +kernel)), (BSZ_fr hBz h13 h33 (by decide +kernel) (by decide +kernel))⟩
set_option maxRecDepth 10000 in
set_option maxHeartbeats 4000000 in
theorem law_c47 {L : Nat} {xs : Nat → Int32} {P : PO} (hL : L ≤ 3072) (y : Int32) (h0 : 0 ≤ y.toInt) (h1 : y.toInt + 6 ≤ (L : Int)) (σ0 : SG) (hσ0 : WT σ0) (hC : INVc σ0) (hI : WI σ0) (hL : LHN σ0) (k : ∀ σ, WT σ → INVc σ → WI σ → LHN σ → En 2048 84000 (some (L, xs)) mr_336 P 2236 [(0, .retAddr 0), (1, .ref 0), (2, .ref 159), (3, .int y)] [] σ) : En 2048 84000 (some (L, xs)) mr_336 P 1665 [(0, .retAddr 0), (1, .ref 0), (2, .ref 159), (3, .int y)] [] σ0 := by
  obtain ⟨⟨hR, hQ, hX⟩, hCx, hBz⟩ := hL
  obtain ⟨p, p2, sg, hp, hp2, h_p, h_p2, hne, h_sg, hl_sg⟩ := id hC
  obtain ⟨-, hu_sg⟩ := WT_int hσ0 (g := 18) hp (by decide +kernel) (l := (-1)) (u := 4) (by decide +kernel) h_sg
  have hF0 : Fr [(35, 18), (42, 0), (43, 0), (44, 0)] σ0 σ0 := Fr_rfl
  obtain ⟨t, h_t1, h_t2, -⟩ := id hR.1
  obtain ⟨hl_t, hu_t⟩ := WT_int hσ0 (g := 1) tgz_1 (by decide +kernel) (l := 0) (u := 1600) (by decide +kernel) h_t1
  refine En_Ps 5 (pc' := 1670) (lv' := [(0, .retAddr 0), (1, .ref 0), (2, .ref 159), (3, .int y)]) (st' := [.int ((y + ((Int32.ofInt 1)))), .retAddr 0, .ref 0]) rfl ?_
  refine En_top (addI rfl (by decide : (Int32.ofInt 1).toInt = 1) (by omega) (by omega)) (fun z1 h2 => ?_)
  refine En_sld rfl rfl (by omega) (by omega) (fun z3 h4 => ?_)
  refine En_callV rfl rfl rfl rfl rfl rfl rfl rfl tgz_0 (by decide +kernel) rfl (c_124 σ0 hσ0 z3 p hp h_p sg h_sg (by omega)) (by decide) (by decide) (fun v6 σ7 h5 => ?_)
  obtain ⟨h8, h9, z11, rfl, h10⟩ := h5
  have h12 := Fr_trans hF0 h9 (by decide +kernel)
  have h13 := INVc_fr h9 (by decide +kernel) hC
  have h14 := WI_fr h9 (by decide +kernel) (by decide +kernel) hI
  refine En_Ps 6 (pc' := 1680) (lv' := [(0, .retAddr 0), (1, .ref 0), (2, .ref 159), (3, .int y)]) (st' := [.int ((y + ((Int32.ofInt 1)))), .retAddr 0, .ref 159]) rfl ?_
  refine En_top (addI rfl (by decide : (Int32.ofInt 1).toInt = 1) (by omega) (by omega)) (fun z15 h16 => ?_)
  refine En_sld rfl rfl (by omega) (by omega) (fun z17 h18 => ?_)
  have h19 : z17.toInt = z3.toInt := by rw [h18, h4, show z15.toInt = z1.toInt by omega]
  refine En_callV rfl rfl rfl rfl rfl rfl rfl rfl tgz_159 (by decide +kernel) rfl (c_230 σ7 h8 z17) (by decide) (by decide) (fun v21 σ22 h20 => ?_)
  obtain ⟨h23, h24, z26, rfl, h25⟩ := h20
  have h27 := Fr_trans h12 h24 (by decide +kernel)
  have h28 := INVc_fr h24 (by decide +kernel) h13
  have h29 := WI_fr h24 (by decide +kernel) (by decide +kernel) h14
  refine En_Ps 2 (pc' := 2236) (lv' := [(0, .retAddr 0), (1, .ref 0), (2, .ref 159), (3, .int y)]) (st' := []) rfl ?_
  have h30 : FUL σ22 := (FUL_kp hR h9 h24 (by decide +kernel) (by decide +kernel) (RDL_fr hR.1 h9 h24 (by decide +kernel) (by decide +kernel)))
  exact k _ h23 h28 h29 ⟨⟨h30, (RUT_fr hQ h9 h24 (by decide +kernel) (by decide +kernel)), (QXS_fr hX h9 h24 (by decide +kernel) (by decide +kernel))⟩, (CXS_fr hCx h9 h24 (by decide +kernel) (by decide +kernel)), (BSZ_fr hBz h9 h24 (by decide +kernel) (by decide +kernel))⟩
set_option maxRecDepth 10000 in
set_option maxHeartbeats 4000000 in
theorem law_c48 {L : Nat} {xs : Nat → Int32} {P : PO} (hL : L ≤ 3072) (y : Int32) (h0 : 0 ≤ y.toInt) (h1 : y.toInt + 6 ≤ (L : Int)) (σ0 : SG) (hσ0 : WT σ0) (hC : INVc σ0) (hI : WI σ0) (hL : LHN σ0) (k : ∀ σ, WT σ → INVc σ → WI σ → LHN σ → En 2048 84000 (some (L, xs)) mr_336 P 2236 [(0, .retAddr 0), (1, .ref 0), (2, .ref 159), (3, .int y)] [] σ) : En 2048 84000 (some (L, xs)) mr_336 P 1688 [(0, .retAddr 0), (1, .ref 0), (2, .ref 159), (3, .int y)] [] σ0 := by
  obtain ⟨⟨hR, hQ, hX⟩, hCx, hBz⟩ := hL
  obtain ⟨p, p2, sg, hp, hp2, h_p, h_p2, hne, h_sg, hl_sg⟩ := id hC
  obtain ⟨-, hu_sg⟩ := WT_int hσ0 (g := 18) hp (by decide +kernel) (l := (-1)) (u := 4) (by decide +kernel) h_sg
  have hF0 : Fr [(35, 18), (42, 0), (43, 0), (44, 0)] σ0 σ0 := Fr_rfl
  obtain ⟨t, h_t1, h_t2, -⟩ := id hR.1
  obtain ⟨hl_t, hu_t⟩ := WT_int hσ0 (g := 1) tgz_1 (by decide +kernel) (l := 0) (u := 1600) (by decide +kernel) h_t1
  refine En_Ps 5 (pc' := 1693) (lv' := [(0, .retAddr 0), (1, .ref 0), (2, .ref 159), (3, .int y)]) (st' := [.int ((y + ((Int32.ofInt 1)))), .retAddr 0, .ref 0]) rfl ?_
  refine En_top (addI rfl (by decide : (Int32.ofInt 1).toInt = 1) (by omega) (by omega)) (fun z1 h2 => ?_)
  refine En_sld rfl rfl (by omega) (by omega) (fun z3 h4 => ?_)
  refine En_Ps 4 (pc' := 1698) (lv' := [(0, .retAddr 0), (1, .ref 0), (2, .ref 159), (3, .int y)]) (st' := [.int ((y + ((Int32.ofInt 2)))), .retAddr 0, .int z3, .ref 0]) rfl ?_
  refine En_top (addI rfl (by decide : (Int32.ofInt 2).toInt = 2) (by omega) (by omega)) (fun z5 h6 => ?_)
  refine En_sld rfl rfl (by omega) (by omega) (fun z7 h8 => ?_)
  refine En_callV rfl rfl rfl rfl rfl rfl rfl rfl tgz_0 (by decide +kernel) rfl (c_173 σ0 hσ0 z3 z7 p hp h_p sg h_sg (by omega)) (by decide) (by decide) (fun v10 σ11 h9 => ?_)
  obtain ⟨h12, h13, z15, rfl, h14⟩ := h9
  have h16 := Fr_trans hF0 h13 (by decide +kernel)
  have h17 := INVc_fr h13 (by decide +kernel) hC
  have h18 := WI_fr h13 (by decide +kernel) (by decide +kernel) hI
  refine En_Ps 6 (pc' := 1708) (lv' := [(0, .retAddr 0), (1, .ref 0), (2, .ref 159), (3, .int y)]) (st' := [.int ((y + ((Int32.ofInt 1)))), .retAddr 0, .ref 159]) rfl ?_
  refine En_top (addI rfl (by decide : (Int32.ofInt 1).toInt = 1) (by omega) (by omega)) (fun z19 h20 => ?_)
  refine En_sld rfl rfl (by omega) (by omega) (fun z21 h22 => ?_)
  have h23 : z21.toInt = z3.toInt := by rw [h22, h4, show z19.toInt = z1.toInt by omega]
  refine En_Ps 4 (pc' := 1713) (lv' := [(0, .retAddr 0), (1, .ref 0), (2, .ref 159), (3, .int y)]) (st' := [.int ((y + ((Int32.ofInt 2)))), .retAddr 0, .int z21, .ref 159]) rfl ?_
  refine En_top (addI rfl (by decide : (Int32.ofInt 2).toInt = 2) (by omega) (by omega)) (fun z24 h25 => ?_)
  refine En_sld rfl rfl (by omega) (by omega) (fun z26 h27 => ?_)
  have h28 : z26.toInt = z7.toInt := by rw [h27, h8, show z24.toInt = z5.toInt by omega]
  refine En_callV rfl rfl rfl rfl rfl rfl rfl rfl tgz_159 (by decide +kernel) rfl (c_317 σ11 h12 z21 z26) (by decide) (by decide) (fun v30 σ31 h29 => ?_)
  obtain ⟨h32, h33, z35, rfl, h34⟩ := h29
  have h36 := Fr_trans h16 h33 (by decide +kernel)
  have h37 := INVc_fr h33 (by decide +kernel) h17
  have h38 := WI_fr h33 (by decide +kernel) (by decide +kernel) h18
  refine En_Ps 2 (pc' := 2236) (lv' := [(0, .retAddr 0), (1, .ref 0), (2, .ref 159), (3, .int y)]) (st' := []) rfl ?_
  have h39 : FUL σ31 := (FUL_kp hR h13 h33 (by decide +kernel) (by decide +kernel) (RDL_fr hR.1 h13 h33 (by decide +kernel) (by decide +kernel)))
  exact k _ h32 h37 h38 ⟨⟨h39, (RUT_fr hQ h13 h33 (by decide +kernel) (by decide +kernel)), (QXS_fr hX h13 h33 (by decide +kernel) (by decide +kernel))⟩, (CXS_fr hCx h13 h33 (by decide +kernel) (by decide +kernel)), (BSZ_fr hBz h13 h33 (by decide +kernel) (by decide +kernel))⟩
set_option maxRecDepth 10000 in
set_option maxHeartbeats 4000000 in
theorem law_c49 {L : Nat} {xs : Nat → Int32} {P : PO} (hL : L ≤ 3072) (y : Int32) (h0 : 0 ≤ y.toInt) (h1 : y.toInt + 6 ≤ (L : Int)) (σ0 : SG) (hσ0 : WT σ0) (hC : INVc σ0) (hI : WI σ0) (hL : LHN σ0) (k : ∀ σ, WT σ → INVc σ → WI σ → LHN σ → En 2048 84000 (some (L, xs)) mr_336 P 2236 [(0, .retAddr 0), (1, .ref 0), (2, .ref 159), (3, .int y)] [] σ) : En 2048 84000 (some (L, xs)) mr_336 P 1721 [(0, .retAddr 0), (1, .ref 0), (2, .ref 159), (3, .int y)] [] σ0 := by
  obtain ⟨⟨hR, hQ, hX⟩, hCx, hBz⟩ := hL
  obtain ⟨p, p2, sg, hp, hp2, h_p, h_p2, hne, h_sg, hl_sg⟩ := id hC
  obtain ⟨-, hu_sg⟩ := WT_int hσ0 (g := 18) hp (by decide +kernel) (l := (-1)) (u := 4) (by decide +kernel) h_sg
  have hF0 : Fr [(35, 18), (42, 0), (43, 0), (44, 0)] σ0 σ0 := Fr_rfl
  obtain ⟨t, h_t1, h_t2, -⟩ := id hR.1
  obtain ⟨hl_t, hu_t⟩ := WT_int hσ0 (g := 1) tgz_1 (by decide +kernel) (l := 0) (u := 1600) (by decide +kernel) h_t1
  refine En_Ps 5 (pc' := 1726) (lv' := [(0, .retAddr 0), (1, .ref 0), (2, .ref 159), (3, .int y)]) (st' := [.int ((y + ((Int32.ofInt 1)))), .retAddr 0, .ref 0]) rfl ?_
  refine En_top (addI rfl (by decide : (Int32.ofInt 1).toInt = 1) (by omega) (by omega)) (fun z1 h2 => ?_)
  refine En_sld rfl rfl (by omega) (by omega) (fun z3 h4 => ?_)
  refine En_callV rfl rfl rfl rfl rfl rfl rfl rfl tgz_0 (by decide +kernel) rfl (c_103 σ0 hσ0 z3 p hp h_p sg h_sg (by omega)) (by decide) (by decide) (fun v6 σ7 h5 => ?_)
  obtain ⟨h8, h9, z11, rfl, h10⟩ := h5
  have h12 := Fr_trans hF0 h9 (by decide +kernel)
  have h13 := INVc_fr h9 (by decide +kernel) hC
  have h14 := WI_fr h9 (by decide +kernel) (by decide +kernel) hI
  refine En_Ps 6 (pc' := 1736) (lv' := [(0, .retAddr 0), (1, .ref 0), (2, .ref 159), (3, .int y)]) (st' := [.int ((y + ((Int32.ofInt 1)))), .retAddr 0, .ref 159]) rfl ?_
  refine En_top (addI rfl (by decide : (Int32.ofInt 1).toInt = 1) (by omega) (by omega)) (fun z15 h16 => ?_)
  refine En_sld rfl rfl (by omega) (by omega) (fun z17 h18 => ?_)
  have h19 : z17.toInt = z3.toInt := by rw [h18, h4, show z15.toInt = z1.toInt by omega]
  refine En_callV rfl rfl rfl rfl rfl rfl rfl rfl tgz_159 (by decide +kernel) rfl (c_196 σ7 h8 z17) (by decide) (by decide) (fun v21 σ22 h20 => ?_)
  obtain ⟨h23, h24, z26, rfl, h25⟩ := h20
  have h27 := Fr_trans h12 h24 (by decide +kernel)
  have h28 := INVc_fr h24 (by decide +kernel) h13
  have h29 := WI_fr h24 (by decide +kernel) (by decide +kernel) h14
  refine En_Ps 2 (pc' := 2236) (lv' := [(0, .retAddr 0), (1, .ref 0), (2, .ref 159), (3, .int y)]) (st' := []) rfl ?_
  have h30 : FUL σ22 := (FUL_kp hR h9 h24 (by decide +kernel) (by decide +kernel) (RDL_fr hR.1 h9 h24 (by decide +kernel) (by decide +kernel)))
  exact k _ h23 h28 h29 ⟨⟨h30, (RUT_fr hQ h9 h24 (by decide +kernel) (by decide +kernel)), (QXS_fr hX h9 h24 (by decide +kernel) (by decide +kernel))⟩, (CXS_fr hCx h9 h24 (by decide +kernel) (by decide +kernel)), (BSZ_fr hBz h9 h24 (by decide +kernel) (by decide +kernel))⟩
set_option maxRecDepth 10000 in
set_option maxHeartbeats 4000000 in
theorem law_c50 {L : Nat} {xs : Nat → Int32} {P : PO} (hL : L ≤ 3072) (y : Int32) (h0 : 0 ≤ y.toInt) (h1 : y.toInt + 6 ≤ (L : Int)) (σ0 : SG) (hσ0 : WT σ0) (hC : INVc σ0) (hI : WI σ0) (hL : LHN σ0) (k : ∀ σ, WT σ → INVc σ → WI σ → LHN σ → En 2048 84000 (some (L, xs)) mr_336 P 2236 [(0, .retAddr 0), (1, .ref 0), (2, .ref 159), (3, .int y)] [] σ) : En 2048 84000 (some (L, xs)) mr_336 P 1744 [(0, .retAddr 0), (1, .ref 0), (2, .ref 159), (3, .int y)] [] σ0 := by
  obtain ⟨⟨hR, hQ, hX⟩, hCx, hBz⟩ := hL
  obtain ⟨p, p2, sg, hp, hp2, h_p, h_p2, hne, h_sg, hl_sg⟩ := id hC
  obtain ⟨-, hu_sg⟩ := WT_int hσ0 (g := 18) hp (by decide +kernel) (l := (-1)) (u := 4) (by decide +kernel) h_sg
  have hF0 : Fr [(35, 18), (42, 0), (43, 0), (44, 0)] σ0 σ0 := Fr_rfl
  obtain ⟨t, h_t1, h_t2, -⟩ := id hR.1
  obtain ⟨hl_t, hu_t⟩ := WT_int hσ0 (g := 1) tgz_1 (by decide +kernel) (l := 0) (u := 1600) (by decide +kernel) h_t1
  refine En_Ps 5 (pc' := 1749) (lv' := [(0, .retAddr 0), (1, .ref 0), (2, .ref 159), (3, .int y)]) (st' := [.int ((y + ((Int32.ofInt 1)))), .retAddr 0, .ref 0]) rfl ?_
  refine En_top (addI rfl (by decide : (Int32.ofInt 1).toInt = 1) (by omega) (by omega)) (fun z1 h2 => ?_)
  refine En_sld rfl rfl (by omega) (by omega) (fun z3 h4 => ?_)
  refine En_callV rfl rfl rfl rfl rfl rfl rfl rfl tgz_0 (by decide +kernel) rfl (c_151 σ0 hσ0 z3 p hp h_p sg h_sg (by omega)) (by decide) (by decide) (fun v6 σ7 h5 => ?_)
  obtain ⟨h8, h9, z11, rfl, h10⟩ := h5
  have h12 := Fr_trans hF0 h9 (by decide +kernel)
  have h13 := INVc_fr h9 (by decide +kernel) hC
  have h14 := WI_fr h9 (by decide +kernel) (by decide +kernel) hI
  refine En_Ps 6 (pc' := 1759) (lv' := [(0, .retAddr 0), (1, .ref 0), (2, .ref 159), (3, .int y)]) (st' := [.int ((y + ((Int32.ofInt 1)))), .retAddr 0, .ref 159]) rfl ?_
  refine En_top (addI rfl (by decide : (Int32.ofInt 1).toInt = 1) (by omega) (by omega)) (fun z15 h16 => ?_)
  refine En_sld rfl rfl (by omega) (by omega) (fun z17 h18 => ?_)
  have h19 : z17.toInt = z3.toInt := by rw [h18, h4, show z15.toInt = z1.toInt by omega]
  refine En_callV rfl rfl rfl rfl rfl rfl rfl rfl tgz_159 (by decide +kernel) rfl (c_278 σ7 h8 z17) (by decide) (by decide) (fun v21 σ22 h20 => ?_)
  obtain ⟨h23, h24, z26, rfl, h25⟩ := h20
  have h27 := Fr_trans h12 h24 (by decide +kernel)
  have h28 := INVc_fr h24 (by decide +kernel) h13
  have h29 := WI_fr h24 (by decide +kernel) (by decide +kernel) h14
  refine En_Ps 2 (pc' := 2236) (lv' := [(0, .retAddr 0), (1, .ref 0), (2, .ref 159), (3, .int y)]) (st' := []) rfl ?_
  have h30 : FUL σ22 := (FUL_kp hR h9 h24 (by decide +kernel) (by decide +kernel) (RDL_fr hR.1 h9 h24 (by decide +kernel) (by decide +kernel)))
  exact k _ h23 h28 h29 ⟨⟨h30, (RUT_fr hQ h9 h24 (by decide +kernel) (by decide +kernel)), (QXS_fr hX h9 h24 (by decide +kernel) (by decide +kernel))⟩, (CXS_fr hCx h9 h24 (by decide +kernel) (by decide +kernel)), (BSZ_fr hBz h9 h24 (by decide +kernel) (by decide +kernel))⟩
set_option maxRecDepth 10000 in
set_option maxHeartbeats 4000000 in
theorem law_c51 {L : Nat} {xs : Nat → Int32} {P : PO} (hL : L ≤ 3072) (y : Int32) (h0 : 0 ≤ y.toInt) (h1 : y.toInt + 6 ≤ (L : Int)) (σ0 : SG) (hσ0 : WT σ0) (hC : INVc σ0) (hI : WI σ0) (hL : LHN σ0) (k : ∀ σ, WT σ → INVc σ → WI σ → LHN σ → En 2048 84000 (some (L, xs)) mr_336 P 2236 [(0, .retAddr 0), (1, .ref 0), (2, .ref 159), (3, .int y)] [] σ) : En 2048 84000 (some (L, xs)) mr_336 P 1767 [(0, .retAddr 0), (1, .ref 0), (2, .ref 159), (3, .int y)] [] σ0 := by
  obtain ⟨⟨hR, hQ, hX⟩, hCx, hBz⟩ := hL
  obtain ⟨p, p2, sg, hp, hp2, h_p, h_p2, hne, h_sg, hl_sg⟩ := id hC
  obtain ⟨-, hu_sg⟩ := WT_int hσ0 (g := 18) hp (by decide +kernel) (l := (-1)) (u := 4) (by decide +kernel) h_sg
  have hF0 : Fr [(14, 3), (14, 4), (15, 0), (16, 0), (17, 0), (49, 0), (50, 0)] σ0 σ0 := Fr_rfl
  obtain ⟨t, h_t1, h_t2, -⟩ := id hR.1
  obtain ⟨hl_t, hu_t⟩ := WT_int hσ0 (g := 1) tgz_1 (by decide +kernel) (l := 0) (u := 1600) (by decide +kernel) h_t1
  refine En_Ps 1 (pc' := 1768) (lv' := [(0, .retAddr 0), (1, .ref 0), (2, .ref 159), (3, .int y)]) (st' := [.ref 0]) rfl ?_
  refine En_callV rfl rfl rfl rfl rfl rfl rfl rfl tgz_0 (by decide +kernel) rfl (c_137x σ0 hσ0 p hp h_p sg h_sg (by omega) (PLA_of hp) (FXP_p hR.1 hp) (hR.2.2.2.1 p h_p).2 (WFw_w hσ0) hCx.1 (n6 hσ0).1 (fun c => by rw [← tkW_wf]; exact tk9 hσ0 c) hBz hI.1) (by decide) (by decide) (fun v2 σ3 h1 => ?_)
  obtain ⟨h4, h5, z7, rfl, h6⟩ := h1
  have h8 := h6.2.2
  have h9 := Fr_trans hF0 h5 (by decide +kernel)
  have h10 := INVc_fr h5 (by decide +kernel) hC
  have h11 := WI_fr h5 (by decide +kernel) (by decide +kernel) hI
  refine En_Ps 2 (pc' := 1773) (lv' := [(0, .retAddr 0), (1, .ref 0), (2, .ref 159), (3, .int y)]) (st' := [.ref 159]) rfl ?_
  refine En_callV rfl rfl rfl rfl rfl rfl rfl rfl tgz_159 (by decide +kernel) rfl (c_244x σ3 h4 (TPOS_of h11)) (by decide) (by decide) (fun v13 σ14 h12 => ?_)
  obtain ⟨h15, h16, z18, rfl, h17⟩ := h12
  have h19 := h17.2.2
  have h20 := Fr_trans h9 h16 (by decide +kernel)
  have h21 := INVc_fr h16 (by decide +kernel) h10
  have h22 := WI_fr h16 (by decide +kernel) (by decide +kernel) h11
  refine En_Ps 2 (pc' := 2236) (lv' := [(0, .retAddr 0), (1, .ref 0), (2, .ref 159), (3, .int y)]) (st' := []) rfl ?_
  have h23 : FUL σ14 := (FUL_kp hR h5 h16 (by decide +kernel) (by decide +kernel) (RDL_fr hR.1 h5 h16 (by decide +kernel) (by decide +kernel)))
  exact k _ h15 h21 h22 ⟨⟨h23, (RUT_fr hQ h5 h16 (by decide +kernel) (by decide +kernel)), (QXS_fr hX h5 h16 (by decide +kernel) (by decide +kernel))⟩, (CXS_fr hCx h5 h16 (by decide +kernel) (by decide +kernel)), (BSZ_s hBz h8.2 h16 (by decide +kernel))⟩
set_option maxRecDepth 10000 in
set_option maxHeartbeats 4000000 in
theorem law_c52 {L : Nat} {xs : Nat → Int32} {P : PO} (hL : L ≤ 3072) (y : Int32) (h0 : 0 ≤ y.toInt) (h1 : y.toInt + 6 ≤ (L : Int)) (σ0 : SG) (hσ0 : WT σ0) (hC : INVc σ0) (hI : WI σ0) (hL : LHN σ0) (k : ∀ σ, WT σ → INVc σ → WI σ → LHN σ → En 2048 84000 (some (L, xs)) mr_336 P 2236 [(0, .retAddr 0), (1, .ref 0), (2, .ref 159), (3, .int y)] [] σ) : En 2048 84000 (some (L, xs)) mr_336 P 1780 [(0, .retAddr 0), (1, .ref 0), (2, .ref 159), (3, .int y)] [] σ0 := by
  obtain ⟨⟨hR, hQ, hX⟩, hCx, hBz⟩ := hL
  obtain ⟨p, p2, sg, hp, hp2, h_p, h_p2, hne, h_sg, hl_sg⟩ := id hC
  obtain ⟨-, hu_sg⟩ := WT_int hσ0 (g := 18) hp (by decide +kernel) (l := (-1)) (u := 4) (by decide +kernel) h_sg
  have hF0 : Fr [(14, 3), (14, 4), (15, 0), (16, 0), (17, 0), (49, 0), (50, 0), (51, 0)] σ0 σ0 := Fr_rfl
  obtain ⟨t, h_t1, h_t2, -⟩ := id hR.1
  obtain ⟨hl_t, hu_t⟩ := WT_int hσ0 (g := 1) tgz_1 (by decide +kernel) (l := 0) (u := 1600) (by decide +kernel) h_t1
  refine En_Ps 5 (pc' := 1785) (lv' := [(0, .retAddr 0), (1, .ref 0), (2, .ref 159), (3, .int y)]) (st' := [.int ((y + ((Int32.ofInt 1)))), .retAddr 0, .ref 0]) rfl ?_
  refine En_top (addI rfl (by decide : (Int32.ofInt 1).toInt = 1) (by omega) (by omega)) (fun z1 h2 => ?_)
  refine En_sld rfl rfl (by omega) (by omega) (fun z3 h4 => ?_)
  refine En_callV rfl rfl rfl rfl rfl rfl rfl rfl tgz_0 (by decide +kernel) rfl (c_106x σ0 hσ0 z3 p hp h_p sg h_sg (by omega) (PLA_of hp) (FXP_p hR.1 hp) (hR.2.2.2.1 p h_p).2 (WFw_w hσ0) hCx.1 (n6 hσ0).1 (fun c => by rw [← tkW_wf]; exact tk9 hσ0 c) hBz hI.1) (by decide) (by decide) (fun v6 σ7 h5 => ?_)
  obtain ⟨h8, h9, z11, rfl, h10⟩ := h5
  have h12 := h10.2.2
  have h13 := Fr_trans hF0 h9 (by decide +kernel)
  have h14 := INVc_fr h9 (by decide +kernel) hC
  have h15 := WI_fr h9 (by decide +kernel) (by decide +kernel) hI
  refine En_Ps 6 (pc' := 1795) (lv' := [(0, .retAddr 0), (1, .ref 0), (2, .ref 159), (3, .int y)]) (st' := [.int ((y + ((Int32.ofInt 1)))), .retAddr 0, .ref 159]) rfl ?_
  refine En_top (addI rfl (by decide : (Int32.ofInt 1).toInt = 1) (by omega) (by omega)) (fun z16 h17 => ?_)
  refine En_sld rfl rfl (by omega) (by omega) (fun z18 h19 => ?_)
  have h20 : z18.toInt = z3.toInt := by rw [h19, h4, show z16.toInt = z1.toInt by omega]
  refine En_callV rfl rfl rfl rfl rfl rfl rfl rfl tgz_159 (by decide +kernel) rfl (c_200 σ7 h8 z18 (TPOS_of h15)) (by decide) (by decide) (fun v22 σ23 h21 => ?_)
  obtain ⟨h24, h25, z27, rfl, h26⟩ := h21
  have h28 := Fr_trans h13 h25 (by decide +kernel)
  have h29 := INVc_fr h25 (by decide +kernel) h14
  have h30 := WI_fr h25 (by decide +kernel) (by decide +kernel) h15
  refine En_Ps 2 (pc' := 2236) (lv' := [(0, .retAddr 0), (1, .ref 0), (2, .ref 159), (3, .int y)]) (st' := []) rfl ?_
  have h31 : FUL σ23 := (FUL_kp hR h9 h25 (by decide +kernel) (by decide +kernel) (RDL_fr hR.1 h9 h25 (by decide +kernel) (by decide +kernel)))
  exact k _ h24 h29 h30 ⟨⟨h31, (RUT_fr hQ h9 h25 (by decide +kernel) (by decide +kernel)), (QXS_fr hX h9 h25 (by decide +kernel) (by decide +kernel))⟩, (CXS_fr hCx h9 h25 (by decide +kernel) (by decide +kernel)), (BSZ_s hBz h12 h25 (by decide +kernel))⟩
set_option maxRecDepth 10000 in
set_option maxHeartbeats 4000000 in
theorem law_c53 {L : Nat} {xs : Nat → Int32} {P : PO} (hL : L ≤ 3072) (y : Int32) (h0 : 0 ≤ y.toInt) (h1 : y.toInt + 6 ≤ (L : Int)) (σ0 : SG) (hσ0 : WT σ0) (hC : INVc σ0) (hI : WI σ0) (hL : LHN σ0) (k : ∀ σ, WT σ → INVc σ → WI σ → LHN σ → En 2048 84000 (some (L, xs)) mr_336 P 2236 [(0, .retAddr 0), (1, .ref 0), (2, .ref 159), (3, .int y)] [] σ) : En 2048 84000 (some (L, xs)) mr_336 P 1803 [(0, .retAddr 0), (1, .ref 0), (2, .ref 159), (3, .int y)] [] σ0 := by
  obtain ⟨⟨hR, hQ, hX⟩, hCx, hBz⟩ := hL
  obtain ⟨p, p2, sg, hp, hp2, h_p, h_p2, hne, h_sg, hl_sg⟩ := id hC
  obtain ⟨-, hu_sg⟩ := WT_int hσ0 (g := 18) hp (by decide +kernel) (l := (-1)) (u := 4) (by decide +kernel) h_sg
  have hF0 : Fr [(14, 3), (14, 4), (15, 0), (16, 0), (17, 0), (49, 0), (50, 0)] σ0 σ0 := Fr_rfl
  obtain ⟨t, h_t1, h_t2, -⟩ := id hR.1
  obtain ⟨hl_t, hu_t⟩ := WT_int hσ0 (g := 1) tgz_1 (by decide +kernel) (l := 0) (u := 1600) (by decide +kernel) h_t1
  refine En_Ps 1 (pc' := 1804) (lv' := [(0, .retAddr 0), (1, .ref 0), (2, .ref 159), (3, .int y)]) (st' := [.ref 0]) rfl ?_
  refine En_callV rfl rfl rfl rfl rfl rfl rfl rfl tgz_0 (by decide +kernel) rfl (c_175x σ0 hσ0 p hp h_p sg h_sg (by omega) (PLA_of hp) (FXP_p hR.1 hp) (hR.2.2.2.1 p h_p).2 (WFw_w hσ0) hCx.1 (n6 hσ0).1 (fun c => by rw [← tkW_wf]; exact tk9 hσ0 c) hBz hI.1) (by decide) (by decide) (fun v2 σ3 h1 => ?_)
  obtain ⟨h4, h5, z7, rfl, h6⟩ := h1
  have h8 := h6.2.2
  have h9 := Fr_trans hF0 h5 (by decide +kernel)
  have h10 := INVc_fr h5 (by decide +kernel) hC
  have h11 := WI_fr h5 (by decide +kernel) (by decide +kernel) hI
  refine En_Ps 1 (pc' := 1808) (lv' := [(0, .retAddr 0), (1, .ref 0), (2, .ref 159), (3, .int y)]) (st' := [.ref 159, .int z7]) rfl ?_
  refine En_callV rfl rfl rfl rfl rfl rfl rfl rfl tgz_159 (by decide +kernel) rfl (c_322x σ3 h4 (TPOS_of h11)) (by decide) (by decide) (fun v13 σ14 h12 => ?_)
  obtain ⟨h15, h16, z18, rfl, h17⟩ := h12
  have h19 := h17.2.2
  have h20 := Fr_trans h9 h16 (by decide +kernel)
  have h21 := INVc_fr h16 (by decide +kernel) h10
  have h22 := WI_fr h16 (by decide +kernel) (by decide +kernel) h11
  have h23 : z18.toInt = z7.toInt := h19.trans ((thR_cg (wf_fr h5 (by decide +kernel)) ).trans h8.1.symm)
  refine En_icEq _ rfl rfl rfl (fun h24 => ?_) (fun hx => by exfalso; omega)
  have h25 : FUL σ14 := (FUL_kp hR h5 h16 (by decide +kernel) (by decide +kernel) (RDL_fr hR.1 h5 h16 (by decide +kernel) (by decide +kernel)))
  exact k _ h15 h21 h22 ⟨⟨h25, (RUT_fr hQ h5 h16 (by decide +kernel) (by decide +kernel)), (QXS_fr hX h5 h16 (by decide +kernel) (by decide +kernel))⟩, (CXS_fr hCx h5 h16 (by decide +kernel) (by decide +kernel)), (BSZ_s hBz h8.2 h16 (by decide +kernel))⟩
set_option maxRecDepth 10000 in
set_option maxHeartbeats 4000000 in
theorem law_c54 {L : Nat} {xs : Nat → Int32} {P : PO} (hL : L ≤ 3072) (y : Int32) (h0 : 0 ≤ y.toInt) (h1 : y.toInt + 6 ≤ (L : Int)) (σ0 : SG) (hσ0 : WT σ0) (hC : INVc σ0) (hI : WI σ0) (hL : LHN σ0) (k : ∀ σ, WT σ → INVc σ → WI σ → LHN σ → En 2048 84000 (some (L, xs)) mr_336 P 2236 [(0, .retAddr 0), (1, .ref 0), (2, .ref 159), (3, .int y)] [] σ) : En 2048 84000 (some (L, xs)) mr_336 P 1816 [(0, .retAddr 0), (1, .ref 0), (2, .ref 159), (3, .int y)] [] σ0 := by
  obtain ⟨⟨hR, hQ, hX⟩, hCx, hBz⟩ := hL
  obtain ⟨p, p2, sg, hp, hp2, h_p, h_p2, hne, h_sg, hl_sg⟩ := id hC
  obtain ⟨-, hu_sg⟩ := WT_int hσ0 (g := 18) hp (by decide +kernel) (l := (-1)) (u := 4) (by decide +kernel) h_sg
  have hF0 : Fr [(28, 1), (28, 2), (36, 0)] σ0 σ0 := Fr_rfl
  obtain ⟨t, h_t1, h_t2, -⟩ := id hR.1
  obtain ⟨hl_t, hu_t⟩ := WT_int hσ0 (g := 1) tgz_1 (by decide +kernel) (l := 0) (u := 1600) (by decide +kernel) h_t1
  refine En_Ps 5 (pc' := 1821) (lv' := [(0, .retAddr 0), (1, .ref 0), (2, .ref 159), (3, .int y)]) (st' := [.int ((y + ((Int32.ofInt 1)))), .retAddr 0, .ref 0]) rfl ?_
  refine En_top (addI rfl (by decide : (Int32.ofInt 1).toInt = 1) (by omega) (by omega)) (fun z1 h2 => ?_)
  refine En_sld rfl rfl (by omega) (by omega) (fun z3 h4 => ?_)
  refine En_Ps 4 (pc' := 1826) (lv' := [(0, .retAddr 0), (1, .ref 0), (2, .ref 159), (3, .int y)]) (st' := [.int ((y + ((Int32.ofInt 2)))), .retAddr 0, .int z3, .ref 0]) rfl ?_
  refine En_top (addI rfl (by decide : (Int32.ofInt 2).toInt = 2) (by omega) (by omega)) (fun z5 h6 => ?_)
  refine En_sld rfl rfl (by omega) (by omega) (fun z7 h8 => ?_)
  refine En_Ps 4 (pc' := 1831) (lv' := [(0, .retAddr 0), (1, .ref 0), (2, .ref 159), (3, .int y)]) (st' := [.int ((y + ((Int32.ofInt 3)))), .retAddr 0, .int z7, .int z3, .ref 0]) rfl ?_
  refine En_top (addI rfl (by decide : (Int32.ofInt 3).toInt = 3) (by omega) (by omega)) (fun z9 h10 => ?_)
  refine En_sld rfl rfl (by omega) (by omega) (fun z11 h12 => ?_)
  refine En_callV rfl rfl rfl rfl rfl rfl rfl rfl tgz_0 (by decide +kernel) rfl (c_177x σ0 hσ0 z3 z7 z11 p hp h_p sg h_sg (by omega) (PLA_of hp) (FXP_p hR.1 hp) (hR.2.2.2.1 p h_p).2) (by decide) (by decide) (fun v14 σ15 h13 => ?_)
  obtain ⟨h16, h17, z19, rfl, h18⟩ := h13
  have h20 := h18.2.2
  have h21 := Fr_trans hF0 h17 (by decide +kernel)
  have h22 := INVc_fr h17 (by decide +kernel) hC
  have h23 := WI_fr h17 (by decide +kernel) (by decide +kernel) hI
  refine En_Ps 6 (pc' := 1841) (lv' := [(0, .retAddr 0), (1, .ref 0), (2, .ref 159), (3, .int y)]) (st' := [.int ((y + ((Int32.ofInt 1)))), .retAddr 0, .ref 159]) rfl ?_
  refine En_top (addI rfl (by decide : (Int32.ofInt 1).toInt = 1) (by omega) (by omega)) (fun z24 h25 => ?_)
  refine En_sld rfl rfl (by omega) (by omega) (fun z26 h27 => ?_)
  have h28 : z26.toInt = z3.toInt := by rw [h27, h4, show z24.toInt = z1.toInt by omega]
  refine En_Ps 4 (pc' := 1846) (lv' := [(0, .retAddr 0), (1, .ref 0), (2, .ref 159), (3, .int y)]) (st' := [.int ((y + ((Int32.ofInt 2)))), .retAddr 0, .int z26, .ref 159]) rfl ?_
  refine En_top (addI rfl (by decide : (Int32.ofInt 2).toInt = 2) (by omega) (by omega)) (fun z29 h30 => ?_)
  refine En_sld rfl rfl (by omega) (by omega) (fun z31 h32 => ?_)
  have h33 : z31.toInt = z7.toInt := by rw [h32, h8, show z29.toInt = z5.toInt by omega]
  refine En_Ps 4 (pc' := 1851) (lv' := [(0, .retAddr 0), (1, .ref 0), (2, .ref 159), (3, .int y)]) (st' := [.int ((y + ((Int32.ofInt 3)))), .retAddr 0, .int z31, .int z26, .ref 159]) rfl ?_
  refine En_top (addI rfl (by decide : (Int32.ofInt 3).toInt = 3) (by omega) (by omega)) (fun z34 h35 => ?_)
  refine En_sld rfl rfl (by omega) (by omega) (fun z36 h37 => ?_)
  have h38 : z36.toInt = z11.toInt := by rw [h37, h12, show z34.toInt = z9.toInt by omega]
  refine En_callV rfl rfl rfl rfl rfl rfl rfl rfl tgz_159 (by decide +kernel) rfl (c_325x σ15 h16 z26 z31 z36) (by decide) (by decide) (fun v40 σ41 h39 => ?_)
  obtain ⟨h42, h43, z45, rfl, h44⟩ := h39
  have h46 := h44.2.2
  have h47 := Fr_trans h21 h43 (by decide +kernel)
  have h48 := INVc_fr h43 (by decide +kernel) h22
  have h49 := WI_w h43 (by decide +kernel) h23 (WINV_sam h46.1 h23.1)
  have h50 : z45.toInt = z19.toInt := h46.2.1.trans ((trR_cg (wf_fr h17 (by decide +kernel)) (by omega) (by omega) (by omega)).trans h20.1.symm)
  refine En_Ps 2 (pc' := 2236) (lv' := [(0, .retAddr 0), (1, .ref 0), (2, .ref 159), (3, .int y)]) (st' := []) rfl ?_
  have h51 : FUL σ41 := (FUL_ch hR h42 h_p h17 h43 (RDL_fr hR.1 h17 h43 (by decide +kernel) (by decide +kernel)) (by decide +kernel) (by decide +kernel) h20.2 (fun i i0 i1 => (h46.2.2 i i0 i1).trans (congrFun (trW_cg (wf_fr h17 (by decide +kernel)) (by omega) (by omega) (by omega)) i)) (tr_tw hR.2.2.2.2.1) (tr_tg hR.2.2.2.2.2.1 (NNw_w hσ0)))
  have h52 := tr7 (w := wf σ0) (d := z3.toInt) (t := z7.toInt) (n := z11.toInt)
  exact k _ h42 h48 h49 ⟨⟨h51, (RUT_ch hQ h17 h43 (by decide +kernel) (by decide +kernel) (fun i i0 i1 => (h46.2.2 i i0 i1).trans (congrFun (trW_cg (wf_fr h17 (by decide +kernel)) (by omega) (by omega) (by omega)) i)) h52.1 h52.2.2), (QXS_w hX h17 h43 (by decide +kernel) (by decide +kernel) (fun i i0 i1 => (h46.2.2 i i0 i1).trans (congrFun (trW_cg (wf_fr h17 (by decide +kernel)) (by omega) (by omega) (by omega)) i)) h52.2.1 h52.2.2)⟩, (CXS_w hCx h17 h43 (by decide +kernel) (by decide +kernel) (fun i i0 i1 => (h46.2.2 i i0 i1).trans (congrFun (trW_cg (wf_fr h17 (by decide +kernel)) (by omega) (by omega) (by omega)) i)) (trX (NNw_w hσ0))), (BSZ_fr hBz h17 h43 (by decide +kernel) (by decide +kernel))⟩
set_option maxRecDepth 10000 in
set_option maxHeartbeats 4000000 in
theorem law_c55 {L : Nat} {xs : Nat → Int32} {P : PO} (hL : L ≤ 3072) (y : Int32) (h0 : 0 ≤ y.toInt) (h1 : y.toInt + 6 ≤ (L : Int)) (σ0 : SG) (hσ0 : WT σ0) (hC : INVc σ0) (hI : WI σ0) (hL : LHN σ0) (k : ∀ σ, WT σ → INVc σ → WI σ → LHN σ → En 2048 84000 (some (L, xs)) mr_336 P 2236 [(0, .retAddr 0), (1, .ref 0), (2, .ref 159), (3, .int y)] [] σ) : En 2048 84000 (some (L, xs)) mr_336 P 1859 [(0, .retAddr 0), (1, .ref 0), (2, .ref 159), (3, .int y)] [] σ0 := by
  obtain ⟨⟨hR, hQ, hX⟩, hCx, hBz⟩ := hL
  obtain ⟨p, p2, sg, hp, hp2, h_p, h_p2, hne, h_sg, hl_sg⟩ := id hC
  obtain ⟨-, hu_sg⟩ := WT_int hσ0 (g := 18) hp (by decide +kernel) (l := (-1)) (u := 4) (by decide +kernel) h_sg
  have hF0 : Fr [(18, 6), (18, 7), (36, 0)] σ0 σ0 := Fr_rfl
  obtain ⟨t, h_t1, h_t2, -⟩ := id hR.1
  obtain ⟨hl_t, hu_t⟩ := WT_int hσ0 (g := 1) tgz_1 (by decide +kernel) (l := 0) (u := 1600) (by decide +kernel) h_t1
  refine En_Ps 5 (pc' := 1864) (lv' := [(0, .retAddr 0), (1, .ref 0), (2, .ref 159), (3, .int y)]) (st' := [.int ((y + ((Int32.ofInt 1)))), .retAddr 0, .ref 0]) rfl ?_
  refine En_top (addI rfl (by decide : (Int32.ofInt 1).toInt = 1) (by omega) (by omega)) (fun z1 h2 => ?_)
  refine En_sld rfl rfl (by omega) (by omega) (fun z3 h4 => ?_)
  refine En_Ps 4 (pc' := 1869) (lv' := [(0, .retAddr 0), (1, .ref 0), (2, .ref 159), (3, .int y)]) (st' := [.int ((y + ((Int32.ofInt 2)))), .retAddr 0, .int z3, .ref 0]) rfl ?_
  refine En_top (addI rfl (by decide : (Int32.ofInt 2).toInt = 2) (by omega) (by omega)) (fun z5 h6 => ?_)
  refine En_sld rfl rfl (by omega) (by omega) (fun z7 h8 => ?_)
  refine En_callV rfl rfl rfl rfl rfl rfl rfl rfl tgz_0 (by decide +kernel) rfl (c_161x σ0 hσ0 z3 z7 p hp h_p sg h_sg (by omega) (PLA_of hp) (FXP_p hR.1 hp) (hR.2.2.2.1 p h_p).2) (by decide) (by decide) (fun v10 σ11 h9 => ?_)
  obtain ⟨h12, h13, z15, rfl, h14⟩ := h9
  have h16 := h14.2.2
  have h17 := Fr_trans hF0 h13 (by decide +kernel)
  have h18 := INVc_fr h13 (by decide +kernel) hC
  have h19 := WI_fr h13 (by decide +kernel) (by decide +kernel) hI
  refine En_Ps 6 (pc' := 1879) (lv' := [(0, .retAddr 0), (1, .ref 0), (2, .ref 159), (3, .int y)]) (st' := [.int ((y + ((Int32.ofInt 1)))), .retAddr 0, .ref 159]) rfl ?_
  refine En_top (addI rfl (by decide : (Int32.ofInt 1).toInt = 1) (by omega) (by omega)) (fun z20 h21 => ?_)
  refine En_sld rfl rfl (by omega) (by omega) (fun z22 h23 => ?_)
  have h24 : z22.toInt = z3.toInt := by rw [h23, h4, show z20.toInt = z1.toInt by omega]
  refine En_Ps 4 (pc' := 1884) (lv' := [(0, .retAddr 0), (1, .ref 0), (2, .ref 159), (3, .int y)]) (st' := [.int ((y + ((Int32.ofInt 2)))), .retAddr 0, .int z22, .ref 159]) rfl ?_
  refine En_top (addI rfl (by decide : (Int32.ofInt 2).toInt = 2) (by omega) (by omega)) (fun z25 h26 => ?_)
  refine En_sld rfl rfl (by omega) (by omega) (fun z27 h28 => ?_)
  have h29 : z27.toInt = z7.toInt := by rw [h28, h8, show z25.toInt = z5.toInt by omega]
  refine En_callV rfl rfl rfl rfl rfl rfl rfl rfl tgz_159 (by decide +kernel) rfl (c_296x σ11 h12 z22 z27) (by decide) (by decide) (fun v31 σ32 h30 => ?_)
  obtain ⟨h33, h34, z36, rfl, h35⟩ := h30
  have h37 := h35.2.2
  have h38 := Fr_trans h17 h34 (by decide +kernel)
  have h39 := INVc_fr h34 (by decide +kernel) h18
  have h40 := WI_w h34 (by decide +kernel) h19 (WINV_sam h37.1 h19.1)
  refine En_Ps 2 (pc' := 2236) (lv' := [(0, .retAddr 0), (1, .ref 0), (2, .ref 159), (3, .int y)]) (st' := []) rfl ?_
  have h41 : FUL σ32 := (FUL_ch hR h33 h_p h13 h34 (RDL_fr hR.1 h13 h34 (by decide +kernel) (by decide +kernel)) (by decide +kernel) (by decide +kernel) h16 (fun i i0 i1 => (h37.2 i i0 i1).trans (congrFun (owW_cg (wf_fr h13 (by decide +kernel)) (by omega) (by omega)) i)) (ow_tw hR.2.2.2.2.1) (ow_tg hR.2.2.2.2.2.1))
  have h42 := ow7 (w := wf σ0) (m := z3.toInt) (v := z7.toInt)
  exact k _ h33 h39 h40 ⟨⟨h41, (RUT_ch hQ h13 h34 (by decide +kernel) (by decide +kernel) (fun i i0 i1 => (h37.2 i i0 i1).trans (congrFun (owW_cg (wf_fr h13 (by decide +kernel)) (by omega) (by omega)) i)) h42.1 h42.2.2), (QXS_w hX h13 h34 (by decide +kernel) (by decide +kernel) (fun i i0 i1 => (h37.2 i i0 i1).trans (congrFun (owW_cg (wf_fr h13 (by decide +kernel)) (by omega) (by omega)) i)) h42.2.1 h42.2.2)⟩, (CXS_w hCx h13 h34 (by decide +kernel) (by decide +kernel) (fun i i0 i1 => (h37.2 i i0 i1).trans (congrFun (owW_cg (wf_fr h13 (by decide +kernel)) (by omega) (by omega)) i)) (owX)), (BSZ_fr hBz h13 h34 (by decide +kernel) (by decide +kernel))⟩
set_option maxRecDepth 10000 in
set_option maxHeartbeats 4000000 in
theorem law_c56 {L : Nat} {xs : Nat → Int32} {P : PO} (hL : L ≤ 3072) (y : Int32) (h0 : 0 ≤ y.toInt) (h1 : y.toInt + 6 ≤ (L : Int)) (σ0 : SG) (hσ0 : WT σ0) (hC : INVc σ0) (hI : WI σ0) (hL : LHN σ0) (k : ∀ σ, WT σ → INVc σ → WI σ → LHN σ → En 2048 84000 (some (L, xs)) mr_336 P 2236 [(0, .retAddr 0), (1, .ref 0), (2, .ref 159), (3, .int y)] [] σ) : En 2048 84000 (some (L, xs)) mr_336 P 1892 [(0, .retAddr 0), (1, .ref 0), (2, .ref 159), (3, .int y)] [] σ0 := by
  obtain ⟨⟨hR, hQ, hX⟩, hCx, hBz⟩ := hL
  obtain ⟨p, p2, sg, hp, hp2, h_p, h_p2, hne, h_sg, hl_sg⟩ := id hC
  obtain ⟨-, hu_sg⟩ := WT_int hσ0 (g := 18) hp (by decide +kernel) (l := (-1)) (u := 4) (by decide +kernel) h_sg
  have hF0 : Fr [(35, 18), (35, 21), (35, 31), (42, 0), (43, 0), (44, 0), (45, 0), (46, 0)] σ0 σ0 := Fr_rfl
  obtain ⟨t, h_t1, h_t2, -⟩ := id hR.1
  obtain ⟨hl_t, hu_t⟩ := WT_int hσ0 (g := 1) tgz_1 (by decide +kernel) (l := 0) (u := 1600) (by decide +kernel) h_t1
  refine En_Ps 5 (pc' := 1897) (lv' := [(0, .retAddr 0), (1, .ref 0), (2, .ref 159), (3, .int y)]) (st' := [.int ((y + ((Int32.ofInt 1)))), .retAddr 0, .ref 0]) rfl ?_
  refine En_top (addI rfl (by decide : (Int32.ofInt 1).toInt = 1) (by omega) (by omega)) (fun z1 h2 => ?_)
  refine En_sld rfl rfl (by omega) (by omega) (fun z3 h4 => ?_)
  refine En_Ps 4 (pc' := 1902) (lv' := [(0, .retAddr 0), (1, .ref 0), (2, .ref 159), (3, .int y)]) (st' := [.int ((y + ((Int32.ofInt 2)))), .retAddr 0, .int z3, .ref 0]) rfl ?_
  refine En_top (addI rfl (by decide : (Int32.ofInt 2).toInt = 2) (by omega) (by omega)) (fun z5 h6 => ?_)
  refine En_sld rfl rfl (by omega) (by omega) (fun z7 h8 => ?_)
  refine En_Ps 4 (pc' := 1907) (lv' := [(0, .retAddr 0), (1, .ref 0), (2, .ref 159), (3, .int y)]) (st' := [.int ((y + ((Int32.ofInt 3)))), .retAddr 0, .int z7, .int z3, .ref 0]) rfl ?_
  refine En_top (addI rfl (by decide : (Int32.ofInt 3).toInt = 3) (by omega) (by omega)) (fun z9 h10 => ?_)
  refine En_sld rfl rfl (by omega) (by omega) (fun z11 h12 => ?_)
  refine En_callV rfl rfl rfl rfl rfl rfl rfl rfl tgz_0 (by decide +kernel) rfl (c_172 σ0 hσ0 z3 z7 z11 p hp h_p sg h_sg (by omega)) (by decide) (by decide) (fun v14 σ15 h13 => ?_)
  obtain ⟨h16, h17, z19, rfl, h18⟩ := h13
  have h20 := Fr_trans hF0 h17 (by decide +kernel)
  have h21 := INVc_fr h17 (by decide +kernel) hC
  have h22 := WI_fr h17 (by decide +kernel) (by decide +kernel) hI
  refine En_Ps 6 (pc' := 1917) (lv' := [(0, .retAddr 0), (1, .ref 0), (2, .ref 159), (3, .int y)]) (st' := [.int ((y + ((Int32.ofInt 1)))), .retAddr 0, .ref 159]) rfl ?_
  refine En_top (addI rfl (by decide : (Int32.ofInt 1).toInt = 1) (by omega) (by omega)) (fun z23 h24 => ?_)
  refine En_sld rfl rfl (by omega) (by omega) (fun z25 h26 => ?_)
  have h27 : z25.toInt = z3.toInt := by rw [h26, h4, show z23.toInt = z1.toInt by omega]
  refine En_Ps 4 (pc' := 1922) (lv' := [(0, .retAddr 0), (1, .ref 0), (2, .ref 159), (3, .int y)]) (st' := [.int ((y + ((Int32.ofInt 2)))), .retAddr 0, .int z25, .ref 159]) rfl ?_
  refine En_top (addI rfl (by decide : (Int32.ofInt 2).toInt = 2) (by omega) (by omega)) (fun z28 h29 => ?_)
  refine En_sld rfl rfl (by omega) (by omega) (fun z30 h31 => ?_)
  have h32 : z30.toInt = z7.toInt := by rw [h31, h8, show z28.toInt = z5.toInt by omega]
  refine En_Ps 4 (pc' := 1927) (lv' := [(0, .retAddr 0), (1, .ref 0), (2, .ref 159), (3, .int y)]) (st' := [.int ((y + ((Int32.ofInt 3)))), .retAddr 0, .int z30, .int z25, .ref 159]) rfl ?_
  refine En_top (addI rfl (by decide : (Int32.ofInt 3).toInt = 3) (by omega) (by omega)) (fun z33 h34 => ?_)
  refine En_sld rfl rfl (by omega) (by omega) (fun z35 h36 => ?_)
  have h37 : z35.toInt = z11.toInt := by rw [h36, h12, show z33.toInt = z9.toInt by omega]
  refine En_callV rfl rfl rfl rfl rfl rfl rfl rfl tgz_159 (by decide +kernel) rfl (c_315 σ15 h16 z25 z30 z35) (by decide) (by decide) (fun v39 σ40 h38 => ?_)
  obtain ⟨h41, h42, z44, rfl, h43⟩ := h38
  have h45 := Fr_trans h20 h42 (by decide +kernel)
  have h46 := INVc_fr h42 (by decide +kernel) h21
  have h47 := WI_fr h42 (by decide +kernel) (by decide +kernel) h22
  refine En_Ps 2 (pc' := 2236) (lv' := [(0, .retAddr 0), (1, .ref 0), (2, .ref 159), (3, .int y)]) (st' := []) rfl ?_
  have h48 : FUL σ40 := (FUL_kp hR h17 h42 (by decide +kernel) (by decide +kernel) (RDL_fr hR.1 h17 h42 (by decide +kernel) (by decide +kernel)))
  exact k _ h41 h46 h47 ⟨⟨h48, (RUT_fr hQ h17 h42 (by decide +kernel) (by decide +kernel)), (QXS_fr hX h17 h42 (by decide +kernel) (by decide +kernel))⟩, (CXS_fr hCx h17 h42 (by decide +kernel) (by decide +kernel)), (BSZ_fr hBz h17 h42 (by decide +kernel) (by decide +kernel))⟩
end
/-! 33.b04 -/
section
set_option maxRecDepth 10000 in
set_option maxHeartbeats 4000000 in
theorem law_c57 {L : Nat} {xs : Nat → Int32} {P : PO} (hL : L ≤ 3072) (y : Int32) (h0 : 0 ≤ y.toInt) (h1 : y.toInt + 6 ≤ (L : Int)) (σ0 : SG) (hσ0 : WT σ0) (hC : INVc σ0) (hI : WI σ0) (hL : LHN σ0) (k : ∀ σ, WT σ → INVc σ → WI σ → LHN σ → En 2048 84000 (some (L, xs)) mr_336 P 2236 [(0, .retAddr 0), (1, .ref 0), (2, .ref 159), (3, .int y)] [] σ) : En 2048 84000 (some (L, xs)) mr_336 P 1935 [(0, .retAddr 0), (1, .ref 0), (2, .ref 159), (3, .int y)] [] σ0 := by
  obtain ⟨⟨hR, hQ, hX⟩, hCx, hBz⟩ := hL
  obtain ⟨p, p2, sg, hp, hp2, h_p, h_p2, hne, h_sg, hl_sg⟩ := id hC
  obtain ⟨-, hu_sg⟩ := WT_int hσ0 (g := 18) hp (by decide +kernel) (l := (-1)) (u := 4) (by decide +kernel) h_sg
  have hF0 : Fr [(35, 18), (35, 21), (35, 31), (42, 0), (43, 0), (44, 0), (45, 0), (46, 0)] σ0 σ0 := Fr_rfl
  obtain ⟨t, h_t1, h_t2, -⟩ := id hR.1
  obtain ⟨hl_t, hu_t⟩ := WT_int hσ0 (g := 1) tgz_1 (by decide +kernel) (l := 0) (u := 1600) (by decide +kernel) h_t1
  refine En_Ps 5 (pc' := 1940) (lv' := [(0, .retAddr 0), (1, .ref 0), (2, .ref 159), (3, .int y)]) (st' := [.int ((y + ((Int32.ofInt 1)))), .retAddr 0, .ref 0]) rfl ?_
  refine En_top (addI rfl (by decide : (Int32.ofInt 1).toInt = 1) (by omega) (by omega)) (fun z1 h2 => ?_)
  refine En_sld rfl rfl (by omega) (by omega) (fun z3 h4 => ?_)
  refine En_Ps 4 (pc' := 1945) (lv' := [(0, .retAddr 0), (1, .ref 0), (2, .ref 159), (3, .int y)]) (st' := [.int ((y + ((Int32.ofInt 2)))), .retAddr 0, .int z3, .ref 0]) rfl ?_
  refine En_top (addI rfl (by decide : (Int32.ofInt 2).toInt = 2) (by omega) (by omega)) (fun z5 h6 => ?_)
  refine En_sld rfl rfl (by omega) (by omega) (fun z7 h8 => ?_)
  refine En_Ps 4 (pc' := 1950) (lv' := [(0, .retAddr 0), (1, .ref 0), (2, .ref 159), (3, .int y)]) (st' := [.int ((y + ((Int32.ofInt 3)))), .retAddr 0, .int z7, .int z3, .ref 0]) rfl ?_
  refine En_top (addI rfl (by decide : (Int32.ofInt 3).toInt = 3) (by omega) (by omega)) (fun z9 h10 => ?_)
  refine En_sld rfl rfl (by omega) (by omega) (fun z11 h12 => ?_)
  refine En_Ps 4 (pc' := 1955) (lv' := [(0, .retAddr 0), (1, .ref 0), (2, .ref 159), (3, .int y)]) (st' := [.int ((y + ((Int32.ofInt 4)))), .retAddr 0, .int z11, .int z7, .int z3, .ref 0]) rfl ?_
  refine En_top (addI rfl (by decide : (Int32.ofInt 4).toInt = 4) (by omega) (by omega)) (fun z13 h14 => ?_)
  refine En_sld rfl rfl (by omega) (by omega) (fun z15 h16 => ?_)
  refine En_callV rfl rfl rfl rfl rfl rfl rfl rfl tgz_0 (by decide +kernel) rfl (c_187 σ0 hσ0 z3 z7 z11 z15 p hp h_p sg h_sg (by omega)) (by decide) (by decide) (fun v18 σ19 h17 => ?_)
  obtain ⟨h20, h21, z23, rfl, h22⟩ := h17
  have h24 := Fr_trans hF0 h21 (by decide +kernel)
  have h25 := INVc_fr h21 (by decide +kernel) hC
  have h26 := WI_fr h21 (by decide +kernel) (by decide +kernel) hI
  refine En_Ps 6 (pc' := 1965) (lv' := [(0, .retAddr 0), (1, .ref 0), (2, .ref 159), (3, .int y)]) (st' := [.int ((y + ((Int32.ofInt 1)))), .retAddr 0, .ref 159]) rfl ?_
  refine En_top (addI rfl (by decide : (Int32.ofInt 1).toInt = 1) (by omega) (by omega)) (fun z27 h28 => ?_)
  refine En_sld rfl rfl (by omega) (by omega) (fun z29 h30 => ?_)
  have h31 : z29.toInt = z3.toInt := by rw [h30, h4, show z27.toInt = z1.toInt by omega]
  refine En_Ps 4 (pc' := 1970) (lv' := [(0, .retAddr 0), (1, .ref 0), (2, .ref 159), (3, .int y)]) (st' := [.int ((y + ((Int32.ofInt 2)))), .retAddr 0, .int z29, .ref 159]) rfl ?_
  refine En_top (addI rfl (by decide : (Int32.ofInt 2).toInt = 2) (by omega) (by omega)) (fun z32 h33 => ?_)
  refine En_sld rfl rfl (by omega) (by omega) (fun z34 h35 => ?_)
  have h36 : z34.toInt = z7.toInt := by rw [h35, h8, show z32.toInt = z5.toInt by omega]
  refine En_Ps 4 (pc' := 1975) (lv' := [(0, .retAddr 0), (1, .ref 0), (2, .ref 159), (3, .int y)]) (st' := [.int ((y + ((Int32.ofInt 3)))), .retAddr 0, .int z34, .int z29, .ref 159]) rfl ?_
  refine En_top (addI rfl (by decide : (Int32.ofInt 3).toInt = 3) (by omega) (by omega)) (fun z37 h38 => ?_)
  refine En_sld rfl rfl (by omega) (by omega) (fun z39 h40 => ?_)
  have h41 : z39.toInt = z11.toInt := by rw [h40, h12, show z37.toInt = z9.toInt by omega]
  refine En_Ps 4 (pc' := 1980) (lv' := [(0, .retAddr 0), (1, .ref 0), (2, .ref 159), (3, .int y)]) (st' := [.int ((y + ((Int32.ofInt 4)))), .retAddr 0, .int z39, .int z34, .int z29, .ref 159]) rfl ?_
  refine En_top (addI rfl (by decide : (Int32.ofInt 4).toInt = 4) (by omega) (by omega)) (fun z42 h43 => ?_)
  refine En_sld rfl rfl (by omega) (by omega) (fun z44 h45 => ?_)
  have h46 : z44.toInt = z15.toInt := by rw [h45, h16, show z42.toInt = z13.toInt by omega]
  refine En_callV rfl rfl rfl rfl rfl rfl rfl rfl tgz_159 (by decide +kernel) rfl (c_335 σ19 h20 z29 z34 z39 z44) (by decide) (by decide) (fun v48 σ49 h47 => ?_)
  obtain ⟨h50, h51, z53, rfl, h52⟩ := h47
  have h54 := Fr_trans h24 h51 (by decide +kernel)
  have h55 := INVc_fr h51 (by decide +kernel) h25
  have h56 := WI_fr h51 (by decide +kernel) (by decide +kernel) h26
  refine En_Ps 2 (pc' := 2236) (lv' := [(0, .retAddr 0), (1, .ref 0), (2, .ref 159), (3, .int y)]) (st' := []) rfl ?_
  have h57 : FUL σ49 := (FUL_kp hR h21 h51 (by decide +kernel) (by decide +kernel) (RDL_fr hR.1 h21 h51 (by decide +kernel) (by decide +kernel)))
  exact k _ h50 h55 h56 ⟨⟨h57, (RUT_fr hQ h21 h51 (by decide +kernel) (by decide +kernel)), (QXS_fr hX h21 h51 (by decide +kernel) (by decide +kernel))⟩, (CXS_fr hCx h21 h51 (by decide +kernel) (by decide +kernel)), (BSZ_fr hBz h21 h51 (by decide +kernel) (by decide +kernel))⟩
set_option maxRecDepth 10000 in
set_option maxHeartbeats 4000000 in
theorem law_c58 {L : Nat} {xs : Nat → Int32} {P : PO} (hL : L ≤ 3072) (y : Int32) (h0 : 0 ≤ y.toInt) (h1 : y.toInt + 6 ≤ (L : Int)) (σ0 : SG) (hσ0 : WT σ0) (hC : INVc σ0) (hI : WI σ0) (hL : LHN σ0) (k : ∀ σ, WT σ → INVc σ → WI σ → LHN σ → En 2048 84000 (some (L, xs)) mr_336 P 2236 [(0, .retAddr 0), (1, .ref 0), (2, .ref 159), (3, .int y)] [] σ) : En 2048 84000 (some (L, xs)) mr_336 P 1988 [(0, .retAddr 0), (1, .ref 0), (2, .ref 159), (3, .int y)] [] σ0 := by
  obtain ⟨⟨hR, hQ, hX⟩, hCx, hBz⟩ := hL
  obtain ⟨p, p2, sg, hp, hp2, h_p, h_p2, hne, h_sg, hl_sg⟩ := id hC
  obtain ⟨-, hu_sg⟩ := WT_int hσ0 (g := 18) hp (by decide +kernel) (l := (-1)) (u := 4) (by decide +kernel) h_sg
  have hF0 : Fr [] σ0 σ0 := Fr_rfl
  obtain ⟨t, h_t1, h_t2, -⟩ := id hR.1
  obtain ⟨hl_t, hu_t⟩ := WT_int hσ0 (g := 1) tgz_1 (by decide +kernel) (l := 0) (u := 1600) (by decide +kernel) h_t1
  refine En_Ps 5 (pc' := 1993) (lv' := [(0, .retAddr 0), (1, .ref 0), (2, .ref 159), (3, .int y)]) (st' := [.int ((y + ((Int32.ofInt 1)))), .retAddr 0, .ref 0]) rfl ?_
  refine En_top (addI rfl (by decide : (Int32.ofInt 1).toInt = 1) (by omega) (by omega)) (fun z1 h2 => ?_)
  refine En_sld rfl rfl (by omega) (by omega) (fun z3 h4 => ?_)
  refine En_callV rfl rfl rfl rfl rfl rfl rfl rfl tgz_0 (by decide +kernel) rfl (c_110 σ0 hσ0 z3 p hp h_p sg h_sg (by omega)) (by decide) (by decide) (fun v6 σ7 h5 => ?_)
  obtain ⟨h8, h9, z11, rfl, h10⟩ := h5
  have h12 := Fr_trans hF0 h9 (by decide +kernel)
  have h13 := INVc_fr h9 (by decide +kernel) hC
  have h14 := WI_fr h9 (by decide +kernel) (by decide +kernel) hI
  refine En_Ps 6 (pc' := 2003) (lv' := [(0, .retAddr 0), (1, .ref 0), (2, .ref 159), (3, .int y)]) (st' := [.int ((y + ((Int32.ofInt 1)))), .retAddr 0, .ref 159]) rfl ?_
  refine En_top (addI rfl (by decide : (Int32.ofInt 1).toInt = 1) (by omega) (by omega)) (fun z15 h16 => ?_)
  refine En_sld rfl rfl (by omega) (by omega) (fun z17 h18 => ?_)
  have h19 : z17.toInt = z3.toInt := by rw [h18, h4, show z15.toInt = z1.toInt by omega]
  refine En_callV rfl rfl rfl rfl rfl rfl rfl rfl tgz_159 (by decide +kernel) rfl (c_206 σ7 h8 z17) (by decide) (by decide) (fun v21 σ22 h20 => ?_)
  obtain ⟨h23, h24, z26, rfl, h25⟩ := h20
  have h27 := Fr_trans h12 h24 (by decide +kernel)
  have h28 := INVc_fr h24 (by decide +kernel) h13
  have h29 := WI_fr h24 (by decide +kernel) (by decide +kernel) h14
  refine En_Ps 2 (pc' := 2236) (lv' := [(0, .retAddr 0), (1, .ref 0), (2, .ref 159), (3, .int y)]) (st' := []) rfl ?_
  have h30 : FUL σ22 := (FUL_kp hR h9 h24 (by decide +kernel) (by decide +kernel) (RDL_fr hR.1 h9 h24 (by decide +kernel) (by decide +kernel)))
  exact k _ h23 h28 h29 ⟨⟨h30, (RUT_fr hQ h9 h24 (by decide +kernel) (by decide +kernel)), (QXS_fr hX h9 h24 (by decide +kernel) (by decide +kernel))⟩, (CXS_fr hCx h9 h24 (by decide +kernel) (by decide +kernel)), (BSZ_fr hBz h9 h24 (by decide +kernel) (by decide +kernel))⟩
set_option maxRecDepth 10000 in
set_option maxHeartbeats 4000000 in
theorem law_c59 {L : Nat} {xs : Nat → Int32} {P : PO} (hL : L ≤ 3072) (y : Int32) (h0 : 0 ≤ y.toInt) (h1 : y.toInt + 6 ≤ (L : Int)) (σ0 : SG) (hσ0 : WT σ0) (hC : INVc σ0) (hI : WI σ0) (hL : LHN σ0) (k : ∀ σ, WT σ → INVc σ → WI σ → LHN σ → En 2048 84000 (some (L, xs)) mr_336 P 2236 [(0, .retAddr 0), (1, .ref 0), (2, .ref 159), (3, .int y)] [] σ) : En 2048 84000 (some (L, xs)) mr_336 P 2011 [(0, .retAddr 0), (1, .ref 0), (2, .ref 159), (3, .int y)] [] σ0 := by
  obtain ⟨⟨hR, hQ, hX⟩, hCx, hBz⟩ := hL
  obtain ⟨p, p2, sg, hp, hp2, h_p, h_p2, hne, h_sg, hl_sg⟩ := id hC
  obtain ⟨-, hu_sg⟩ := WT_int hσ0 (g := 18) hp (by decide +kernel) (l := (-1)) (u := 4) (by decide +kernel) h_sg
  have hF0 : Fr [(20, 2), (21, 0), (22, 0), (23, 0), (24, 0), (25, 0), (26, 0), (27, 0), (28, 1), (28, 2), (28, 3), (30, 0), (31, 0), (31, 1), (31, 2), (31, 3), (31, 6), (31, 7), (31, 8), (31, 11), (31, 14), (37, 0), (38, 0)] σ0 σ0 := Fr_rfl
  obtain ⟨t, h_t1, h_t2, -⟩ := id hR.1
  obtain ⟨hl_t, hu_t⟩ := WT_int hσ0 (g := 1) tgz_1 (by decide +kernel) (l := 0) (u := 1600) (by decide +kernel) h_t1
  refine En_Ps 5 (pc' := 2016) (lv' := [(0, .retAddr 0), (1, .ref 0), (2, .ref 159), (3, .int y)]) (st' := [.int ((y + ((Int32.ofInt 1)))), .retAddr 0, .ref 0]) rfl ?_
  refine En_top (addI rfl (by decide : (Int32.ofInt 1).toInt = 1) (by omega) (by omega)) (fun z1 h2 => ?_)
  refine En_sld rfl rfl (by omega) (by omega) (fun z3 h4 => ?_)
  refine En_callV rfl rfl rfl rfl rfl rfl rfl rfl tgz_0 (by decide +kernel) rfl (c_142x σ0 hσ0 z3 p hp h_p sg h_sg (by omega) (PLA_of hp) (FXP_p hR.1 hp) hR.2.2.1) (by decide) (by decide) (fun v6 σ7 h5 => ?_)
  obtain ⟨h8, h9, z11, rfl, h10⟩ := h5
  have h12 := h10.2.2.2.2.2
  have h13 := Fr_trans hF0 h9 (by decide +kernel)
  have h14 := INVc_fr h9 (by decide +kernel) hC
  have h15 := WI_fr h9 (by decide +kernel) (by decide +kernel) hI
  refine En_Ps 6 (pc' := 2026) (lv' := [(0, .retAddr 0), (1, .ref 0), (2, .ref 159), (3, .int y)]) (st' := [.int ((y + ((Int32.ofInt 1)))), .retAddr 0, .ref 159]) rfl ?_
  refine En_top (addI rfl (by decide : (Int32.ofInt 1).toInt = 1) (by omega) (by omega)) (fun z16 h17 => ?_)
  refine En_sld rfl rfl (by omega) (by omega) (fun z18 h19 => ?_)
  have h20 : z18.toInt = z3.toInt := by rw [h19, h4, show z16.toInt = z1.toInt by omega]
  refine En_callV rfl rfl rfl rfl rfl rfl rfl rfl tgz_159 (by decide +kernel) rfl (c_248x σ7 h8 z18 h15) (by decide) (by decide) (fun v22 σ23 h21 => ?_)
  obtain ⟨h24, h25, z27, rfl, h26⟩ := h21
  have h28 := h26.2.2.2.2.2
  have h29 := Fr_trans h13 h25 (by decide +kernel)
  have h30 := INVc_fr h25 (by decide +kernel) h14
  have h31 := h28.1
  refine En_Ps 2 (pc' := 2236) (lv' := [(0, .retAddr 0), (1, .ref 0), (2, .ref 159), (3, .int y)]) (st' := []) rfl ?_
  have h32 : FUL σ23 := (FUL_im hR hσ0 h_p h9 h25 (RDL_fr hR.1 h9 h25 (by decide +kernel) (by decide +kernel)) (by decide +kernel) (by decide +kernel) h12 h28.2.1 h28.2.2 (by omega))
  exact k _ h24 h30 h31 ⟨⟨h32, (RUT_fr hQ h9 h25 (by decide +kernel) (by decide +kernel)), (QXS_im hX h9 h25 (by decide +kernel) (by decide +kernel) h12 h28.2.2 (by omega))⟩, (CXS_im hCx h9 h25 (by decide +kernel) (by decide +kernel) h12 h28.2.2 (by omega)), (BSZ_fr hBz h9 h25 (by decide +kernel) (by decide +kernel))⟩
set_option maxRecDepth 10000 in
set_option maxHeartbeats 4000000 in
theorem law_c60 {L : Nat} {xs : Nat → Int32} {P : PO} (hL : L ≤ 3072) (y : Int32) (h0 : 0 ≤ y.toInt) (h1 : y.toInt + 6 ≤ (L : Int)) (σ0 : SG) (hσ0 : WT σ0) (hC : INVc σ0) (hI : WI σ0) (hL : LHN σ0) (k : ∀ σ, WT σ → INVc σ → WI σ → LHN σ → En 2048 84000 (some (L, xs)) mr_336 P 2236 [(0, .retAddr 0), (1, .ref 0), (2, .ref 159), (3, .int y)] [] σ) : En 2048 84000 (some (L, xs)) mr_336 P 2034 [(0, .retAddr 0), (1, .ref 0), (2, .ref 159), (3, .int y)] [] σ0 := by
  obtain ⟨⟨hR, hQ, hX⟩, hCx, hBz⟩ := hL
  obtain ⟨p, p2, sg, hp, hp2, h_p, h_p2, hne, h_sg, hl_sg⟩ := id hC
  obtain ⟨-, hu_sg⟩ := WT_int hσ0 (g := 18) hp (by decide +kernel) (l := (-1)) (u := 4) (by decide +kernel) h_sg
  have hF0 : Fr [(4, 0), (4, 1), (5, 0), (6, 0), (7, 0), (18, 0), (18, 1), (18, 2), (18, 3), (18, 6), (18, 7), (18, 8), (18, 11), (18, 14), (20, 2), (21, 0), (22, 0), (23, 0), (24, 0), (25, 0), (26, 0), (27, 0), (28, 1), (28, 2), (28, 3), (36, 0)] σ0 σ0 := Fr_rfl
  obtain ⟨t, h_t1, h_t2, -⟩ := id hR.1
  obtain ⟨hl_t, hu_t⟩ := WT_int hσ0 (g := 1) tgz_1 (by decide +kernel) (l := 0) (u := 1600) (by decide +kernel) h_t1
  refine En_Ps 5 (pc' := 2039) (lv' := [(0, .retAddr 0), (1, .ref 0), (2, .ref 159), (3, .int y)]) (st' := [.int ((y + ((Int32.ofInt 1)))), .retAddr 0, .ref 0]) rfl ?_
  refine En_top (addI rfl (by decide : (Int32.ofInt 1).toInt = 1) (by omega) (by omega)) (fun z1 h2 => ?_)
  refine En_sld rfl rfl (by omega) (by omega) (fun z3 h4 => ?_)
  refine En_callV rfl rfl rfl rfl rfl rfl rfl rfl tgz_0 (by decide +kernel) rfl (c_105x σ0 hσ0 z3 p hp h_p sg h_sg p2 hp2 h_p2 (by omega) hne (PLA_of hp) (FXP_p hR.1 hp) hR.2.2.1) (by decide) (by decide) (fun v6 σ7 h5 => ?_)
  obtain ⟨h8, h9, z11, rfl, h10⟩ := h5
  have h12 := h10.2.2
  have h13 := Fr_trans hF0 h9 (by decide +kernel)
  have h14 := h12.1
  have h15 := WI_fr h9 (by decide +kernel) (by decide +kernel) hI
  refine En_Ps 6 (pc' := 2049) (lv' := [(0, .retAddr 0), (1, .ref 0), (2, .ref 159), (3, .int y)]) (st' := [.int ((y + ((Int32.ofInt 1)))), .retAddr 0, .ref 159]) rfl ?_
  refine En_top (addI rfl (by decide : (Int32.ofInt 1).toInt = 1) (by omega) (by omega)) (fun z16 h17 => ?_)
  refine En_sld rfl rfl (by omega) (by omega) (fun z18 h19 => ?_)
  have h20 : z18.toInt = z3.toInt := by rw [h19, h4, show z16.toInt = z1.toInt by omega]
  refine En_callV rfl rfl rfl rfl rfl rfl rfl rfl tgz_159 (by decide +kernel) rfl (c_199x σ7 h8 z18 h15) (by decide) (by decide) (fun v22 σ23 h21 => ?_)
  obtain ⟨h24, h25, z27, rfl, h26⟩ := h21
  have h28 := h26.2.2
  have h29 := Fr_trans h13 h25 (by decide +kernel)
  have h30 := INVc_fr h25 (by decide +kernel) h14
  have h31 := h28.1
  have h32 : z27.toInt = z11.toInt := BCK_eq hR.2.1 h9 (by decide +kernel) h12.2.1 h28.2.1 (by omega)
  refine En_Ps 2 (pc' := 2236) (lv' := [(0, .retAddr 0), (1, .ref 0), (2, .ref 159), (3, .int y)]) (st' := []) rfl ?_
  have h33 : FUL σ23 := (FUL_bk hR hσ0 h24 h_p h9 h25 (RDL_fr hR.1 h9 h25 (by decide +kernel) (by decide +kernel)) (by decide +kernel) (by decide +kernel) (by decide +kernel) h12.2.2.1 h28.2.2 (by omega))
  exact k _ h24 h30 h31 ⟨⟨h33, (RUT_bk2 hQ hR h33 h_p h9 h25 (by decide +kernel) (by decide +kernel) (by decide +kernel) h28.2.2 h12.2.2.2 (by omega)), (QXS_bk hX hR h9 h25 (by decide +kernel) (by decide +kernel) h28.2.2)⟩, (CXS_bk hCx hR h9 h25 (by decide +kernel) (by decide +kernel) h28.2.2), (BSZ_fr hBz h9 h25 (by decide +kernel) (by decide +kernel))⟩
set_option maxRecDepth 10000 in
set_option maxHeartbeats 4000000 in
theorem law_c61 {L : Nat} {xs : Nat → Int32} {P : PO} (hL : L ≤ 3072) (y : Int32) (h0 : 0 ≤ y.toInt) (h1 : y.toInt + 6 ≤ (L : Int)) (σ0 : SG) (hσ0 : WT σ0) (hC : INVc σ0) (hI : WI σ0) (hL : LHN σ0) (k : ∀ σ, WT σ → INVc σ → WI σ → LHN σ → En 2048 84000 (some (L, xs)) mr_336 P 2236 [(0, .retAddr 0), (1, .ref 0), (2, .ref 159), (3, .int y)] [] σ) : En 2048 84000 (some (L, xs)) mr_336 P 2057 [(0, .retAddr 0), (1, .ref 0), (2, .ref 159), (3, .int y)] [] σ0 := by
  obtain ⟨⟨hR, hQ, hX⟩, hCx, hBz⟩ := hL
  obtain ⟨p, p2, sg, hp, hp2, h_p, h_p2, hne, h_sg, hl_sg⟩ := id hC
  obtain ⟨-, hu_sg⟩ := WT_int hσ0 (g := 18) hp (by decide +kernel) (l := (-1)) (u := 4) (by decide +kernel) h_sg
  have hF0 : Fr [(33, 1), (33, 2), (33, 3), (34, 0), (53, 0), (54, 0), (55, 0)] σ0 σ0 := Fr_rfl
  obtain ⟨t, h_t1, h_t2, -⟩ := id hR.1
  obtain ⟨hl_t, hu_t⟩ := WT_int hσ0 (g := 1) tgz_1 (by decide +kernel) (l := 0) (u := 1600) (by decide +kernel) h_t1
  refine En_Ps 5 (pc' := 2062) (lv' := [(0, .retAddr 0), (1, .ref 0), (2, .ref 159), (3, .int y)]) (st' := [.int ((y + ((Int32.ofInt 1)))), .retAddr 0, .ref 0]) rfl ?_
  refine En_top (addI rfl (by decide : (Int32.ofInt 1).toInt = 1) (by omega) (by omega)) (fun z1 h2 => ?_)
  refine En_sld rfl rfl (by omega) (by omega) (fun z3 h4 => ?_)
  refine En_Ps 4 (pc' := 2067) (lv' := [(0, .retAddr 0), (1, .ref 0), (2, .ref 159), (3, .int y)]) (st' := [.int ((y + ((Int32.ofInt 2)))), .retAddr 0, .int z3, .ref 0]) rfl ?_
  refine En_top (addI rfl (by decide : (Int32.ofInt 2).toInt = 2) (by omega) (by omega)) (fun z5 h6 => ?_)
  refine En_sld rfl rfl (by omega) (by omega) (fun z7 h8 => ?_)
  refine En_Ps 4 (pc' := 2072) (lv' := [(0, .retAddr 0), (1, .ref 0), (2, .ref 159), (3, .int y)]) (st' := [.int ((y + ((Int32.ofInt 3)))), .retAddr 0, .int z7, .int z3, .ref 0]) rfl ?_
  refine En_top (addI rfl (by decide : (Int32.ofInt 3).toInt = 3) (by omega) (by omega)) (fun z9 h10 => ?_)
  refine En_sld rfl rfl (by omega) (by omega) (fun z11 h12 => ?_)
  refine En_callV rfl rfl rfl rfl rfl rfl rfl rfl tgz_0 (by decide +kernel) rfl (c_165x σ0 hσ0 z3 z7 z11 p hp h_p sg h_sg (by omega)) (by decide) (by decide) (fun v14 σ15 h13 => ?_)
  obtain ⟨h16, h17, z19, rfl, h18⟩ := h13
  have h20 := Fr_trans hF0 h17 (by decide +kernel)
  have h21 := INVc_fr h17 (by decide +kernel) hC
  have h22 := WI_fr h17 (by decide +kernel) (by decide +kernel) hI
  refine En_Ps 6 (pc' := 2082) (lv' := [(0, .retAddr 0), (1, .ref 0), (2, .ref 159), (3, .int y)]) (st' := [.int ((y + ((Int32.ofInt 1)))), .retAddr 0, .ref 159]) rfl ?_
  refine En_top (addI rfl (by decide : (Int32.ofInt 1).toInt = 1) (by omega) (by omega)) (fun z23 h24 => ?_)
  refine En_sld rfl rfl (by omega) (by omega) (fun z25 h26 => ?_)
  have h27 : z25.toInt = z3.toInt := by rw [h26, h4, show z23.toInt = z1.toInt by omega]
  refine En_Ps 4 (pc' := 2087) (lv' := [(0, .retAddr 0), (1, .ref 0), (2, .ref 159), (3, .int y)]) (st' := [.int ((y + ((Int32.ofInt 2)))), .retAddr 0, .int z25, .ref 159]) rfl ?_
  refine En_top (addI rfl (by decide : (Int32.ofInt 2).toInt = 2) (by omega) (by omega)) (fun z28 h29 => ?_)
  refine En_sld rfl rfl (by omega) (by omega) (fun z30 h31 => ?_)
  have h32 : z30.toInt = z7.toInt := by rw [h31, h8, show z28.toInt = z5.toInt by omega]
  refine En_Ps 4 (pc' := 2092) (lv' := [(0, .retAddr 0), (1, .ref 0), (2, .ref 159), (3, .int y)]) (st' := [.int ((y + ((Int32.ofInt 3)))), .retAddr 0, .int z30, .int z25, .ref 159]) rfl ?_
  refine En_top (addI rfl (by decide : (Int32.ofInt 3).toInt = 3) (by omega) (by omega)) (fun z33 h34 => ?_)
  refine En_sld rfl rfl (by omega) (by omega) (fun z35 h36 => ?_)
  have h37 : z35.toInt = z11.toInt := by rw [h36, h12, show z33.toInt = z9.toInt by omega]
  refine En_callV rfl rfl rfl rfl rfl rfl rfl rfl tgz_159 (by decide +kernel) rfl (c_308x σ15 h16 z25 z30 z35) (by decide) (by decide) (fun v39 σ40 h38 => ?_)
  obtain ⟨h41, h42, z44, rfl, h43⟩ := h38
  have h45 := Fr_trans h20 h42 (by decide +kernel)
  have h46 := INVc_fr h42 (by decide +kernel) h21
  have h47 := WI_fr h42 (by decide +kernel) (by decide +kernel) h22
  refine En_Ps 2 (pc' := 2236) (lv' := [(0, .retAddr 0), (1, .ref 0), (2, .ref 159), (3, .int y)]) (st' := []) rfl ?_
  have h48 : FUL σ40 := (FUL_kp hR h17 h42 (by decide +kernel) (by decide +kernel) (RDL_fr hR.1 h17 h42 (by decide +kernel) (by decide +kernel)))
  exact k _ h41 h46 h47 ⟨⟨h48, (RUT_fr hQ h17 h42 (by decide +kernel) (by decide +kernel)), (QXS_fr hX h17 h42 (by decide +kernel) (by decide +kernel))⟩, (CXS_fr hCx h17 h42 (by decide +kernel) (by decide +kernel)), (BSZ_fr hBz h17 h42 (by decide +kernel) (by decide +kernel))⟩
set_option maxRecDepth 10000 in
set_option maxHeartbeats 4000000 in
theorem law_c62 {L : Nat} {xs : Nat → Int32} {P : PO} (hL : L ≤ 3072) (y : Int32) (h0 : 0 ≤ y.toInt) (h1 : y.toInt + 6 ≤ (L : Int)) (σ0 : SG) (hσ0 : WT σ0) (hC : INVc σ0) (hI : WI σ0) (hL : LHN σ0) (k : ∀ σ, WT σ → INVc σ → WI σ → LHN σ → En 2048 84000 (some (L, xs)) mr_336 P 2236 [(0, .retAddr 0), (1, .ref 0), (2, .ref 159), (3, .int y)] [] σ) : En 2048 84000 (some (L, xs)) mr_336 P 2100 [(0, .retAddr 0), (1, .ref 0), (2, .ref 159), (3, .int y)] [] σ0 := by
  obtain ⟨⟨hR, hQ, hX⟩, hCx, hBz⟩ := hL
  obtain ⟨p, p2, sg, hp, hp2, h_p, h_p2, hne, h_sg, hl_sg⟩ := id hC
  obtain ⟨-, hu_sg⟩ := WT_int hσ0 (g := 18) hp (by decide +kernel) (l := (-1)) (u := 4) (by decide +kernel) h_sg
  have hF0 : Fr [(34, 0), (55, 0)] σ0 σ0 := Fr_rfl
  obtain ⟨t, h_t1, h_t2, -⟩ := id hR.1
  obtain ⟨hl_t, hu_t⟩ := WT_int hσ0 (g := 1) tgz_1 (by decide +kernel) (l := 0) (u := 1600) (by decide +kernel) h_t1
  refine En_Ps 5 (pc' := 2105) (lv' := [(0, .retAddr 0), (1, .ref 0), (2, .ref 159), (3, .int y)]) (st' := [.int ((y + ((Int32.ofInt 1)))), .retAddr 0, .ref 0]) rfl ?_
  refine En_top (addI rfl (by decide : (Int32.ofInt 1).toInt = 1) (by omega) (by omega)) (fun z1 h2 => ?_)
  refine En_sld rfl rfl (by omega) (by omega) (fun z3 h4 => ?_)
  refine En_Ps 4 (pc' := 2110) (lv' := [(0, .retAddr 0), (1, .ref 0), (2, .ref 159), (3, .int y)]) (st' := [.int ((y + ((Int32.ofInt 2)))), .retAddr 0, .int z3, .ref 0]) rfl ?_
  refine En_top (addI rfl (by decide : (Int32.ofInt 2).toInt = 2) (by omega) (by omega)) (fun z5 h6 => ?_)
  refine En_sld rfl rfl (by omega) (by omega) (fun z7 h8 => ?_)
  refine En_Ps 4 (pc' := 2115) (lv' := [(0, .retAddr 0), (1, .ref 0), (2, .ref 159), (3, .int y)]) (st' := [.int ((y + ((Int32.ofInt 3)))), .retAddr 0, .int z7, .int z3, .ref 0]) rfl ?_
  refine En_top (addI rfl (by decide : (Int32.ofInt 3).toInt = 3) (by omega) (by omega)) (fun z9 h10 => ?_)
  refine En_sld rfl rfl (by omega) (by omega) (fun z11 h12 => ?_)
  refine En_Ps 3 (pc' := 2120) (lv' := [(0, .retAddr 0), (1, .ref 0), (2, .ref 159), (3, .int y)]) (st' := [.long ((z11.toInt64 <<< ((((Int8.ofInt 32).toInt32)).toInt64 &&& 63))), .int z7, .int z3, .ref 0]) rfl ?_
  refine En_havL (fun z13 => ?_)
  refine En_Ps 4 (pc' := 2124) (lv' := [(0, .retAddr 0), (1, .ref 0), (2, .ref 159), (3, .int y)]) (st' := [.int ((y + ((Int32.ofInt 4)))), .retAddr 0, .long z13, .int z7, .int z3, .ref 0]) rfl ?_
  refine En_top (addI rfl (by decide : (Int32.ofInt 4).toInt = 4) (by omega) (by omega)) (fun z14 h15 => ?_)
  refine En_sld rfl rfl (by omega) (by omega) (fun z16 h17 => ?_)
  refine En_Ps 3 (pc' := 2130) (lv' := [(0, .retAddr 0), (1, .ref 0), (2, .ref 159), (3, .int y)]) (st' := [.long ((z16.toInt64 &&& ((4294967295 : Int64)))), .long z13, .int z7, .int z3, .ref 0]) rfl ?_
  refine En_havL (fun z18 => ?_)
  refine En_Ps 1 (pc' := 2131) (lv' := [(0, .retAddr 0), (1, .ref 0), (2, .ref 159), (3, .int y)]) (st' := [.long ((z13 ||| z18)), .int z7, .int z3, .ref 0]) rfl ?_
  refine En_havL (fun z19 => ?_)
  refine En_callV rfl rfl rfl rfl rfl rfl rfl rfl tgz_0 (by decide +kernel) rfl (c_185 σ0 hσ0 z3 z7 z19 p hp h_p sg h_sg (by omega)) (by decide) (by decide) (fun v21 σ22 h20 => ?_)
  obtain ⟨h23, h24, z26, rfl, h25⟩ := h20
  have h27 := Fr_trans hF0 h24 (by decide +kernel)
  have h28 := INVc_fr h24 (by decide +kernel) hC
  have h29 := WI_fr h24 (by decide +kernel) (by decide +kernel) hI
  refine En_Ps 6 (pc' := 2140) (lv' := [(0, .retAddr 0), (1, .ref 0), (2, .ref 159), (3, .int y)]) (st' := [.int ((y + ((Int32.ofInt 1)))), .retAddr 0, .ref 159]) rfl ?_
  refine En_top (addI rfl (by decide : (Int32.ofInt 1).toInt = 1) (by omega) (by omega)) (fun z30 h31 => ?_)
  refine En_sld rfl rfl (by omega) (by omega) (fun z32 h33 => ?_)
  have h34 : z32.toInt = z3.toInt := by rw [h33, h4, show z30.toInt = z1.toInt by omega]
  refine En_Ps 4 (pc' := 2145) (lv' := [(0, .retAddr 0), (1, .ref 0), (2, .ref 159), (3, .int y)]) (st' := [.int ((y + ((Int32.ofInt 2)))), .retAddr 0, .int z32, .ref 159]) rfl ?_
  refine En_top (addI rfl (by decide : (Int32.ofInt 2).toInt = 2) (by omega) (by omega)) (fun z35 h36 => ?_)
  refine En_sld rfl rfl (by omega) (by omega) (fun z37 h38 => ?_)
  have h39 : z37.toInt = z7.toInt := by rw [h38, h8, show z35.toInt = z5.toInt by omega]
  refine En_Ps 4 (pc' := 2150) (lv' := [(0, .retAddr 0), (1, .ref 0), (2, .ref 159), (3, .int y)]) (st' := [.int ((y + ((Int32.ofInt 3)))), .retAddr 0, .int z37, .int z32, .ref 159]) rfl ?_
  refine En_top (addI rfl (by decide : (Int32.ofInt 3).toInt = 3) (by omega) (by omega)) (fun z40 h41 => ?_)
  refine En_sld rfl rfl (by omega) (by omega) (fun z42 h43 => ?_)
  have h44 : z42.toInt = z11.toInt := by rw [h43, h12, show z40.toInt = z9.toInt by omega]
  refine En_Ps 3 (pc' := 2155) (lv' := [(0, .retAddr 0), (1, .ref 0), (2, .ref 159), (3, .int y)]) (st' := [.long ((z42.toInt64 <<< ((((Int8.ofInt 32).toInt32)).toInt64 &&& 63))), .int z37, .int z32, .ref 159]) rfl ?_
  refine En_havL (fun z45 => ?_)
  refine En_Ps 4 (pc' := 2159) (lv' := [(0, .retAddr 0), (1, .ref 0), (2, .ref 159), (3, .int y)]) (st' := [.int ((y + ((Int32.ofInt 4)))), .retAddr 0, .long z45, .int z37, .int z32, .ref 159]) rfl ?_
  refine En_top (addI rfl (by decide : (Int32.ofInt 4).toInt = 4) (by omega) (by omega)) (fun z46 h47 => ?_)
  refine En_sld rfl rfl (by omega) (by omega) (fun z48 h49 => ?_)
  have h50 : z48.toInt = z16.toInt := by rw [h49, h17, show z46.toInt = z14.toInt by omega]
  refine En_Ps 3 (pc' := 2165) (lv' := [(0, .retAddr 0), (1, .ref 0), (2, .ref 159), (3, .int y)]) (st' := [.long ((z48.toInt64 &&& ((4294967295 : Int64)))), .long z45, .int z37, .int z32, .ref 159]) rfl ?_
  refine En_havL (fun z51 => ?_)
  refine En_Ps 1 (pc' := 2166) (lv' := [(0, .retAddr 0), (1, .ref 0), (2, .ref 159), (3, .int y)]) (st' := [.long ((z45 ||| z51)), .int z37, .int z32, .ref 159]) rfl ?_
  refine En_havL (fun z52 => ?_)
  refine En_callV rfl rfl rfl rfl rfl rfl rfl rfl tgz_159 (by decide +kernel) rfl (c_333 σ22 h23 z32 z37 z52) (by decide) (by decide) (fun v54 σ55 h53 => ?_)
  obtain ⟨h56, h57, z59, rfl, h58⟩ := h53
  have h60 := Fr_trans h27 h57 (by decide +kernel)
  have h61 := INVc_fr h57 (by decide +kernel) h28
  have h62 := WI_fr h57 (by decide +kernel) (by decide +kernel) h29
  refine En_Ps 2 (pc' := 2236) (lv' := [(0, .retAddr 0), (1, .ref 0), (2, .ref 159), (3, .int y)]) (st' := []) rfl ?_
  have h63 : FUL σ55 := (FUL_kp hR h24 h57 (by decide +kernel) (by decide +kernel) (RDL_fr hR.1 h24 h57 (by decide +kernel) (by decide +kernel)))
  exact k _ h56 h61 h62 ⟨⟨h63, (RUT_fr hQ h24 h57 (by decide +kernel) (by decide +kernel)), (QXS_fr hX h24 h57 (by decide +kernel) (by decide +kernel))⟩, (CXS_fr hCx h24 h57 (by decide +kernel) (by decide +kernel)), (BSZ_fr hBz h24 h57 (by decide +kernel) (by decide +kernel))⟩
set_option maxRecDepth 10000 in
set_option maxHeartbeats 4000000 in
theorem law_c63 {L : Nat} {xs : Nat → Int32} {P : PO} (hL : L ≤ 3072) (y : Int32) (h0 : 0 ≤ y.toInt) (h1 : y.toInt + 6 ≤ (L : Int)) (σ0 : SG) (hσ0 : WT σ0) (hC : INVc σ0) (hI : WI σ0) (hL : LHN σ0) (k : ∀ σ, WT σ → INVc σ → WI σ → LHN σ → En 2048 84000 (some (L, xs)) mr_336 P 2236 [(0, .retAddr 0), (1, .ref 0), (2, .ref 159), (3, .int y)] [] σ) : En 2048 84000 (some (L, xs)) mr_336 P 2173 [(0, .retAddr 0), (1, .ref 0), (2, .ref 159), (3, .int y)] [] σ0 := by
  obtain ⟨⟨hR, hQ, hX⟩, hCx, hBz⟩ := hL
  obtain ⟨p, p2, sg, hp, hp2, h_p, h_p2, hne, h_sg, hl_sg⟩ := id hC
  obtain ⟨-, hu_sg⟩ := WT_int hσ0 (g := 18) hp (by decide +kernel) (l := (-1)) (u := 4) (by decide +kernel) h_sg
  have hF0 : Fr [(34, 0), (55, 0), (56, 0)] σ0 σ0 := Fr_rfl
  obtain ⟨t, h_t1, h_t2, -⟩ := id hR.1
  obtain ⟨hl_t, hu_t⟩ := WT_int hσ0 (g := 1) tgz_1 (by decide +kernel) (l := 0) (u := 1600) (by decide +kernel) h_t1
  refine En_Ps 5 (pc' := 2178) (lv' := [(0, .retAddr 0), (1, .ref 0), (2, .ref 159), (3, .int y)]) (st' := [.int ((y + ((Int32.ofInt 1)))), .retAddr 0, .ref 0]) rfl ?_
  refine En_top (addI rfl (by decide : (Int32.ofInt 1).toInt = 1) (by omega) (by omega)) (fun z1 h2 => ?_)
  refine En_sld rfl rfl (by omega) (by omega) (fun z3 h4 => ?_)
  refine En_Ps 4 (pc' := 2183) (lv' := [(0, .retAddr 0), (1, .ref 0), (2, .ref 159), (3, .int y)]) (st' := [.int ((y + ((Int32.ofInt 2)))), .retAddr 0, .int z3, .ref 0]) rfl ?_
  refine En_top (addI rfl (by decide : (Int32.ofInt 2).toInt = 2) (by omega) (by omega)) (fun z5 h6 => ?_)
  refine En_sld rfl rfl (by omega) (by omega) (fun z7 h8 => ?_)
  refine En_Ps 4 (pc' := 2188) (lv' := [(0, .retAddr 0), (1, .ref 0), (2, .ref 159), (3, .int y)]) (st' := [.int ((y + ((Int32.ofInt 3)))), .retAddr 0, .int z7, .int z3, .ref 0]) rfl ?_
  refine En_top (addI rfl (by decide : (Int32.ofInt 3).toInt = 3) (by omega) (by omega)) (fun z9 h10 => ?_)
  refine En_sld rfl rfl (by omega) (by omega) (fun z11 h12 => ?_)
  refine En_Ps 4 (pc' := 2193) (lv' := [(0, .retAddr 0), (1, .ref 0), (2, .ref 159), (3, .int y)]) (st' := [.int ((y + ((Int32.ofInt 4)))), .retAddr 0, .int z11, .int z7, .int z3, .ref 0]) rfl ?_
  refine En_top (addI rfl (by decide : (Int32.ofInt 4).toInt = 4) (by omega) (by omega)) (fun z13 h14 => ?_)
  refine En_sld rfl rfl (by omega) (by omega) (fun z15 h16 => ?_)
  refine En_Ps 4 (pc' := 2198) (lv' := [(0, .retAddr 0), (1, .ref 0), (2, .ref 159), (3, .int y)]) (st' := [.int ((y + ((Int32.ofInt 5)))), .retAddr 0, .int z15, .int z11, .int z7, .int z3, .ref 0]) rfl ?_
  refine En_top (addI rfl (by decide : (Int32.ofInt 5).toInt = 5) (by omega) (by omega)) (fun z17 h18 => ?_)
  refine En_sld rfl rfl (by omega) (by omega) (fun z19 h20 => ?_)
  refine En_callV rfl rfl rfl rfl rfl rfl rfl rfl tgz_0 (by decide +kernel) rfl (c_162 σ0 hσ0 z3 z7 z11 z15 z19 p hp h_p sg h_sg (by omega)) (by decide) (by decide) (fun v22 σ23 h21 => ?_)
  obtain ⟨h24, h25, z27, rfl, h26⟩ := h21
  have h28 := Fr_trans hF0 h25 (by decide +kernel)
  have h29 := INVc_fr h25 (by decide +kernel) hC
  have h30 := WI_fr h25 (by decide +kernel) (by decide +kernel) hI
  refine En_Ps 6 (pc' := 2208) (lv' := [(0, .retAddr 0), (1, .ref 0), (2, .ref 159), (3, .int y)]) (st' := [.int ((y + ((Int32.ofInt 1)))), .retAddr 0, .ref 159]) rfl ?_
  refine En_top (addI rfl (by decide : (Int32.ofInt 1).toInt = 1) (by omega) (by omega)) (fun z31 h32 => ?_)
  refine En_sld rfl rfl (by omega) (by omega) (fun z33 h34 => ?_)
  have h35 : z33.toInt = z3.toInt := by rw [h34, h4, show z31.toInt = z1.toInt by omega]
  refine En_Ps 4 (pc' := 2213) (lv' := [(0, .retAddr 0), (1, .ref 0), (2, .ref 159), (3, .int y)]) (st' := [.int ((y + ((Int32.ofInt 2)))), .retAddr 0, .int z33, .ref 159]) rfl ?_
  refine En_top (addI rfl (by decide : (Int32.ofInt 2).toInt = 2) (by omega) (by omega)) (fun z36 h37 => ?_)
  refine En_sld rfl rfl (by omega) (by omega) (fun z38 h39 => ?_)
  have h40 : z38.toInt = z7.toInt := by rw [h39, h8, show z36.toInt = z5.toInt by omega]
  refine En_Ps 4 (pc' := 2218) (lv' := [(0, .retAddr 0), (1, .ref 0), (2, .ref 159), (3, .int y)]) (st' := [.int ((y + ((Int32.ofInt 3)))), .retAddr 0, .int z38, .int z33, .ref 159]) rfl ?_
  refine En_top (addI rfl (by decide : (Int32.ofInt 3).toInt = 3) (by omega) (by omega)) (fun z41 h42 => ?_)
  refine En_sld rfl rfl (by omega) (by omega) (fun z43 h44 => ?_)
  have h45 : z43.toInt = z11.toInt := by rw [h44, h12, show z41.toInt = z9.toInt by omega]
  refine En_Ps 4 (pc' := 2223) (lv' := [(0, .retAddr 0), (1, .ref 0), (2, .ref 159), (3, .int y)]) (st' := [.int ((y + ((Int32.ofInt 4)))), .retAddr 0, .int z43, .int z38, .int z33, .ref 159]) rfl ?_
  refine En_top (addI rfl (by decide : (Int32.ofInt 4).toInt = 4) (by omega) (by omega)) (fun z46 h47 => ?_)
  refine En_sld rfl rfl (by omega) (by omega) (fun z48 h49 => ?_)
  have h50 : z48.toInt = z15.toInt := by rw [h49, h16, show z46.toInt = z13.toInt by omega]
  refine En_Ps 4 (pc' := 2228) (lv' := [(0, .retAddr 0), (1, .ref 0), (2, .ref 159), (3, .int y)]) (st' := [.int ((y + ((Int32.ofInt 5)))), .retAddr 0, .int z48, .int z43, .int z38, .int z33, .ref 159]) rfl ?_
  refine En_top (addI rfl (by decide : (Int32.ofInt 5).toInt = 5) (by omega) (by omega)) (fun z51 h52 => ?_)
  refine En_sld rfl rfl (by omega) (by omega) (fun z53 h54 => ?_)
  have h55 : z53.toInt = z19.toInt := by rw [h54, h20, show z51.toInt = z17.toInt by omega]
  refine En_callV rfl rfl rfl rfl rfl rfl rfl rfl tgz_159 (by decide +kernel) rfl (c_297 σ23 h24 z33 z38 z43 z48 z53) (by decide) (by decide) (fun v57 σ58 h56 => ?_)
  obtain ⟨h59, h60, z62, rfl, h61⟩ := h56
  have h63 := Fr_trans h28 h60 (by decide +kernel)
  have h64 := INVc_fr h60 (by decide +kernel) h29
  have h65 := WI_fr h60 (by decide +kernel) (by decide +kernel) h30
  refine En_Ps 2 (pc' := 2236) (lv' := [(0, .retAddr 0), (1, .ref 0), (2, .ref 159), (3, .int y)]) (st' := []) rfl ?_
  have h66 : FUL σ58 := (FUL_kp hR h25 h60 (by decide +kernel) (by decide +kernel) (RDL_fr hR.1 h25 h60 (by decide +kernel) (by decide +kernel)))
  exact k _ h59 h64 h65 ⟨⟨h66, (RUT_fr hQ h25 h60 (by decide +kernel) (by decide +kernel)), (QXS_fr hX h25 h60 (by decide +kernel) (by decide +kernel))⟩, (CXS_fr hCx h25 h60 (by decide +kernel) (by decide +kernel)), (BSZ_fr hBz h25 h60 (by decide +kernel) (by decide +kernel))⟩
end
/-! 33.z.loop -/
section
abbrev LPO : PO := fun v σ => v = some (Value.int 1) ∧ WT σ
set_option maxRecDepth 100000 in
theorem law_end {L : Nat} {xs : Nat → Int32} {y : Int32} {σ : SG} (hσ : WT σ) : En 2048 84000 (some (L, xs)) mr_336 LPO 2242 [(0, .retAddr 0), (1, .ref 0), (2, .ref 159), (3, .int y)] [] σ := by
  refine En_Ps 1 (pc' := 2243) (lv' := [(0, .retAddr 0), (1, .ref 0), (2, .ref 159), (3, .int y)]) (st' := [.int (Int32.ofInt 1)]) rfl ?_
  refine En_top (by decide : (Int32.ofInt 1).toInt = 1) (fun z h => ?_)
  have e : z = 1 := Int32.toInt_inj.mp (by rw [h]; decide)
  exact En_ret (v := some (Value.int z)) rfl rfl (retZ rfl rfl (by omega) (by omega)) ⟨by rw [e], hσ⟩
set_option maxRecDepth 100000 in
set_option maxHeartbeats 8000000 in
theorem law_loop {L : Nat} {xs : Nat → Int32} (hL : L ≤ 3072) : ∀ (n : Nat) (y : Int32) (σ : SG), 0 ≤ y.toInt → y.toInt ≤ 3078 → (L : Int) - y.toInt < (n : Int) → WT σ → INVc σ → WI σ → LHN σ → En 2048 84000 (some (L, xs)) mr_336 LPO 18 [(0, .retAddr 0), (1, .ref 0), (2, .ref 159), (3, .int y)] [] σ := by
  intro n
  induction n with
  | zero =>
    intro y σ h0 h1 h2 hσ hC hI hR
    refine En_Ps 5 (pc' := 24) (lv' := [(0, .retAddr 0), (1, .ref 0), (2, .ref 159), (3, .int y)]) (st' := [.int ((Int32.ofNat L) - ((Int8.ofInt 6).toInt32)), .int y]) rfl ?_
    exact En_icGt _ rfl (law_L6 hL) rfl (fun h => law_end hσ) (fun h => by exfalso; omega)
  | succ n ih =>
    intro y σ h0 h1 h2 hσ hC hI hR
    refine En_Ps 5 (pc' := 24) (lv' := [(0, .retAddr 0), (1, .ref 0), (2, .ref 159), (3, .int y)]) (st' := [.int ((Int32.ofNat L) - ((Int8.ofInt 6).toInt32)), .int y]) rfl ?_
    refine En_icGt _ rfl (law_L6 hL) rfl (fun h => law_end hσ) (fun h => ?_)
    refine En_Ps 2 (pc' := 29) (lv' := [(0, .retAddr 0), (1, .ref 0), (2, .ref 159), (3, .int y)]) (st' := [.int y, .retAddr 0]) rfl ?_
    refine En_sld rfl rfl (by omega) (by omega) (fun z hz => ?_)
    refine En_Ps 2 (pc' := 33) (lv' := [(0, .retAddr 0), (1, .ref 0), (2, .ref 159), (3, .int y)]) (st' := [.int (z &&& ((Int8.ofInt 63).toInt32))]) rfl ?_
    refine En_rng (l := 0) (u := 63) (andR_rng (by decide : ((Int8.ofInt 63).toInt32).toInt = 63) (by decide)) (fun w w0 w1 => ?_)
    have nx : ∀ σ', WT σ' → INVc σ' → WI σ' → LHN σ' → En 2048 84000 (some (L, xs)) mr_336 LPO 2236 [(0, .retAddr 0), (1, .ref 0), (2, .ref 159), (3, .int y)] [] σ' := by
      intro σ' a b c d
      refine En_Ps 1 (pc' := 2239) (lv' := [(3, .int (y + Int32.ofInt 6)), (0, .retAddr 0), (1, .ref 0), (2, .ref 159)]) (st' := []) rfl ?_
      refine En_lv1 (addI rfl (by decide : (Int32.ofInt 6).toInt = 6) (by omega) (by omega)) (fun y2 hy => ?_)
      refine En_Ps 1 (pc' := 18) (lv' := [(3, .int y2), (0, .retAddr 0), (1, .ref 0), (2, .ref 159)]) (st' := []) rfl ?_
      refine En_lv (lv := [(0, .retAddr 0), (1, .ref 0), (2, .ref 159), (3, .int y2)]) ⟨rfl, rfl, rfl, rfl, trivial⟩ ?_
      exact ih y2 σ' (by omega) (by omega) (by omega) a b c d
    rcases (show w.toInt = 0 ∨ w.toInt = 1 ∨ w.toInt = 2 ∨ w.toInt = 3 ∨ w.toInt = 4 ∨ w.toInt = 5 ∨ w.toInt = 6 ∨ w.toInt = 7 ∨ w.toInt = 8 ∨ w.toInt = 9 ∨ w.toInt = 10 ∨ w.toInt = 11 ∨ w.toInt = 12 ∨ w.toInt = 13 ∨ w.toInt = 14 ∨ w.toInt = 15 ∨ w.toInt = 16 ∨ w.toInt = 17 ∨ w.toInt = 18 ∨ w.toInt = 19 ∨ w.toInt = 20 ∨ w.toInt = 21 ∨ w.toInt = 22 ∨ w.toInt = 23 ∨ w.toInt = 24 ∨ w.toInt = 25 ∨ w.toInt = 26 ∨ w.toInt = 27 ∨ w.toInt = 28 ∨ w.toInt = 29 ∨ w.toInt = 30 ∨ w.toInt = 31 ∨ w.toInt = 32 ∨ w.toInt = 33 ∨ w.toInt = 34 ∨ w.toInt = 35 ∨ w.toInt = 36 ∨ w.toInt = 37 ∨ w.toInt = 38 ∨ w.toInt = 39 ∨ w.toInt = 40 ∨ w.toInt = 41 ∨ w.toInt = 42 ∨ w.toInt = 43 ∨ w.toInt = 44 ∨ w.toInt = 45 ∨ w.toInt = 46 ∨ w.toInt = 47 ∨ w.toInt = 48 ∨ w.toInt = 49 ∨ w.toInt = 50 ∨ w.toInt = 51 ∨ w.toInt = 52 ∨ w.toInt = 53 ∨ w.toInt = 54 ∨ w.toInt = 55 ∨ w.toInt = 56 ∨ w.toInt = 57 ∨ w.toInt = 58 ∨ w.toInt = 59 ∨ w.toInt = 60 ∨ w.toInt = 61 ∨ w.toInt = 62 ∨ w.toInt = 63 by omega) with h' | h' | h' | h' | h' | h' | h' | h' | h' | h' | h' | h' | h' | h' | h' | h' | h' | h' | h' | h' | h' | h' | h' | h' | h' | h' | h' | h' | h' | h' | h' | h' | h' | h' | h' | h' | h' | h' | h' | h' | h' | h' | h' | h' | h' | h' | h' | h' | h' | h' | h' | h' | h' | h' | h' | h' | h' | h' | h' | h' | h' | h' | h' | h'
    · exact En_swI (t := 304) (n := 0) rfl h' rfl (by decide +kernel) (law_c0 hL y h0 (by omega) σ hσ hC hI hR nx)
    · exact En_swI (t := 367) (n := 1) rfl h' rfl (by decide +kernel) (law_c1 hL y h0 (by omega) σ hσ hC hI hR nx)
    · exact En_swI (t := 390) (n := 2) rfl h' rfl (by decide +kernel) (law_c2 hL y h0 (by omega) σ hσ hC hI hR nx)
    · exact En_swI (t := 403) (n := 3) rfl h' rfl (by decide +kernel) (law_c3 hL y h0 (by omega) σ hσ hC hI hR nx)
    · exact En_swI (t := 426) (n := 4) rfl h' rfl (by decide +kernel) (law_c4 hL y h0 (by omega) σ hσ hC hI hR nx)
    · exact En_swI (t := 459) (n := 5) rfl h' rfl (by decide +kernel) (law_c5 hL y h0 (by omega) σ hσ hC hI hR nx)
    · exact En_swI (t := 502) (n := 6) rfl h' rfl (by decide +kernel) (law_c6 hL y h0 (by omega) σ hσ hC hI hR nx)
    · exact En_swI (t := 535) (n := 7) rfl h' rfl (by decide +kernel) (law_c7 hL y h0 (by omega) σ hσ hC hI hR nx)
    · exact En_swI (t := 568) (n := 8) rfl h' rfl (by decide +kernel) (law_c8 hL y h0 (by omega) σ hσ hC hI hR nx)
    · exact En_swI (t := 601) (n := 9) rfl h' rfl (by decide +kernel) (law_c9 hL y h0 (by omega) σ hσ hC hI hR nx)
    · exact En_swI (t := 624) (n := 10) rfl h' rfl (by decide +kernel) (law_c10 hL y h0 (by omega) σ hσ hC hI hR nx)
    · exact En_swI (t := 647) (n := 11) rfl h' rfl (by decide +kernel) (law_c11 hL y h0 (by omega) σ hσ hC hI hR nx)
    · exact En_swI (t := 680) (n := 12) rfl h' rfl (by decide +kernel) (law_c12 hL y h0 (by omega) σ hσ hC hI hR nx)
    · exact En_swI (t := 713) (n := 13) rfl h' rfl (by decide +kernel) (law_c13 hL y h0 (by omega) σ hσ hC hI hR nx)
    · exact En_swI (t := 736) (n := 14) rfl h' rfl (by decide +kernel) (law_c14 hL y h0 (by omega) σ hσ hC hI hR nx)
    · exact En_swI (t := 769) (n := 15) rfl h' rfl (by decide +kernel) (law_c15 hL y h0 (by omega) σ hσ hC hI hR nx)
    · exact En_swI (t := 802) (n := 16) rfl h' rfl (by decide +kernel) (law_c16 hL y h0 (by omega) σ hσ hC hI hR nx)
    · exact En_swI (t := 825) (n := 17) rfl h' rfl (by decide +kernel) (law_c17 hL y h0 (by omega) σ hσ hC hI hR nx)
    · exact En_swI (t := 848) (n := 18) rfl h' rfl (by decide +kernel) (law_c18 hL y h0 (by omega) σ hσ hC hI hR nx)
    · exact En_swI (t := 861) (n := 19) rfl h' rfl (by decide +kernel) (law_c19 hL y h0 (by omega) σ hσ hC hI hR nx)
    · exact En_swI (t := 874) (n := 20) rfl h' rfl (by decide +kernel) (law_c20 hL y h0 (by omega) σ hσ hC hI hR nx)
    · exact En_swI (t := 917) (n := 21) rfl h' rfl (by decide +kernel) (law_c21 hL y h0 (by omega) σ hσ hC hI hR nx)
    · exact En_swI (t := 930) (n := 22) rfl h' rfl (by decide +kernel) (law_c22 hL y h0 (by omega) σ hσ hC hI hR nx)
    · exact En_swI (t := 973) (n := 23) rfl h' rfl (by decide +kernel) (law_c23 hL y h0 (by omega) σ hσ hC hI hR nx)
    · exact En_swI (t := 996) (n := 24) rfl h' rfl (by decide +kernel) (law_c24 hL y h0 (by omega) σ hσ hC hI hR nx)
    · exact En_swI (t := 1019) (n := 25) rfl h' rfl (by decide +kernel) (law_c25 hL y h0 (by omega) σ hσ hC hI hR nx)
    · exact En_swI (t := 1052) (n := 26) rfl h' rfl (by decide +kernel) (law_c26 hL y h0 (by omega) σ hσ hC hI hR nx)
    · exact En_swI (t := 1085) (n := 27) rfl h' rfl (by decide +kernel) (law_c27 hL y h0 (by omega) σ hσ hC hI hR nx)
    · exact En_swI (t := 1128) (n := 28) rfl h' rfl (by decide +kernel) (law_c28 hL y h0 (by omega) σ hσ hC hI hR nx)
    · exact En_swI (t := 1151) (n := 29) rfl h' rfl (by decide +kernel) (law_c29 hL y h0 (by omega) σ hσ hC hI hR nx)
    · exact En_swI (t := 1184) (n := 30) rfl h' rfl (by decide +kernel) (law_c30 hL y h0 (by omega) σ hσ hC hI hR nx)
    · exact En_swI (t := 1217) (n := 31) rfl h' rfl (by decide +kernel) (law_c31 hL y h0 (by omega) σ hσ hC hI hR nx)
    · exact En_swI (t := 1250) (n := 32) rfl h' rfl (by decide +kernel) (law_c32 hL y h0 (by omega) σ hσ hC hI hR nx)
    · exact En_swI (t := 1273) (n := 33) rfl h' rfl (by decide +kernel) (law_c33 hL y h0 (by omega) σ hσ hC hI hR nx)
    · exact En_swI (t := 1296) (n := 34) rfl h' rfl (by decide +kernel) (law_c34 hL y h0 (by omega) σ hσ hC hI hR nx)
    · exact En_swI (t := 1339) (n := 35) rfl h' rfl (by decide +kernel) (law_c35 hL y h0 (by omega) σ hσ hC hI hR nx)
    · exact En_swI (t := 1362) (n := 36) rfl h' rfl (by decide +kernel) (law_c36 hL y h0 (by omega) σ hσ hC hI hR nx)
    · exact En_swI (t := 1385) (n := 37) rfl h' rfl (by decide +kernel) (law_c37 hL y h0 (by omega) σ hσ hC hI hR nx)
    · exact En_swI (t := 1418) (n := 38) rfl h' rfl (by decide +kernel) (law_c38 hL y h0 (by omega) σ hσ hC hI hR nx)
    · exact En_swI (t := 1451) (n := 39) rfl h' rfl (by decide +kernel) (law_c39 hL y h0 (by omega) σ hσ hC hI hR nx)
    · exact En_swI (t := 1484) (n := 40) rfl h' rfl (by decide +kernel) (law_c40 hL y h0 (by omega) σ hσ hC hI hR nx)
    · exact En_swI (t := 1517) (n := 41) rfl h' rfl (by decide +kernel) (law_c41 hL y h0 (by omega) σ hσ hC hI hR nx)
    · exact En_swI (t := 1540) (n := 42) rfl h' rfl (by decide +kernel) (law_c42 hL y h0 (by omega) σ hσ hC hI hR nx)
    · exact En_swI (t := 1563) (n := 43) rfl h' rfl (by decide +kernel) (law_c43 hL y h0 (by omega) σ hσ hC hI hR nx)
    · exact En_swI (t := 1596) (n := 44) rfl h' rfl (by decide +kernel) (law_c44 hL y h0 (by omega) σ hσ hC hI hR nx)
    · exact En_swI (t := 1609) (n := 45) rfl h' rfl (by decide +kernel) (law_c45 hL y h0 (by omega) σ hσ hC hI hR nx)
    · exact En_swI (t := 1632) (n := 46) rfl h' rfl (by decide +kernel) (law_c46 hL y h0 (by omega) σ hσ hC hI hR nx)
    · exact En_swI (t := 1665) (n := 47) rfl h' rfl (by decide +kernel) (law_c47 hL y h0 (by omega) σ hσ hC hI hR nx)
    · exact En_swI (t := 1688) (n := 48) rfl h' rfl (by decide +kernel) (law_c48 hL y h0 (by omega) σ hσ hC hI hR nx)
    · exact En_swI (t := 1721) (n := 49) rfl h' rfl (by decide +kernel) (law_c49 hL y h0 (by omega) σ hσ hC hI hR nx)
    · exact En_swI (t := 1744) (n := 50) rfl h' rfl (by decide +kernel) (law_c50 hL y h0 (by omega) σ hσ hC hI hR nx)
    · exact En_swI (t := 1767) (n := 51) rfl h' rfl (by decide +kernel) (law_c51 hL y h0 (by omega) σ hσ hC hI hR nx)
    · exact En_swI (t := 1780) (n := 52) rfl h' rfl (by decide +kernel) (law_c52 hL y h0 (by omega) σ hσ hC hI hR nx)
    · exact En_swI (t := 1803) (n := 53) rfl h' rfl (by decide +kernel) (law_c53 hL y h0 (by omega) σ hσ hC hI hR nx)
    · exact En_swI (t := 1816) (n := 54) rfl h' rfl (by decide +kernel) (law_c54 hL y h0 (by omega) σ hσ hC hI hR nx)
    · exact En_swI (t := 1859) (n := 55) rfl h' rfl (by decide +kernel) (law_c55 hL y h0 (by omega) σ hσ hC hI hR nx)
    · exact En_swI (t := 1892) (n := 56) rfl h' rfl (by decide +kernel) (law_c56 hL y h0 (by omega) σ hσ hC hI hR nx)
    · exact En_swI (t := 1935) (n := 57) rfl h' rfl (by decide +kernel) (law_c57 hL y h0 (by omega) σ hσ hC hI hR nx)
    · exact En_swI (t := 1988) (n := 58) rfl h' rfl (by decide +kernel) (law_c58 hL y h0 (by omega) σ hσ hC hI hR nx)
    · exact En_swI (t := 2011) (n := 59) rfl h' rfl (by decide +kernel) (law_c59 hL y h0 (by omega) σ hσ hC hI hR nx)
    · exact En_swI (t := 2034) (n := 60) rfl h' rfl (by decide +kernel) (law_c60 hL y h0 (by omega) σ hσ hC hI hR nx)
    · exact En_swI (t := 2057) (n := 61) rfl h' rfl (by decide +kernel) (law_c61 hL y h0 (by omega) σ hσ hC hI hR nx)
    · exact En_swI (t := 2100) (n := 62) rfl h' rfl (by decide +kernel) (law_c62 hL y h0 (by omega) σ hσ hC hI hR nx)
    · exact En_swI (t := 2173) (n := 63) rfl h' rfl (by decide +kernel) (law_c63 hL y h0 (by omega) σ hσ hC hI hR nx)
end
/-! 34.a.inv -/
section
theorem INVc0 : INVc sg0 := ⟨18, 44, 0, by decide +kernel, by decide +kernel, by decide +kernel, by decide +kernel, by decide, by decide +kernel, by decide⟩
theorem row_ci {σ : SG} {a n : Nat} (h : σ a = List.replicate n (.int 0)) (i : Int) : ci σ a i = 0 := by
  unfold ci
  rw [h, List.getElem?_replicate]
  by_cases z : i.toNat < n
  · rw [if_pos z] <;> exact (by decide : (0 : Int32).toInt = 0)
  · rw [if_neg z] <;> rfl
theorem z160 (i : Fin 226) : ci sg0 160 (i.val : Int) = 0 := row_ci (n := 226) (lsQ_ok (by decide +kernel)) _
theorem z161 (i : Fin 678) : ci sg0 161 (i.val : Int) = 0 := row_ci (n := 678) (lsQ_ok (by decide +kernel)) _
theorem WINV_0 {f : Int → Int} (h : ∀ i : Int, 0 ≤ i → i < 226 → f i = 0) : WINV f := by
  have e (i : Int) (a : 0 ≤ i) (b : i < 226) := h i a b
  refine ⟨?_, ?_, ?_, fun d d0 d4 => ?_⟩
  · rw [e 5 (by omega) (by omega), e 7 (by omega) (by omega)]; omega
  · rw [e 6 (by omega) (by omega)]; omega
  · rw [e 6 (by omega) (by omega)]; omega
  · rw [e 6 (by omega) (by omega), e (12 + 4 * d) (by omega) (by omega)]; exact Int.le_refl 0
theorem FX00 : FXP sg0 18 := by
  refine ⟨by decide +kernel, by decide +kernel, by decide +kernel, by decide +kernel, by decide +kernel, by decide +kernel, by decide +kernel, by decide +kernel, by decide +kernel, fun d d4 => ?_⟩
  rcases (show d = 0 ∨ d = 1 ∨ d = 2 ∨ d = 3 by omega) with z | z | z | z <;> subst z <;> exact ⟨by decide +kernel, by decide +kernel, by decide +kernel, by decide +kernel⟩
theorem FX01 : FXP sg0 44 := by
  refine ⟨by decide +kernel, by decide +kernel, by decide +kernel, by decide +kernel, by decide +kernel, by decide +kernel, by decide +kernel, by decide +kernel, by decide +kernel, fun d d4 => ?_⟩
  rcases (show d = 0 ∨ d = 1 ∨ d = 2 ∨ d = 3 by omega) with z | z | z | z <;> subst z <;> exact ⟨by decide +kernel, by decide +kernel, by decide +kernel, by decide +kernel⟩
theorem RDL0 : RDL sg0 := ⟨0, by decide +kernel, by decide +kernel, fun i i0 i1 => by have : (0 : Int32).toInt = 0 := (by decide); omega, by decide +kernel, by decide +kernel, FX00, FX01⟩
theorem FLG0 : FLGs sg0 := fun k k0 k3 => by
  rcases (show k = 0 ∨ k = 1 ∨ k = 2 by omega) with z | z | z <;> subst z <;> decide +kernel
theorem im0_all : ∀ k : Fin 3, (sg0 70)[k.val]? = some (Value.ref (72 + 26 * k.val)) := by decide +kernel
theorem FX0i (a : Nat) (h : a = 72 ∨ a = 98 ∨ a = 124) : FXP sg0 a := by
  rcases h with h | h | h <;> subst h <;>
  · refine ⟨by decide +kernel, by decide +kernel, by decide +kernel, by decide +kernel, by decide +kernel, by decide +kernel, by decide +kernel, by decide +kernel, by decide +kernel, fun d d4 => ?_⟩
    rcases (show d = 0 ∨ d = 1 ∨ d = 2 ∨ d = 3 by omega) with z | z | z | z <;> subst z <;> exact ⟨by decide +kernel, by decide +kernel, by decide +kernel, by decide +kernel⟩
theorem IMX0 : IMX sg0 := fun k k3 => ⟨im0_all ⟨k, k3⟩, FX0i _ (by omega)⟩
theorem wf0 (i : Int) (a : 0 ≤ i) (b : i < 226) : wf sg0 i = 0 := by
  have := z160 ⟨i.toNat, by omega⟩
  simp only at this
  rw [show ((i.toNat : Nat) : Int) = i by omega] at this; exact this
theorem kn0_all : ∀ i : Fin 226, (i.val < 10 ∨ (154 ≤ i.val ∧ i.val < 166 ∧ i.val % 2 = 1)) → ci sg0 (18 + lcO (i.val : Int)) (lcB (i.val : Int)) = 0 := by decide +kernel
theorem fl0_all : ∀ k : Fin 3, ci sg0 71 (k.val : Int) = 0 := by decide +kernel
theorem FUL0 : FUL sg0 := by
  have w2 := wf0 2 (by omega) (by omega)
  have w3 := wf0 3 (by omega) (by omega)
  have w4 := wf0 4 (by omega) (by omega)
  have w5 := wf0 5 (by omega) (by omega)
  have w6 := wf0 6 (by omega) (by omega)
  refine ⟨RDL0, FLG0, IMX0, fun p hp => ?_, ⟨fun d d0 d1 _ _ => by omega, fun d d0 d1 _ => by omega⟩, fun j j0 j1 => by omega, fun k k3 z => absurd (fl0_all ⟨k, k3⟩) z⟩
  have h9 : (sg0 0)[9]? = some (Value.ref 18) := by decide +kernel
  rw [h9] at hp
  injection hp with hp
  injection hp with hp
  subst hp
  refine ⟨Or.inl rfl, fun i i0 i1 x => ?_⟩
  rw [wf0 i i0 i1]
  have k := kn0_all ⟨i.toNat, by omega⟩
  simp only at k
  rw [show ((i.toNat : Nat) : Int) = i by omega] at k
  refine k ?_
  unfold act at x
  rw [w2, w3, w4, w5, w6] at x
  omega
theorem LEA0 : LEA sg0 := by
  have w2 := wf0 2 (by omega) (by omega)
  have w7 := wf0 7 (by omega) (by omega)
  exact ⟨FUL0, fun z => by omega, fun z => by omega, fun k k3 z => absurd (fl0_all ⟨k, k3⟩) z⟩
theorem bz0_all : ∀ x : Fin 54, ci sg0 15 (x.val : Int) = 0 := by decide +kernel
theorem LHN0 : LHN sg0 := ⟨LEA0, ⟨CX_0 (fun i a b => wf0 i a b), fun k k3 z => absurd (fl0_all ⟨k, k3⟩) z⟩, fun x hx => bz0_all ⟨x, hx⟩⟩
theorem WI0 : WI sg0 := by
  refine ⟨WINV_0 (fun i a b => ?_), fun k k0 k3 => WINV_0 (fun i a b => ?_)⟩
  · have := z160 ⟨i.toNat, by omega⟩
    simp only at this
    rw [show ((i.toNat : Nat) : Int) = i by omega] at this; exact this
  · have := z161 ⟨(226 * k + i).toNat, by omega⟩
    simp only at this
    rw [show (((226 * k + i).toNat : Nat) : Int) = 226 * k + i by omega] at this; exact this
end
/-! 35.a.go -/
section
set_option maxRecDepth 100000 in
theorem law_front {L : Nat} {xs : Nat → Int32} {x : Option Value × AH} (g : Go MT 2048 84000 (some (L, xs)) mr_336 18 [(3, .int (Int32.ofInt 0)), (2, .ref 159), (1, .ref 0), (0, .retAddr 0)] [] h0 x) : Go MT 2048 84000 (some (L, xs)) mr_336 0 [(0, .retAddr 0)] [] [] x := by
  refine Go_N (pc' := 3) (st' := [.ref 0]) (h' := [(0, 10, DFL 10)]) rfl rfl rfl ?_
  refine Go_Ps 1 (pc' := 4) (lv' := [(0, .retAddr 0)]) (st' := [.ref 0, .ref 0]) rfl ?_
  refine Go_call (v1 := none) (h1 := hX) (vs := [.ref 0]) (r := [.ref 0]) rfl rfl rfl rfl (by decide) rfl rfl rfl rfl (Go_room run_X (by decide) (by decide +kernel)) ?_
  refine Go_Ps 1 (pc' := 8) (lv' := [(1, .ref 0), (0, .retAddr 0)]) (st' := []) rfl ?_
  refine Go_N (pc' := 11) (st' := [.ref 159]) (h' := hX ++ [(0, 11, DFL 11)]) rfl rfl (by decide +kernel) ?_
  refine Go_Ps 1 (pc' := 12) (lv' := [(1, .ref 0), (0, .retAddr 0)]) (st' := [.ref 159, .ref 159]) rfl ?_
  refine Go_call (v1 := none) (h1 := h0) (vs := [.ref 159]) (r := [.ref 159]) rfl rfl rfl rfl (by decide) rfl rfl rfl (by decide +kernel) (Go_room run_M (by decide) (by decide +kernel)) ?_
  refine Go_Ps 3 (pc' := 18) (lv' := [(3, .int (Int32.ofInt 0)), (2, .ref 159), (1, .ref 0), (0, .retAddr 0)]) (st' := []) rfl ?_
  exact g
theorem law_go {L : Nat} {xs : Nat → Int32} (hL : L ≤ 3072) : ∃ hf, hf.length ≤ 1000 ∧ slo hf ≤ 100000 ∧ Go MT 2048 84000 (some (L, xs)) mr_336 0 [(0, .retAddr 0)] [] [] (some (.int 1), hf) := by
  have h := law_loop (xs := xs) hL (L + 1) (Int32.ofInt 0) sg0 (by decide) (by decide) (by rw [show (Int32.ofInt 0).toInt = 0 from by decide]; omega) WT0 INVc0 WI0 LHN0
  have h2 : En 2048 84000 (some (L, xs)) mr_336 LPO 18 [(3, .int (Int32.ofInt 0)), (2, .ref 159), (1, .ref 0), (0, .retAddr 0)] [] sg0 := En_lv (lv := [(0, .retAddr 0), (1, .ref 0), (2, .ref 159), (3, .int (Int32.ofInt 0))]) ⟨rfl, rfl, rfl, rfl, trivial⟩ h
  obtain ⟨v, σ', g, rfl, w⟩ := h2
  refine ⟨HP σ', len_HP, slo_HP w, law_front ?_⟩
  rw [h0_HP]
  exact g
end
