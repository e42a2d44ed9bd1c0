set_option maxRecDepth 10000 in
set_option maxHeartbeats 4000000 in
theorem law_c57 {L : Nat} {xs : Nat → Int32} {P : PO} (hL : L ≤ 3072) (y : Int32) (h0 : 0 ≤ y.toInt) (h1 : y.toInt + 6 ≤ (L : Int)) (σ0 : SG) (hσ0 : WT σ0) (hC : INVc σ0) (hI : WI σ0) (hL : LEA σ0) (k : ∀ σ, WT σ → INVc σ → WI σ → LEA σ → En 2048 84000 (some (L, xs)) mr_336 P 2236 [(0, .retAddr 0), (1, .ref 0), (2, .ref 159), (3, .int y)] [] σ) : En 2048 84000 (some (L, xs)) mr_336 P 1935 [(0, .retAddr 0), (1, .ref 0), (2, .ref 159), (3, .int y)] [] σ0 := by
  obtain ⟨hR, hQ, hX⟩ := hL
  obtain ⟨p, p2, sg, hp, hp2, h_p, h_p2, hne, h_sg, hl_sg⟩ := id hC
  obtain ⟨-, hu_sg⟩ := WT_int hσ0 (g := 18) hp (by decide +kernel) (l := (-1)) (u := 4) (by decide +kernel) h_sg
  have hF0 : Fr [(35, 18), (35, 21), (35, 31), (42, 0), (43, 0), (44, 0), (45, 0), (46, 0)] σ0 σ0 := Fr_rfl
  obtain ⟨t, h_t1, h_t2, -⟩ := id hR.1
  obtain ⟨hl_t, hu_t⟩ := WT_int hσ0 (g := 1) tgz_1 (by decide +kernel) (l := 0) (u := 1600) (by decide +kernel) h_t1
  refine En_Ps 5 (pc' := 1940) (lv' := [(0, .retAddr 0), (1, .ref 0), (2, .ref 159), (3, .int y)]) (st' := [.int ((y + ((Int32.ofInt 1)))), .retAddr 0, .ref 0]) rfl ?_
  refine En_top (addI rfl (by decide : (Int32.ofInt 1).toInt = 1) (by omega) (by omega)) (fun z1 h2 => ?_)
  refine En_sld rfl rfl (by omega) (by omega) (fun z3 h4 => ?_)
  refine En_Ps 4 (pc' := 1945) (lv' := [(0, .retAddr 0), (1, .ref 0), (2, .ref 159), (3, .int y)]) (st' := [.int ((y + ((Int32.ofInt 2)))), .retAddr 0, .int z3, .ref 0]) rfl ?_
  refine En_top (addI rfl (by decide : (Int32.ofInt 2).toInt = 2) (by omega) (by omega)) (fun z5 h6 => ?_)
  refine En_sld rfl rfl (by omega) (by omega) (fun z7 h8 => ?_)
  refine En_Ps 4 (pc' := 1950) (lv' := [(0, .retAddr 0), (1, .ref 0), (2, .ref 159), (3, .int y)]) (st' := [.int ((y + ((Int32.ofInt 3)))), .retAddr 0, .int z7, .int z3, .ref 0]) rfl ?_
  refine En_top (addI rfl (by decide : (Int32.ofInt 3).toInt = 3) (by omega) (by omega)) (fun z9 h10 => ?_)
  refine En_sld rfl rfl (by omega) (by omega) (fun z11 h12 => ?_)
  refine En_Ps 4 (pc' := 1955) (lv' := [(0, .retAddr 0), (1, .ref 0), (2, .ref 159), (3, .int y)]) (st' := [.int ((y + ((Int32.ofInt 4)))), .retAddr 0, .int z11, .int z7, .int z3, .ref 0]) rfl ?_
  refine En_top (addI rfl (by decide : (Int32.ofInt 4).toInt = 4) (by omega) (by omega)) (fun z13 h14 => ?_)
  refine En_sld rfl rfl (by omega) (by omega) (fun z15 h16 => ?_)
  refine En_callV rfl rfl rfl rfl rfl rfl rfl rfl tgz_0 (by decide +kernel) rfl (c_187 σ0 hσ0 z3 z7 z11 z15 p hp h_p sg h_sg (by omega)) (by decide) (by decide) (fun v18 σ19 h17 => ?_)
  obtain ⟨h20, h21, z23, rfl, h22⟩ := h17
  have h24 := Fr_trans hF0 h21 (by decide +kernel)
  have h25 := INVc_fr h21 (by decide +kernel) hC
  have h26 := WI_fr h21 (by decide +kernel) (by decide +kernel) hI
  refine En_Ps 6 (pc' := 1965) (lv' := [(0, .retAddr 0), (1, .ref 0), (2, .ref 159), (3, .int y)]) (st' := [.int ((y + ((Int32.ofInt 1)))), .retAddr 0, .ref 159]) rfl ?_
  refine En_top (addI rfl (by decide : (Int32.ofInt 1).toInt = 1) (by omega) (by omega)) (fun z27 h28 => ?_)
  refine En_sld rfl rfl (by omega) (by omega) (fun z29 h30 => ?_)
  have h31 : z29.toInt = z3.toInt := by rw [h30, h4, show z27.toInt = z1.toInt by omega]
  refine En_Ps 4 (pc' := 1970) (lv' := [(0, .retAddr 0), (1, .ref 0), (2, .ref 159), (3, .int y)]) (st' := [.int ((y + ((Int32.ofInt 2)))), .retAddr 0, .int z29, .ref 159]) rfl ?_
  refine En_top (addI rfl (by decide : (Int32.ofInt 2).toInt = 2) (by omega) (by omega)) (fun z32 h33 => ?_)
  refine En_sld rfl rfl (by omega) (by omega) (fun z34 h35 => ?_)
  have h36 : z34.toInt = z7.toInt := by rw [h35, h8, show z32.toInt = z5.toInt by omega]
  refine En_Ps 4 (pc' := 1975) (lv' := [(0, .retAddr 0), (1, .ref 0), (2, .ref 159), (3, .int y)]) (st' := [.int ((y + ((Int32.ofInt 3)))), .retAddr 0, .int z34, .int z29, .ref 159]) rfl ?_
  refine En_top (addI rfl (by decide : (Int32.ofInt 3).toInt = 3) (by omega) (by omega)) (fun z37 h38 => ?_)
  refine En_sld rfl rfl (by omega) (by omega) (fun z39 h40 => ?_)
  have h41 : z39.toInt = z11.toInt := by rw [h40, h12, show z37.toInt = z9.toInt by omega]
  refine En_Ps 4 (pc' := 1980) (lv' := [(0, .retAddr 0), (1, .ref 0), (2, .ref 159), (3, .int y)]) (st' := [.int ((y + ((Int32.ofInt 4)))), .retAddr 0, .int z39, .int z34, .int z29, .ref 159]) rfl ?_
  refine En_top (addI rfl (by decide : (Int32.ofInt 4).toInt = 4) (by omega) (by omega)) (fun z42 h43 => ?_)
  refine En_sld rfl rfl (by omega) (by omega) (fun z44 h45 => ?_)
  have h46 : z44.toInt = z15.toInt := by rw [h45, h16, show z42.toInt = z13.toInt by omega]
  refine En_callV rfl rfl rfl rfl rfl rfl rfl rfl tgz_159 (by decide +kernel) rfl (c_335 σ19 h20 z29 z34 z39 z44) (by decide) (by decide) (fun v48 σ49 h47 => ?_)
  obtain ⟨h50, h51, z53, rfl, h52⟩ := h47
  have h54 := Fr_trans h24 h51 (by decide +kernel)
  have h55 := INVc_fr h51 (by decide +kernel) h25
  have h56 := WI_fr h51 (by decide +kernel) (by decide +kernel) h26
  refine En_Ps 2 (pc' := 2236) (lv' := [(0, .retAddr 0), (1, .ref 0), (2, .ref 159), (3, .int y)]) (st' := []) rfl ?_
  have h57 : FUL σ49 := (FUL_kp hR h21 h51 (by decide +kernel) (by decide +kernel) (RDL_fr hR.1 h21 h51 (by decide +kernel) (by decide +kernel)))
  exact k _ h50 h55 h56 ⟨h57, (RUT_fr hQ h21 h51 (by decide +kernel) (by decide +kernel)), (QXS_fr hX h21 h51 (by decide +kernel) (by decide +kernel))⟩
set_option maxRecDepth 10000 in
set_option maxHeartbeats 4000000 in
theorem law_c58 {L : Nat} {xs : Nat → Int32} {P : PO} (hL : L ≤ 3072) (y : Int32) (h0 : 0 ≤ y.toInt) (h1 : y.toInt + 6 ≤ (L : Int)) (σ0 : SG) (hσ0 : WT σ0) (hC : INVc σ0) (hI : WI σ0) (hL : LEA σ0) (k : ∀ σ, WT σ → INVc σ → WI σ → LEA σ → En 2048 84000 (some (L, xs)) mr_336 P 2236 [(0, .retAddr 0), (1, .ref 0), (2, .ref 159), (3, .int y)] [] σ) : En 2048 84000 (some (L, xs)) mr_336 P 1988 [(0, .retAddr 0), (1, .ref 0), (2, .ref 159), (3, .int y)] [] σ0 := by
  obtain ⟨hR, hQ, hX⟩ := hL
  obtain ⟨p, p2, sg, hp, hp2, h_p, h_p2, hne, h_sg, hl_sg⟩ := id hC
  obtain ⟨-, hu_sg⟩ := WT_int hσ0 (g := 18) hp (by decide +kernel) (l := (-1)) (u := 4) (by decide +kernel) h_sg
  have hF0 : Fr [] σ0 σ0 := Fr_rfl
  obtain ⟨t, h_t1, h_t2, -⟩ := id hR.1
  obtain ⟨hl_t, hu_t⟩ := WT_int hσ0 (g := 1) tgz_1 (by decide +kernel) (l := 0) (u := 1600) (by decide +kernel) h_t1
  refine En_Ps 5 (pc' := 1993) (lv' := [(0, .retAddr 0), (1, .ref 0), (2, .ref 159), (3, .int y)]) (st' := [.int ((y + ((Int32.ofInt 1)))), .retAddr 0, .ref 0]) rfl ?_
  refine En_top (addI rfl (by decide : (Int32.ofInt 1).toInt = 1) (by omega) (by omega)) (fun z1 h2 => ?_)
  refine En_sld rfl rfl (by omega) (by omega) (fun z3 h4 => ?_)
  refine En_callV rfl rfl rfl rfl rfl rfl rfl rfl tgz_0 (by decide +kernel) rfl (c_110 σ0 hσ0 z3 p hp h_p sg h_sg (by omega)) (by decide) (by decide) (fun v6 σ7 h5 => ?_)
  obtain ⟨h8, h9, z11, rfl, h10⟩ := h5
  have h12 := Fr_trans hF0 h9 (by decide +kernel)
  have h13 := INVc_fr h9 (by decide +kernel) hC
  have h14 := WI_fr h9 (by decide +kernel) (by decide +kernel) hI
  refine En_Ps 6 (pc' := 2003) (lv' := [(0, .retAddr 0), (1, .ref 0), (2, .ref 159), (3, .int y)]) (st' := [.int ((y + ((Int32.ofInt 1)))), .retAddr 0, .ref 159]) rfl ?_
  refine En_top (addI rfl (by decide : (Int32.ofInt 1).toInt = 1) (by omega) (by omega)) (fun z15 h16 => ?_)
  refine En_sld rfl rfl (by omega) (by omega) (fun z17 h18 => ?_)
  have h19 : z17.toInt = z3.toInt := by rw [h18, h4, show z15.toInt = z1.toInt by omega]
  refine En_callV rfl rfl rfl rfl rfl rfl rfl rfl tgz_159 (by decide +kernel) rfl (c_206 σ7 h8 z17) (by decide) (by decide) (fun v21 σ22 h20 => ?_)
  obtain ⟨h23, h24, z26, rfl, h25⟩ := h20
  have h27 := Fr_trans h12 h24 (by decide +kernel)
  have h28 := INVc_fr h24 (by decide +kernel) h13
  have h29 := WI_fr h24 (by decide +kernel) (by decide +kernel) h14
  refine En_Ps 2 (pc' := 2236) (lv' := [(0, .retAddr 0), (1, .ref 0), (2, .ref 159), (3, .int y)]) (st' := []) rfl ?_
  have h30 : FUL σ22 := (FUL_kp hR h9 h24 (by decide +kernel) (by decide +kernel) (RDL_fr hR.1 h9 h24 (by decide +kernel) (by decide +kernel)))
  exact k _ h23 h28 h29 ⟨h30, (RUT_fr hQ h9 h24 (by decide +kernel) (by decide +kernel)), (QXS_fr hX h9 h24 (by decide +kernel) (by decide +kernel))⟩
set_option maxRecDepth 10000 in
set_option maxHeartbeats 4000000 in
theorem law_c59 {L : Nat} {xs : Nat → Int32} {P : PO} (hL : L ≤ 3072) (y : Int32) (h0 : 0 ≤ y.toInt) (h1 : y.toInt + 6 ≤ (L : Int)) (σ0 : SG) (hσ0 : WT σ0) (hC : INVc σ0) (hI : WI σ0) (hL : LEA σ0) (k : ∀ σ, WT σ → INVc σ → WI σ → LEA σ → En 2048 84000 (some (L, xs)) mr_336 P 2236 [(0, .retAddr 0), (1, .ref 0), (2, .ref 159), (3, .int y)] [] σ) : En 2048 84000 (some (L, xs)) mr_336 P 2011 [(0, .retAddr 0), (1, .ref 0), (2, .ref 159), (3, .int y)] [] σ0 := by
  obtain ⟨hR, hQ, hX⟩ := hL
  obtain ⟨p, p2, sg, hp, hp2, h_p, h_p2, hne, h_sg, hl_sg⟩ := id hC
  obtain ⟨-, hu_sg⟩ := WT_int hσ0 (g := 18) hp (by decide +kernel) (l := (-1)) (u := 4) (by decide +kernel) h_sg
  have hF0 : Fr [(20, 2), (21, 0), (22, 0), (23, 0), (24, 0), (25, 0), (26, 0), (27, 0), (28, 1), (28, 2), (28, 3), (30, 0), (31, 0), (31, 1), (31, 2), (31, 3), (31, 6), (31, 7), (31, 8), (31, 11), (31, 14), (37, 0), (38, 0)] σ0 σ0 := Fr_rfl
  obtain ⟨t, h_t1, h_t2, -⟩ := id hR.1
  obtain ⟨hl_t, hu_t⟩ := WT_int hσ0 (g := 1) tgz_1 (by decide +kernel) (l := 0) (u := 1600) (by decide +kernel) h_t1
  refine En_Ps 5 (pc' := 2016) (lv' := [(0, .retAddr 0), (1, .ref 0), (2, .ref 159), (3, .int y)]) (st' := [.int ((y + ((Int32.ofInt 1)))), .retAddr 0, .ref 0]) rfl ?_
  refine En_top (addI rfl (by decide : (Int32.ofInt 1).toInt = 1) (by omega) (by omega)) (fun z1 h2 => ?_)
  refine En_sld rfl rfl (by omega) (by omega) (fun z3 h4 => ?_)
  refine En_callV rfl rfl rfl rfl rfl rfl rfl rfl tgz_0 (by decide +kernel) rfl (c_142x σ0 hσ0 z3 p hp h_p sg h_sg (by omega) (PLA_of hp) (FXP_p hR.1 hp) hR.2.2.1) (by decide) (by decide) (fun v6 σ7 h5 => ?_)
  obtain ⟨h8, h9, z11, rfl, h10⟩ := h5
  have h12 := h10.2.2.2.2.2
  have h13 := Fr_trans hF0 h9 (by decide +kernel)
  have h14 := INVc_fr h9 (by decide +kernel) hC
  have h15 := WI_fr h9 (by decide +kernel) (by decide +kernel) hI
  refine En_Ps 6 (pc' := 2026) (lv' := [(0, .retAddr 0), (1, .ref 0), (2, .ref 159), (3, .int y)]) (st' := [.int ((y + ((Int32.ofInt 1)))), .retAddr 0, .ref 159]) rfl ?_
  refine En_top (addI rfl (by decide : (Int32.ofInt 1).toInt = 1) (by omega) (by omega)) (fun z16 h17 => ?_)
  refine En_sld rfl rfl (by omega) (by omega) (fun z18 h19 => ?_)
  have h20 : z18.toInt = z3.toInt := by rw [h19, h4, show z16.toInt = z1.toInt by omega]
  refine En_callV rfl rfl rfl rfl rfl rfl rfl rfl tgz_159 (by decide +kernel) rfl (c_248x σ7 h8 z18 h15) (by decide) (by decide) (fun v22 σ23 h21 => ?_)
  obtain ⟨h24, h25, z27, rfl, h26⟩ := h21
  have h28 := h26.2.2.2.2.2
  have h29 := Fr_trans h13 h25 (by decide +kernel)
  have h30 := INVc_fr h25 (by decide +kernel) h14
  have h31 := h28.1
  refine En_Ps 2 (pc' := 2236) (lv' := [(0, .retAddr 0), (1, .ref 0), (2, .ref 159), (3, .int y)]) (st' := []) rfl ?_
  have h32 : FUL σ23 := (FUL_im hR hσ0 h_p h9 h25 (RDL_fr hR.1 h9 h25 (by decide +kernel) (by decide +kernel)) (by decide +kernel) (by decide +kernel) h12 h28.2.1 h28.2.2 (by omega))
  exact k _ h24 h30 h31 ⟨h32, (RUT_fr hQ h9 h25 (by decide +kernel) (by decide +kernel)), (QXS_im hX h9 h25 (by decide +kernel) (by decide +kernel) h12 h28.2.2 (by omega))⟩
set_option maxRecDepth 10000 in
set_option maxHeartbeats 4000000 in
theorem law_c60 {L : Nat} {xs : Nat → Int32} {P : PO} (hL : L ≤ 3072) (y : Int32) (h0 : 0 ≤ y.toInt) (h1 : y.toInt + 6 ≤ (L : Int)) (σ0 : SG) (hσ0 : WT σ0) (hC : INVc σ0) (hI : WI σ0) (hL : LEA σ0) (k : ∀ σ, WT σ → INVc σ → WI σ → LEA σ → En 2048 84000 (some (L, xs)) mr_336 P 2236 [(0, .retAddr 0), (1, .ref 0), (2, .ref 159), (3, .int y)] [] σ) : En 2048 84000 (some (L, xs)) mr_336 P 2034 [(0, .retAddr 0), (1, .ref 0), (2, .ref 159), (3, .int y)] [] σ0 := by
  obtain ⟨hR, hQ, hX⟩ := hL
  obtain ⟨p, p2, sg, hp, hp2, h_p, h_p2, hne, h_sg, hl_sg⟩ := id hC
  obtain ⟨-, hu_sg⟩ := WT_int hσ0 (g := 18) hp (by decide +kernel) (l := (-1)) (u := 4) (by decide +kernel) h_sg
  have hF0 : Fr [(4, 0), (4, 1), (5, 0), (6, 0), (7, 0), (18, 0), (18, 1), (18, 2), (18, 3), (18, 6), (18, 7), (18, 8), (18, 11), (18, 14), (20, 2), (21, 0), (22, 0), (23, 0), (24, 0), (25, 0), (26, 0), (27, 0), (28, 1), (28, 2), (28, 3), (36, 0)] σ0 σ0 := Fr_rfl
  obtain ⟨t, h_t1, h_t2, -⟩ := id hR.1
  obtain ⟨hl_t, hu_t⟩ := WT_int hσ0 (g := 1) tgz_1 (by decide +kernel) (l := 0) (u := 1600) (by decide +kernel) h_t1
  refine En_Ps 5 (pc' := 2039) (lv' := [(0, .retAddr 0), (1, .ref 0), (2, .ref 159), (3, .int y)]) (st' := [.int ((y + ((Int32.ofInt 1)))), .retAddr 0, .ref 0]) rfl ?_
  refine En_top (addI rfl (by decide : (Int32.ofInt 1).toInt = 1) (by omega) (by omega)) (fun z1 h2 => ?_)
  refine En_sld rfl rfl (by omega) (by omega) (fun z3 h4 => ?_)
  refine En_callV rfl rfl rfl rfl rfl rfl rfl rfl tgz_0 (by decide +kernel) rfl (c_105x σ0 hσ0 z3 p hp h_p sg h_sg p2 hp2 h_p2 (by omega) hne (PLA_of hp) (FXP_p hR.1 hp) hR.2.2.1) (by decide) (by decide) (fun v6 σ7 h5 => ?_)
  obtain ⟨h8, h9, z11, rfl, h10⟩ := h5
  have h12 := h10.2.2
  have h13 := Fr_trans hF0 h9 (by decide +kernel)
  have h14 := h12.1
  have h15 := WI_fr h9 (by decide +kernel) (by decide +kernel) hI
  refine En_Ps 6 (pc' := 2049) (lv' := [(0, .retAddr 0), (1, .ref 0), (2, .ref 159), (3, .int y)]) (st' := [.int ((y + ((Int32.ofInt 1)))), .retAddr 0, .ref 159]) rfl ?_
  refine En_top (addI rfl (by decide : (Int32.ofInt 1).toInt = 1) (by omega) (by omega)) (fun z16 h17 => ?_)
  refine En_sld rfl rfl (by omega) (by omega) (fun z18 h19 => ?_)
  have h20 : z18.toInt = z3.toInt := by rw [h19, h4, show z16.toInt = z1.toInt by omega]
  refine En_callV rfl rfl rfl rfl rfl rfl rfl rfl tgz_159 (by decide +kernel) rfl (c_199x σ7 h8 z18 h15) (by decide) (by decide) (fun v22 σ23 h21 => ?_)
  obtain ⟨h24, h25, z27, rfl, h26⟩ := h21
  have h28 := h26.2.2
  have h29 := Fr_trans h13 h25 (by decide +kernel)
  have h30 := INVc_fr h25 (by decide +kernel) h14
  have h31 := h28.1
  have h32 : z27.toInt = z11.toInt := BCK_eq hR.2.1 h9 (by decide +kernel) h12.2.1 h28.2.1 (by omega)
  refine En_Ps 2 (pc' := 2236) (lv' := [(0, .retAddr 0), (1, .ref 0), (2, .ref 159), (3, .int y)]) (st' := []) rfl ?_
  have h33 : FUL σ23 := (FUL_bk hR hσ0 h24 h_p h9 h25 (RDL_fr hR.1 h9 h25 (by decide +kernel) (by decide +kernel)) (by decide +kernel) (by decide +kernel) (by decide +kernel) h12.2.2.1 h28.2.2 (by omega))
  exact k _ h24 h30 h31 ⟨h33, (RUT_bk2 hQ hR h33 h_p h9 h25 (by decide +kernel) (by decide +kernel) (by decide +kernel) h28.2.2 h12.2.2.2 (by omega)), (QXS_bk hX hR h9 h25 (by decide +kernel) (by decide +kernel) h28.2.2)⟩
set_option maxRecDepth 10000 in
set_option maxHeartbeats 4000000 in
theorem law_c61 {L : Nat} {xs : Nat → Int32} {P : PO} (hL : L ≤ 3072) (y : Int32) (h0 : 0 ≤ y.toInt) (h1 : y.toInt + 6 ≤ (L : Int)) (σ0 : SG) (hσ0 : WT σ0) (hC : INVc σ0) (hI : WI σ0) (hL : LEA σ0) (k : ∀ σ, WT σ → INVc σ → WI σ → LEA σ → En 2048 84000 (some (L, xs)) mr_336 P 2236 [(0, .retAddr 0), (1, .ref 0), (2, .ref 159), (3, .int y)] [] σ) : En 2048 84000 (some (L, xs)) mr_336 P 2057 [(0, .retAddr 0), (1, .ref 0), (2, .ref 159), (3, .int y)] [] σ0 := by
  obtain ⟨hR, hQ, hX⟩ := hL
  obtain ⟨p, p2, sg, hp, hp2, h_p, h_p2, hne, h_sg, hl_sg⟩ := id hC
  obtain ⟨-, hu_sg⟩ := WT_int hσ0 (g := 18) hp (by decide +kernel) (l := (-1)) (u := 4) (by decide +kernel) h_sg
  have hF0 : Fr [(33, 1), (33, 2), (33, 3), (34, 0), (53, 0), (54, 0), (55, 0)] σ0 σ0 := Fr_rfl
  obtain ⟨t, h_t1, h_t2, -⟩ := id hR.1
  obtain ⟨hl_t, hu_t⟩ := WT_int hσ0 (g := 1) tgz_1 (by decide +kernel) (l := 0) (u := 1600) (by decide +kernel) h_t1
  refine En_Ps 5 (pc' := 2062) (lv' := [(0, .retAddr 0), (1, .ref 0), (2, .ref 159), (3, .int y)]) (st' := [.int ((y + ((Int32.ofInt 1)))), .retAddr 0, .ref 0]) rfl ?_
  refine En_top (addI rfl (by decide : (Int32.ofInt 1).toInt = 1) (by omega) (by omega)) (fun z1 h2 => ?_)
  refine En_sld rfl rfl (by omega) (by omega) (fun z3 h4 => ?_)
  refine En_Ps 4 (pc' := 2067) (lv' := [(0, .retAddr 0), (1, .ref 0), (2, .ref 159), (3, .int y)]) (st' := [.int ((y + ((Int32.ofInt 2)))), .retAddr 0, .int z3, .ref 0]) rfl ?_
  refine En_top (addI rfl (by decide : (Int32.ofInt 2).toInt = 2) (by omega) (by omega)) (fun z5 h6 => ?_)
  refine En_sld rfl rfl (by omega) (by omega) (fun z7 h8 => ?_)
  refine En_Ps 4 (pc' := 2072) (lv' := [(0, .retAddr 0), (1, .ref 0), (2, .ref 159), (3, .int y)]) (st' := [.int ((y + ((Int32.ofInt 3)))), .retAddr 0, .int z7, .int z3, .ref 0]) rfl ?_
  refine En_top (addI rfl (by decide : (Int32.ofInt 3).toInt = 3) (by omega) (by omega)) (fun z9 h10 => ?_)
  refine En_sld rfl rfl (by omega) (by omega) (fun z11 h12 => ?_)
  refine En_callV rfl rfl rfl rfl rfl rfl rfl rfl tgz_0 (by decide +kernel) rfl (c_165x σ0 hσ0 z3 z7 z11 p hp h_p sg h_sg (by omega)) (by decide) (by decide) (fun v14 σ15 h13 => ?_)
  obtain ⟨h16, h17, z19, rfl, h18⟩ := h13
  have h20 := Fr_trans hF0 h17 (by decide +kernel)
  have h21 := INVc_fr h17 (by decide +kernel) hC
  have h22 := WI_fr h17 (by decide +kernel) (by decide +kernel) hI
  refine En_Ps 6 (pc' := 2082) (lv' := [(0, .retAddr 0), (1, .ref 0), (2, .ref 159), (3, .int y)]) (st' := [.int ((y + ((Int32.ofInt 1)))), .retAddr 0, .ref 159]) rfl ?_
  refine En_top (addI rfl (by decide : (Int32.ofInt 1).toInt = 1) (by omega) (by omega)) (fun z23 h24 => ?_)
  refine En_sld rfl rfl (by omega) (by omega) (fun z25 h26 => ?_)
  have h27 : z25.toInt = z3.toInt := by rw [h26, h4, show z23.toInt = z1.toInt by omega]
  refine En_Ps 4 (pc' := 2087) (lv' := [(0, .retAddr 0), (1, .ref 0), (2, .ref 159), (3, .int y)]) (st' := [.int ((y + ((Int32.ofInt 2)))), .retAddr 0, .int z25, .ref 159]) rfl ?_
  refine En_top (addI rfl (by decide : (Int32.ofInt 2).toInt = 2) (by omega) (by omega)) (fun z28 h29 => ?_)
  refine En_sld rfl rfl (by omega) (by omega) (fun z30 h31 => ?_)
  have h32 : z30.toInt = z7.toInt := by rw [h31, h8, show z28.toInt = z5.toInt by omega]
  refine En_Ps 4 (pc' := 2092) (lv' := [(0, .retAddr 0), (1, .ref 0), (2, .ref 159), (3, .int y)]) (st' := [.int ((y + ((Int32.ofInt 3)))), .retAddr 0, .int z30, .int z25, .ref 159]) rfl ?_
  refine En_top (addI rfl (by decide : (Int32.ofInt 3).toInt = 3) (by omega) (by omega)) (fun z33 h34 => ?_)
  refine En_sld rfl rfl (by omega) (by omega) (fun z35 h36 => ?_)
  have h37 : z35.toInt = z11.toInt := by rw [h36, h12, show z33.toInt = z9.toInt by omega]
  refine En_callV rfl rfl rfl rfl rfl rfl rfl rfl tgz_159 (by decide +kernel) rfl (c_308x σ15 h16 z25 z30 z35) (by decide) (by decide) (fun v39 σ40 h38 => ?_)
  obtain ⟨h41, h42, z44, rfl, h43⟩ := h38
  have h45 := Fr_trans h20 h42 (by decide +kernel)
  have h46 := INVc_fr h42 (by decide +kernel) h21
  have h47 := WI_fr h42 (by decide +kernel) (by decide +kernel) h22
  refine En_Ps 2 (pc' := 2236) (lv' := [(0, .retAddr 0), (1, .ref 0), (2, .ref 159), (3, .int y)]) (st' := []) rfl ?_
  have h48 : FUL σ40 := (FUL_kp hR h17 h42 (by decide +kernel) (by decide +kernel) (RDL_fr hR.1 h17 h42 (by decide +kernel) (by decide +kernel)))
  exact k _ h41 h46 h47 ⟨h48, (RUT_fr hQ h17 h42 (by decide +kernel) (by decide +kernel)), (QXS_fr hX h17 h42 (by decide +kernel) (by decide +kernel))⟩
set_option maxRecDepth 10000 in
set_option maxHeartbeats 4000000 in
theorem law_c62 {L : Nat} {xs : Nat → Int32} {P : PO} (hL : L ≤ 3072) (y : Int32) (h0 : 0 ≤ y.toInt) (h1 : y.toInt + 6 ≤ (L : Int)) (σ0 : SG) (hσ0 : WT σ0) (hC : INVc σ0) (hI : WI σ0) (hL : LEA σ0) (k : ∀ σ, WT σ → INVc σ → WI σ → LEA σ → En 2048 84000 (some (L, xs)) mr_336 P 2236 [(0, .retAddr 0), (1, .ref 0), (2, .ref 159), (3, .int y)] [] σ) : En 2048 84000 (some (L, xs)) mr_336 P 2100 [(0, .retAddr 0), (1, .ref 0), (2, .ref 159), (3, .int y)] [] σ0 := by
  obtain ⟨hR, hQ, hX⟩ := hL
  obtain ⟨p, p2, sg, hp, hp2, h_p, h_p2, hne, h_sg, hl_sg⟩ := id hC
  obtain ⟨-, hu_sg⟩ := WT_int hσ0 (g := 18) hp (by decide +kernel) (l := (-1)) (u := 4) (by decide +kernel) h_sg
  have hF0 : Fr [(34, 0), (55, 0)] σ0 σ0 := Fr_rfl
  obtain ⟨t, h_t1, h_t2, -⟩ := id hR.1
  obtain ⟨hl_t, hu_t⟩ := WT_int hσ0 (g := 1) tgz_1 (by decide +kernel) (l := 0) (u := 1600) (by decide +kernel) h_t1
  refine En_Ps 5 (pc' := 2105) (lv' := [(0, .retAddr 0), (1, .ref 0), (2, .ref 159), (3, .int y)]) (st' := [.int ((y + ((Int32.ofInt 1)))), .retAddr 0, .ref 0]) rfl ?_
  refine En_top (addI rfl (by decide : (Int32.ofInt 1).toInt = 1) (by omega) (by omega)) (fun z1 h2 => ?_)
  refine En_sld rfl rfl (by omega) (by omega) (fun z3 h4 => ?_)
  refine En_Ps 4 (pc' := 2110) (lv' := [(0, .retAddr 0), (1, .ref 0), (2, .ref 159), (3, .int y)]) (st' := [.int ((y + ((Int32.ofInt 2)))), .retAddr 0, .int z3, .ref 0]) rfl ?_
  refine En_top (addI rfl (by decide : (Int32.ofInt 2).toInt = 2) (by omega) (by omega)) (fun z5 h6 => ?_)
  refine En_sld rfl rfl (by omega) (by omega) (fun z7 h8 => ?_)
  refine En_Ps 4 (pc' := 2115) (lv' := [(0, .retAddr 0), (1, .ref 0), (2, .ref 159), (3, .int y)]) (st' := [.int ((y + ((Int32.ofInt 3)))), .retAddr 0, .int z7, .int z3, .ref 0]) rfl ?_
  refine En_top (addI rfl (by decide : (Int32.ofInt 3).toInt = 3) (by omega) (by omega)) (fun z9 h10 => ?_)
  refine En_sld rfl rfl (by omega) (by omega) (fun z11 h12 => ?_)
  refine En_Ps 3 (pc' := 2120) (lv' := [(0, .retAddr 0), (1, .ref 0), (2, .ref 159), (3, .int y)]) (st' := [.long ((z11.toInt64 <<< ((((Int8.ofInt 32).toInt32)).toInt64 &&& 63))), .int z7, .int z3, .ref 0]) rfl ?_
  refine En_havL (fun z13 => ?_)
  refine En_Ps 4 (pc' := 2124) (lv' := [(0, .retAddr 0), (1, .ref 0), (2, .ref 159), (3, .int y)]) (st' := [.int ((y + ((Int32.ofInt 4)))), .retAddr 0, .long z13, .int z7, .int z3, .ref 0]) rfl ?_
  refine En_top (addI rfl (by decide : (Int32.ofInt 4).toInt = 4) (by omega) (by omega)) (fun z14 h15 => ?_)
  refine En_sld rfl rfl (by omega) (by omega) (fun z16 h17 => ?_)
  refine En_Ps 3 (pc' := 2130) (lv' := [(0, .retAddr 0), (1, .ref 0), (2, .ref 159), (3, .int y)]) (st' := [.long ((z16.toInt64 &&& ((4294967295 : Int64)))), .long z13, .int z7, .int z3, .ref 0]) rfl ?_
  refine En_havL (fun z18 => ?_)
  refine En_Ps 1 (pc' := 2131) (lv' := [(0, .retAddr 0), (1, .ref 0), (2, .ref 159), (3, .int y)]) (st' := [.long ((z13 ||| z18)), .int z7, .int z3, .ref 0]) rfl ?_
  refine En_havL (fun z19 => ?_)
  refine En_callV rfl rfl rfl rfl rfl rfl rfl rfl tgz_0 (by decide +kernel) rfl (c_185 σ0 hσ0 z3 z7 z19 p hp h_p sg h_sg (by omega)) (by decide) (by decide) (fun v21 σ22 h20 => ?_)
  obtain ⟨h23, h24, z26, rfl, h25⟩ := h20
  have h27 := Fr_trans hF0 h24 (by decide +kernel)
  have h28 := INVc_fr h24 (by decide +kernel) hC
  have h29 := WI_fr h24 (by decide +kernel) (by decide +kernel) hI
  refine En_Ps 6 (pc' := 2140) (lv' := [(0, .retAddr 0), (1, .ref 0), (2, .ref 159), (3, .int y)]) (st' := [.int ((y + ((Int32.ofInt 1)))), .retAddr 0, .ref 159]) rfl ?_
  refine En_top (addI rfl (by decide : (Int32.ofInt 1).toInt = 1) (by omega) (by omega)) (fun z30 h31 => ?_)
  refine En_sld rfl rfl (by omega) (by omega) (fun z32 h33 => ?_)
  have h34 : z32.toInt = z3.toInt := by rw [h33, h4, show z30.toInt = z1.toInt by omega]
  refine En_Ps 4 (pc' := 2145) (lv' := [(0, .retAddr 0), (1, .ref 0), (2, .ref 159), (3, .int y)]) (st' := [.int ((y + ((Int32.ofInt 2)))), .retAddr 0, .int z32, .ref 159]) rfl ?_
  refine En_top (addI rfl (by decide : (Int32.ofInt 2).toInt = 2) (by omega) (by omega)) (fun z35 h36 => ?_)
  refine En_sld rfl rfl (by omega) (by omega) (fun z37 h38 => ?_)
  have h39 : z37.toInt = z7.toInt := by rw [h38, h8, show z35.toInt = z5.toInt by omega]
  refine En_Ps 4 (pc' := 2150) (lv' := [(0, .retAddr 0), (1, .ref 0), (2, .ref 159), (3, .int y)]) (st' := [.int ((y + ((Int32.ofInt 3)))), .retAddr 0, .int z37, .int z32, .ref 159]) rfl ?_
  refine En_top (addI rfl (by decide : (Int32.ofInt 3).toInt = 3) (by omega) (by omega)) (fun z40 h41 => ?_)
  refine En_sld rfl rfl (by omega) (by omega) (fun z42 h43 => ?_)
  have h44 : z42.toInt = z11.toInt := by rw [h43, h12, show z40.toInt = z9.toInt by omega]
  refine En_Ps 3 (pc' := 2155) (lv' := [(0, .retAddr 0), (1, .ref 0), (2, .ref 159), (3, .int y)]) (st' := [.long ((z42.toInt64 <<< ((((Int8.ofInt 32).toInt32)).toInt64 &&& 63))), .int z37, .int z32, .ref 159]) rfl ?_
  refine En_havL (fun z45 => ?_)
  refine En_Ps 4 (pc' := 2159) (lv' := [(0, .retAddr 0), (1, .ref 0), (2, .ref 159), (3, .int y)]) (st' := [.int ((y + ((Int32.ofInt 4)))), .retAddr 0, .long z45, .int z37, .int z32, .ref 159]) rfl ?_
  refine En_top (addI rfl (by decide : (Int32.ofInt 4).toInt = 4) (by omega) (by omega)) (fun z46 h47 => ?_)
  refine En_sld rfl rfl (by omega) (by omega) (fun z48 h49 => ?_)
  have h50 : z48.toInt = z16.toInt := by rw [h49, h17, show z46.toInt = z14.toInt by omega]
  refine En_Ps 3 (pc' := 2165) (lv' := [(0, .retAddr 0), (1, .ref 0), (2, .ref 159), (3, .int y)]) (st' := [.long ((z48.toInt64 &&& ((4294967295 : Int64)))), .long z45, .int z37, .int z32, .ref 159]) rfl ?_
  refine En_havL (fun z51 => ?_)
  refine En_Ps 1 (pc' := 2166) (lv' := [(0, .retAddr 0), (1, .ref 0), (2, .ref 159), (3, .int y)]) (st' := [.long ((z45 ||| z51)), .int z37, .int z32, .ref 159]) rfl ?_
  refine En_havL (fun z52 => ?_)
  refine En_callV rfl rfl rfl rfl rfl rfl rfl rfl tgz_159 (by decide +kernel) rfl (c_333 σ22 h23 z32 z37 z52) (by decide) (by decide) (fun v54 σ55 h53 => ?_)
  obtain ⟨h56, h57, z59, rfl, h58⟩ := h53
  have h60 := Fr_trans h27 h57 (by decide +kernel)
  have h61 := INVc_fr h57 (by decide +kernel) h28
  have h62 := WI_fr h57 (by decide +kernel) (by decide +kernel) h29
  refine En_Ps 2 (pc' := 2236) (lv' := [(0, .retAddr 0), (1, .ref 0), (2, .ref 159), (3, .int y)]) (st' := []) rfl ?_
  have h63 : FUL σ55 := (FUL_kp hR h24 h57 (by decide +kernel) (by decide +kernel) (RDL_fr hR.1 h24 h57 (by decide +kernel) (by decide +kernel)))
  exact k _ h56 h61 h62 ⟨h63, (RUT_fr hQ h24 h57 (by decide +kernel) (by decide +kernel)), (QXS_fr hX h24 h57 (by decide +kernel) (by decide +kernel))⟩
set_option maxRecDepth 10000 in
set_option maxHeartbeats 4000000 in
theorem law_c63 {L : Nat} {xs : Nat → Int32} {P : PO} (hL : L ≤ 3072) (y : Int32) (h0 : 0 ≤ y.toInt) (h1 : y.toInt + 6 ≤ (L : Int)) (σ0 : SG) (hσ0 : WT σ0) (hC : INVc σ0) (hI : WI σ0) (hL : LEA σ0) (k : ∀ σ, WT σ → INVc σ → WI σ → LEA σ → En 2048 84000 (some (L, xs)) mr_336 P 2236 [(0, .retAddr 0), (1, .ref 0), (2, .ref 159), (3, .int y)] [] σ) : En 2048 84000 (some (L, xs)) mr_336 P 2173 [(0, .retAddr 0), (1, .ref 0), (2, .ref 159), (3, .int y)] [] σ0 := by
  obtain ⟨hR, hQ, hX⟩ := hL
  obtain ⟨p, p2, sg, hp, hp2, h_p, h_p2, hne, h_sg, hl_sg⟩ := id hC
  obtain ⟨-, hu_sg⟩ := WT_int hσ0 (g := 18) hp (by decide +kernel) (l := (-1)) (u := 4) (by decide +kernel) h_sg
  have hF0 : Fr [(34, 0), (55, 0), (56, 0)] σ0 σ0 := Fr_rfl
  obtain ⟨t, h_t1, h_t2, -⟩ := id hR.1
  obtain ⟨hl_t, hu_t⟩ := WT_int hσ0 (g := 1) tgz_1 (by decide +kernel) (l := 0) (u := 1600) (by decide +kernel) h_t1
  refine En_Ps 5 (pc' := 2178) (lv' := [(0, .retAddr 0), (1, .ref 0), (2, .ref 159), (3, .int y)]) (st' := [.int ((y + ((Int32.ofInt 1)))), .retAddr 0, .ref 0]) rfl ?_
  refine En_top (addI rfl (by decide : (Int32.ofInt 1).toInt = 1) (by omega) (by omega)) (fun z1 h2 => ?_)
  refine En_sld rfl rfl (by omega) (by omega) (fun z3 h4 => ?_)
  refine En_Ps 4 (pc' := 2183) (lv' := [(0, .retAddr 0), (1, .ref 0), (2, .ref 159), (3, .int y)]) (st' := [.int ((y + ((Int32.ofInt 2)))), .retAddr 0, .int z3, .ref 0]) rfl ?_
  refine En_top (addI rfl (by decide : (Int32.ofInt 2).toInt = 2) (by omega) (by omega)) (fun z5 h6 => ?_)
  refine En_sld rfl rfl (by omega) (by omega) (fun z7 h8 => ?_)
  refine En_Ps 4 (pc' := 2188) (lv' := [(0, .retAddr 0), (1, .ref 0), (2, .ref 159), (3, .int y)]) (st' := [.int ((y + ((Int32.ofInt 3)))), .retAddr 0, .int z7, .int z3, .ref 0]) rfl ?_
  refine En_top (addI rfl (by decide : (Int32.ofInt 3).toInt = 3) (by omega) (by omega)) (fun z9 h10 => ?_)
  refine En_sld rfl rfl (by omega) (by omega) (fun z11 h12 => ?_)
  refine En_Ps 4 (pc' := 2193) (lv' := [(0, .retAddr 0), (1, .ref 0), (2, .ref 159), (3, .int y)]) (st' := [.int ((y + ((Int32.ofInt 4)))), .retAddr 0, .int z11, .int z7, .int z3, .ref 0]) rfl ?_
  refine En_top (addI rfl (by decide : (Int32.ofInt 4).toInt = 4) (by omega) (by omega)) (fun z13 h14 => ?_)
  refine En_sld rfl rfl (by omega) (by omega) (fun z15 h16 => ?_)
  refine En_Ps 4 (pc' := 2198) (lv' := [(0, .retAddr 0), (1, .ref 0), (2, .ref 159), (3, .int y)]) (st' := [.int ((y + ((Int32.ofInt 5)))), .retAddr 0, .int z15, .int z11, .int z7, .int z3, .ref 0]) rfl ?_
  refine En_top (addI rfl (by decide : (Int32.ofInt 5).toInt = 5) (by omega) (by omega)) (fun z17 h18 => ?_)
  refine En_sld rfl rfl (by omega) (by omega) (fun z19 h20 => ?_)
  refine En_callV rfl rfl rfl rfl rfl rfl rfl rfl tgz_0 (by decide +kernel) rfl (c_162 σ0 hσ0 z3 z7 z11 z15 z19 p hp h_p sg h_sg (by omega)) (by decide) (by decide) (fun v22 σ23 h21 => ?_)
  obtain ⟨h24, h25, z27, rfl, h26⟩ := h21
  have h28 := Fr_trans hF0 h25 (by decide +kernel)
  have h29 := INVc_fr h25 (by decide +kernel) hC
  have h30 := WI_fr h25 (by decide +kernel) (by decide +kernel) hI
  refine En_Ps 6 (pc' := 2208) (lv' := [(0, .retAddr 0), (1, .ref 0), (2, .ref 159), (3, .int y)]) (st' := [.int ((y + ((Int32.ofInt 1)))), .retAddr 0, .ref 159]) rfl ?_
  refine En_top (addI rfl (by decide : (Int32.ofInt 1).toInt = 1) (by omega) (by omega)) (fun z31 h32 => ?_)
  refine En_sld rfl rfl (by omega) (by omega) (fun z33 h34 => ?_)
  have h35 : z33.toInt = z3.toInt := by rw [h34, h4, show z31.toInt = z1.toInt by omega]
  refine En_Ps 4 (pc' := 2213) (lv' := [(0, .retAddr 0), (1, .ref 0), (2, .ref 159), (3, .int y)]) (st' := [.int ((y + ((Int32.ofInt 2)))), .retAddr 0, .int z33, .ref 159]) rfl ?_
  refine En_top (addI rfl (by decide : (Int32.ofInt 2).toInt = 2) (by omega) (by omega)) (fun z36 h37 => ?_)
  refine En_sld rfl rfl (by omega) (by omega) (fun z38 h39 => ?_)
  have h40 : z38.toInt = z7.toInt := by rw [h39, h8, show z36.toInt = z5.toInt by omega]
  refine En_Ps 4 (pc' := 2218) (lv' := [(0, .retAddr 0), (1, .ref 0), (2, .ref 159), (3, .int y)]) (st' := [.int ((y + ((Int32.ofInt 3)))), .retAddr 0, .int z38, .int z33, .ref 159]) rfl ?_
  refine En_top (addI rfl (by decide : (Int32.ofInt 3).toInt = 3) (by omega) (by omega)) (fun z41 h42 => ?_)
  refine En_sld rfl rfl (by omega) (by omega) (fun z43 h44 => ?_)
  have h45 : z43.toInt = z11.toInt := by rw [h44, h12, show z41.toInt = z9.toInt by omega]
  refine En_Ps 4 (pc' := 2223) (lv' := [(0, .retAddr 0), (1, .ref 0), (2, .ref 159), (3, .int y)]) (st' := [.int ((y + ((Int32.ofInt 4)))), .retAddr 0, .int z43, .int z38, .int z33, .ref 159]) rfl ?_
  refine En_top (addI rfl (by decide : (Int32.ofInt 4).toInt = 4) (by omega) (by omega)) (fun z46 h47 => ?_)
  refine En_sld rfl rfl (by omega) (by omega) (fun z48 h49 => ?_)
  have h50 : z48.toInt = z15.toInt := by rw [h49, h16, show z46.toInt = z13.toInt by omega]
  refine En_Ps 4 (pc' := 2228) (lv' := [(0, .retAddr 0), (1, .ref 0), (2, .ref 159), (3, .int y)]) (st' := [.int ((y + ((Int32.ofInt 5)))), .retAddr 0, .int z48, .int z43, .int z38, .int z33, .ref 159]) rfl ?_
  refine En_top (addI rfl (by decide : (Int32.ofInt 5).toInt = 5) (by omega) (by omega)) (fun z51 h52 => ?_)
  refine En_sld rfl rfl (by omega) (by omega) (fun z53 h54 => ?_)
  have h55 : z53.toInt = z19.toInt := by rw [h54, h20, show z51.toInt = z17.toInt by omega]
  refine En_callV rfl rfl rfl rfl rfl rfl rfl rfl tgz_159 (by decide +kernel) rfl (c_297 σ23 h24 z33 z38 z43 z48 z53) (by decide) (by decide) (fun v57 σ58 h56 => ?_)
  obtain ⟨h59, h60, z62, rfl, h61⟩ := h56
  have h63 := Fr_trans h28 h60 (by decide +kernel)
  have h64 := INVc_fr h60 (by decide +kernel) h29
  have h65 := WI_fr h60 (by decide +kernel) (by decide +kernel) h30
  refine En_Ps 2 (pc' := 2236) (lv' := [(0, .retAddr 0), (1, .ref 0), (2, .ref 159), (3, .int y)]) (st' := []) rfl ?_
  have h66 : FUL σ58 := (FUL_kp hR h25 h60 (by decide +kernel) (by decide +kernel) (RDL_fr hR.1 h25 h60 (by decide +kernel) (by decide +kernel)))
  exact k _ h59 h64 h65 ⟨h66, (RUT_fr hQ h25 h60 (by decide +kernel) (by decide +kernel)), (QXS_fr hX h25 h60 (by decide +kernel) (by decide +kernel))⟩

