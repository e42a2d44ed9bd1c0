set_option maxRecDepth 10000 in
set_option maxHeartbeats 4000000 in
theorem law_c0 {L : Nat} {xs : Nat → Int32} {P : PO} (hL : L ≤ 3072) (y : Int32) (h0 : 0 ≤ y.toInt) (h1 : y.toInt + 6 ≤ (L : Int)) (σ0 : SG) (hσ0 : WT σ0) (hC : INVc σ0) (hI : WI σ0) (hL : LEA σ0) (k : ∀ σ, WT σ → INVc σ → WI σ → LEA σ → En 2048 84000 (some (L, xs)) mr_336 P 2236 [(0, .retAddr 0), (1, .ref 0), (2, .ref 159), (3, .int y)] [] σ) : En 2048 84000 (some (L, xs)) mr_336 P 304 [(0, .retAddr 0), (1, .ref 0), (2, .ref 159), (3, .int y)] [] σ0 := by
  obtain ⟨hR, hQ, hX⟩ := hL
  obtain ⟨p, p2, sg, hp, hp2, h_p, h_p2, hne, h_sg, hl_sg⟩ := id hC
  obtain ⟨-, hu_sg⟩ := WT_int hσ0 (g := 18) hp (by decide +kernel) (l := (-1)) (u := 4) (by decide +kernel) h_sg
  have hF0 : Fr [(1, 1), (2, 0), (35, 5), (39, 0), (40, 0)] σ0 σ0 := Fr_rfl
  obtain ⟨t, h_t1, h_t2, -⟩ := id hR.1
  obtain ⟨hl_t, hu_t⟩ := WT_int hσ0 (g := 1) tgz_1 (by decide +kernel) (l := 0) (u := 1600) (by decide +kernel) h_t1
  refine En_Ps 5 (pc' := 309) (lv' := [(0, .retAddr 0), (1, .ref 0), (2, .ref 159), (3, .int y)]) (st' := [.int ((y + ((Int32.ofInt 1)))), .retAddr 0, .ref 0]) rfl ?_
  refine En_top (addI rfl (by decide : (Int32.ofInt 1).toInt = 1) (by omega) (by omega)) (fun z1 h2 => ?_)
  refine En_sld rfl rfl (by omega) (by omega) (fun z3 h4 => ?_)
  refine En_Ps 4 (pc' := 314) (lv' := [(0, .retAddr 0), (1, .ref 0), (2, .ref 159), (3, .int y)]) (st' := [.int ((y + ((Int32.ofInt 2)))), .retAddr 0, .int z3, .ref 0]) rfl ?_
  refine En_top (addI rfl (by decide : (Int32.ofInt 2).toInt = 2) (by omega) (by omega)) (fun z5 h6 => ?_)
  refine En_sld rfl rfl (by omega) (by omega) (fun z7 h8 => ?_)
  refine En_Ps 4 (pc' := 319) (lv' := [(0, .retAddr 0), (1, .ref 0), (2, .ref 159), (3, .int y)]) (st' := [.int ((y + ((Int32.ofInt 3)))), .retAddr 0, .int z7, .int z3, .ref 0]) rfl ?_
  refine En_top (addI rfl (by decide : (Int32.ofInt 3).toInt = 3) (by omega) (by omega)) (fun z9 h10 => ?_)
  refine En_sld rfl rfl (by omega) (by omega) (fun z11 h12 => ?_)
  refine En_Ps 4 (pc' := 324) (lv' := [(0, .retAddr 0), (1, .ref 0), (2, .ref 159), (3, .int y)]) (st' := [.int ((y + ((Int32.ofInt 4)))), .retAddr 0, .int z11, .int z7, .int z3, .ref 0]) rfl ?_
  refine En_top (addI rfl (by decide : (Int32.ofInt 4).toInt = 4) (by omega) (by omega)) (fun z13 h14 => ?_)
  refine En_sld rfl rfl (by omega) (by omega) (fun z15 h16 => ?_)
  refine En_Ps 4 (pc' := 329) (lv' := [(0, .retAddr 0), (1, .ref 0), (2, .ref 159), (3, .int y)]) (st' := [.int ((y + ((Int32.ofInt 5)))), .retAddr 0, .int z15, .int z11, .int z7, .int z3, .ref 0]) rfl ?_
  refine En_top (addI rfl (by decide : (Int32.ofInt 5).toInt = 5) (by omega) (by omega)) (fun z17 h18 => ?_)
  refine En_sld rfl rfl (by omega) (by omega) (fun z19 h20 => ?_)
  refine En_callV rfl rfl rfl rfl rfl rfl rfl rfl tgz_0 (by decide +kernel) rfl (c_122x σ0 hσ0 z3 z7 z11 z15 z19 p hp h_p sg h_sg t h_t1 (by omega)) (by decide) (by decide) (fun v22 σ23 h21 => ?_)
  obtain ⟨h24, h25, z27, h28, z29, rfl, h26⟩ := h21
  have h30 := h26.2.2.2.2.2.2.2.2
  have h31 := Fr_trans hF0 h25 (by decide +kernel)
  have h32 := Imp_m h26.2.2.2.2.2.2.1
  have h33 := Imp_m h26.2.2.2.2.2.2.2.1
  have h34 := INVc_fr h25 (by decide +kernel) hC
  have h35 := WI_fr h25 (by decide +kernel) (by decide +kernel) hI
  refine En_Ps 6 (pc' := 339) (lv' := [(0, .retAddr 0), (1, .ref 0), (2, .ref 159), (3, .int y)]) (st' := [.int ((y + ((Int32.ofInt 1)))), .retAddr 0, .ref 159]) rfl ?_
  refine En_top (addI rfl (by decide : (Int32.ofInt 1).toInt = 1) (by omega) (by omega)) (fun z36 h37 => ?_)
  refine En_sld rfl rfl (by omega) (by omega) (fun z38 h39 => ?_)
  have h40 : z38.toInt = z3.toInt := by rw [h39, h4, show z36.toInt = z1.toInt by omega]
  refine En_Ps 4 (pc' := 344) (lv' := [(0, .retAddr 0), (1, .ref 0), (2, .ref 159), (3, .int y)]) (st' := [.int ((y + ((Int32.ofInt 2)))), .retAddr 0, .int z38, .ref 159]) rfl ?_
  refine En_top (addI rfl (by decide : (Int32.ofInt 2).toInt = 2) (by omega) (by omega)) (fun z41 h42 => ?_)
  refine En_sld rfl rfl (by omega) (by omega) (fun z43 h44 => ?_)
  have h45 : z43.toInt = z7.toInt := by rw [h44, h8, show z41.toInt = z5.toInt by omega]
  refine En_Ps 4 (pc' := 349) (lv' := [(0, .retAddr 0), (1, .ref 0), (2, .ref 159), (3, .int y)]) (st' := [.int ((y + ((Int32.ofInt 3)))), .retAddr 0, .int z43, .int z38, .ref 159]) rfl ?_
  refine En_top (addI rfl (by decide : (Int32.ofInt 3).toInt = 3) (by omega) (by omega)) (fun z46 h47 => ?_)
  refine En_sld rfl rfl (by omega) (by omega) (fun z48 h49 => ?_)
  have h50 : z48.toInt = z11.toInt := by rw [h49, h12, show z46.toInt = z9.toInt by omega]
  refine En_Ps 4 (pc' := 354) (lv' := [(0, .retAddr 0), (1, .ref 0), (2, .ref 159), (3, .int y)]) (st' := [.int ((y + ((Int32.ofInt 4)))), .retAddr 0, .int z48, .int z43, .int z38, .ref 159]) rfl ?_
  refine En_top (addI rfl (by decide : (Int32.ofInt 4).toInt = 4) (by omega) (by omega)) (fun z51 h52 => ?_)
  refine En_sld rfl rfl (by omega) (by omega) (fun z53 h54 => ?_)
  have h55 : z53.toInt = z15.toInt := by rw [h54, h16, show z51.toInt = z13.toInt by omega]
  refine En_Ps 4 (pc' := 359) (lv' := [(0, .retAddr 0), (1, .ref 0), (2, .ref 159), (3, .int y)]) (st' := [.int ((y + ((Int32.ofInt 5)))), .retAddr 0, .int z53, .int z48, .int z43, .int z38, .ref 159]) rfl ?_
  refine En_top (addI rfl (by decide : (Int32.ofInt 5).toInt = 5) (by omega) (by omega)) (fun z56 h57 => ?_)
  refine En_sld rfl rfl (by omega) (by omega) (fun z58 h59 => ?_)
  have h60 : z58.toInt = z19.toInt := by rw [h59, h20, show z56.toInt = z17.toInt by omega]
  refine En_callV rfl rfl rfl rfl rfl rfl rfl rfl tgz_159 (by decide +kernel) rfl (c_226x σ23 h24 z38 z43 z48 z53 z58 t ((h25 _ _ (inW tgz_159 (by decide +kernel))).trans h_t2)) (by decide) (by decide) (fun v62 σ63 h61 => ?_)
  obtain ⟨h64, h65, z67, h68, z69, rfl, h66⟩ := h61
  have h70 := h66.2.2.2.2.2.2.2.2
  have h71 := Fr_trans h31 h65 (by decide +kernel)
  have h72 := Imp_m h66.2.2.2.2.2.2.1
  have h73 := Imp_m h66.2.2.2.2.2.2.2.1
  have h74 := INVc_fr h65 (by decide +kernel) h34
  have h75 := WI_fr h65 (by decide +kernel) (by decide +kernel) h35
  refine En_Ps 2 (pc' := 2236) (lv' := [(0, .retAddr 0), (1, .ref 0), (2, .ref 159), (3, .int y)]) (st' := []) rfl ?_
  have h76 : FUL σ63 := (FUL_kp hR h25 h65 (by decide +kernel) (by decide +kernel) (RDL_feed hR.1 h25 h65 (by decide +kernel) (by decide +kernel) h_t1 (by omega) ((h65 _ _ (inW tgz_1 (by decide +kernel))).trans h28) h68 (by omega) ⟨fun _ => (by omega), fun _ => (by omega)⟩ h30 h70 (by omega) (by omega) (by omega) (by omega) (by omega)))
  exact k _ h64 h74 h75 ⟨h76, (RUT_fr hQ h25 h65 (by decide +kernel) (by decide +kernel)), (QXS_fr hX h25 h65 (by decide +kernel) (by decide +kernel))⟩
set_option maxRecDepth 10000 in
set_option maxHeartbeats 4000000 in
theorem law_c1 {L : Nat} {xs : Nat → Int32} {P : PO} (hL : L ≤ 3072) (y : Int32) (h0 : 0 ≤ y.toInt) (h1 : y.toInt + 6 ≤ (L : Int)) (σ0 : SG) (hσ0 : WT σ0) (hC : INVc σ0) (hI : WI σ0) (hL : LEA σ0) (k : ∀ σ, WT σ → INVc σ → WI σ → LEA σ → En 2048 84000 (some (L, xs)) mr_336 P 2236 [(0, .retAddr 0), (1, .ref 0), (2, .ref 159), (3, .int y)] [] σ) : En 2048 84000 (some (L, xs)) mr_336 P 367 [(0, .retAddr 0), (1, .ref 0), (2, .ref 159), (3, .int y)] [] σ0 := by
  obtain ⟨hR, hQ, hX⟩ := hL
  obtain ⟨p, p2, sg, hp, hp2, h_p, h_p2, hne, h_sg, hl_sg⟩ := id hC
  obtain ⟨-, hu_sg⟩ := WT_int hσ0 (g := 18) hp (by decide +kernel) (l := (-1)) (u := 4) (by decide +kernel) h_sg
  have hF0 : Fr [(1, 1), (35, 5)] σ0 σ0 := Fr_rfl
  obtain ⟨t, h_t1, h_t2, -⟩ := id hR.1
  obtain ⟨hl_t, hu_t⟩ := WT_int hσ0 (g := 1) tgz_1 (by decide +kernel) (l := 0) (u := 1600) (by decide +kernel) h_t1
  refine En_Ps 5 (pc' := 372) (lv' := [(0, .retAddr 0), (1, .ref 0), (2, .ref 159), (3, .int y)]) (st' := [.int ((y + ((Int32.ofInt 1)))), .retAddr 0, .ref 0]) rfl ?_
  refine En_top (addI rfl (by decide : (Int32.ofInt 1).toInt = 1) (by omega) (by omega)) (fun z1 h2 => ?_)
  refine En_sld rfl rfl (by omega) (by omega) (fun z3 h4 => ?_)
  refine En_callV rfl rfl rfl rfl rfl rfl rfl rfl tgz_0 (by decide +kernel) rfl (c_118x σ0 hσ0 z3 p hp h_p sg h_sg t h_t1 (by omega)) (by decide) (by decide) (fun v6 σ7 h5 => ?_)
  obtain ⟨h8, h9, z11, h12, z13, rfl, h10⟩ := h5
  have h14 := Fr_trans hF0 h9 (by decide +kernel)
  have h15 := Imp_m h10.2.2.2.2.2.1
  have h16 := Imp_m h10.2.2.2.2.2.2.1
  have h17 := Imp_m h10.2.2.2.2.2.2.2
  have h18 := INVc_fr h9 (by decide +kernel) hC
  have h19 := WI_fr h9 (by decide +kernel) (by decide +kernel) hI
  refine En_Ps 6 (pc' := 382) (lv' := [(0, .retAddr 0), (1, .ref 0), (2, .ref 159), (3, .int y)]) (st' := [.int ((y + ((Int32.ofInt 1)))), .retAddr 0, .ref 159]) rfl ?_
  refine En_top (addI rfl (by decide : (Int32.ofInt 1).toInt = 1) (by omega) (by omega)) (fun z20 h21 => ?_)
  refine En_sld rfl rfl (by omega) (by omega) (fun z22 h23 => ?_)
  have h24 : z22.toInt = z3.toInt := by rw [h23, h4, show z20.toInt = z1.toInt by omega]
  refine En_callV rfl rfl rfl rfl rfl rfl rfl rfl tgz_159 (by decide +kernel) rfl (c_221x σ7 h8 z22 t ((h9 _ _ (inW tgz_159 (by decide +kernel))).trans h_t2)) (by decide) (by decide) (fun v26 σ27 h25 => ?_)
  obtain ⟨h28, h29, z31, h32, z33, rfl, h30⟩ := h25
  have h34 := Fr_trans h14 h29 (by decide +kernel)
  have h35 := Imp_m h30.2.2.2.2.2.1
  have h36 := Imp_m h30.2.2.2.2.2.2.1
  have h37 := Imp_m h30.2.2.2.2.2.2.2
  have h38 := INVc_fr h29 (by decide +kernel) h18
  have h39 := WI_fr h29 (by decide +kernel) (by decide +kernel) h19
  refine En_Ps 2 (pc' := 2236) (lv' := [(0, .retAddr 0), (1, .ref 0), (2, .ref 159), (3, .int y)]) (st' := []) rfl ?_
  have h40 : FUL σ27 := (FUL_kp hR h9 h29 (by decide +kernel) (by decide +kernel) (RDL_end hR.1 h9 h29 (by decide +kernel) (by decide +kernel) h_t1 ((h29 _ _ (inW tgz_1 (by decide +kernel))).trans h12) h32 (by omega) (by omega)))
  exact k _ h28 h38 h39 ⟨h40, (RUT_fr hQ h9 h29 (by decide +kernel) (by decide +kernel)), (QXS_fr hX h9 h29 (by decide +kernel) (by decide +kernel))⟩
set_option maxRecDepth 10000 in
set_option maxHeartbeats 4000000 in
theorem law_c2 {L : Nat} {xs : Nat → Int32} {P : PO} (hL : L ≤ 3072) (y : Int32) (h0 : 0 ≤ y.toInt) (h1 : y.toInt + 6 ≤ (L : Int)) (σ0 : SG) (hσ0 : WT σ0) (hC : INVc σ0) (hI : WI σ0) (hL : LEA σ0) (k : ∀ σ, WT σ → INVc σ → WI σ → LEA σ → En 2048 84000 (some (L, xs)) mr_336 P 2236 [(0, .retAddr 0), (1, .ref 0), (2, .ref 159), (3, .int y)] [] σ) : En 2048 84000 (some (L, xs)) mr_336 P 390 [(0, .retAddr 0), (1, .ref 0), (2, .ref 159), (3, .int y)] [] σ0 := by
  obtain ⟨hR, hQ, hX⟩ := hL
  obtain ⟨p, p2, sg, hp, hp2, h_p, h_p2, hne, h_sg, hl_sg⟩ := id hC
  obtain ⟨-, hu_sg⟩ := WT_int hσ0 (g := 18) hp (by decide +kernel) (l := (-1)) (u := 4) (by decide +kernel) h_sg
  have hF0 : Fr [(0, 9), (0, 10), (1, 1), (3, 1), (3, 2), (3, 3), (3, 4), (3, 5), (3, 6), (4, 0), (4, 1), (5, 0), (6, 0), (7, 0), (18, 0), (18, 1), (18, 2), (18, 3), (18, 6), (18, 7), (18, 8), (18, 11), (18, 14), (20, 2), (21, 0), (22, 0), (23, 0), (24, 0), (25, 0), (26, 0), (28, 1), (28, 2), (28, 3), (35, 5), (35, 7), (35, 8), (35, 9), (35, 10), (35, 11), (35, 12), (35, 13), (36, 0), (41, 0)] σ0 σ0 := Fr_rfl
  obtain ⟨t, h_t1, h_t2, -⟩ := id hR.1
  obtain ⟨hl_t, hu_t⟩ := WT_int hσ0 (g := 1) tgz_1 (by decide +kernel) (l := 0) (u := 1600) (by decide +kernel) h_t1
  refine En_Ps 1 (pc' := 391) (lv' := [(0, .retAddr 0), (1, .ref 0), (2, .ref 159), (3, .int y)]) (st' := [.ref 0]) rfl ?_
  refine En_callV rfl rfl rfl rfl rfl rfl rfl rfl tgz_0 (by decide +kernel) rfl (c_169x σ0 hσ0 p hp h_p sg h_sg p2 hp2 h_p2 (by omega) hne (TPc_R hσ0 (by omega) (by omega) h_t1) (PLA_of hp2) (FXP_p hR.1 hp2)) (by decide) (by decide) (fun v2 σ3 h1 => ?_)
  obtain ⟨h4, h5, z7, h8, z9, rfl, h6⟩ := h1
  have h10 := h6.2.2.2.2.2.2.2
  have h11 := Fr_trans hF0 h5 (by decide +kernel)
  have h12 := h10.1.1
  have h13 := WI_fr h5 (by decide +kernel) (by decide +kernel) hI
  refine En_Ps 2 (pc' := 396) (lv' := [(0, .retAddr 0), (1, .ref 0), (2, .ref 159), (3, .int y)]) (st' := [.ref 159]) rfl ?_
  refine En_callV rfl rfl rfl rfl rfl rfl rfl rfl tgz_159 (by decide +kernel) rfl (c_312x σ3 h4 h13 (TBm_R hR.1 hσ0 (by omega) (by omega) h_t1 h5 (by decide +kernel))) (by decide) (by decide) (fun v15 σ16 h14 => ?_)
  obtain ⟨h17, h18, z20, h21, z22, rfl, h19⟩ := h14
  have h23 := h19.2.2.2.2.2.2
  have h24 := Fr_trans h11 h18 (by decide +kernel)
  have h25 := INVc_fr h18 (by decide +kernel) h12
  have h26 := h23.1.1
  have h27 : z22.toInt = z9.toInt := SC_eq h10.1.2 h23.1.2
  refine En_Ps 2 (pc' := 2236) (lv' := [(0, .retAddr 0), (1, .ref 0), (2, .ref 159), (3, .int y)]) (st' := []) rfl ?_
  have h28 : FUL σ16 := (FUL_sc (r := 0) hR h_p (PLA_of hp2) hne h5 h18 (RDL_sch (t := t) hR.1 h5 h18 (by decide +kernel) (by decide +kernel) ((h18 _ _ (inW tgz_1 (by decide +kernel))).trans h8) h21 (by omega) (by omega) h10.1.2 h23.1.2) (by decide +kernel) (by decide +kernel) h6.1 h10.2.1 h23.1.2 h23.2)
  exact k _ h17 h25 h26 ⟨h28, (RUT_sch hQ h28 h5 h18 (by decide +kernel) (by decide +kernel) h10.2.1 h23.1.2 h10.2.2), (QXS_sc hX h5 h18 (by decide +kernel) (by decide +kernel) h23.1.2)⟩
set_option maxRecDepth 10000 in
set_option maxHeartbeats 4000000 in
theorem law_c3 {L : Nat} {xs : Nat → Int32} {P : PO} (hL : L ≤ 3072) (y : Int32) (h0 : 0 ≤ y.toInt) (h1 : y.toInt + 6 ≤ (L : Int)) (σ0 : SG) (hσ0 : WT σ0) (hC : INVc σ0) (hI : WI σ0) (hL : LEA σ0) (k : ∀ σ, WT σ → INVc σ → WI σ → LEA σ → En 2048 84000 (some (L, xs)) mr_336 P 2236 [(0, .retAddr 0), (1, .ref 0), (2, .ref 159), (3, .int y)] [] σ) : En 2048 84000 (some (L, xs)) mr_336 P 403 [(0, .retAddr 0), (1, .ref 0), (2, .ref 159), (3, .int y)] [] σ0 := by
  obtain ⟨hR, hQ, hX⟩ := hL
  obtain ⟨p, p2, sg, hp, hp2, h_p, h_p2, hne, h_sg, hl_sg⟩ := id hC
  obtain ⟨-, hu_sg⟩ := WT_int hσ0 (g := 18) hp (by decide +kernel) (l := (-1)) (u := 4) (by decide +kernel) h_sg
  have hF0 : Fr [] σ0 σ0 := Fr_rfl
  obtain ⟨t, h_t1, h_t2, -⟩ := id hR.1
  obtain ⟨hl_t, hu_t⟩ := WT_int hσ0 (g := 1) tgz_1 (by decide +kernel) (l := 0) (u := 1600) (by decide +kernel) h_t1
  refine En_Ps 5 (pc' := 408) (lv' := [(0, .retAddr 0), (1, .ref 0), (2, .ref 159), (3, .int y)]) (st' := [.int ((y + ((Int32.ofInt 1)))), .retAddr 0, .ref 0]) rfl ?_
  refine En_top (addI rfl (by decide : (Int32.ofInt 1).toInt = 1) (by omega) (by omega)) (fun z1 h2 => ?_)
  refine En_sld rfl rfl (by omega) (by omega) (fun z3 h4 => ?_)
  obtain ⟨z6, h5, h7, h8⟩ := WT_peekI hσ0 tgz_3 (by decide +kernel : FT 3 5 = (0, 0, 3)) (by decide +kernel)
  obtain ⟨z10, h9, h11, h12⟩ := WT_peekI hσ0 tgz_3 (by decide +kernel : FT 3 6 = (0, (-1), 1600)) (by decide +kernel)
  refine En_callV rfl rfl rfl rfl rfl rfl rfl rfl tgz_0 (by decide +kernel) rfl (c_121x σ0 hσ0 z3 p hp h_p sg h_sg z6 h5 z10 h9 (by omega)) (by decide) (by decide) (fun v14 σ15 h13 => ?_)
  obtain ⟨h16, h17, z19, rfl, h18⟩ := h13
  have h20 := Fr_trans hF0 h17 (by decide +kernel)
  have h21 := Imp_m h18.2.2.1
  have h22 := Imp_m h18.2.2.2.1
  have h23 := Imp_m h18.2.2.2.2.1
  have h24 := Imp_m h18.2.2.2.2.2
  have h25 := INVc_fr h17 (by decide +kernel) hC
  have h26 := WI_fr h17 (by decide +kernel) (by decide +kernel) hI
  refine En_Ps 6 (pc' := 418) (lv' := [(0, .retAddr 0), (1, .ref 0), (2, .ref 159), (3, .int y)]) (st' := [.int ((y + ((Int32.ofInt 1)))), .retAddr 0, .ref 159]) rfl ?_
  refine En_top (addI rfl (by decide : (Int32.ofInt 1).toInt = 1) (by omega) (by omega)) (fun z27 h28 => ?_)
  refine En_sld rfl rfl (by omega) (by omega) (fun z29 h30 => ?_)
  have h31 : z29.toInt = z3.toInt := by rw [h30, h4, show z27.toInt = z1.toInt by omega]
  obtain ⟨z33, h32, h34, h35⟩ := WT_peekI h16 tgz_159 (by decide +kernel : FT 35 12 = (0, 0, 3)) (by decide +kernel)
  obtain ⟨z37, h36, h38, h39⟩ := WT_peekI h16 tgz_159 (by decide +kernel : FT 35 13 = (0, (-1), 1600)) (by decide +kernel)
  refine En_callV rfl rfl rfl rfl rfl rfl rfl rfl tgz_159 (by decide +kernel) rfl (c_225x σ15 h16 z29 z33 h32 z37 h36) (by decide) (by decide) (fun v41 σ42 h40 => ?_)
  obtain ⟨h43, h44, z46, rfl, h45⟩ := h40
  have h47 := Fr_trans h20 h44 (by decide +kernel)
  have h48 := Imp_m h45.2.2.1
  have h49 := Imp_m h45.2.2.2.1
  have h50 := Imp_m h45.2.2.2.2.1
  have h51 := Imp_m h45.2.2.2.2.2
  have h52 := INVc_fr h44 (by decide +kernel) h25
  have h53 := WI_fr h44 (by decide +kernel) (by decide +kernel) h26
  have h54 : z33.toInt = z6.toInt := by obtain ⟨-, -, -, -, g5, g6, -⟩ := RDL_fr hR.1 h17 h44 (by decide +kernel) (by decide +kernel); have a := ci_at (j := 5) ((h44 _ _ (inW tgz_3 (by decide +kernel))).trans ((h17 _ _ (inW tgz_3 (by decide +kernel))).trans h5)) rfl; have b := ci_at (j := 12) ((h44 _ _ (inW tgz_159 (by decide +kernel))).trans h32) rfl; omega
  have h55 : z37.toInt = z10.toInt := by obtain ⟨-, -, -, -, g5, g6, -⟩ := RDL_fr hR.1 h17 h44 (by decide +kernel) (by decide +kernel); have a := ci_at (j := 6) ((h44 _ _ (inW tgz_3 (by decide +kernel))).trans ((h17 _ _ (inW tgz_3 (by decide +kernel))).trans h9)) rfl; have b := ci_at (j := 13) ((h44 _ _ (inW tgz_159 (by decide +kernel))).trans h36) rfl; omega
  refine En_Ps 2 (pc' := 2236) (lv' := [(0, .retAddr 0), (1, .ref 0), (2, .ref 159), (3, .int y)]) (st' := []) rfl ?_
  have h56 : FUL σ42 := (FUL_kp hR h17 h44 (by decide +kernel) (by decide +kernel) (RDL_fr hR.1 h17 h44 (by decide +kernel) (by decide +kernel)))
  exact k _ h43 h52 h53 ⟨h56, (RUT_fr hQ h17 h44 (by decide +kernel) (by decide +kernel)), (QXS_fr hX h17 h44 (by decide +kernel) (by decide +kernel))⟩
set_option maxRecDepth 10000 in
set_option maxHeartbeats 4000000 in
theorem law_c4 {L : Nat} {xs : Nat → Int32} {P : PO} (hL : L ≤ 3072) (y : Int32) (h0 : 0 ≤ y.toInt) (h1 : y.toInt + 6 ≤ (L : Int)) (σ0 : SG) (hσ0 : WT σ0) (hC : INVc σ0) (hI : WI σ0) (hL : LEA σ0) (k : ∀ σ, WT σ → INVc σ → WI σ → LEA σ → En 2048 84000 (some (L, xs)) mr_336 P 2236 [(0, .retAddr 0), (1, .ref 0), (2, .ref 159), (3, .int y)] [] σ) : En 2048 84000 (some (L, xs)) mr_336 P 426 [(0, .retAddr 0), (1, .ref 0), (2, .ref 159), (3, .int y)] [] σ0 := by
  obtain ⟨hR, hQ, hX⟩ := hL
  obtain ⟨p, p2, sg, hp, hp2, h_p, h_p2, hne, h_sg, hl_sg⟩ := id hC
  obtain ⟨-, hu_sg⟩ := WT_int hσ0 (g := 18) hp (by decide +kernel) (l := (-1)) (u := 4) (by decide +kernel) h_sg
  have hF0 : Fr [] σ0 σ0 := Fr_rfl
  obtain ⟨t, h_t1, h_t2, -⟩ := id hR.1
  obtain ⟨hl_t, hu_t⟩ := WT_int hσ0 (g := 1) tgz_1 (by decide +kernel) (l := 0) (u := 1600) (by decide +kernel) h_t1
  refine En_Ps 5 (pc' := 431) (lv' := [(0, .retAddr 0), (1, .ref 0), (2, .ref 159), (3, .int y)]) (st' := [.int ((y + ((Int32.ofInt 1)))), .retAddr 0, .ref 0]) rfl ?_
  refine En_top (addI rfl (by decide : (Int32.ofInt 1).toInt = 1) (by omega) (by omega)) (fun z1 h2 => ?_)
  refine En_sld rfl rfl (by omega) (by omega) (fun z3 h4 => ?_)
  refine En_Ps 4 (pc' := 436) (lv' := [(0, .retAddr 0), (1, .ref 0), (2, .ref 159), (3, .int y)]) (st' := [.int ((y + ((Int32.ofInt 2)))), .retAddr 0, .int z3, .ref 0]) rfl ?_
  refine En_top (addI rfl (by decide : (Int32.ofInt 2).toInt = 2) (by omega) (by omega)) (fun z5 h6 => ?_)
  refine En_sld rfl rfl (by omega) (by omega) (fun z7 h8 => ?_)
  refine En_callV rfl rfl rfl rfl rfl rfl rfl rfl tgz_0 (by decide +kernel) rfl (c_116 σ0 hσ0 z3 z7 p hp h_p sg h_sg (by omega)) (by decide) (by decide) (fun v10 σ11 h9 => ?_)
  obtain ⟨h12, h13, z15, rfl, h14⟩ := h9
  have h16 := Fr_trans hF0 h13 (by decide +kernel)
  have h17 := INVc_fr h13 (by decide +kernel) hC
  have h18 := WI_fr h13 (by decide +kernel) (by decide +kernel) hI
  refine En_Ps 6 (pc' := 446) (lv' := [(0, .retAddr 0), (1, .ref 0), (2, .ref 159), (3, .int y)]) (st' := [.int ((y + ((Int32.ofInt 1)))), .retAddr 0, .ref 159]) rfl ?_
  refine En_top (addI rfl (by decide : (Int32.ofInt 1).toInt = 1) (by omega) (by omega)) (fun z19 h20 => ?_)
  refine En_sld rfl rfl (by omega) (by omega) (fun z21 h22 => ?_)
  have h23 : z21.toInt = z3.toInt := by rw [h22, h4, show z19.toInt = z1.toInt by omega]
  refine En_Ps 4 (pc' := 451) (lv' := [(0, .retAddr 0), (1, .ref 0), (2, .ref 159), (3, .int y)]) (st' := [.int ((y + ((Int32.ofInt 2)))), .retAddr 0, .int z21, .ref 159]) rfl ?_
  refine En_top (addI rfl (by decide : (Int32.ofInt 2).toInt = 2) (by omega) (by omega)) (fun z24 h25 => ?_)
  refine En_sld rfl rfl (by omega) (by omega) (fun z26 h27 => ?_)
  have h28 : z26.toInt = z7.toInt := by rw [h27, h8, show z24.toInt = z5.toInt by omega]
  refine En_callV rfl rfl rfl rfl rfl rfl rfl rfl tgz_159 (by decide +kernel) rfl (c_219 σ11 h12 z21 z26) (by decide) (by decide) (fun v30 σ31 h29 => ?_)
  obtain ⟨h32, h33, z35, rfl, h34⟩ := h29
  have h36 := Fr_trans h16 h33 (by decide +kernel)
  have h37 := INVc_fr h33 (by decide +kernel) h17
  have h38 := WI_fr h33 (by decide +kernel) (by decide +kernel) h18
  refine En_Ps 2 (pc' := 2236) (lv' := [(0, .retAddr 0), (1, .ref 0), (2, .ref 159), (3, .int y)]) (st' := []) rfl ?_
  have h39 : FUL σ31 := (FUL_kp hR h13 h33 (by decide +kernel) (by decide +kernel) (RDL_fr hR.1 h13 h33 (by decide +kernel) (by decide +kernel)))
  exact k _ h32 h37 h38 ⟨h39, (RUT_fr hQ h13 h33 (by decide +kernel) (by decide +kernel)), (QXS_fr hX h13 h33 (by decide +kernel) (by decide +kernel))⟩
set_option maxRecDepth 10000 in
set_option maxHeartbeats 4000000 in
theorem law_c5 {L : Nat} {xs : Nat → Int32} {P : PO} (hL : L ≤ 3072) (y : Int32) (h0 : 0 ≤ y.toInt) (h1 : y.toInt + 6 ≤ (L : Int)) (σ0 : SG) (hσ0 : WT σ0) (hC : INVc σ0) (hI : WI σ0) (hL : LEA σ0) (k : ∀ σ, WT σ → INVc σ → WI σ → LEA σ → En 2048 84000 (some (L, xs)) mr_336 P 2236 [(0, .retAddr 0), (1, .ref 0), (2, .ref 159), (3, .int y)] [] σ) : En 2048 84000 (some (L, xs)) mr_336 P 459 [(0, .retAddr 0), (1, .ref 0), (2, .ref 159), (3, .int y)] [] σ0 := by
  obtain ⟨hR, hQ, hX⟩ := hL
  obtain ⟨p, p2, sg, hp, hp2, h_p, h_p2, hne, h_sg, hl_sg⟩ := id hC
  obtain ⟨-, hu_sg⟩ := WT_int hσ0 (g := 18) hp (by decide +kernel) (l := (-1)) (u := 4) (by decide +kernel) h_sg
  have hF0 : Fr [] σ0 σ0 := Fr_rfl
  obtain ⟨t, h_t1, h_t2, -⟩ := id hR.1
  obtain ⟨hl_t, hu_t⟩ := WT_int hσ0 (g := 1) tgz_1 (by decide +kernel) (l := 0) (u := 1600) (by decide +kernel) h_t1
  refine En_Ps 5 (pc' := 464) (lv' := [(0, .retAddr 0), (1, .ref 0), (2, .ref 159), (3, .int y)]) (st' := [.int ((y + ((Int32.ofInt 1)))), .retAddr 0, .ref 0]) rfl ?_
  refine En_top (addI rfl (by decide : (Int32.ofInt 1).toInt = 1) (by omega) (by omega)) (fun z1 h2 => ?_)
  refine En_sld rfl rfl (by omega) (by omega) (fun z3 h4 => ?_)
  refine En_Ps 4 (pc' := 469) (lv' := [(0, .retAddr 0), (1, .ref 0), (2, .ref 159), (3, .int y)]) (st' := [.int ((y + ((Int32.ofInt 2)))), .retAddr 0, .int z3, .ref 0]) rfl ?_
  refine En_top (addI rfl (by decide : (Int32.ofInt 2).toInt = 2) (by omega) (by omega)) (fun z5 h6 => ?_)
  refine En_sld rfl rfl (by omega) (by omega) (fun z7 h8 => ?_)
  refine En_Ps 4 (pc' := 474) (lv' := [(0, .retAddr 0), (1, .ref 0), (2, .ref 159), (3, .int y)]) (st' := [.int ((y + ((Int32.ofInt 3)))), .retAddr 0, .int z7, .int z3, .ref 0]) rfl ?_
  refine En_top (addI rfl (by decide : (Int32.ofInt 3).toInt = 3) (by omega) (by omega)) (fun z9 h10 => ?_)
  refine En_sld rfl rfl (by omega) (by omega) (fun z11 h12 => ?_)
  refine En_callV rfl rfl rfl rfl rfl rfl rfl rfl tgz_0 (by decide +kernel) rfl (c_154 σ0 hσ0 z3 z7 z11 p hp h_p sg h_sg (by omega)) (by decide) (by decide) (fun v14 σ15 h13 => ?_)
  obtain ⟨h16, h17, z19, rfl, h18⟩ := h13
  have h20 := Fr_trans hF0 h17 (by decide +kernel)
  have h21 := INVc_fr h17 (by decide +kernel) hC
  have h22 := WI_fr h17 (by decide +kernel) (by decide +kernel) hI
  refine En_Ps 6 (pc' := 484) (lv' := [(0, .retAddr 0), (1, .ref 0), (2, .ref 159), (3, .int y)]) (st' := [.int ((y + ((Int32.ofInt 1)))), .retAddr 0, .ref 159]) rfl ?_
  refine En_top (addI rfl (by decide : (Int32.ofInt 1).toInt = 1) (by omega) (by omega)) (fun z23 h24 => ?_)
  refine En_sld rfl rfl (by omega) (by omega) (fun z25 h26 => ?_)
  have h27 : z25.toInt = z3.toInt := by rw [h26, h4, show z23.toInt = z1.toInt by omega]
  refine En_Ps 4 (pc' := 489) (lv' := [(0, .retAddr 0), (1, .ref 0), (2, .ref 159), (3, .int y)]) (st' := [.int ((y + ((Int32.ofInt 2)))), .retAddr 0, .int z25, .ref 159]) rfl ?_
  refine En_top (addI rfl (by decide : (Int32.ofInt 2).toInt = 2) (by omega) (by omega)) (fun z28 h29 => ?_)
  refine En_sld rfl rfl (by omega) (by omega) (fun z30 h31 => ?_)
  have h32 : z30.toInt = z7.toInt := by rw [h31, h8, show z28.toInt = z5.toInt by omega]
  refine En_Ps 4 (pc' := 494) (lv' := [(0, .retAddr 0), (1, .ref 0), (2, .ref 159), (3, .int y)]) (st' := [.int ((y + ((Int32.ofInt 3)))), .retAddr 0, .int z30, .int z25, .ref 159]) rfl ?_
  refine En_top (addI rfl (by decide : (Int32.ofInt 3).toInt = 3) (by omega) (by omega)) (fun z33 h34 => ?_)
  refine En_sld rfl rfl (by omega) (by omega) (fun z35 h36 => ?_)
  have h37 : z35.toInt = z11.toInt := by rw [h36, h12, show z33.toInt = z9.toInt by omega]
  refine En_callV rfl rfl rfl rfl rfl rfl rfl rfl tgz_159 (by decide +kernel) rfl (c_280 σ15 h16 z25 z30 z35) (by decide) (by decide) (fun v39 σ40 h38 => ?_)
  obtain ⟨h41, h42, z44, rfl, h43⟩ := h38
  have h45 := Fr_trans h20 h42 (by decide +kernel)
  have h46 := INVc_fr h42 (by decide +kernel) h21
  have h47 := WI_fr h42 (by decide +kernel) (by decide +kernel) h22
  refine En_Ps 2 (pc' := 2236) (lv' := [(0, .retAddr 0), (1, .ref 0), (2, .ref 159), (3, .int y)]) (st' := []) rfl ?_
  have h48 : FUL σ40 := (FUL_kp hR h17 h42 (by decide +kernel) (by decide +kernel) (RDL_fr hR.1 h17 h42 (by decide +kernel) (by decide +kernel)))
  exact k _ h41 h46 h47 ⟨h48, (RUT_fr hQ h17 h42 (by decide +kernel) (by decide +kernel)), (QXS_fr hX h17 h42 (by decide +kernel) (by decide +kernel))⟩
set_option maxRecDepth 10000 in
set_option maxHeartbeats 4000000 in
theorem law_c6 {L : Nat} {xs : Nat → Int32} {P : PO} (hL : L ≤ 3072) (y : Int32) (h0 : 0 ≤ y.toInt) (h1 : y.toInt + 6 ≤ (L : Int)) (σ0 : SG) (hσ0 : WT σ0) (hC : INVc σ0) (hI : WI σ0) (hL : LEA σ0) (k : ∀ σ, WT σ → INVc σ → WI σ → LEA σ → En 2048 84000 (some (L, xs)) mr_336 P 2236 [(0, .retAddr 0), (1, .ref 0), (2, .ref 159), (3, .int y)] [] σ) : En 2048 84000 (some (L, xs)) mr_336 P 502 [(0, .retAddr 0), (1, .ref 0), (2, .ref 159), (3, .int y)] [] σ0 := by
  obtain ⟨hR, hQ, hX⟩ := hL
  obtain ⟨p, p2, sg, hp, hp2, h_p, h_p2, hne, h_sg, hl_sg⟩ := id hC
  obtain ⟨-, hu_sg⟩ := WT_int hσ0 (g := 18) hp (by decide +kernel) (l := (-1)) (u := 4) (by decide +kernel) h_sg
  have hF0 : Fr [] σ0 σ0 := Fr_rfl
  obtain ⟨t, h_t1, h_t2, -⟩ := id hR.1
  obtain ⟨hl_t, hu_t⟩ := WT_int hσ0 (g := 1) tgz_1 (by decide +kernel) (l := 0) (u := 1600) (by decide +kernel) h_t1
  refine En_Ps 5 (pc' := 507) (lv' := [(0, .retAddr 0), (1, .ref 0), (2, .ref 159), (3, .int y)]) (st' := [.int ((y + ((Int32.ofInt 1)))), .retAddr 0, .ref 0]) rfl ?_
  refine En_top (addI rfl (by decide : (Int32.ofInt 1).toInt = 1) (by omega) (by omega)) (fun z1 h2 => ?_)
  refine En_sld rfl rfl (by omega) (by omega) (fun z3 h4 => ?_)
  refine En_Ps 4 (pc' := 512) (lv' := [(0, .retAddr 0), (1, .ref 0), (2, .ref 159), (3, .int y)]) (st' := [.int ((y + ((Int32.ofInt 2)))), .retAddr 0, .int z3, .ref 0]) rfl ?_
  refine En_top (addI rfl (by decide : (Int32.ofInt 2).toInt = 2) (by omega) (by omega)) (fun z5 h6 => ?_)
  refine En_sld rfl rfl (by omega) (by omega) (fun z7 h8 => ?_)
  refine En_callV rfl rfl rfl rfl rfl rfl rfl rfl tgz_0 (by decide +kernel) rfl (c_120 σ0 hσ0 z3 z7 p hp h_p sg h_sg (by omega)) (by decide) (by decide) (fun v10 σ11 h9 => ?_)
  obtain ⟨h12, h13, z15, rfl, h14⟩ := h9
  have h16 := Fr_trans hF0 h13 (by decide +kernel)
  have h17 := INVc_fr h13 (by decide +kernel) hC
  have h18 := WI_fr h13 (by decide +kernel) (by decide +kernel) hI
  refine En_Ps 6 (pc' := 522) (lv' := [(0, .retAddr 0), (1, .ref 0), (2, .ref 159), (3, .int y)]) (st' := [.int ((y + ((Int32.ofInt 1)))), .retAddr 0, .ref 159]) rfl ?_
  refine En_top (addI rfl (by decide : (Int32.ofInt 1).toInt = 1) (by omega) (by omega)) (fun z19 h20 => ?_)
  refine En_sld rfl rfl (by omega) (by omega) (fun z21 h22 => ?_)
  have h23 : z21.toInt = z3.toInt := by rw [h22, h4, show z19.toInt = z1.toInt by omega]
  refine En_Ps 4 (pc' := 527) (lv' := [(0, .retAddr 0), (1, .ref 0), (2, .ref 159), (3, .int y)]) (st' := [.int ((y + ((Int32.ofInt 2)))), .retAddr 0, .int z21, .ref 159]) rfl ?_
  refine En_top (addI rfl (by decide : (Int32.ofInt 2).toInt = 2) (by omega) (by omega)) (fun z24 h25 => ?_)
  refine En_sld rfl rfl (by omega) (by omega) (fun z26 h27 => ?_)
  have h28 : z26.toInt = z7.toInt := by rw [h27, h8, show z24.toInt = z5.toInt by omega]
  refine En_callV rfl rfl rfl rfl rfl rfl rfl rfl tgz_159 (by decide +kernel) rfl (c_224 σ11 h12 z21 z26) (by decide) (by decide) (fun v30 σ31 h29 => ?_)
  obtain ⟨h32, h33, z35, rfl, h34⟩ := h29
  have h36 := Fr_trans h16 h33 (by decide +kernel)
  have h37 := INVc_fr h33 (by decide +kernel) h17
  have h38 := WI_fr h33 (by decide +kernel) (by decide +kernel) h18
  refine En_Ps 2 (pc' := 2236) (lv' := [(0, .retAddr 0), (1, .ref 0), (2, .ref 159), (3, .int y)]) (st' := []) rfl ?_
  have h39 : FUL σ31 := (FUL_kp hR h13 h33 (by decide +kernel) (by decide +kernel) (RDL_fr hR.1 h13 h33 (by decide +kernel) (by decide +kernel)))
  exact k _ h32 h37 h38 ⟨h39, (RUT_fr hQ h13 h33 (by decide +kernel) (by decide +kernel)), (QXS_fr hX h13 h33 (by decide +kernel) (by decide +kernel))⟩
set_option maxRecDepth 10000 in
set_option maxHeartbeats 4000000 in
theorem law_c7 {L : Nat} {xs : Nat → Int32} {P : PO} (hL : L ≤ 3072) (y : Int32) (h0 : 0 ≤ y.toInt) (h1 : y.toInt + 6 ≤ (L : Int)) (σ0 : SG) (hσ0 : WT σ0) (hC : INVc σ0) (hI : WI σ0) (hL : LEA σ0) (k : ∀ σ, WT σ → INVc σ → WI σ → LEA σ → En 2048 84000 (some (L, xs)) mr_336 P 2236 [(0, .retAddr 0), (1, .ref 0), (2, .ref 159), (3, .int y)] [] σ) : En 2048 84000 (some (L, xs)) mr_336 P 535 [(0, .retAddr 0), (1, .ref 0), (2, .ref 159), (3, .int y)] [] σ0 := by
  obtain ⟨hR, hQ, hX⟩ := hL
  obtain ⟨p, p2, sg, hp, hp2, h_p, h_p2, hne, h_sg, hl_sg⟩ := id hC
  obtain ⟨-, hu_sg⟩ := WT_int hσ0 (g := 18) hp (by decide +kernel) (l := (-1)) (u := 4) (by decide +kernel) h_sg
  have hF0 : Fr [] σ0 σ0 := Fr_rfl
  obtain ⟨t, h_t1, h_t2, -⟩ := id hR.1
  obtain ⟨hl_t, hu_t⟩ := WT_int hσ0 (g := 1) tgz_1 (by decide +kernel) (l := 0) (u := 1600) (by decide +kernel) h_t1
  refine En_Ps 5 (pc' := 540) (lv' := [(0, .retAddr 0), (1, .ref 0), (2, .ref 159), (3, .int y)]) (st' := [.int ((y + ((Int32.ofInt 1)))), .retAddr 0, .ref 0]) rfl ?_
  refine En_top (addI rfl (by decide : (Int32.ofInt 1).toInt = 1) (by omega) (by omega)) (fun z1 h2 => ?_)
  refine En_sld rfl rfl (by omega) (by omega) (fun z3 h4 => ?_)
  refine En_Ps 4 (pc' := 545) (lv' := [(0, .retAddr 0), (1, .ref 0), (2, .ref 159), (3, .int y)]) (st' := [.int ((y + ((Int32.ofInt 2)))), .retAddr 0, .int z3, .ref 0]) rfl ?_
  refine En_top (addI rfl (by decide : (Int32.ofInt 2).toInt = 2) (by omega) (by omega)) (fun z5 h6 => ?_)
  refine En_sld rfl rfl (by omega) (by omega) (fun z7 h8 => ?_)
  refine En_callV rfl rfl rfl rfl rfl rfl rfl rfl tgz_0 (by decide +kernel) rfl (c_138 σ0 hσ0 z3 z7 p hp h_p sg h_sg (by omega)) (by decide) (by decide) (fun v10 σ11 h9 => ?_)
  obtain ⟨h12, h13, z15, rfl, h14⟩ := h9
  have h16 := Fr_trans hF0 h13 (by decide +kernel)
  have h17 := INVc_fr h13 (by decide +kernel) hC
  have h18 := WI_fr h13 (by decide +kernel) (by decide +kernel) hI
  refine En_Ps 6 (pc' := 555) (lv' := [(0, .retAddr 0), (1, .ref 0), (2, .ref 159), (3, .int y)]) (st' := [.int ((y + ((Int32.ofInt 1)))), .retAddr 0, .ref 159]) rfl ?_
  refine En_top (addI rfl (by decide : (Int32.ofInt 1).toInt = 1) (by omega) (by omega)) (fun z19 h20 => ?_)
  refine En_sld rfl rfl (by omega) (by omega) (fun z21 h22 => ?_)
  have h23 : z21.toInt = z3.toInt := by rw [h22, h4, show z19.toInt = z1.toInt by omega]
  refine En_Ps 4 (pc' := 560) (lv' := [(0, .retAddr 0), (1, .ref 0), (2, .ref 159), (3, .int y)]) (st' := [.int ((y + ((Int32.ofInt 2)))), .retAddr 0, .int z21, .ref 159]) rfl ?_
  refine En_top (addI rfl (by decide : (Int32.ofInt 2).toInt = 2) (by omega) (by omega)) (fun z24 h25 => ?_)
  refine En_sld rfl rfl (by omega) (by omega) (fun z26 h27 => ?_)
  have h28 : z26.toInt = z7.toInt := by rw [h27, h8, show z24.toInt = z5.toInt by omega]
  refine En_callV rfl rfl rfl rfl rfl rfl rfl rfl tgz_159 (by decide +kernel) rfl (c_245 σ11 h12 z21 z26) (by decide) (by decide) (fun v30 σ31 h29 => ?_)
  obtain ⟨h32, h33, z35, rfl, h34⟩ := h29
  have h36 := Fr_trans h16 h33 (by decide +kernel)
  have h37 := INVc_fr h33 (by decide +kernel) h17
  have h38 := WI_fr h33 (by decide +kernel) (by decide +kernel) h18
  refine En_Ps 2 (pc' := 2236) (lv' := [(0, .retAddr 0), (1, .ref 0), (2, .ref 159), (3, .int y)]) (st' := []) rfl ?_
  have h39 : FUL σ31 := (FUL_kp hR h13 h33 (by decide +kernel) (by decide +kernel) (RDL_fr hR.1 h13 h33 (by decide +kernel) (by decide +kernel)))
  exact k _ h32 h37 h38 ⟨h39, (RUT_fr hQ h13 h33 (by decide +kernel) (by decide +kernel)), (QXS_fr hX h13 h33 (by decide +kernel) (by decide +kernel))⟩
set_option maxRecDepth 10000 in
set_option maxHeartbeats 4000000 in
theorem law_c8 {L : Nat} {xs : Nat → Int32} {P : PO} (hL : L ≤ 3072) (y : Int32) (h0 : 0 ≤ y.toInt) (h1 : y.toInt + 6 ≤ (L : Int)) (σ0 : SG) (hσ0 : WT σ0) (hC : INVc σ0) (hI : WI σ0) (hL : LEA σ0) (k : ∀ σ, WT σ → INVc σ → WI σ → LEA σ → En 2048 84000 (some (L, xs)) mr_336 P 2236 [(0, .retAddr 0), (1, .ref 0), (2, .ref 159), (3, .int y)] [] σ) : En 2048 84000 (some (L, xs)) mr_336 P 568 [(0, .retAddr 0), (1, .ref 0), (2, .ref 159), (3, .int y)] [] σ0 := by
  obtain ⟨hR, hQ, hX⟩ := hL
  obtain ⟨p, p2, sg, hp, hp2, h_p, h_p2, hne, h_sg, hl_sg⟩ := id hC
  obtain ⟨-, hu_sg⟩ := WT_int hσ0 (g := 18) hp (by decide +kernel) (l := (-1)) (u := 4) (by decide +kernel) h_sg
  have hF0 : Fr [(35, 18), (35, 21), (42, 0), (43, 0), (44, 0), (45, 0), (46, 0)] σ0 σ0 := Fr_rfl
  obtain ⟨t, h_t1, h_t2, -⟩ := id hR.1
  obtain ⟨hl_t, hu_t⟩ := WT_int hσ0 (g := 1) tgz_1 (by decide +kernel) (l := 0) (u := 1600) (by decide +kernel) h_t1
  refine En_Ps 5 (pc' := 573) (lv' := [(0, .retAddr 0), (1, .ref 0), (2, .ref 159), (3, .int y)]) (st' := [.int ((y + ((Int32.ofInt 1)))), .retAddr 0, .ref 0]) rfl ?_
  refine En_top (addI rfl (by decide : (Int32.ofInt 1).toInt = 1) (by omega) (by omega)) (fun z1 h2 => ?_)
  refine En_sld rfl rfl (by omega) (by omega) (fun z3 h4 => ?_)
  refine En_Ps 4 (pc' := 578) (lv' := [(0, .retAddr 0), (1, .ref 0), (2, .ref 159), (3, .int y)]) (st' := [.int ((y + ((Int32.ofInt 2)))), .retAddr 0, .int z3, .ref 0]) rfl ?_
  refine En_top (addI rfl (by decide : (Int32.ofInt 2).toInt = 2) (by omega) (by omega)) (fun z5 h6 => ?_)
  refine En_sld rfl rfl (by omega) (by omega) (fun z7 h8 => ?_)
  refine En_callV rfl rfl rfl rfl rfl rfl rfl rfl tgz_0 (by decide +kernel) rfl (c_159 σ0 hσ0 z3 z7 p hp h_p sg h_sg (by omega)) (by decide) (by decide) (fun v10 σ11 h9 => ?_)
  obtain ⟨h12, h13, z15, rfl, h14⟩ := h9
  have h16 := Fr_trans hF0 h13 (by decide +kernel)
  have h17 := INVc_fr h13 (by decide +kernel) hC
  have h18 := WI_fr h13 (by decide +kernel) (by decide +kernel) hI
  refine En_Ps 6 (pc' := 588) (lv' := [(0, .retAddr 0), (1, .ref 0), (2, .ref 159), (3, .int y)]) (st' := [.int ((y + ((Int32.ofInt 1)))), .retAddr 0, .ref 159]) rfl ?_
  refine En_top (addI rfl (by decide : (Int32.ofInt 1).toInt = 1) (by omega) (by omega)) (fun z19 h20 => ?_)
  refine En_sld rfl rfl (by omega) (by omega) (fun z21 h22 => ?_)
  have h23 : z21.toInt = z3.toInt := by rw [h22, h4, show z19.toInt = z1.toInt by omega]
  refine En_Ps 4 (pc' := 593) (lv' := [(0, .retAddr 0), (1, .ref 0), (2, .ref 159), (3, .int y)]) (st' := [.int ((y + ((Int32.ofInt 2)))), .retAddr 0, .int z21, .ref 159]) rfl ?_
  refine En_top (addI rfl (by decide : (Int32.ofInt 2).toInt = 2) (by omega) (by omega)) (fun z24 h25 => ?_)
  refine En_sld rfl rfl (by omega) (by omega) (fun z26 h27 => ?_)
  have h28 : z26.toInt = z7.toInt := by rw [h27, h8, show z24.toInt = z5.toInt by omega]
  refine En_callV rfl rfl rfl rfl rfl rfl rfl rfl tgz_159 (by decide +kernel) rfl (c_292 σ11 h12 z21 z26) (by decide) (by decide) (fun v30 σ31 h29 => ?_)
  obtain ⟨h32, h33, z35, rfl, h34⟩ := h29
  have h36 := Fr_trans h16 h33 (by decide +kernel)
  have h37 := INVc_fr h33 (by decide +kernel) h17
  have h38 := WI_fr h33 (by decide +kernel) (by decide +kernel) h18
  refine En_Ps 2 (pc' := 2236) (lv' := [(0, .retAddr 0), (1, .ref 0), (2, .ref 159), (3, .int y)]) (st' := []) rfl ?_
  have h39 : FUL σ31 := (FUL_kp hR h13 h33 (by decide +kernel) (by decide +kernel) (RDL_fr hR.1 h13 h33 (by decide +kernel) (by decide +kernel)))
  exact k _ h32 h37 h38 ⟨h39, (RUT_fr hQ h13 h33 (by decide +kernel) (by decide +kernel)), (QXS_fr hX h13 h33 (by decide +kernel) (by decide +kernel))⟩
set_option maxRecDepth 10000 in
set_option maxHeartbeats 4000000 in
theorem law_c9 {L : Nat} {xs : Nat → Int32} {P : PO} (hL : L ≤ 3072) (y : Int32) (h0 : 0 ≤ y.toInt) (h1 : y.toInt + 6 ≤ (L : Int)) (σ0 : SG) (hσ0 : WT σ0) (hC : INVc σ0) (hI : WI σ0) (hL : LEA σ0) (k : ∀ σ, WT σ → INVc σ → WI σ → LEA σ → En 2048 84000 (some (L, xs)) mr_336 P 2236 [(0, .retAddr 0), (1, .ref 0), (2, .ref 159), (3, .int y)] [] σ) : En 2048 84000 (some (L, xs)) mr_336 P 601 [(0, .retAddr 0), (1, .ref 0), (2, .ref 159), (3, .int y)] [] σ0 := by
  obtain ⟨hR, hQ, hX⟩ := hL
  obtain ⟨p, p2, sg, hp, hp2, h_p, h_p2, hne, h_sg, hl_sg⟩ := id hC
  obtain ⟨-, hu_sg⟩ := WT_int hσ0 (g := 18) hp (by decide +kernel) (l := (-1)) (u := 4) (by decide +kernel) h_sg
  have hF0 : Fr [(35, 18), (35, 21), (42, 0), (43, 0), (44, 0), (45, 0), (46, 0)] σ0 σ0 := Fr_rfl
  obtain ⟨t, h_t1, h_t2, -⟩ := id hR.1
  obtain ⟨hl_t, hu_t⟩ := WT_int hσ0 (g := 1) tgz_1 (by decide +kernel) (l := 0) (u := 1600) (by decide +kernel) h_t1
  refine En_Ps 5 (pc' := 606) (lv' := [(0, .retAddr 0), (1, .ref 0), (2, .ref 159), (3, .int y)]) (st' := [.int ((y + ((Int32.ofInt 1)))), .retAddr 0, .ref 0]) rfl ?_
  refine En_top (addI rfl (by decide : (Int32.ofInt 1).toInt = 1) (by omega) (by omega)) (fun z1 h2 => ?_)
  refine En_sld rfl rfl (by omega) (by omega) (fun z3 h4 => ?_)
  refine En_callV rfl rfl rfl rfl rfl rfl rfl rfl tgz_0 (by decide +kernel) rfl (c_112 σ0 hσ0 z3 p hp h_p sg h_sg (by omega)) (by decide) (by decide) (fun v6 σ7 h5 => ?_)
  obtain ⟨h8, h9, z11, rfl, h10⟩ := h5
  have h12 := Fr_trans hF0 h9 (by decide +kernel)
  have h13 := INVc_fr h9 (by decide +kernel) hC
  have h14 := WI_fr h9 (by decide +kernel) (by decide +kernel) hI
  refine En_Ps 6 (pc' := 616) (lv' := [(0, .retAddr 0), (1, .ref 0), (2, .ref 159), (3, .int y)]) (st' := [.int ((y + ((Int32.ofInt 1)))), .retAddr 0, .ref 159]) rfl ?_
  refine En_top (addI rfl (by decide : (Int32.ofInt 1).toInt = 1) (by omega) (by omega)) (fun z15 h16 => ?_)
  refine En_sld rfl rfl (by omega) (by omega) (fun z17 h18 => ?_)
  have h19 : z17.toInt = z3.toInt := by rw [h18, h4, show z15.toInt = z1.toInt by omega]
  refine En_callV rfl rfl rfl rfl rfl rfl rfl rfl tgz_159 (by decide +kernel) rfl (c_210 σ7 h8 z17) (by decide) (by decide) (fun v21 σ22 h20 => ?_)
  obtain ⟨h23, h24, z26, rfl, h25⟩ := h20
  have h27 := Fr_trans h12 h24 (by decide +kernel)
  have h28 := INVc_fr h24 (by decide +kernel) h13
  have h29 := WI_fr h24 (by decide +kernel) (by decide +kernel) h14
  refine En_Ps 2 (pc' := 2236) (lv' := [(0, .retAddr 0), (1, .ref 0), (2, .ref 159), (3, .int y)]) (st' := []) rfl ?_
  have h30 : FUL σ22 := (FUL_kp hR h9 h24 (by decide +kernel) (by decide +kernel) (RDL_fr hR.1 h9 h24 (by decide +kernel) (by decide +kernel)))
  exact k _ h23 h28 h29 ⟨h30, (RUT_fr hQ h9 h24 (by decide +kernel) (by decide +kernel)), (QXS_fr hX h9 h24 (by decide +kernel) (by decide +kernel))⟩
set_option maxRecDepth 10000 in
set_option maxHeartbeats 4000000 in
theorem law_c10 {L : Nat} {xs : Nat → Int32} {P : PO} (hL : L ≤ 3072) (y : Int32) (h0 : 0 ≤ y.toInt) (h1 : y.toInt + 6 ≤ (L : Int)) (σ0 : SG) (hσ0 : WT σ0) (hC : INVc σ0) (hI : WI σ0) (hL : LEA σ0) (k : ∀ σ, WT σ → INVc σ → WI σ → LEA σ → En 2048 84000 (some (L, xs)) mr_336 P 2236 [(0, .retAddr 0), (1, .ref 0), (2, .ref 159), (3, .int y)] [] σ) : En 2048 84000 (some (L, xs)) mr_336 P 624 [(0, .retAddr 0), (1, .ref 0), (2, .ref 159), (3, .int y)] [] σ0 := by
  obtain ⟨hR, hQ, hX⟩ := hL
  obtain ⟨p, p2, sg, hp, hp2, h_p, h_p2, hne, h_sg, hl_sg⟩ := id hC
  obtain ⟨-, hu_sg⟩ := WT_int hσ0 (g := 18) hp (by decide +kernel) (l := (-1)) (u := 4) (by decide +kernel) h_sg
  have hF0 : Fr [(35, 18), (35, 21), (42, 0), (43, 0), (44, 0), (45, 0), (46, 0)] σ0 σ0 := Fr_rfl
  obtain ⟨t, h_t1, h_t2, -⟩ := id hR.1
  obtain ⟨hl_t, hu_t⟩ := WT_int hσ0 (g := 1) tgz_1 (by decide +kernel) (l := 0) (u := 1600) (by decide +kernel) h_t1
  refine En_Ps 5 (pc' := 629) (lv' := [(0, .retAddr 0), (1, .ref 0), (2, .ref 159), (3, .int y)]) (st' := [.int ((y + ((Int32.ofInt 1)))), .retAddr 0, .ref 0]) rfl ?_
  refine En_top (addI rfl (by decide : (Int32.ofInt 1).toInt = 1) (by omega) (by omega)) (fun z1 h2 => ?_)
  refine En_sld rfl rfl (by omega) (by omega) (fun z3 h4 => ?_)
  refine En_callV rfl rfl rfl rfl rfl rfl rfl rfl tgz_0 (by decide +kernel) rfl (c_158 σ0 hσ0 z3 p hp h_p sg h_sg (by omega)) (by decide) (by decide) (fun v6 σ7 h5 => ?_)
  obtain ⟨h8, h9, z11, rfl, h10⟩ := h5
  have h12 := Fr_trans hF0 h9 (by decide +kernel)
  have h13 := INVc_fr h9 (by decide +kernel) hC
  have h14 := WI_fr h9 (by decide +kernel) (by decide +kernel) hI
  refine En_Ps 6 (pc' := 639) (lv' := [(0, .retAddr 0), (1, .ref 0), (2, .ref 159), (3, .int y)]) (st' := [.int ((y + ((Int32.ofInt 1)))), .retAddr 0, .ref 159]) rfl ?_
  refine En_top (addI rfl (by decide : (Int32.ofInt 1).toInt = 1) (by omega) (by omega)) (fun z15 h16 => ?_)
  refine En_sld rfl rfl (by omega) (by omega) (fun z17 h18 => ?_)
  have h19 : z17.toInt = z3.toInt := by rw [h18, h4, show z15.toInt = z1.toInt by omega]
  refine En_callV rfl rfl rfl rfl rfl rfl rfl rfl tgz_159 (by decide +kernel) rfl (c_291 σ7 h8 z17) (by decide) (by decide) (fun v21 σ22 h20 => ?_)
  obtain ⟨h23, h24, z26, rfl, h25⟩ := h20
  have h27 := Fr_trans h12 h24 (by decide +kernel)
  have h28 := INVc_fr h24 (by decide +kernel) h13
  have h29 := WI_fr h24 (by decide +kernel) (by decide +kernel) h14
  refine En_Ps 2 (pc' := 2236) (lv' := [(0, .retAddr 0), (1, .ref 0), (2, .ref 159), (3, .int y)]) (st' := []) rfl ?_
  have h30 : FUL σ22 := (FUL_kp hR h9 h24 (by decide +kernel) (by decide +kernel) (RDL_fr hR.1 h9 h24 (by decide +kernel) (by decide +kernel)))
  exact k _ h23 h28 h29 ⟨h30, (RUT_fr hQ h9 h24 (by decide +kernel) (by decide +kernel)), (QXS_fr hX h9 h24 (by decide +kernel) (by decide +kernel))⟩
set_option maxRecDepth 10000 in
set_option maxHeartbeats 4000000 in
theorem law_c11 {L : Nat} {xs : Nat → Int32} {P : PO} (hL : L ≤ 3072) (y : Int32) (h0 : 0 ≤ y.toInt) (h1 : y.toInt + 6 ≤ (L : Int)) (σ0 : SG) (hσ0 : WT σ0) (hC : INVc σ0) (hI : WI σ0) (hL : LEA σ0) (k : ∀ σ, WT σ → INVc σ → WI σ → LEA σ → En 2048 84000 (some (L, xs)) mr_336 P 2236 [(0, .retAddr 0), (1, .ref 0), (2, .ref 159), (3, .int y)] [] σ) : En 2048 84000 (some (L, xs)) mr_336 P 647 [(0, .retAddr 0), (1, .ref 0), (2, .ref 159), (3, .int y)] [] σ0 := by
  obtain ⟨hR, hQ, hX⟩ := hL
  obtain ⟨p, p2, sg, hp, hp2, h_p, h_p2, hne, h_sg, hl_sg⟩ := id hC
  obtain ⟨-, hu_sg⟩ := WT_int hσ0 (g := 18) hp (by decide +kernel) (l := (-1)) (u := 4) (by decide +kernel) h_sg
  have hF0 : Fr [(35, 21), (45, 0), (46, 0)] σ0 σ0 := Fr_rfl
  obtain ⟨t, h_t1, h_t2, -⟩ := id hR.1
  obtain ⟨hl_t, hu_t⟩ := WT_int hσ0 (g := 1) tgz_1 (by decide +kernel) (l := 0) (u := 1600) (by decide +kernel) h_t1
  refine En_Ps 5 (pc' := 652) (lv' := [(0, .retAddr 0), (1, .ref 0), (2, .ref 159), (3, .int y)]) (st' := [.int ((y + ((Int32.ofInt 1)))), .retAddr 0, .ref 0]) rfl ?_
  refine En_top (addI rfl (by decide : (Int32.ofInt 1).toInt = 1) (by omega) (by omega)) (fun z1 h2 => ?_)
  refine En_sld rfl rfl (by omega) (by omega) (fun z3 h4 => ?_)
  refine En_Ps 4 (pc' := 657) (lv' := [(0, .retAddr 0), (1, .ref 0), (2, .ref 159), (3, .int y)]) (st' := [.int ((y + ((Int32.ofInt 2)))), .retAddr 0, .int z3, .ref 0]) rfl ?_
  refine En_top (addI rfl (by decide : (Int32.ofInt 2).toInt = 2) (by omega) (by omega)) (fun z5 h6 => ?_)
  refine En_sld rfl rfl (by omega) (by omega) (fun z7 h8 => ?_)
  refine En_callV rfl rfl rfl rfl rfl rfl rfl rfl tgz_0 (by decide +kernel) rfl (c_183 σ0 hσ0 z3 z7 p hp h_p sg h_sg (by omega)) (by decide) (by decide) (fun v10 σ11 h9 => ?_)
  obtain ⟨h12, h13, z15, rfl, h14⟩ := h9
  have h16 := Fr_trans hF0 h13 (by decide +kernel)
  have h17 := INVc_fr h13 (by decide +kernel) hC
  have h18 := WI_fr h13 (by decide +kernel) (by decide +kernel) hI
  refine En_Ps 6 (pc' := 667) (lv' := [(0, .retAddr 0), (1, .ref 0), (2, .ref 159), (3, .int y)]) (st' := [.int ((y + ((Int32.ofInt 1)))), .retAddr 0, .ref 159]) rfl ?_
  refine En_top (addI rfl (by decide : (Int32.ofInt 1).toInt = 1) (by omega) (by omega)) (fun z19 h20 => ?_)
  refine En_sld rfl rfl (by omega) (by omega) (fun z21 h22 => ?_)
  have h23 : z21.toInt = z3.toInt := by rw [h22, h4, show z19.toInt = z1.toInt by omega]
  refine En_Ps 4 (pc' := 672) (lv' := [(0, .retAddr 0), (1, .ref 0), (2, .ref 159), (3, .int y)]) (st' := [.int ((y + ((Int32.ofInt 2)))), .retAddr 0, .int z21, .ref 159]) rfl ?_
  refine En_top (addI rfl (by decide : (Int32.ofInt 2).toInt = 2) (by omega) (by omega)) (fun z24 h25 => ?_)
  refine En_sld rfl rfl (by omega) (by omega) (fun z26 h27 => ?_)
  have h28 : z26.toInt = z7.toInt := by rw [h27, h8, show z24.toInt = z5.toInt by omega]
  refine En_callV rfl rfl rfl rfl rfl rfl rfl rfl tgz_159 (by decide +kernel) rfl (c_331 σ11 h12 z21 z26) (by decide) (by decide) (fun v30 σ31 h29 => ?_)
  obtain ⟨h32, h33, z35, rfl, h34⟩ := h29
  have h36 := Fr_trans h16 h33 (by decide +kernel)
  have h37 := INVc_fr h33 (by decide +kernel) h17
  have h38 := WI_fr h33 (by decide +kernel) (by decide +kernel) h18
  refine En_Ps 2 (pc' := 2236) (lv' := [(0, .retAddr 0), (1, .ref 0), (2, .ref 159), (3, .int y)]) (st' := []) rfl ?_
  have h39 : FUL σ31 := (FUL_kp hR h13 h33 (by decide +kernel) (by decide +kernel) (RDL_fr hR.1 h13 h33 (by decide +kernel) (by decide +kernel)))
  exact k _ h32 h37 h38 ⟨h39, (RUT_fr hQ h13 h33 (by decide +kernel) (by decide +kernel)), (QXS_fr hX h13 h33 (by decide +kernel) (by decide +kernel))⟩
set_option maxRecDepth 10000 in
set_option maxHeartbeats 4000000 in
theorem law_c12 {L : Nat} {xs : Nat → Int32} {P : PO} (hL : L ≤ 3072) (y : Int32) (h0 : 0 ≤ y.toInt) (h1 : y.toInt + 6 ≤ (L : Int)) (σ0 : SG) (hσ0 : WT σ0) (hC : INVc σ0) (hI : WI σ0) (hL : LEA σ0) (k : ∀ σ, WT σ → INVc σ → WI σ → LEA σ → En 2048 84000 (some (L, xs)) mr_336 P 2236 [(0, .retAddr 0), (1, .ref 0), (2, .ref 159), (3, .int y)] [] σ) : En 2048 84000 (some (L, xs)) mr_336 P 680 [(0, .retAddr 0), (1, .ref 0), (2, .ref 159), (3, .int y)] [] σ0 := by
  obtain ⟨hR, hQ, hX⟩ := hL
  obtain ⟨p, p2, sg, hp, hp2, h_p, h_p2, hne, h_sg, hl_sg⟩ := id hC
  obtain ⟨-, hu_sg⟩ := WT_int hσ0 (g := 18) hp (by decide +kernel) (l := (-1)) (u := 4) (by decide +kernel) h_sg
  have hF0 : Fr [(35, 18), (35, 21), (42, 0), (43, 0), (44, 0), (45, 0), (46, 0)] σ0 σ0 := Fr_rfl
  obtain ⟨t, h_t1, h_t2, -⟩ := id hR.1
  obtain ⟨hl_t, hu_t⟩ := WT_int hσ0 (g := 1) tgz_1 (by decide +kernel) (l := 0) (u := 1600) (by decide +kernel) h_t1
  refine En_Ps 5 (pc' := 685) (lv' := [(0, .retAddr 0), (1, .ref 0), (2, .ref 159), (3, .int y)]) (st' := [.int ((y + ((Int32.ofInt 1)))), .retAddr 0, .ref 0]) rfl ?_
  refine En_top (addI rfl (by decide : (Int32.ofInt 1).toInt = 1) (by omega) (by omega)) (fun z1 h2 => ?_)
  refine En_sld rfl rfl (by omega) (by omega) (fun z3 h4 => ?_)
  refine En_Ps 4 (pc' := 690) (lv' := [(0, .retAddr 0), (1, .ref 0), (2, .ref 159), (3, .int y)]) (st' := [.int ((y + ((Int32.ofInt 2)))), .retAddr 0, .int z3, .ref 0]) rfl ?_
  refine En_top (addI rfl (by decide : (Int32.ofInt 2).toInt = 2) (by omega) (by omega)) (fun z5 h6 => ?_)
  refine En_sld rfl rfl (by omega) (by omega) (fun z7 h8 => ?_)
  refine En_callV rfl rfl rfl rfl rfl rfl rfl rfl tgz_0 (by decide +kernel) rfl (c_166 σ0 hσ0 z3 z7 p hp h_p sg h_sg (by omega)) (by decide) (by decide) (fun v10 σ11 h9 => ?_)
  obtain ⟨h12, h13, z15, rfl, h14⟩ := h9
  have h16 := Fr_trans hF0 h13 (by decide +kernel)
  have h17 := INVc_fr h13 (by decide +kernel) hC
  have h18 := WI_fr h13 (by decide +kernel) (by decide +kernel) hI
  refine En_Ps 6 (pc' := 700) (lv' := [(0, .retAddr 0), (1, .ref 0), (2, .ref 159), (3, .int y)]) (st' := [.int ((y + ((Int32.ofInt 1)))), .retAddr 0, .ref 159]) rfl ?_
  refine En_top (addI rfl (by decide : (Int32.ofInt 1).toInt = 1) (by omega) (by omega)) (fun z19 h20 => ?_)
  refine En_sld rfl rfl (by omega) (by omega) (fun z21 h22 => ?_)
  have h23 : z21.toInt = z3.toInt := by rw [h22, h4, show z19.toInt = z1.toInt by omega]
  refine En_Ps 4 (pc' := 705) (lv' := [(0, .retAddr 0), (1, .ref 0), (2, .ref 159), (3, .int y)]) (st' := [.int ((y + ((Int32.ofInt 2)))), .retAddr 0, .int z21, .ref 159]) rfl ?_
  refine En_top (addI rfl (by decide : (Int32.ofInt 2).toInt = 2) (by omega) (by omega)) (fun z24 h25 => ?_)
  refine En_sld rfl rfl (by omega) (by omega) (fun z26 h27 => ?_)
  have h28 : z26.toInt = z7.toInt := by rw [h27, h8, show z24.toInt = z5.toInt by omega]
  refine En_callV rfl rfl rfl rfl rfl rfl rfl rfl tgz_159 (by decide +kernel) rfl (c_309 σ11 h12 z21 z26) (by decide) (by decide) (fun v30 σ31 h29 => ?_)
  obtain ⟨h32, h33, z35, rfl, h34⟩ := h29
  have h36 := Fr_trans h16 h33 (by decide +kernel)
  have h37 := INVc_fr h33 (by decide +kernel) h17
  have h38 := WI_fr h33 (by decide +kernel) (by decide +kernel) h18
  refine En_Ps 2 (pc' := 2236) (lv' := [(0, .retAddr 0), (1, .ref 0), (2, .ref 159), (3, .int y)]) (st' := []) rfl ?_
  have h39 : FUL σ31 := (FUL_kp hR h13 h33 (by decide +kernel) (by decide +kernel) (RDL_fr hR.1 h13 h33 (by decide +kernel) (by decide +kernel)))
  exact k _ h32 h37 h38 ⟨h39, (RUT_fr hQ h13 h33 (by decide +kernel) (by decide +kernel)), (QXS_fr hX h13 h33 (by decide +kernel) (by decide +kernel))⟩

