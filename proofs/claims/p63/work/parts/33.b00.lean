set_option maxRecDepth 10000 in
set_option maxHeartbeats 4000000 in
theorem law_c0 {L : Nat} {xs : Nat → Int32} {P : PO} (hL : L ≤ 3072) (y : Int32) (h0 : 0 ≤ y.toInt) (h1 : y.toInt + 6 ≤ (L : Int)) (σ0 : SG) (hσ0 : WT σ0) (hC : INVc σ0) (hI : WI σ0) (k : ∀ σ, WT σ → INVc σ → WI σ → En 2048 84000 (some (L, xs)) mr_336 P 2236 [(0, .retAddr 0), (1, .ref 0), (2, .ref 159), (3, .int y)] [] σ) : En 2048 84000 (some (L, xs)) mr_336 P 304 [(0, .retAddr 0), (1, .ref 0), (2, .ref 159), (3, .int y)] [] σ0 := by
  obtain ⟨p, p2, sg, hp, hp2, h_p, h_p2, hne, h_sg, hl_sg⟩ := id hC
  obtain ⟨-, hu_sg⟩ := WT_int hσ0 (g := 18) hp (by decide +kernel) (l := (-1)) (u := 4) (by decide +kernel) h_sg
  have hF0 : Fr [(1, 1), (2, 0), (35, 5), (39, 0), (40, 0)] σ0 σ0 := Fr_rfl
  refine En_Ps 5 (pc' := 309) (lv' := [(0, .retAddr 0), (1, .ref 0), (2, .ref 159), (3, .int y)]) (st' := [.int ((y + ((Int32.ofInt 1)))), .retAddr 0, .ref 0]) rfl ?_
  refine En_top (addI rfl (by decide : (Int32.ofInt 1).toInt = 1) (by omega) (by omega)) (fun z1 h2 => ?_)
  refine En_sld rfl rfl (by omega) (by omega) (fun z3 h4 => ?_)
  refine En_Ps 4 (pc' := 314) (lv' := [(0, .retAddr 0), (1, .ref 0), (2, .ref 159), (3, .int y)]) (st' := [.int ((y + ((Int32.ofInt 2)))), .retAddr 0, .int z3, .ref 0]) rfl ?_
  refine En_top (addI rfl (by decide : (Int32.ofInt 2).toInt = 2) (by omega) (by omega)) (fun z5 h6 => ?_)
  refine En_sld rfl rfl (by omega) (by omega) (fun z7 h8 => ?_)
  refine En_Ps 4 (pc' := 319) (lv' := [(0, .retAddr 0), (1, .ref 0), (2, .ref 159), (3, .int y)]) (st' := [.int ((y + ((Int32.ofInt 3)))), .retAddr 0, .int z7, .int z3, .ref 0]) rfl ?_
  refine En_top (addI rfl (by decide : (Int32.ofInt 3).toInt = 3) (by omega) (by omega)) (fun z9 h10 => ?_)
  refine En_sld rfl rfl (by omega) (by omega) (fun z11 h12 => ?_)
  refine En_Ps 4 (pc' := 324) (lv' := [(0, .retAddr 0), (1, .ref 0), (2, .ref 159), (3, .int y)]) (st' := [.int ((y + ((Int32.ofInt 4)))), .retAddr 0, .int z11, .int z7, .int z3, .ref 0]) rfl ?_
  refine En_top (addI rfl (by decide : (Int32.ofInt 4).toInt = 4) (by omega) (by omega)) (fun z13 h14 => ?_)
  refine En_sld rfl rfl (by omega) (by omega) (fun z15 h16 => ?_)
  refine En_Ps 4 (pc' := 329) (lv' := [(0, .retAddr 0), (1, .ref 0), (2, .ref 159), (3, .int y)]) (st' := [.int ((y + ((Int32.ofInt 5)))), .retAddr 0, .int z15, .int z11, .int z7, .int z3, .ref 0]) rfl ?_
  refine En_top (addI rfl (by decide : (Int32.ofInt 5).toInt = 5) (by omega) (by omega)) (fun z17 h18 => ?_)
  refine En_sld rfl rfl (by omega) (by omega) (fun z19 h20 => ?_)
  obtain ⟨z22, h21, h23, h24⟩ := WT_peekI hσ0 (by decide +kernel : TG 1 = 1) (by decide +kernel : FT 1 1 = (0, 0, 1600)) (by decide +kernel)
  refine En_callV rfl rfl rfl rfl rfl rfl rfl rfl (by decide +kernel : TG 0 = 0) (by decide +kernel) rfl (c_122x σ0 hσ0 z3 z7 z11 z15 z19 p hp h_p sg h_sg z22 h21 (by omega)) (by decide) (by decide) (fun v26 σ27 h25 => ?_)
  obtain ⟨h28, h29, z31, h32, z33, rfl, h30⟩ := h25
  have h34 := Fr_trans hF0 h29 (by decide +kernel)
  have h35 := INVc_fr h29 (by decide +kernel) hC
  have h36 := WI_fr h29 (by decide +kernel) (by decide +kernel) hI
  refine En_Ps 6 (pc' := 339) (lv' := [(0, .retAddr 0), (1, .ref 0), (2, .ref 159), (3, .int y)]) (st' := [.int ((y + ((Int32.ofInt 1)))), .retAddr 0, .ref 159]) rfl ?_
  refine En_top (addI rfl (by decide : (Int32.ofInt 1).toInt = 1) (by omega) (by omega)) (fun z37 h38 => ?_)
  refine En_sld rfl rfl (by omega) (by omega) (fun z39 h40 => ?_)
  have h41 : z39.toInt = z3.toInt := by rw [h40, h4, show z37.toInt = z1.toInt by omega]
  refine En_Ps 4 (pc' := 344) (lv' := [(0, .retAddr 0), (1, .ref 0), (2, .ref 159), (3, .int y)]) (st' := [.int ((y + ((Int32.ofInt 2)))), .retAddr 0, .int z39, .ref 159]) rfl ?_
  refine En_top (addI rfl (by decide : (Int32.ofInt 2).toInt = 2) (by omega) (by omega)) (fun z42 h43 => ?_)
  refine En_sld rfl rfl (by omega) (by omega) (fun z44 h45 => ?_)
  have h46 : z44.toInt = z7.toInt := by rw [h45, h8, show z42.toInt = z5.toInt by omega]
  refine En_Ps 4 (pc' := 349) (lv' := [(0, .retAddr 0), (1, .ref 0), (2, .ref 159), (3, .int y)]) (st' := [.int ((y + ((Int32.ofInt 3)))), .retAddr 0, .int z44, .int z39, .ref 159]) rfl ?_
  refine En_top (addI rfl (by decide : (Int32.ofInt 3).toInt = 3) (by omega) (by omega)) (fun z47 h48 => ?_)
  refine En_sld rfl rfl (by omega) (by omega) (fun z49 h50 => ?_)
  have h51 : z49.toInt = z11.toInt := by rw [h50, h12, show z47.toInt = z9.toInt by omega]
  refine En_Ps 4 (pc' := 354) (lv' := [(0, .retAddr 0), (1, .ref 0), (2, .ref 159), (3, .int y)]) (st' := [.int ((y + ((Int32.ofInt 4)))), .retAddr 0, .int z49, .int z44, .int z39, .ref 159]) rfl ?_
  refine En_top (addI rfl (by decide : (Int32.ofInt 4).toInt = 4) (by omega) (by omega)) (fun z52 h53 => ?_)
  refine En_sld rfl rfl (by omega) (by omega) (fun z54 h55 => ?_)
  have h56 : z54.toInt = z15.toInt := by rw [h55, h16, show z52.toInt = z13.toInt by omega]
  refine En_Ps 4 (pc' := 359) (lv' := [(0, .retAddr 0), (1, .ref 0), (2, .ref 159), (3, .int y)]) (st' := [.int ((y + ((Int32.ofInt 5)))), .retAddr 0, .int z54, .int z49, .int z44, .int z39, .ref 159]) rfl ?_
  refine En_top (addI rfl (by decide : (Int32.ofInt 5).toInt = 5) (by omega) (by omega)) (fun z57 h58 => ?_)
  refine En_sld rfl rfl (by omega) (by omega) (fun z59 h60 => ?_)
  have h61 : z59.toInt = z19.toInt := by rw [h60, h20, show z57.toInt = z17.toInt by omega]
  obtain ⟨z63, h62, h64, h65⟩ := WT_peekI h28 (by decide +kernel : TG 159 = 35) (by decide +kernel : FT 35 5 = (0, 0, 1600)) (by decide +kernel)
  refine En_callV rfl rfl rfl rfl rfl rfl rfl rfl (by decide +kernel : TG 159 = 35) (by decide +kernel) rfl (c_226x σ27 h28 z39 z44 z49 z54 z59 z63 h62) (by decide) (by decide) (fun v67 σ68 h66 => ?_)
  obtain ⟨h69, h70, z72, h73, z74, rfl, h71⟩ := h66
  have h75 := Fr_trans h34 h70 (by decide +kernel)
  have h76 := INVc_fr h70 (by decide +kernel) h35
  have h77 := WI_fr h70 (by decide +kernel) (by decide +kernel) h36
  refine En_Ps 2 (pc' := 2236) (lv' := [(0, .retAddr 0), (1, .ref 0), (2, .ref 159), (3, .int y)]) (st' := []) rfl ?_
  exact k _ h69 h76 h77
set_option maxRecDepth 10000 in
set_option maxHeartbeats 4000000 in
theorem law_c1 {L : Nat} {xs : Nat → Int32} {P : PO} (hL : L ≤ 3072) (y : Int32) (h0 : 0 ≤ y.toInt) (h1 : y.toInt + 6 ≤ (L : Int)) (σ0 : SG) (hσ0 : WT σ0) (hC : INVc σ0) (hI : WI σ0) (k : ∀ σ, WT σ → INVc σ → WI σ → En 2048 84000 (some (L, xs)) mr_336 P 2236 [(0, .retAddr 0), (1, .ref 0), (2, .ref 159), (3, .int y)] [] σ) : En 2048 84000 (some (L, xs)) mr_336 P 367 [(0, .retAddr 0), (1, .ref 0), (2, .ref 159), (3, .int y)] [] σ0 := by
  obtain ⟨p, p2, sg, hp, hp2, h_p, h_p2, hne, h_sg, hl_sg⟩ := id hC
  obtain ⟨-, hu_sg⟩ := WT_int hσ0 (g := 18) hp (by decide +kernel) (l := (-1)) (u := 4) (by decide +kernel) h_sg
  have hF0 : Fr [(1, 1), (35, 5)] σ0 σ0 := Fr_rfl
  refine En_Ps 5 (pc' := 372) (lv' := [(0, .retAddr 0), (1, .ref 0), (2, .ref 159), (3, .int y)]) (st' := [.int ((y + ((Int32.ofInt 1)))), .retAddr 0, .ref 0]) rfl ?_
  refine En_top (addI rfl (by decide : (Int32.ofInt 1).toInt = 1) (by omega) (by omega)) (fun z1 h2 => ?_)
  refine En_sld rfl rfl (by omega) (by omega) (fun z3 h4 => ?_)
  obtain ⟨z6, h5, h7, h8⟩ := WT_peekI hσ0 (by decide +kernel : TG 1 = 1) (by decide +kernel : FT 1 1 = (0, 0, 1600)) (by decide +kernel)
  refine En_callV rfl rfl rfl rfl rfl rfl rfl rfl (by decide +kernel : TG 0 = 0) (by decide +kernel) rfl (c_118x σ0 hσ0 z3 p hp h_p sg h_sg z6 h5 (by omega)) (by decide) (by decide) (fun v10 σ11 h9 => ?_)
  obtain ⟨h12, h13, z15, h16, z17, rfl, h14⟩ := h9
  have h18 := Fr_trans hF0 h13 (by decide +kernel)
  have h19 := INVc_fr h13 (by decide +kernel) hC
  have h20 := WI_fr h13 (by decide +kernel) (by decide +kernel) hI
  refine En_Ps 6 (pc' := 382) (lv' := [(0, .retAddr 0), (1, .ref 0), (2, .ref 159), (3, .int y)]) (st' := [.int ((y + ((Int32.ofInt 1)))), .retAddr 0, .ref 159]) rfl ?_
  refine En_top (addI rfl (by decide : (Int32.ofInt 1).toInt = 1) (by omega) (by omega)) (fun z21 h22 => ?_)
  refine En_sld rfl rfl (by omega) (by omega) (fun z23 h24 => ?_)
  have h25 : z23.toInt = z3.toInt := by rw [h24, h4, show z21.toInt = z1.toInt by omega]
  obtain ⟨z27, h26, h28, h29⟩ := WT_peekI h12 (by decide +kernel : TG 159 = 35) (by decide +kernel : FT 35 5 = (0, 0, 1600)) (by decide +kernel)
  refine En_callV rfl rfl rfl rfl rfl rfl rfl rfl (by decide +kernel : TG 159 = 35) (by decide +kernel) rfl (c_221x σ11 h12 z23 z27 h26) (by decide) (by decide) (fun v31 σ32 h30 => ?_)
  obtain ⟨h33, h34, z36, h37, z38, rfl, h35⟩ := h30
  have h39 := Fr_trans h18 h34 (by decide +kernel)
  have h40 := INVc_fr h34 (by decide +kernel) h19
  have h41 := WI_fr h34 (by decide +kernel) (by decide +kernel) h20
  refine En_Ps 2 (pc' := 2236) (lv' := [(0, .retAddr 0), (1, .ref 0), (2, .ref 159), (3, .int y)]) (st' := []) rfl ?_
  exact k _ h33 h40 h41
set_option maxRecDepth 10000 in
set_option maxHeartbeats 4000000 in
theorem law_c2 {L : Nat} {xs : Nat → Int32} {P : PO} (hL : L ≤ 3072) (y : Int32) (h0 : 0 ≤ y.toInt) (h1 : y.toInt + 6 ≤ (L : Int)) (σ0 : SG) (hσ0 : WT σ0) (hC : INVc σ0) (hI : WI σ0) (k : ∀ σ, WT σ → INVc σ → WI σ → En 2048 84000 (some (L, xs)) mr_336 P 2236 [(0, .retAddr 0), (1, .ref 0), (2, .ref 159), (3, .int y)] [] σ) : En 2048 84000 (some (L, xs)) mr_336 P 390 [(0, .retAddr 0), (1, .ref 0), (2, .ref 159), (3, .int y)] [] σ0 := by
  obtain ⟨p, p2, sg, hp, hp2, h_p, h_p2, hne, h_sg, hl_sg⟩ := id hC
  obtain ⟨-, hu_sg⟩ := WT_int hσ0 (g := 18) hp (by decide +kernel) (l := (-1)) (u := 4) (by decide +kernel) h_sg
  have hF0 : Fr [(0, 9), (0, 10), (1, 1), (3, 1), (3, 2), (3, 3), (3, 4), (3, 5), (3, 6), (4, 0), (4, 1), (5, 0), (6, 0), (7, 0), (18, 0), (18, 1), (18, 2), (18, 3), (18, 6), (18, 7), (18, 8), (18, 11), (18, 14), (20, 2), (21, 0), (22, 0), (23, 0), (24, 0), (25, 0), (26, 0), (28, 1), (28, 2), (28, 3), (35, 5), (35, 7), (35, 8), (35, 9), (35, 10), (35, 11), (35, 12), (35, 13), (36, 0), (41, 0)] σ0 σ0 := Fr_rfl
  refine En_Ps 1 (pc' := 391) (lv' := [(0, .retAddr 0), (1, .ref 0), (2, .ref 159), (3, .int y)]) (st' := [.ref 0]) rfl ?_
  refine En_callV rfl rfl rfl rfl rfl rfl rfl rfl (by decide +kernel : TG 0 = 0) (by decide +kernel) rfl (c_169x σ0 hσ0 p hp h_p sg h_sg p2 hp2 h_p2 (by omega) hne) (by decide) (by decide) (fun v2 σ3 h1 => ?_)
  obtain ⟨h4, h5, z7, h8, z9, rfl, h6⟩ := h1
  have h10 := h6.2.2.2.2.2.2.2.2
  have h11 := Fr_trans hF0 h5 (by decide +kernel)
  have h12 := h10
  have h13 := WI_fr h5 (by decide +kernel) (by decide +kernel) hI
  refine En_Ps 2 (pc' := 396) (lv' := [(0, .retAddr 0), (1, .ref 0), (2, .ref 159), (3, .int y)]) (st' := [.ref 159]) rfl ?_
  refine En_callV rfl rfl rfl rfl rfl rfl rfl rfl (by decide +kernel : TG 159 = 35) (by decide +kernel) rfl (c_312x σ3 h4 h13) (by decide) (by decide) (fun v15 σ16 h14 => ?_)
  obtain ⟨h17, h18, z20, h21, z22, rfl, h19⟩ := h14
  have h23 := h19.2.2.2.2.2.2
  have h24 := Fr_trans h11 h18 (by decide +kernel)
  have h25 := INVc_fr h18 (by decide +kernel) h12
  have h26 := h23
  refine En_Ps 2 (pc' := 2236) (lv' := [(0, .retAddr 0), (1, .ref 0), (2, .ref 159), (3, .int y)]) (st' := []) rfl ?_
  exact k _ h17 h25 h26
set_option maxRecDepth 10000 in
set_option maxHeartbeats 4000000 in
theorem law_c3 {L : Nat} {xs : Nat → Int32} {P : PO} (hL : L ≤ 3072) (y : Int32) (h0 : 0 ≤ y.toInt) (h1 : y.toInt + 6 ≤ (L : Int)) (σ0 : SG) (hσ0 : WT σ0) (hC : INVc σ0) (hI : WI σ0) (k : ∀ σ, WT σ → INVc σ → WI σ → En 2048 84000 (some (L, xs)) mr_336 P 2236 [(0, .retAddr 0), (1, .ref 0), (2, .ref 159), (3, .int y)] [] σ) : En 2048 84000 (some (L, xs)) mr_336 P 403 [(0, .retAddr 0), (1, .ref 0), (2, .ref 159), (3, .int y)] [] σ0 := by
  obtain ⟨p, p2, sg, hp, hp2, h_p, h_p2, hne, h_sg, hl_sg⟩ := id hC
  obtain ⟨-, hu_sg⟩ := WT_int hσ0 (g := 18) hp (by decide +kernel) (l := (-1)) (u := 4) (by decide +kernel) h_sg
  have hF0 : Fr [] σ0 σ0 := Fr_rfl
  refine En_Ps 5 (pc' := 408) (lv' := [(0, .retAddr 0), (1, .ref 0), (2, .ref 159), (3, .int y)]) (st' := [.int ((y + ((Int32.ofInt 1)))), .retAddr 0, .ref 0]) rfl ?_
  refine En_top (addI rfl (by decide : (Int32.ofInt 1).toInt = 1) (by omega) (by omega)) (fun z1 h2 => ?_)
  refine En_sld rfl rfl (by omega) (by omega) (fun z3 h4 => ?_)
  refine En_callV rfl rfl rfl rfl rfl rfl rfl rfl (by decide +kernel : TG 0 = 0) (by decide +kernel) rfl (c_121 σ0 hσ0 z3 p hp h_p sg h_sg (by omega)) (by decide) (by decide) (fun v6 σ7 h5 => ?_)
  obtain ⟨h8, h9, z11, rfl, h10⟩ := h5
  have h12 := Fr_trans hF0 h9 (by decide +kernel)
  have h13 := INVc_fr h9 (by decide +kernel) hC
  have h14 := WI_fr h9 (by decide +kernel) (by decide +kernel) hI
  refine En_Ps 6 (pc' := 418) (lv' := [(0, .retAddr 0), (1, .ref 0), (2, .ref 159), (3, .int y)]) (st' := [.int ((y + ((Int32.ofInt 1)))), .retAddr 0, .ref 159]) rfl ?_
  refine En_top (addI rfl (by decide : (Int32.ofInt 1).toInt = 1) (by omega) (by omega)) (fun z15 h16 => ?_)
  refine En_sld rfl rfl (by omega) (by omega) (fun z17 h18 => ?_)
  have h19 : z17.toInt = z3.toInt := by rw [h18, h4, show z15.toInt = z1.toInt by omega]
  refine En_callV rfl rfl rfl rfl rfl rfl rfl rfl (by decide +kernel : TG 159 = 35) (by decide +kernel) rfl (c_225 σ7 h8 z17) (by decide) (by decide) (fun v21 σ22 h20 => ?_)
  obtain ⟨h23, h24, z26, rfl, h25⟩ := h20
  have h27 := Fr_trans h12 h24 (by decide +kernel)
  have h28 := INVc_fr h24 (by decide +kernel) h13
  have h29 := WI_fr h24 (by decide +kernel) (by decide +kernel) h14
  refine En_Ps 2 (pc' := 2236) (lv' := [(0, .retAddr 0), (1, .ref 0), (2, .ref 159), (3, .int y)]) (st' := []) rfl ?_
  exact k _ h23 h28 h29
set_option maxRecDepth 10000 in
set_option maxHeartbeats 4000000 in
theorem law_c4 {L : Nat} {xs : Nat → Int32} {P : PO} (hL : L ≤ 3072) (y : Int32) (h0 : 0 ≤ y.toInt) (h1 : y.toInt + 6 ≤ (L : Int)) (σ0 : SG) (hσ0 : WT σ0) (hC : INVc σ0) (hI : WI σ0) (k : ∀ σ, WT σ → INVc σ → WI σ → En 2048 84000 (some (L, xs)) mr_336 P 2236 [(0, .retAddr 0), (1, .ref 0), (2, .ref 159), (3, .int y)] [] σ) : En 2048 84000 (some (L, xs)) mr_336 P 426 [(0, .retAddr 0), (1, .ref 0), (2, .ref 159), (3, .int y)] [] σ0 := by
  obtain ⟨p, p2, sg, hp, hp2, h_p, h_p2, hne, h_sg, hl_sg⟩ := id hC
  obtain ⟨-, hu_sg⟩ := WT_int hσ0 (g := 18) hp (by decide +kernel) (l := (-1)) (u := 4) (by decide +kernel) h_sg
  have hF0 : Fr [] σ0 σ0 := Fr_rfl
  refine En_Ps 5 (pc' := 431) (lv' := [(0, .retAddr 0), (1, .ref 0), (2, .ref 159), (3, .int y)]) (st' := [.int ((y + ((Int32.ofInt 1)))), .retAddr 0, .ref 0]) rfl ?_
  refine En_top (addI rfl (by decide : (Int32.ofInt 1).toInt = 1) (by omega) (by omega)) (fun z1 h2 => ?_)
  refine En_sld rfl rfl (by omega) (by omega) (fun z3 h4 => ?_)
  refine En_Ps 4 (pc' := 436) (lv' := [(0, .retAddr 0), (1, .ref 0), (2, .ref 159), (3, .int y)]) (st' := [.int ((y + ((Int32.ofInt 2)))), .retAddr 0, .int z3, .ref 0]) rfl ?_
  refine En_top (addI rfl (by decide : (Int32.ofInt 2).toInt = 2) (by omega) (by omega)) (fun z5 h6 => ?_)
  refine En_sld rfl rfl (by omega) (by omega) (fun z7 h8 => ?_)
  refine En_callV rfl rfl rfl rfl rfl rfl rfl rfl (by decide +kernel : TG 0 = 0) (by decide +kernel) rfl (c_116 σ0 hσ0 z3 z7 p hp h_p sg h_sg (by omega)) (by decide) (by decide) (fun v10 σ11 h9 => ?_)
  obtain ⟨h12, h13, z15, rfl, h14⟩ := h9
  have h16 := Fr_trans hF0 h13 (by decide +kernel)
  have h17 := INVc_fr h13 (by decide +kernel) hC
  have h18 := WI_fr h13 (by decide +kernel) (by decide +kernel) hI
  refine En_Ps 6 (pc' := 446) (lv' := [(0, .retAddr 0), (1, .ref 0), (2, .ref 159), (3, .int y)]) (st' := [.int ((y + ((Int32.ofInt 1)))), .retAddr 0, .ref 159]) rfl ?_
  refine En_top (addI rfl (by decide : (Int32.ofInt 1).toInt = 1) (by omega) (by omega)) (fun z19 h20 => ?_)
  refine En_sld rfl rfl (by omega) (by omega) (fun z21 h22 => ?_)
  have h23 : z21.toInt = z3.toInt := by rw [h22, h4, show z19.toInt = z1.toInt by omega]
  refine En_Ps 4 (pc' := 451) (lv' := [(0, .retAddr 0), (1, .ref 0), (2, .ref 159), (3, .int y)]) (st' := [.int ((y + ((Int32.ofInt 2)))), .retAddr 0, .int z21, .ref 159]) rfl ?_
  refine En_top (addI rfl (by decide : (Int32.ofInt 2).toInt = 2) (by omega) (by omega)) (fun z24 h25 => ?_)
  refine En_sld rfl rfl (by omega) (by omega) (fun z26 h27 => ?_)
  have h28 : z26.toInt = z7.toInt := by rw [h27, h8, show z24.toInt = z5.toInt by omega]
  refine En_callV rfl rfl rfl rfl rfl rfl rfl rfl (by decide +kernel : TG 159 = 35) (by decide +kernel) rfl (c_219 σ11 h12 z21 z26) (by decide) (by decide) (fun v30 σ31 h29 => ?_)
  obtain ⟨h32, h33, z35, rfl, h34⟩ := h29
  have h36 := Fr_trans h16 h33 (by decide +kernel)
  have h37 := INVc_fr h33 (by decide +kernel) h17
  have h38 := WI_fr h33 (by decide +kernel) (by decide +kernel) h18
  refine En_Ps 2 (pc' := 2236) (lv' := [(0, .retAddr 0), (1, .ref 0), (2, .ref 159), (3, .int y)]) (st' := []) rfl ?_
  exact k _ h32 h37 h38
set_option maxRecDepth 10000 in
set_option maxHeartbeats 4000000 in
theorem law_c5 {L : Nat} {xs : Nat → Int32} {P : PO} (hL : L ≤ 3072) (y : Int32) (h0 : 0 ≤ y.toInt) (h1 : y.toInt + 6 ≤ (L : Int)) (σ0 : SG) (hσ0 : WT σ0) (hC : INVc σ0) (hI : WI σ0) (k : ∀ σ, WT σ → INVc σ → WI σ → En 2048 84000 (some (L, xs)) mr_336 P 2236 [(0, .retAddr 0), (1, .ref 0), (2, .ref 159), (3, .int y)] [] σ) : En 2048 84000 (some (L, xs)) mr_336 P 459 [(0, .retAddr 0), (1, .ref 0), (2, .ref 159), (3, .int y)] [] σ0 := by
  obtain ⟨p, p2, sg, hp, hp2, h_p, h_p2, hne, h_sg, hl_sg⟩ := id hC
  obtain ⟨-, hu_sg⟩ := WT_int hσ0 (g := 18) hp (by decide +kernel) (l := (-1)) (u := 4) (by decide +kernel) h_sg
  have hF0 : Fr [] σ0 σ0 := Fr_rfl
  refine En_Ps 5 (pc' := 464) (lv' := [(0, .retAddr 0), (1, .ref 0), (2, .ref 159), (3, .int y)]) (st' := [.int ((y + ((Int32.ofInt 1)))), .retAddr 0, .ref 0]) rfl ?_
  refine En_top (addI rfl (by decide : (Int32.ofInt 1).toInt = 1) (by omega) (by omega)) (fun z1 h2 => ?_)
  refine En_sld rfl rfl (by omega) (by omega) (fun z3 h4 => ?_)
  refine En_Ps 4 (pc' := 469) (lv' := [(0, .retAddr 0), (1, .ref 0), (2, .ref 159), (3, .int y)]) (st' := [.int ((y + ((Int32.ofInt 2)))), .retAddr 0, .int z3, .ref 0]) rfl ?_
  refine En_top (addI rfl (by decide : (Int32.ofInt 2).toInt = 2) (by omega) (by omega)) (fun z5 h6 => ?_)
  refine En_sld rfl rfl (by omega) (by omega) (fun z7 h8 => ?_)
  refine En_Ps 4 (pc' := 474) (lv' := [(0, .retAddr 0), (1, .ref 0), (2, .ref 159), (3, .int y)]) (st' := [.int ((y + ((Int32.ofInt 3)))), .retAddr 0, .int z7, .int z3, .ref 0]) rfl ?_
  refine En_top (addI rfl (by decide : (Int32.ofInt 3).toInt = 3) (by omega) (by omega)) (fun z9 h10 => ?_)
  refine En_sld rfl rfl (by omega) (by omega) (fun z11 h12 => ?_)
  refine En_callV rfl rfl rfl rfl rfl rfl rfl rfl (by decide +kernel : TG 0 = 0) (by decide +kernel) rfl (c_154 σ0 hσ0 z3 z7 z11 p hp h_p sg h_sg (by omega)) (by decide) (by decide) (fun v14 σ15 h13 => ?_)
  obtain ⟨h16, h17, z19, rfl, h18⟩ := h13
  have h20 := Fr_trans hF0 h17 (by decide +kernel)
  have h21 := INVc_fr h17 (by decide +kernel) hC
  have h22 := WI_fr h17 (by decide +kernel) (by decide +kernel) hI
  refine En_Ps 6 (pc' := 484) (lv' := [(0, .retAddr 0), (1, .ref 0), (2, .ref 159), (3, .int y)]) (st' := [.int ((y + ((Int32.ofInt 1)))), .retAddr 0, .ref 159]) rfl ?_
  refine En_top (addI rfl (by decide : (Int32.ofInt 1).toInt = 1) (by omega) (by omega)) (fun z23 h24 => ?_)
  refine En_sld rfl rfl (by omega) (by omega) (fun z25 h26 => ?_)
  have h27 : z25.toInt = z3.toInt := by rw [h26, h4, show z23.toInt = z1.toInt by omega]
  refine En_Ps 4 (pc' := 489) (lv' := [(0, .retAddr 0), (1, .ref 0), (2, .ref 159), (3, .int y)]) (st' := [.int ((y + ((Int32.ofInt 2)))), .retAddr 0, .int z25, .ref 159]) rfl ?_
  refine En_top (addI rfl (by decide : (Int32.ofInt 2).toInt = 2) (by omega) (by omega)) (fun z28 h29 => ?_)
  refine En_sld rfl rfl (by omega) (by omega) (fun z30 h31 => ?_)
  have h32 : z30.toInt = z7.toInt := by rw [h31, h8, show z28.toInt = z5.toInt by omega]
  refine En_Ps 4 (pc' := 494) (lv' := [(0, .retAddr 0), (1, .ref 0), (2, .ref 159), (3, .int y)]) (st' := [.int ((y + ((Int32.ofInt 3)))), .retAddr 0, .int z30, .int z25, .ref 159]) rfl ?_
  refine En_top (addI rfl (by decide : (Int32.ofInt 3).toInt = 3) (by omega) (by omega)) (fun z33 h34 => ?_)
  refine En_sld rfl rfl (by omega) (by omega) (fun z35 h36 => ?_)
  have h37 : z35.toInt = z11.toInt := by rw [h36, h12, show z33.toInt = z9.toInt by omega]
  refine En_callV rfl rfl rfl rfl rfl rfl rfl rfl (by decide +kernel : TG 159 = 35) (by decide +kernel) rfl (c_280 σ15 h16 z25 z30 z35) (by decide) (by decide) (fun v39 σ40 h38 => ?_)
  obtain ⟨h41, h42, z44, rfl, h43⟩ := h38
  have h45 := Fr_trans h20 h42 (by decide +kernel)
  have h46 := INVc_fr h42 (by decide +kernel) h21
  have h47 := WI_fr h42 (by decide +kernel) (by decide +kernel) h22
  refine En_Ps 2 (pc' := 2236) (lv' := [(0, .retAddr 0), (1, .ref 0), (2, .ref 159), (3, .int y)]) (st' := []) rfl ?_
  exact k _ h41 h46 h47
set_option maxRecDepth 10000 in
set_option maxHeartbeats 4000000 in
theorem law_c6 {L : Nat} {xs : Nat → Int32} {P : PO} (hL : L ≤ 3072) (y : Int32) (h0 : 0 ≤ y.toInt) (h1 : y.toInt + 6 ≤ (L : Int)) (σ0 : SG) (hσ0 : WT σ0) (hC : INVc σ0) (hI : WI σ0) (k : ∀ σ, WT σ → INVc σ → WI σ → En 2048 84000 (some (L, xs)) mr_336 P 2236 [(0, .retAddr 0), (1, .ref 0), (2, .ref 159), (3, .int y)] [] σ) : En 2048 84000 (some (L, xs)) mr_336 P 502 [(0, .retAddr 0), (1, .ref 0), (2, .ref 159), (3, .int y)] [] σ0 := by
  obtain ⟨p, p2, sg, hp, hp2, h_p, h_p2, hne, h_sg, hl_sg⟩ := id hC
  obtain ⟨-, hu_sg⟩ := WT_int hσ0 (g := 18) hp (by decide +kernel) (l := (-1)) (u := 4) (by decide +kernel) h_sg
  have hF0 : Fr [] σ0 σ0 := Fr_rfl
  refine En_Ps 5 (pc' := 507) (lv' := [(0, .retAddr 0), (1, .ref 0), (2, .ref 159), (3, .int y)]) (st' := [.int ((y + ((Int32.ofInt 1)))), .retAddr 0, .ref 0]) rfl ?_
  refine En_top (addI rfl (by decide : (Int32.ofInt 1).toInt = 1) (by omega) (by omega)) (fun z1 h2 => ?_)
  refine En_sld rfl rfl (by omega) (by omega) (fun z3 h4 => ?_)
  refine En_Ps 4 (pc' := 512) (lv' := [(0, .retAddr 0), (1, .ref 0), (2, .ref 159), (3, .int y)]) (st' := [.int ((y + ((Int32.ofInt 2)))), .retAddr 0, .int z3, .ref 0]) rfl ?_
  refine En_top (addI rfl (by decide : (Int32.ofInt 2).toInt = 2) (by omega) (by omega)) (fun z5 h6 => ?_)
  refine En_sld rfl rfl (by omega) (by omega) (fun z7 h8 => ?_)
  refine En_callV rfl rfl rfl rfl rfl rfl rfl rfl (by decide +kernel : TG 0 = 0) (by decide +kernel) rfl (c_120 σ0 hσ0 z3 z7 p hp h_p sg h_sg (by omega)) (by decide) (by decide) (fun v10 σ11 h9 => ?_)
  obtain ⟨h12, h13, z15, rfl, h14⟩ := h9
  have h16 := Fr_trans hF0 h13 (by decide +kernel)
  have h17 := INVc_fr h13 (by decide +kernel) hC
  have h18 := WI_fr h13 (by decide +kernel) (by decide +kernel) hI
  refine En_Ps 6 (pc' := 522) (lv' := [(0, .retAddr 0), (1, .ref 0), (2, .ref 159), (3, .int y)]) (st' := [.int ((y + ((Int32.ofInt 1)))), .retAddr 0, .ref 159]) rfl ?_
  refine En_top (addI rfl (by decide : (Int32.ofInt 1).toInt = 1) (by omega) (by omega)) (fun z19 h20 => ?_)
  refine En_sld rfl rfl (by omega) (by omega) (fun z21 h22 => ?_)
  have h23 : z21.toInt = z3.toInt := by rw [h22, h4, show z19.toInt = z1.toInt by omega]
  refine En_Ps 4 (pc' := 527) (lv' := [(0, .retAddr 0), (1, .ref 0), (2, .ref 159), (3, .int y)]) (st' := [.int ((y + ((Int32.ofInt 2)))), .retAddr 0, .int z21, .ref 159]) rfl ?_
  refine En_top (addI rfl (by decide : (Int32.ofInt 2).toInt = 2) (by omega) (by omega)) (fun z24 h25 => ?_)
  refine En_sld rfl rfl (by omega) (by omega) (fun z26 h27 => ?_)
  have h28 : z26.toInt = z7.toInt := by rw [h27, h8, show z24.toInt = z5.toInt by omega]
  refine En_callV rfl rfl rfl rfl rfl rfl rfl rfl (by decide +kernel : TG 159 = 35) (by decide +kernel) rfl (c_224 σ11 h12 z21 z26) (by decide) (by decide) (fun v30 σ31 h29 => ?_)
  obtain ⟨h32, h33, z35, rfl, h34⟩ := h29
  have h36 := Fr_trans h16 h33 (by decide +kernel)
  have h37 := INVc_fr h33 (by decide +kernel) h17
  have h38 := WI_fr h33 (by decide +kernel) (by decide +kernel) h18
  refine En_Ps 2 (pc' := 2236) (lv' := [(0, .retAddr 0), (1, .ref 0), (2, .ref 159), (3, .int y)]) (st' := []) rfl ?_
  exact k _ h32 h37 h38
set_option maxRecDepth 10000 in
set_option maxHeartbeats 4000000 in
theorem law_c7 {L : Nat} {xs : Nat → Int32} {P : PO} (hL : L ≤ 3072) (y : Int32) (h0 : 0 ≤ y.toInt) (h1 : y.toInt + 6 ≤ (L : Int)) (σ0 : SG) (hσ0 : WT σ0) (hC : INVc σ0) (hI : WI σ0) (k : ∀ σ, WT σ → INVc σ → WI σ → En 2048 84000 (some (L, xs)) mr_336 P 2236 [(0, .retAddr 0), (1, .ref 0), (2, .ref 159), (3, .int y)] [] σ) : En 2048 84000 (some (L, xs)) mr_336 P 535 [(0, .retAddr 0), (1, .ref 0), (2, .ref 159), (3, .int y)] [] σ0 := by
  obtain ⟨p, p2, sg, hp, hp2, h_p, h_p2, hne, h_sg, hl_sg⟩ := id hC
  obtain ⟨-, hu_sg⟩ := WT_int hσ0 (g := 18) hp (by decide +kernel) (l := (-1)) (u := 4) (by decide +kernel) h_sg
  have hF0 : Fr [] σ0 σ0 := Fr_rfl
  refine En_Ps 5 (pc' := 540) (lv' := [(0, .retAddr 0), (1, .ref 0), (2, .ref 159), (3, .int y)]) (st' := [.int ((y + ((Int32.ofInt 1)))), .retAddr 0, .ref 0]) rfl ?_
  refine En_top (addI rfl (by decide : (Int32.ofInt 1).toInt = 1) (by omega) (by omega)) (fun z1 h2 => ?_)
  refine En_sld rfl rfl (by omega) (by omega) (fun z3 h4 => ?_)
  refine En_Ps 4 (pc' := 545) (lv' := [(0, .retAddr 0), (1, .ref 0), (2, .ref 159), (3, .int y)]) (st' := [.int ((y + ((Int32.ofInt 2)))), .retAddr 0, .int z3, .ref 0]) rfl ?_
  refine En_top (addI rfl (by decide : (Int32.ofInt 2).toInt = 2) (by omega) (by omega)) (fun z5 h6 => ?_)
  refine En_sld rfl rfl (by omega) (by omega) (fun z7 h8 => ?_)
  refine En_callV rfl rfl rfl rfl rfl rfl rfl rfl (by decide +kernel : TG 0 = 0) (by decide +kernel) rfl (c_138 σ0 hσ0 z3 z7 p hp h_p sg h_sg (by omega)) (by decide) (by decide) (fun v10 σ11 h9 => ?_)
  obtain ⟨h12, h13, z15, rfl, h14⟩ := h9
  have h16 := Fr_trans hF0 h13 (by decide +kernel)
  have h17 := INVc_fr h13 (by decide +kernel) hC
  have h18 := WI_fr h13 (by decide +kernel) (by decide +kernel) hI
  refine En_Ps 6 (pc' := 555) (lv' := [(0, .retAddr 0), (1, .ref 0), (2, .ref 159), (3, .int y)]) (st' := [.int ((y + ((Int32.ofInt 1)))), .retAddr 0, .ref 159]) rfl ?_
  refine En_top (addI rfl (by decide : (Int32.ofInt 1).toInt = 1) (by omega) (by omega)) (fun z19 h20 => ?_)
  refine En_sld rfl rfl (by omega) (by omega) (fun z21 h22 => ?_)
  have h23 : z21.toInt = z3.toInt := by rw [h22, h4, show z19.toInt = z1.toInt by omega]
  refine En_Ps 4 (pc' := 560) (lv' := [(0, .retAddr 0), (1, .ref 0), (2, .ref 159), (3, .int y)]) (st' := [.int ((y + ((Int32.ofInt 2)))), .retAddr 0, .int z21, .ref 159]) rfl ?_
  refine En_top (addI rfl (by decide : (Int32.ofInt 2).toInt = 2) (by omega) (by omega)) (fun z24 h25 => ?_)
  refine En_sld rfl rfl (by omega) (by omega) (fun z26 h27 => ?_)
  have h28 : z26.toInt = z7.toInt := by rw [h27, h8, show z24.toInt = z5.toInt by omega]
  refine En_callV rfl rfl rfl rfl rfl rfl rfl rfl (by decide +kernel : TG 159 = 35) (by decide +kernel) rfl (c_245 σ11 h12 z21 z26) (by decide) (by decide) (fun v30 σ31 h29 => ?_)
  obtain ⟨h32, h33, z35, rfl, h34⟩ := h29
  have h36 := Fr_trans h16 h33 (by decide +kernel)
  have h37 := INVc_fr h33 (by decide +kernel) h17
  have h38 := WI_fr h33 (by decide +kernel) (by decide +kernel) h18
  refine En_Ps 2 (pc' := 2236) (lv' := [(0, .retAddr 0), (1, .ref 0), (2, .ref 159), (3, .int y)]) (st' := []) rfl ?_
  exact k _ h32 h37 h38
set_option maxRecDepth 10000 in
set_option maxHeartbeats 4000000 in
theorem law_c8 {L : Nat} {xs : Nat → Int32} {P : PO} (hL : L ≤ 3072) (y : Int32) (h0 : 0 ≤ y.toInt) (h1 : y.toInt + 6 ≤ (L : Int)) (σ0 : SG) (hσ0 : WT σ0) (hC : INVc σ0) (hI : WI σ0) (k : ∀ σ, WT σ → INVc σ → WI σ → En 2048 84000 (some (L, xs)) mr_336 P 2236 [(0, .retAddr 0), (1, .ref 0), (2, .ref 159), (3, .int y)] [] σ) : En 2048 84000 (some (L, xs)) mr_336 P 568 [(0, .retAddr 0), (1, .ref 0), (2, .ref 159), (3, .int y)] [] σ0 := by
  obtain ⟨p, p2, sg, hp, hp2, h_p, h_p2, hne, h_sg, hl_sg⟩ := id hC
  obtain ⟨-, hu_sg⟩ := WT_int hσ0 (g := 18) hp (by decide +kernel) (l := (-1)) (u := 4) (by decide +kernel) h_sg
  have hF0 : Fr [(35, 18), (35, 21), (42, 0), (43, 0), (44, 0), (45, 0), (46, 0)] σ0 σ0 := Fr_rfl
  refine En_Ps 5 (pc' := 573) (lv' := [(0, .retAddr 0), (1, .ref 0), (2, .ref 159), (3, .int y)]) (st' := [.int ((y + ((Int32.ofInt 1)))), .retAddr 0, .ref 0]) rfl ?_
  refine En_top (addI rfl (by decide : (Int32.ofInt 1).toInt = 1) (by omega) (by omega)) (fun z1 h2 => ?_)
  refine En_sld rfl rfl (by omega) (by omega) (fun z3 h4 => ?_)
  refine En_Ps 4 (pc' := 578) (lv' := [(0, .retAddr 0), (1, .ref 0), (2, .ref 159), (3, .int y)]) (st' := [.int ((y + ((Int32.ofInt 2)))), .retAddr 0, .int z3, .ref 0]) rfl ?_
  refine En_top (addI rfl (by decide : (Int32.ofInt 2).toInt = 2) (by omega) (by omega)) (fun z5 h6 => ?_)
  refine En_sld rfl rfl (by omega) (by omega) (fun z7 h8 => ?_)
  refine En_callV rfl rfl rfl rfl rfl rfl rfl rfl (by decide +kernel : TG 0 = 0) (by decide +kernel) rfl (c_159 σ0 hσ0 z3 z7 p hp h_p sg h_sg (by omega)) (by decide) (by decide) (fun v10 σ11 h9 => ?_)
  obtain ⟨h12, h13, z15, rfl, h14⟩ := h9
  have h16 := Fr_trans hF0 h13 (by decide +kernel)
  have h17 := INVc_fr h13 (by decide +kernel) hC
  have h18 := WI_fr h13 (by decide +kernel) (by decide +kernel) hI
  refine En_Ps 6 (pc' := 588) (lv' := [(0, .retAddr 0), (1, .ref 0), (2, .ref 159), (3, .int y)]) (st' := [.int ((y + ((Int32.ofInt 1)))), .retAddr 0, .ref 159]) rfl ?_
  refine En_top (addI rfl (by decide : (Int32.ofInt 1).toInt = 1) (by omega) (by omega)) (fun z19 h20 => ?_)
  refine En_sld rfl rfl (by omega) (by omega) (fun z21 h22 => ?_)
  have h23 : z21.toInt = z3.toInt := by rw [h22, h4, show z19.toInt = z1.toInt by omega]
  refine En_Ps 4 (pc' := 593) (lv' := [(0, .retAddr 0), (1, .ref 0), (2, .ref 159), (3, .int y)]) (st' := [.int ((y + ((Int32.ofInt 2)))), .retAddr 0, .int z21, .ref 159]) rfl ?_
  refine En_top (addI rfl (by decide : (Int32.ofInt 2).toInt = 2) (by omega) (by omega)) (fun z24 h25 => ?_)
  refine En_sld rfl rfl (by omega) (by omega) (fun z26 h27 => ?_)
  have h28 : z26.toInt = z7.toInt := by rw [h27, h8, show z24.toInt = z5.toInt by omega]
  refine En_callV rfl rfl rfl rfl rfl rfl rfl rfl (by decide +kernel : TG 159 = 35) (by decide +kernel) rfl (c_292 σ11 h12 z21 z26) (by decide) (by decide) (fun v30 σ31 h29 => ?_)
  obtain ⟨h32, h33, z35, rfl, h34⟩ := h29
  have h36 := Fr_trans h16 h33 (by decide +kernel)
  have h37 := INVc_fr h33 (by decide +kernel) h17
  have h38 := WI_fr h33 (by decide +kernel) (by decide +kernel) h18
  refine En_Ps 2 (pc' := 2236) (lv' := [(0, .retAddr 0), (1, .ref 0), (2, .ref 159), (3, .int y)]) (st' := []) rfl ?_
  exact k _ h32 h37 h38
set_option maxRecDepth 10000 in
set_option maxHeartbeats 4000000 in
theorem law_c9 {L : Nat} {xs : Nat → Int32} {P : PO} (hL : L ≤ 3072) (y : Int32) (h0 : 0 ≤ y.toInt) (h1 : y.toInt + 6 ≤ (L : Int)) (σ0 : SG) (hσ0 : WT σ0) (hC : INVc σ0) (hI : WI σ0) (k : ∀ σ, WT σ → INVc σ → WI σ → En 2048 84000 (some (L, xs)) mr_336 P 2236 [(0, .retAddr 0), (1, .ref 0), (2, .ref 159), (3, .int y)] [] σ) : En 2048 84000 (some (L, xs)) mr_336 P 601 [(0, .retAddr 0), (1, .ref 0), (2, .ref 159), (3, .int y)] [] σ0 := by
  obtain ⟨p, p2, sg, hp, hp2, h_p, h_p2, hne, h_sg, hl_sg⟩ := id hC
  obtain ⟨-, hu_sg⟩ := WT_int hσ0 (g := 18) hp (by decide +kernel) (l := (-1)) (u := 4) (by decide +kernel) h_sg
  have hF0 : Fr [(35, 18), (35, 21), (42, 0), (43, 0), (44, 0), (45, 0), (46, 0)] σ0 σ0 := Fr_rfl
  refine En_Ps 5 (pc' := 606) (lv' := [(0, .retAddr 0), (1, .ref 0), (2, .ref 159), (3, .int y)]) (st' := [.int ((y + ((Int32.ofInt 1)))), .retAddr 0, .ref 0]) rfl ?_
  refine En_top (addI rfl (by decide : (Int32.ofInt 1).toInt = 1) (by omega) (by omega)) (fun z1 h2 => ?_)
  refine En_sld rfl rfl (by omega) (by omega) (fun z3 h4 => ?_)
  refine En_callV rfl rfl rfl rfl rfl rfl rfl rfl (by decide +kernel : TG 0 = 0) (by decide +kernel) rfl (c_112 σ0 hσ0 z3 p hp h_p sg h_sg (by omega)) (by decide) (by decide) (fun v6 σ7 h5 => ?_)
  obtain ⟨h8, h9, z11, rfl, h10⟩ := h5
  have h12 := Fr_trans hF0 h9 (by decide +kernel)
  have h13 := INVc_fr h9 (by decide +kernel) hC
  have h14 := WI_fr h9 (by decide +kernel) (by decide +kernel) hI
  refine En_Ps 6 (pc' := 616) (lv' := [(0, .retAddr 0), (1, .ref 0), (2, .ref 159), (3, .int y)]) (st' := [.int ((y + ((Int32.ofInt 1)))), .retAddr 0, .ref 159]) rfl ?_
  refine En_top (addI rfl (by decide : (Int32.ofInt 1).toInt = 1) (by omega) (by omega)) (fun z15 h16 => ?_)
  refine En_sld rfl rfl (by omega) (by omega) (fun z17 h18 => ?_)
  have h19 : z17.toInt = z3.toInt := by rw [h18, h4, show z15.toInt = z1.toInt by omega]
  refine En_callV rfl rfl rfl rfl rfl rfl rfl rfl (by decide +kernel : TG 159 = 35) (by decide +kernel) rfl (c_210 σ7 h8 z17) (by decide) (by decide) (fun v21 σ22 h20 => ?_)
  obtain ⟨h23, h24, z26, rfl, h25⟩ := h20
  have h27 := Fr_trans h12 h24 (by decide +kernel)
  have h28 := INVc_fr h24 (by decide +kernel) h13
  have h29 := WI_fr h24 (by decide +kernel) (by decide +kernel) h14
  refine En_Ps 2 (pc' := 2236) (lv' := [(0, .retAddr 0), (1, .ref 0), (2, .ref 159), (3, .int y)]) (st' := []) rfl ?_
  exact k _ h23 h28 h29
set_option maxRecDepth 10000 in
set_option maxHeartbeats 4000000 in
theorem law_c10 {L : Nat} {xs : Nat → Int32} {P : PO} (hL : L ≤ 3072) (y : Int32) (h0 : 0 ≤ y.toInt) (h1 : y.toInt + 6 ≤ (L : Int)) (σ0 : SG) (hσ0 : WT σ0) (hC : INVc σ0) (hI : WI σ0) (k : ∀ σ, WT σ → INVc σ → WI σ → En 2048 84000 (some (L, xs)) mr_336 P 2236 [(0, .retAddr 0), (1, .ref 0), (2, .ref 159), (3, .int y)] [] σ) : En 2048 84000 (some (L, xs)) mr_336 P 624 [(0, .retAddr 0), (1, .ref 0), (2, .ref 159), (3, .int y)] [] σ0 := by
  obtain ⟨p, p2, sg, hp, hp2, h_p, h_p2, hne, h_sg, hl_sg⟩ := id hC
  obtain ⟨-, hu_sg⟩ := WT_int hσ0 (g := 18) hp (by decide +kernel) (l := (-1)) (u := 4) (by decide +kernel) h_sg
  have hF0 : Fr [(35, 18), (35, 21), (42, 0), (43, 0), (44, 0), (45, 0), (46, 0)] σ0 σ0 := Fr_rfl
  refine En_Ps 5 (pc' := 629) (lv' := [(0, .retAddr 0), (1, .ref 0), (2, .ref 159), (3, .int y)]) (st' := [.int ((y + ((Int32.ofInt 1)))), .retAddr 0, .ref 0]) rfl ?_
  refine En_top (addI rfl (by decide : (Int32.ofInt 1).toInt = 1) (by omega) (by omega)) (fun z1 h2 => ?_)
  refine En_sld rfl rfl (by omega) (by omega) (fun z3 h4 => ?_)
  refine En_callV rfl rfl rfl rfl rfl rfl rfl rfl (by decide +kernel : TG 0 = 0) (by decide +kernel) rfl (c_158 σ0 hσ0 z3 p hp h_p sg h_sg (by omega)) (by decide) (by decide) (fun v6 σ7 h5 => ?_)
  obtain ⟨h8, h9, z11, rfl, h10⟩ := h5
  have h12 := Fr_trans hF0 h9 (by decide +kernel)
  have h13 := INVc_fr h9 (by decide +kernel) hC
  have h14 := WI_fr h9 (by decide +kernel) (by decide +kernel) hI
  refine En_Ps 6 (pc' := 639) (lv' := [(0, .retAddr 0), (1, .ref 0), (2, .ref 159), (3, .int y)]) (st' := [.int ((y + ((Int32.ofInt 1)))), .retAddr 0, .ref 159]) rfl ?_
  refine En_top (addI rfl (by decide : (Int32.ofInt 1).toInt = 1) (by omega) (by omega)) (fun z15 h16 => ?_)
  refine En_sld rfl rfl (by omega) (by omega) (fun z17 h18 => ?_)
  have h19 : z17.toInt = z3.toInt := by rw [h18, h4, show z15.toInt = z1.toInt by omega]
  refine En_callV rfl rfl rfl rfl rfl rfl rfl rfl (by decide +kernel : TG 159 = 35) (by decide +kernel) rfl (c_291 σ7 h8 z17) (by decide) (by decide) (fun v21 σ22 h20 => ?_)
  obtain ⟨h23, h24, z26, rfl, h25⟩ := h20
  have h27 := Fr_trans h12 h24 (by decide +kernel)
  have h28 := INVc_fr h24 (by decide +kernel) h13
  have h29 := WI_fr h24 (by decide +kernel) (by decide +kernel) h14
  refine En_Ps 2 (pc' := 2236) (lv' := [(0, .retAddr 0), (1, .ref 0), (2, .ref 159), (3, .int y)]) (st' := []) rfl ?_
  exact k _ h23 h28 h29
set_option maxRecDepth 10000 in
set_option maxHeartbeats 4000000 in
theorem law_c11 {L : Nat} {xs : Nat → Int32} {P : PO} (hL : L ≤ 3072) (y : Int32) (h0 : 0 ≤ y.toInt) (h1 : y.toInt + 6 ≤ (L : Int)) (σ0 : SG) (hσ0 : WT σ0) (hC : INVc σ0) (hI : WI σ0) (k : ∀ σ, WT σ → INVc σ → WI σ → En 2048 84000 (some (L, xs)) mr_336 P 2236 [(0, .retAddr 0), (1, .ref 0), (2, .ref 159), (3, .int y)] [] σ) : En 2048 84000 (some (L, xs)) mr_336 P 647 [(0, .retAddr 0), (1, .ref 0), (2, .ref 159), (3, .int y)] [] σ0 := by
  obtain ⟨p, p2, sg, hp, hp2, h_p, h_p2, hne, h_sg, hl_sg⟩ := id hC
  obtain ⟨-, hu_sg⟩ := WT_int hσ0 (g := 18) hp (by decide +kernel) (l := (-1)) (u := 4) (by decide +kernel) h_sg
  have hF0 : Fr [(35, 21), (45, 0), (46, 0)] σ0 σ0 := Fr_rfl
  refine En_Ps 5 (pc' := 652) (lv' := [(0, .retAddr 0), (1, .ref 0), (2, .ref 159), (3, .int y)]) (st' := [.int ((y + ((Int32.ofInt 1)))), .retAddr 0, .ref 0]) rfl ?_
  refine En_top (addI rfl (by decide : (Int32.ofInt 1).toInt = 1) (by omega) (by omega)) (fun z1 h2 => ?_)
  refine En_sld rfl rfl (by omega) (by omega) (fun z3 h4 => ?_)
  refine En_Ps 4 (pc' := 657) (lv' := [(0, .retAddr 0), (1, .ref 0), (2, .ref 159), (3, .int y)]) (st' := [.int ((y + ((Int32.ofInt 2)))), .retAddr 0, .int z3, .ref 0]) rfl ?_
  refine En_top (addI rfl (by decide : (Int32.ofInt 2).toInt = 2) (by omega) (by omega)) (fun z5 h6 => ?_)
  refine En_sld rfl rfl (by omega) (by omega) (fun z7 h8 => ?_)
  refine En_callV rfl rfl rfl rfl rfl rfl rfl rfl (by decide +kernel : TG 0 = 0) (by decide +kernel) rfl (c_183 σ0 hσ0 z3 z7 p hp h_p sg h_sg (by omega)) (by decide) (by decide) (fun v10 σ11 h9 => ?_)
  obtain ⟨h12, h13, z15, rfl, h14⟩ := h9
  have h16 := Fr_trans hF0 h13 (by decide +kernel)
  have h17 := INVc_fr h13 (by decide +kernel) hC
  have h18 := WI_fr h13 (by decide +kernel) (by decide +kernel) hI
  refine En_Ps 6 (pc' := 667) (lv' := [(0, .retAddr 0), (1, .ref 0), (2, .ref 159), (3, .int y)]) (st' := [.int ((y + ((Int32.ofInt 1)))), .retAddr 0, .ref 159]) rfl ?_
  refine En_top (addI rfl (by decide : (Int32.ofInt 1).toInt = 1) (by omega) (by omega)) (fun z19 h20 => ?_)
  refine En_sld rfl rfl (by omega) (by omega) (fun z21 h22 => ?_)
  have h23 : z21.toInt = z3.toInt := by rw [h22, h4, show z19.toInt = z1.toInt by omega]
  refine En_Ps 4 (pc' := 672) (lv' := [(0, .retAddr 0), (1, .ref 0), (2, .ref 159), (3, .int y)]) (st' := [.int ((y + ((Int32.ofInt 2)))), .retAddr 0, .int z21, .ref 159]) rfl ?_
  refine En_top (addI rfl (by decide : (Int32.ofInt 2).toInt = 2) (by omega) (by omega)) (fun z24 h25 => ?_)
  refine En_sld rfl rfl (by omega) (by omega) (fun z26 h27 => ?_)
  have h28 : z26.toInt = z7.toInt := by rw [h27, h8, show z24.toInt = z5.toInt by omega]
  refine En_callV rfl rfl rfl rfl rfl rfl rfl rfl (by decide +kernel : TG 159 = 35) (by decide +kernel) rfl (c_331 σ11 h12 z21 z26) (by decide) (by decide) (fun v30 σ31 h29 => ?_)
  obtain ⟨h32, h33, z35, rfl, h34⟩ := h29
  have h36 := Fr_trans h16 h33 (by decide +kernel)
  have h37 := INVc_fr h33 (by decide +kernel) h17
  have h38 := WI_fr h33 (by decide +kernel) (by decide +kernel) h18
  refine En_Ps 2 (pc' := 2236) (lv' := [(0, .retAddr 0), (1, .ref 0), (2, .ref 159), (3, .int y)]) (st' := []) rfl ?_
  exact k _ h32 h37 h38
set_option maxRecDepth 10000 in
set_option maxHeartbeats 4000000 in
theorem law_c12 {L : Nat} {xs : Nat → Int32} {P : PO} (hL : L ≤ 3072) (y : Int32) (h0 : 0 ≤ y.toInt) (h1 : y.toInt + 6 ≤ (L : Int)) (σ0 : SG) (hσ0 : WT σ0) (hC : INVc σ0) (hI : WI σ0) (k : ∀ σ, WT σ → INVc σ → WI σ → En 2048 84000 (some (L, xs)) mr_336 P 2236 [(0, .retAddr 0), (1, .ref 0), (2, .ref 159), (3, .int y)] [] σ) : En 2048 84000 (some (L, xs)) mr_336 P 680 [(0, .retAddr 0), (1, .ref 0), (2, .ref 159), (3, .int y)] [] σ0 := by
  obtain ⟨p, p2, sg, hp, hp2, h_p, h_p2, hne, h_sg, hl_sg⟩ := id hC
  obtain ⟨-, hu_sg⟩ := WT_int hσ0 (g := 18) hp (by decide +kernel) (l := (-1)) (u := 4) (by decide +kernel) h_sg
  have hF0 : Fr [(35, 18), (35, 21), (42, 0), (43, 0), (44, 0), (45, 0), (46, 0)] σ0 σ0 := Fr_rfl
  refine En_Ps 5 (pc' := 685) (lv' := [(0, .retAddr 0), (1, .ref 0), (2, .ref 159), (3, .int y)]) (st' := [.int ((y + ((Int32.ofInt 1)))), .retAddr 0, .ref 0]) rfl ?_
  refine En_top (addI rfl (by decide : (Int32.ofInt 1).toInt = 1) (by omega) (by omega)) (fun z1 h2 => ?_)
  refine En_sld rfl rfl (by omega) (by omega) (fun z3 h4 => ?_)
  refine En_Ps 4 (pc' := 690) (lv' := [(0, .retAddr 0), (1, .ref 0), (2, .ref 159), (3, .int y)]) (st' := [.int ((y + ((Int32.ofInt 2)))), .retAddr 0, .int z3, .ref 0]) rfl ?_
  refine En_top (addI rfl (by decide : (Int32.ofInt 2).toInt = 2) (by omega) (by omega)) (fun z5 h6 => ?_)
  refine En_sld rfl rfl (by omega) (by omega) (fun z7 h8 => ?_)
  refine En_callV rfl rfl rfl rfl rfl rfl rfl rfl (by decide +kernel : TG 0 = 0) (by decide +kernel) rfl (c_166 σ0 hσ0 z3 z7 p hp h_p sg h_sg (by omega)) (by decide) (by decide) (fun v10 σ11 h9 => ?_)
  obtain ⟨h12, h13, z15, rfl, h14⟩ := h9
  have h16 := Fr_trans hF0 h13 (by decide +kernel)
  have h17 := INVc_fr h13 (by decide +kernel) hC
  have h18 := WI_fr h13 (by decide +kernel) (by decide +kernel) hI
  refine En_Ps 6 (pc' := 700) (lv' := [(0, .retAddr 0), (1, .ref 0), (2, .ref 159), (3, .int y)]) (st' := [.int ((y + ((Int32.ofInt 1)))), .retAddr 0, .ref 159]) rfl ?_
  refine En_top (addI rfl (by decide : (Int32.ofInt 1).toInt = 1) (by omega) (by omega)) (fun z19 h20 => ?_)
  refine En_sld rfl rfl (by omega) (by omega) (fun z21 h22 => ?_)
  have h23 : z21.toInt = z3.toInt := by rw [h22, h4, show z19.toInt = z1.toInt by omega]
  refine En_Ps 4 (pc' := 705) (lv' := [(0, .retAddr 0), (1, .ref 0), (2, .ref 159), (3, .int y)]) (st' := [.int ((y + ((Int32.ofInt 2)))), .retAddr 0, .int z21, .ref 159]) rfl ?_
  refine En_top (addI rfl (by decide : (Int32.ofInt 2).toInt = 2) (by omega) (by omega)) (fun z24 h25 => ?_)
  refine En_sld rfl rfl (by omega) (by omega) (fun z26 h27 => ?_)
  have h28 : z26.toInt = z7.toInt := by rw [h27, h8, show z24.toInt = z5.toInt by omega]
  refine En_callV rfl rfl rfl rfl rfl rfl rfl rfl (by decide +kernel : TG 159 = 35) (by decide +kernel) rfl (c_309 σ11 h12 z21 z26) (by decide) (by decide) (fun v30 σ31 h29 => ?_)
  obtain ⟨h32, h33, z35, rfl, h34⟩ := h29
  have h36 := Fr_trans h16 h33 (by decide +kernel)
  have h37 := INVc_fr h33 (by decide +kernel) h17
  have h38 := WI_fr h33 (by decide +kernel) (by decide +kernel) h18
  refine En_Ps 2 (pc' := 2236) (lv' := [(0, .retAddr 0), (1, .ref 0), (2, .ref 159), (3, .int y)]) (st' := []) rfl ?_
  exact k _ h32 h37 h38
set_option maxRecDepth 10000 in
set_option maxHeartbeats 4000000 in
theorem law_c13 {L : Nat} {xs : Nat → Int32} {P : PO} (hL : L ≤ 3072) (y : Int32) (h0 : 0 ≤ y.toInt) (h1 : y.toInt + 6 ≤ (L : Int)) (σ0 : SG) (hσ0 : WT σ0) (hC : INVc σ0) (hI : WI σ0) (k : ∀ σ, WT σ → INVc σ → WI σ → En 2048 84000 (some (L, xs)) mr_336 P 2236 [(0, .retAddr 0), (1, .ref 0), (2, .ref 159), (3, .int y)] [] σ) : En 2048 84000 (some (L, xs)) mr_336 P 713 [(0, .retAddr 0), (1, .ref 0), (2, .ref 159), (3, .int y)] [] σ0 := by
  obtain ⟨p, p2, sg, hp, hp2, h_p, h_p2, hne, h_sg, hl_sg⟩ := id hC
  obtain ⟨-, hu_sg⟩ := WT_int hσ0 (g := 18) hp (by decide +kernel) (l := (-1)) (u := 4) (by decide +kernel) h_sg
  have hF0 : Fr [(35, 18), (35, 21), (42, 0), (43, 0), (44, 0), (45, 0), (46, 0)] σ0 σ0 := Fr_rfl
  refine En_Ps 5 (pc' := 718) (lv' := [(0, .retAddr 0), (1, .ref 0), (2, .ref 159), (3, .int y)]) (st' := [.int ((y + ((Int32.ofInt 1)))), .retAddr 0, .ref 0]) rfl ?_
  refine En_top (addI rfl (by decide : (Int32.ofInt 1).toInt = 1) (by omega) (by omega)) (fun z1 h2 => ?_)
  refine En_sld rfl rfl (by omega) (by omega) (fun z3 h4 => ?_)
  refine En_callV rfl rfl rfl rfl rfl rfl rfl rfl (by decide +kernel : TG 0 = 0) (by decide +kernel) rfl (c_167 σ0 hσ0 z3 p hp h_p sg h_sg (by omega)) (by decide) (by decide) (fun v6 σ7 h5 => ?_)
  obtain ⟨h8, h9, z11, rfl, h10⟩ := h5
  have h12 := Fr_trans hF0 h9 (by decide +kernel)
  have h13 := INVc_fr h9 (by decide +kernel) hC
  have h14 := WI_fr h9 (by decide +kernel) (by decide +kernel) hI
  refine En_Ps 6 (pc' := 728) (lv' := [(0, .retAddr 0), (1, .ref 0), (2, .ref 159), (3, .int y)]) (st' := [.int ((y + ((Int32.ofInt 1)))), .retAddr 0, .ref 159]) rfl ?_
  refine En_top (addI rfl (by decide : (Int32.ofInt 1).toInt = 1) (by omega) (by omega)) (fun z15 h16 => ?_)
  refine En_sld rfl rfl (by omega) (by omega) (fun z17 h18 => ?_)
  have h19 : z17.toInt = z3.toInt := by rw [h18, h4, show z15.toInt = z1.toInt by omega]
  refine En_callV rfl rfl rfl rfl rfl rfl rfl rfl (by decide +kernel : TG 159 = 35) (by decide +kernel) rfl (c_310 σ7 h8 z17) (by decide) (by decide) (fun v21 σ22 h20 => ?_)
  obtain ⟨h23, h24, z26, rfl, h25⟩ := h20
  have h27 := Fr_trans h12 h24 (by decide +kernel)
  have h28 := INVc_fr h24 (by decide +kernel) h13
  have h29 := WI_fr h24 (by decide +kernel) (by decide +kernel) h14
  refine En_Ps 2 (pc' := 2236) (lv' := [(0, .retAddr 0), (1, .ref 0), (2, .ref 159), (3, .int y)]) (st' := []) rfl ?_
  exact k _ h23 h28 h29
set_option maxRecDepth 10000 in
set_option maxHeartbeats 4000000 in
theorem law_c14 {L : Nat} {xs : Nat → Int32} {P : PO} (hL : L ≤ 3072) (y : Int32) (h0 : 0 ≤ y.toInt) (h1 : y.toInt + 6 ≤ (L : Int)) (σ0 : SG) (hσ0 : WT σ0) (hC : INVc σ0) (hI : WI σ0) (k : ∀ σ, WT σ → INVc σ → WI σ → En 2048 84000 (some (L, xs)) mr_336 P 2236 [(0, .retAddr 0), (1, .ref 0), (2, .ref 159), (3, .int y)] [] σ) : En 2048 84000 (some (L, xs)) mr_336 P 736 [(0, .retAddr 0), (1, .ref 0), (2, .ref 159), (3, .int y)] [] σ0 := by
  obtain ⟨p, p2, sg, hp, hp2, h_p, h_p2, hne, h_sg, hl_sg⟩ := id hC
  obtain ⟨-, hu_sg⟩ := WT_int hσ0 (g := 18) hp (by decide +kernel) (l := (-1)) (u := 4) (by decide +kernel) h_sg
  have hF0 : Fr [] σ0 σ0 := Fr_rfl
  refine En_Ps 5 (pc' := 741) (lv' := [(0, .retAddr 0), (1, .ref 0), (2, .ref 159), (3, .int y)]) (st' := [.int ((y + ((Int32.ofInt 1)))), .retAddr 0, .ref 0]) rfl ?_
  refine En_top (addI rfl (by decide : (Int32.ofInt 1).toInt = 1) (by omega) (by omega)) (fun z1 h2 => ?_)
  refine En_sld rfl rfl (by omega) (by omega) (fun z3 h4 => ?_)
  refine En_Ps 4 (pc' := 746) (lv' := [(0, .retAddr 0), (1, .ref 0), (2, .ref 159), (3, .int y)]) (st' := [.int ((y + ((Int32.ofInt 2)))), .retAddr 0, .int z3, .ref 0]) rfl ?_
  refine En_top (addI rfl (by decide : (Int32.ofInt 2).toInt = 2) (by omega) (by omega)) (fun z5 h6 => ?_)
  refine En_sld rfl rfl (by omega) (by omega) (fun z7 h8 => ?_)
  refine En_callV rfl rfl rfl rfl rfl rfl rfl rfl (by decide +kernel : TG 0 = 0) (by decide +kernel) rfl (c_113 σ0 hσ0 z3 z7 p hp h_p sg h_sg (by omega)) (by decide) (by decide) (fun v10 σ11 h9 => ?_)
  obtain ⟨h12, h13, z15, rfl, h14⟩ := h9
  have h16 := Fr_trans hF0 h13 (by decide +kernel)
  have h17 := INVc_fr h13 (by decide +kernel) hC
  have h18 := WI_fr h13 (by decide +kernel) (by decide +kernel) hI
  refine En_Ps 6 (pc' := 756) (lv' := [(0, .retAddr 0), (1, .ref 0), (2, .ref 159), (3, .int y)]) (st' := [.int ((y + ((Int32.ofInt 1)))), .retAddr 0, .ref 159]) rfl ?_
  refine En_top (addI rfl (by decide : (Int32.ofInt 1).toInt = 1) (by omega) (by omega)) (fun z19 h20 => ?_)
  refine En_sld rfl rfl (by omega) (by omega) (fun z21 h22 => ?_)
  have h23 : z21.toInt = z3.toInt := by rw [h22, h4, show z19.toInt = z1.toInt by omega]
  refine En_Ps 4 (pc' := 761) (lv' := [(0, .retAddr 0), (1, .ref 0), (2, .ref 159), (3, .int y)]) (st' := [.int ((y + ((Int32.ofInt 2)))), .retAddr 0, .int z21, .ref 159]) rfl ?_
  refine En_top (addI rfl (by decide : (Int32.ofInt 2).toInt = 2) (by omega) (by omega)) (fun z24 h25 => ?_)
  refine En_sld rfl rfl (by omega) (by omega) (fun z26 h27 => ?_)
  have h28 : z26.toInt = z7.toInt := by rw [h27, h8, show z24.toInt = z5.toInt by omega]
  refine En_callV rfl rfl rfl rfl rfl rfl rfl rfl (by decide +kernel : TG 159 = 35) (by decide +kernel) rfl (c_216 σ11 h12 z21 z26) (by decide) (by decide) (fun v30 σ31 h29 => ?_)
  obtain ⟨h32, h33, z35, rfl, h34⟩ := h29
  have h36 := Fr_trans h16 h33 (by decide +kernel)
  have h37 := INVc_fr h33 (by decide +kernel) h17
  have h38 := WI_fr h33 (by decide +kernel) (by decide +kernel) h18
  refine En_Ps 2 (pc' := 2236) (lv' := [(0, .retAddr 0), (1, .ref 0), (2, .ref 159), (3, .int y)]) (st' := []) rfl ?_
  exact k _ h32 h37 h38
set_option maxRecDepth 10000 in
set_option maxHeartbeats 4000000 in
theorem law_c15 {L : Nat} {xs : Nat → Int32} {P : PO} (hL : L ≤ 3072) (y : Int32) (h0 : 0 ≤ y.toInt) (h1 : y.toInt + 6 ≤ (L : Int)) (σ0 : SG) (hσ0 : WT σ0) (hC : INVc σ0) (hI : WI σ0) (k : ∀ σ, WT σ → INVc σ → WI σ → En 2048 84000 (some (L, xs)) mr_336 P 2236 [(0, .retAddr 0), (1, .ref 0), (2, .ref 159), (3, .int y)] [] σ) : En 2048 84000 (some (L, xs)) mr_336 P 769 [(0, .retAddr 0), (1, .ref 0), (2, .ref 159), (3, .int y)] [] σ0 := by
  obtain ⟨p, p2, sg, hp, hp2, h_p, h_p2, hne, h_sg, hl_sg⟩ := id hC
  obtain ⟨-, hu_sg⟩ := WT_int hσ0 (g := 18) hp (by decide +kernel) (l := (-1)) (u := 4) (by decide +kernel) h_sg
  have hF0 : Fr [(35, 18), (42, 0), (43, 0), (44, 0)] σ0 σ0 := Fr_rfl
  refine En_Ps 5 (pc' := 774) (lv' := [(0, .retAddr 0), (1, .ref 0), (2, .ref 159), (3, .int y)]) (st' := [.int ((y + ((Int32.ofInt 1)))), .retAddr 0, .ref 0]) rfl ?_
  refine En_top (addI rfl (by decide : (Int32.ofInt 1).toInt = 1) (by omega) (by omega)) (fun z1 h2 => ?_)
  refine En_sld rfl rfl (by omega) (by omega) (fun z3 h4 => ?_)
  refine En_Ps 4 (pc' := 779) (lv' := [(0, .retAddr 0), (1, .ref 0), (2, .ref 159), (3, .int y)]) (st' := [.int ((y + ((Int32.ofInt 2)))), .retAddr 0, .int z3, .ref 0]) rfl ?_
  refine En_top (addI rfl (by decide : (Int32.ofInt 2).toInt = 2) (by omega) (by omega)) (fun z5 h6 => ?_)
  refine En_sld rfl rfl (by omega) (by omega) (fun z7 h8 => ?_)
  refine En_callV rfl rfl rfl rfl rfl rfl rfl rfl (by decide +kernel : TG 0 = 0) (by decide +kernel) rfl (c_176 σ0 hσ0 z3 z7 p hp h_p sg h_sg (by omega)) (by decide) (by decide) (fun v10 σ11 h9 => ?_)
  obtain ⟨h12, h13, z15, rfl, h14⟩ := h9
  have h16 := Fr_trans hF0 h13 (by decide +kernel)
  have h17 := INVc_fr h13 (by decide +kernel) hC
  have h18 := WI_fr h13 (by decide +kernel) (by decide +kernel) hI
  refine En_Ps 6 (pc' := 789) (lv' := [(0, .retAddr 0), (1, .ref 0), (2, .ref 159), (3, .int y)]) (st' := [.int ((y + ((Int32.ofInt 1)))), .retAddr 0, .ref 159]) rfl ?_
  refine En_top (addI rfl (by decide : (Int32.ofInt 1).toInt = 1) (by omega) (by omega)) (fun z19 h20 => ?_)
  refine En_sld rfl rfl (by omega) (by omega) (fun z21 h22 => ?_)
  have h23 : z21.toInt = z3.toInt := by rw [h22, h4, show z19.toInt = z1.toInt by omega]
  refine En_Ps 4 (pc' := 794) (lv' := [(0, .retAddr 0), (1, .ref 0), (2, .ref 159), (3, .int y)]) (st' := [.int ((y + ((Int32.ofInt 2)))), .retAddr 0, .int z21, .ref 159]) rfl ?_
  refine En_top (addI rfl (by decide : (Int32.ofInt 2).toInt = 2) (by omega) (by omega)) (fun z24 h25 => ?_)
  refine En_sld rfl rfl (by omega) (by omega) (fun z26 h27 => ?_)
  have h28 : z26.toInt = z7.toInt := by rw [h27, h8, show z24.toInt = z5.toInt by omega]
  refine En_callV rfl rfl rfl rfl rfl rfl rfl rfl (by decide +kernel : TG 159 = 35) (by decide +kernel) rfl (c_324 σ11 h12 z21 z26) (by decide) (by decide) (fun v30 σ31 h29 => ?_)
  obtain ⟨h32, h33, z35, rfl, h34⟩ := h29
  have h36 := Fr_trans h16 h33 (by decide +kernel)
  have h37 := INVc_fr h33 (by decide +kernel) h17
  have h38 := WI_fr h33 (by decide +kernel) (by decide +kernel) h18
  refine En_Ps 2 (pc' := 2236) (lv' := [(0, .retAddr 0), (1, .ref 0), (2, .ref 159), (3, .int y)]) (st' := []) rfl ?_
  exact k _ h32 h37 h38
