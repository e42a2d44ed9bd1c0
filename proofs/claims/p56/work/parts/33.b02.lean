set_option maxRecDepth 10000 in
set_option maxHeartbeats 4000000 in
theorem law_c28 {L : Nat} {xs : Nat → Int32} {P : PO} (hL : L ≤ 3072) (y : Int32) (h0 : 0 ≤ y.toInt) (h1 : y.toInt + 6 ≤ (L : Int)) (σ0 : SG) (hσ0 : WT σ0) (hC : INVc σ0) (hI : WI σ0) (hL : LEA σ0) (k : ∀ σ, WT σ → INVc σ → WI σ → LEA σ → En 2048 84000 (some (L, xs)) mr_336 P 2236 [(0, .retAddr 0), (1, .ref 0), (2, .ref 159), (3, .int y)] [] σ) : En 2048 84000 (some (L, xs)) mr_336 P 1128 [(0, .retAddr 0), (1, .ref 0), (2, .ref 159), (3, .int y)] [] σ0 := by
  obtain ⟨hR, hQ, hX⟩ := hL
  obtain ⟨p, p2, sg, hp, hp2, h_p, h_p2, hne, h_sg, hl_sg⟩ := id hC
  obtain ⟨-, hu_sg⟩ := WT_int hσ0 (g := 18) hp (by decide +kernel) (l := (-1)) (u := 4) (by decide +kernel) h_sg
  have hF0 : Fr [(35, 18), (35, 21), (42, 0), (43, 0), (44, 0), (45, 0), (46, 0)] σ0 σ0 := Fr_rfl
  obtain ⟨t, h_t1, h_t2, -⟩ := id hR.1
  obtain ⟨hl_t, hu_t⟩ := WT_int hσ0 (g := 1) tgz_1 (by decide +kernel) (l := 0) (u := 1600) (by decide +kernel) h_t1
  refine En_Ps 5 (pc' := 1133) (lv' := [(0, .retAddr 0), (1, .ref 0), (2, .ref 159), (3, .int y)]) (st' := [.int ((y + ((Int32.ofInt 1)))), .retAddr 0, .ref 0]) rfl ?_
  refine En_top (addI rfl (by decide : (Int32.ofInt 1).toInt = 1) (by omega) (by omega)) (fun z1 h2 => ?_)
  refine En_sld rfl rfl (by omega) (by omega) (fun z3 h4 => ?_)
  refine En_callV rfl rfl rfl rfl rfl rfl rfl rfl tgz_0 (by decide +kernel) rfl (c_117 σ0 hσ0 z3 p hp h_p sg h_sg (by omega)) (by decide) (by decide) (fun v6 σ7 h5 => ?_)
  obtain ⟨h8, h9, z11, rfl, h10⟩ := h5
  have h12 := Fr_trans hF0 h9 (by decide +kernel)
  have h13 := INVc_fr h9 (by decide +kernel) hC
  have h14 := WI_fr h9 (by decide +kernel) (by decide +kernel) hI
  refine En_Ps 6 (pc' := 1143) (lv' := [(0, .retAddr 0), (1, .ref 0), (2, .ref 159), (3, .int y)]) (st' := [.int ((y + ((Int32.ofInt 1)))), .retAddr 0, .ref 159]) rfl ?_
  refine En_top (addI rfl (by decide : (Int32.ofInt 1).toInt = 1) (by omega) (by omega)) (fun z15 h16 => ?_)
  refine En_sld rfl rfl (by omega) (by omega) (fun z17 h18 => ?_)
  have h19 : z17.toInt = z3.toInt := by rw [h18, h4, show z15.toInt = z1.toInt by omega]
  refine En_callV rfl rfl rfl rfl rfl rfl rfl rfl tgz_159 (by decide +kernel) rfl (c_220 σ7 h8 z17) (by decide) (by decide) (fun v21 σ22 h20 => ?_)
  obtain ⟨h23, h24, z26, rfl, h25⟩ := h20
  have h27 := Fr_trans h12 h24 (by decide +kernel)
  have h28 := INVc_fr h24 (by decide +kernel) h13
  have h29 := WI_fr h24 (by decide +kernel) (by decide +kernel) h14
  refine En_Ps 2 (pc' := 2236) (lv' := [(0, .retAddr 0), (1, .ref 0), (2, .ref 159), (3, .int y)]) (st' := []) rfl ?_
  have h30 : FUL σ22 := (FUL_kp hR h9 h24 (by decide +kernel) (by decide +kernel) (RDL_fr hR.1 h9 h24 (by decide +kernel) (by decide +kernel)))
  exact k _ h23 h28 h29 ⟨h30, (RUT_fr hQ h9 h24 (by decide +kernel) (by decide +kernel)), (QXS_fr hX h9 h24 (by decide +kernel) (by decide +kernel))⟩
set_option maxRecDepth 10000 in
set_option maxHeartbeats 4000000 in
theorem law_c29 {L : Nat} {xs : Nat → Int32} {P : PO} (hL : L ≤ 3072) (y : Int32) (h0 : 0 ≤ y.toInt) (h1 : y.toInt + 6 ≤ (L : Int)) (σ0 : SG) (hσ0 : WT σ0) (hC : INVc σ0) (hI : WI σ0) (hL : LEA σ0) (k : ∀ σ, WT σ → INVc σ → WI σ → LEA σ → En 2048 84000 (some (L, xs)) mr_336 P 2236 [(0, .retAddr 0), (1, .ref 0), (2, .ref 159), (3, .int y)] [] σ) : En 2048 84000 (some (L, xs)) mr_336 P 1151 [(0, .retAddr 0), (1, .ref 0), (2, .ref 159), (3, .int y)] [] σ0 := by
  obtain ⟨hR, hQ, hX⟩ := hL
  obtain ⟨p, p2, sg, hp, hp2, h_p, h_p2, hne, h_sg, hl_sg⟩ := id hC
  obtain ⟨-, hu_sg⟩ := WT_int hσ0 (g := 18) hp (by decide +kernel) (l := (-1)) (u := 4) (by decide +kernel) h_sg
  have hF0 : Fr [(35, 18), (35, 21), (42, 0), (43, 0), (44, 0), (45, 0), (46, 0)] σ0 σ0 := Fr_rfl
  obtain ⟨t, h_t1, h_t2, -⟩ := id hR.1
  obtain ⟨hl_t, hu_t⟩ := WT_int hσ0 (g := 1) tgz_1 (by decide +kernel) (l := 0) (u := 1600) (by decide +kernel) h_t1
  refine En_Ps 5 (pc' := 1156) (lv' := [(0, .retAddr 0), (1, .ref 0), (2, .ref 159), (3, .int y)]) (st' := [.int ((y + ((Int32.ofInt 1)))), .retAddr 0, .ref 0]) rfl ?_
  refine En_top (addI rfl (by decide : (Int32.ofInt 1).toInt = 1) (by omega) (by omega)) (fun z1 h2 => ?_)
  refine En_sld rfl rfl (by omega) (by omega) (fun z3 h4 => ?_)
  refine En_Ps 4 (pc' := 1161) (lv' := [(0, .retAddr 0), (1, .ref 0), (2, .ref 159), (3, .int y)]) (st' := [.int ((y + ((Int32.ofInt 2)))), .retAddr 0, .int z3, .ref 0]) rfl ?_
  refine En_top (addI rfl (by decide : (Int32.ofInt 2).toInt = 2) (by omega) (by omega)) (fun z5 h6 => ?_)
  refine En_sld rfl rfl (by omega) (by omega) (fun z7 h8 => ?_)
  refine En_callV rfl rfl rfl rfl rfl rfl rfl rfl tgz_0 (by decide +kernel) rfl (c_125 σ0 hσ0 z3 z7 p hp h_p sg h_sg (by omega)) (by decide) (by decide) (fun v10 σ11 h9 => ?_)
  obtain ⟨h12, h13, z15, rfl, h14⟩ := h9
  have h16 := Fr_trans hF0 h13 (by decide +kernel)
  have h17 := INVc_fr h13 (by decide +kernel) hC
  have h18 := WI_fr h13 (by decide +kernel) (by decide +kernel) hI
  refine En_Ps 6 (pc' := 1171) (lv' := [(0, .retAddr 0), (1, .ref 0), (2, .ref 159), (3, .int y)]) (st' := [.int ((y + ((Int32.ofInt 1)))), .retAddr 0, .ref 159]) rfl ?_
  refine En_top (addI rfl (by decide : (Int32.ofInt 1).toInt = 1) (by omega) (by omega)) (fun z19 h20 => ?_)
  refine En_sld rfl rfl (by omega) (by omega) (fun z21 h22 => ?_)
  have h23 : z21.toInt = z3.toInt := by rw [h22, h4, show z19.toInt = z1.toInt by omega]
  refine En_Ps 4 (pc' := 1176) (lv' := [(0, .retAddr 0), (1, .ref 0), (2, .ref 159), (3, .int y)]) (st' := [.int ((y + ((Int32.ofInt 2)))), .retAddr 0, .int z21, .ref 159]) rfl ?_
  refine En_top (addI rfl (by decide : (Int32.ofInt 2).toInt = 2) (by omega) (by omega)) (fun z24 h25 => ?_)
  refine En_sld rfl rfl (by omega) (by omega) (fun z26 h27 => ?_)
  have h28 : z26.toInt = z7.toInt := by rw [h27, h8, show z24.toInt = z5.toInt by omega]
  refine En_callV rfl rfl rfl rfl rfl rfl rfl rfl tgz_159 (by decide +kernel) rfl (c_232 σ11 h12 z21 z26) (by decide) (by decide) (fun v30 σ31 h29 => ?_)
  obtain ⟨h32, h33, z35, rfl, h34⟩ := h29
  have h36 := Fr_trans h16 h33 (by decide +kernel)
  have h37 := INVc_fr h33 (by decide +kernel) h17
  have h38 := WI_fr h33 (by decide +kernel) (by decide +kernel) h18
  refine En_Ps 2 (pc' := 2236) (lv' := [(0, .retAddr 0), (1, .ref 0), (2, .ref 159), (3, .int y)]) (st' := []) rfl ?_
  have h39 : FUL σ31 := (FUL_kp hR h13 h33 (by decide +kernel) (by decide +kernel) (RDL_fr hR.1 h13 h33 (by decide +kernel) (by decide +kernel)))
  exact k _ h32 h37 h38 ⟨h39, (RUT_fr hQ h13 h33 (by decide +kernel) (by decide +kernel)), (QXS_fr hX h13 h33 (by decide +kernel) (by decide +kernel))⟩
set_option maxRecDepth 10000 in
set_option maxHeartbeats 4000000 in
theorem law_c30 {L : Nat} {xs : Nat → Int32} {P : PO} (hL : L ≤ 3072) (y : Int32) (h0 : 0 ≤ y.toInt) (h1 : y.toInt + 6 ≤ (L : Int)) (σ0 : SG) (hσ0 : WT σ0) (hC : INVc σ0) (hI : WI σ0) (hL : LEA σ0) (k : ∀ σ, WT σ → INVc σ → WI σ → LEA σ → En 2048 84000 (some (L, xs)) mr_336 P 2236 [(0, .retAddr 0), (1, .ref 0), (2, .ref 159), (3, .int y)] [] σ) : En 2048 84000 (some (L, xs)) mr_336 P 1184 [(0, .retAddr 0), (1, .ref 0), (2, .ref 159), (3, .int y)] [] σ0 := by
  obtain ⟨hR, hQ, hX⟩ := hL
  obtain ⟨p, p2, sg, hp, hp2, h_p, h_p2, hne, h_sg, hl_sg⟩ := id hC
  obtain ⟨-, hu_sg⟩ := WT_int hσ0 (g := 18) hp (by decide +kernel) (l := (-1)) (u := 4) (by decide +kernel) h_sg
  have hF0 : Fr [(35, 18), (35, 21), (42, 0), (43, 0), (44, 0), (45, 0), (46, 0)] σ0 σ0 := Fr_rfl
  obtain ⟨t, h_t1, h_t2, -⟩ := id hR.1
  obtain ⟨hl_t, hu_t⟩ := WT_int hσ0 (g := 1) tgz_1 (by decide +kernel) (l := 0) (u := 1600) (by decide +kernel) h_t1
  refine En_Ps 5 (pc' := 1189) (lv' := [(0, .retAddr 0), (1, .ref 0), (2, .ref 159), (3, .int y)]) (st' := [.int ((y + ((Int32.ofInt 1)))), .retAddr 0, .ref 0]) rfl ?_
  refine En_top (addI rfl (by decide : (Int32.ofInt 1).toInt = 1) (by omega) (by omega)) (fun z1 h2 => ?_)
  refine En_sld rfl rfl (by omega) (by omega) (fun z3 h4 => ?_)
  refine En_Ps 4 (pc' := 1194) (lv' := [(0, .retAddr 0), (1, .ref 0), (2, .ref 159), (3, .int y)]) (st' := [.int ((y + ((Int32.ofInt 2)))), .retAddr 0, .int z3, .ref 0]) rfl ?_
  refine En_top (addI rfl (by decide : (Int32.ofInt 2).toInt = 2) (by omega) (by omega)) (fun z5 h6 => ?_)
  refine En_sld rfl rfl (by omega) (by omega) (fun z7 h8 => ?_)
  refine En_callV rfl rfl rfl rfl rfl rfl rfl rfl tgz_0 (by decide +kernel) rfl (c_179 σ0 hσ0 z3 z7 p hp h_p sg h_sg (by omega)) (by decide) (by decide) (fun v10 σ11 h9 => ?_)
  obtain ⟨h12, h13, z15, rfl, h14⟩ := h9
  have h16 := Fr_trans hF0 h13 (by decide +kernel)
  have h17 := INVc_fr h13 (by decide +kernel) hC
  have h18 := WI_fr h13 (by decide +kernel) (by decide +kernel) hI
  refine En_Ps 6 (pc' := 1204) (lv' := [(0, .retAddr 0), (1, .ref 0), (2, .ref 159), (3, .int y)]) (st' := [.int ((y + ((Int32.ofInt 1)))), .retAddr 0, .ref 159]) rfl ?_
  refine En_top (addI rfl (by decide : (Int32.ofInt 1).toInt = 1) (by omega) (by omega)) (fun z19 h20 => ?_)
  refine En_sld rfl rfl (by omega) (by omega) (fun z21 h22 => ?_)
  have h23 : z21.toInt = z3.toInt := by rw [h22, h4, show z19.toInt = z1.toInt by omega]
  refine En_Ps 4 (pc' := 1209) (lv' := [(0, .retAddr 0), (1, .ref 0), (2, .ref 159), (3, .int y)]) (st' := [.int ((y + ((Int32.ofInt 2)))), .retAddr 0, .int z21, .ref 159]) rfl ?_
  refine En_top (addI rfl (by decide : (Int32.ofInt 2).toInt = 2) (by omega) (by omega)) (fun z24 h25 => ?_)
  refine En_sld rfl rfl (by omega) (by omega) (fun z26 h27 => ?_)
  have h28 : z26.toInt = z7.toInt := by rw [h27, h8, show z24.toInt = z5.toInt by omega]
  refine En_callV rfl rfl rfl rfl rfl rfl rfl rfl tgz_159 (by decide +kernel) rfl (c_328 σ11 h12 z21 z26) (by decide) (by decide) (fun v30 σ31 h29 => ?_)
  obtain ⟨h32, h33, z35, rfl, h34⟩ := h29
  have h36 := Fr_trans h16 h33 (by decide +kernel)
  have h37 := INVc_fr h33 (by decide +kernel) h17
  have h38 := WI_fr h33 (by decide +kernel) (by decide +kernel) h18
  refine En_Ps 2 (pc' := 2236) (lv' := [(0, .retAddr 0), (1, .ref 0), (2, .ref 159), (3, .int y)]) (st' := []) rfl ?_
  have h39 : FUL σ31 := (FUL_kp hR h13 h33 (by decide +kernel) (by decide +kernel) (RDL_fr hR.1 h13 h33 (by decide +kernel) (by decide +kernel)))
  exact k _ h32 h37 h38 ⟨h39, (RUT_fr hQ h13 h33 (by decide +kernel) (by decide +kernel)), (QXS_fr hX h13 h33 (by decide +kernel) (by decide +kernel))⟩
set_option maxRecDepth 10000 in
set_option maxHeartbeats 4000000 in
theorem law_c31 {L : Nat} {xs : Nat → Int32} {P : PO} (hL : L ≤ 3072) (y : Int32) (h0 : 0 ≤ y.toInt) (h1 : y.toInt + 6 ≤ (L : Int)) (σ0 : SG) (hσ0 : WT σ0) (hC : INVc σ0) (hI : WI σ0) (hL : LEA σ0) (k : ∀ σ, WT σ → INVc σ → WI σ → LEA σ → En 2048 84000 (some (L, xs)) mr_336 P 2236 [(0, .retAddr 0), (1, .ref 0), (2, .ref 159), (3, .int y)] [] σ) : En 2048 84000 (some (L, xs)) mr_336 P 1217 [(0, .retAddr 0), (1, .ref 0), (2, .ref 159), (3, .int y)] [] σ0 := by
  obtain ⟨hR, hQ, hX⟩ := hL
  obtain ⟨p, p2, sg, hp, hp2, h_p, h_p2, hne, h_sg, hl_sg⟩ := id hC
  obtain ⟨-, hu_sg⟩ := WT_int hσ0 (g := 18) hp (by decide +kernel) (l := (-1)) (u := 4) (by decide +kernel) h_sg
  have hF0 : Fr [(35, 18), (35, 21), (42, 0), (43, 0), (44, 0), (45, 0), (46, 0)] σ0 σ0 := Fr_rfl
  obtain ⟨t, h_t1, h_t2, -⟩ := id hR.1
  obtain ⟨hl_t, hu_t⟩ := WT_int hσ0 (g := 1) tgz_1 (by decide +kernel) (l := 0) (u := 1600) (by decide +kernel) h_t1
  refine En_Ps 5 (pc' := 1222) (lv' := [(0, .retAddr 0), (1, .ref 0), (2, .ref 159), (3, .int y)]) (st' := [.int ((y + ((Int32.ofInt 1)))), .retAddr 0, .ref 0]) rfl ?_
  refine En_top (addI rfl (by decide : (Int32.ofInt 1).toInt = 1) (by omega) (by omega)) (fun z1 h2 => ?_)
  refine En_sld rfl rfl (by omega) (by omega) (fun z3 h4 => ?_)
  refine En_Ps 4 (pc' := 1227) (lv' := [(0, .retAddr 0), (1, .ref 0), (2, .ref 159), (3, .int y)]) (st' := [.int ((y + ((Int32.ofInt 2)))), .retAddr 0, .int z3, .ref 0]) rfl ?_
  refine En_top (addI rfl (by decide : (Int32.ofInt 2).toInt = 2) (by omega) (by omega)) (fun z5 h6 => ?_)
  refine En_sld rfl rfl (by omega) (by omega) (fun z7 h8 => ?_)
  refine En_callV rfl rfl rfl rfl rfl rfl rfl rfl tgz_0 (by decide +kernel) rfl (c_178 σ0 hσ0 z3 z7 p hp h_p sg h_sg (by omega)) (by decide) (by decide) (fun v10 σ11 h9 => ?_)
  obtain ⟨h12, h13, z15, rfl, h14⟩ := h9
  have h16 := Fr_trans hF0 h13 (by decide +kernel)
  have h17 := INVc_fr h13 (by decide +kernel) hC
  have h18 := WI_fr h13 (by decide +kernel) (by decide +kernel) hI
  refine En_Ps 6 (pc' := 1237) (lv' := [(0, .retAddr 0), (1, .ref 0), (2, .ref 159), (3, .int y)]) (st' := [.int ((y + ((Int32.ofInt 1)))), .retAddr 0, .ref 159]) rfl ?_
  refine En_top (addI rfl (by decide : (Int32.ofInt 1).toInt = 1) (by omega) (by omega)) (fun z19 h20 => ?_)
  refine En_sld rfl rfl (by omega) (by omega) (fun z21 h22 => ?_)
  have h23 : z21.toInt = z3.toInt := by rw [h22, h4, show z19.toInt = z1.toInt by omega]
  refine En_Ps 4 (pc' := 1242) (lv' := [(0, .retAddr 0), (1, .ref 0), (2, .ref 159), (3, .int y)]) (st' := [.int ((y + ((Int32.ofInt 2)))), .retAddr 0, .int z21, .ref 159]) rfl ?_
  refine En_top (addI rfl (by decide : (Int32.ofInt 2).toInt = 2) (by omega) (by omega)) (fun z24 h25 => ?_)
  refine En_sld rfl rfl (by omega) (by omega) (fun z26 h27 => ?_)
  have h28 : z26.toInt = z7.toInt := by rw [h27, h8, show z24.toInt = z5.toInt by omega]
  refine En_callV rfl rfl rfl rfl rfl rfl rfl rfl tgz_159 (by decide +kernel) rfl (c_326 σ11 h12 z21 z26) (by decide) (by decide) (fun v30 σ31 h29 => ?_)
  obtain ⟨h32, h33, z35, rfl, h34⟩ := h29
  have h36 := Fr_trans h16 h33 (by decide +kernel)
  have h37 := INVc_fr h33 (by decide +kernel) h17
  have h38 := WI_fr h33 (by decide +kernel) (by decide +kernel) h18
  refine En_Ps 2 (pc' := 2236) (lv' := [(0, .retAddr 0), (1, .ref 0), (2, .ref 159), (3, .int y)]) (st' := []) rfl ?_
  have h39 : FUL σ31 := (FUL_kp hR h13 h33 (by decide +kernel) (by decide +kernel) (RDL_fr hR.1 h13 h33 (by decide +kernel) (by decide +kernel)))
  exact k _ h32 h37 h38 ⟨h39, (RUT_fr hQ h13 h33 (by decide +kernel) (by decide +kernel)), (QXS_fr hX h13 h33 (by decide +kernel) (by decide +kernel))⟩
set_option maxRecDepth 10000 in
set_option maxHeartbeats 4000000 in
theorem law_c32 {L : Nat} {xs : Nat → Int32} {P : PO} (hL : L ≤ 3072) (y : Int32) (h0 : 0 ≤ y.toInt) (h1 : y.toInt + 6 ≤ (L : Int)) (σ0 : SG) (hσ0 : WT σ0) (hC : INVc σ0) (hI : WI σ0) (hL : LEA σ0) (k : ∀ σ, WT σ → INVc σ → WI σ → LEA σ → En 2048 84000 (some (L, xs)) mr_336 P 2236 [(0, .retAddr 0), (1, .ref 0), (2, .ref 159), (3, .int y)] [] σ) : En 2048 84000 (some (L, xs)) mr_336 P 1250 [(0, .retAddr 0), (1, .ref 0), (2, .ref 159), (3, .int y)] [] σ0 := by
  obtain ⟨hR, hQ, hX⟩ := hL
  obtain ⟨p, p2, sg, hp, hp2, h_p, h_p2, hne, h_sg, hl_sg⟩ := id hC
  obtain ⟨-, hu_sg⟩ := WT_int hσ0 (g := 18) hp (by decide +kernel) (l := (-1)) (u := 4) (by decide +kernel) h_sg
  have hF0 : Fr [(20, 2), (21, 0), (22, 0), (35, 18), (35, 21), (42, 0), (43, 0), (44, 0), (45, 0), (46, 0)] σ0 σ0 := Fr_rfl
  obtain ⟨t, h_t1, h_t2, -⟩ := id hR.1
  obtain ⟨hl_t, hu_t⟩ := WT_int hσ0 (g := 1) tgz_1 (by decide +kernel) (l := 0) (u := 1600) (by decide +kernel) h_t1
  refine En_Ps 5 (pc' := 1255) (lv' := [(0, .retAddr 0), (1, .ref 0), (2, .ref 159), (3, .int y)]) (st' := [.int ((y + ((Int32.ofInt 1)))), .retAddr 0, .ref 0]) rfl ?_
  refine En_top (addI rfl (by decide : (Int32.ofInt 1).toInt = 1) (by omega) (by omega)) (fun z1 h2 => ?_)
  refine En_sld rfl rfl (by omega) (by omega) (fun z3 h4 => ?_)
  refine En_callV rfl rfl rfl rfl rfl rfl rfl rfl tgz_0 (by decide +kernel) rfl (c_135x σ0 hσ0 z3 p hp h_p sg h_sg (by omega) (PLA_of hp) (FXP_p hR.1 hp) (hR.2.2.2.1 p h_p).2 (WFw_w hσ0)) (by decide) (by decide) (fun v6 σ7 h5 => ?_)
  obtain ⟨h8, h9, z11, rfl, h10⟩ := h5
  have h12 := h10.2.2.2.2.2
  have h13 := Fr_trans hF0 h9 (by decide +kernel)
  have h14 := INVc_fr h9 (by decide +kernel) hC
  have h15 := WI_fr h9 (by decide +kernel) (by decide +kernel) hI
  refine En_Ps 6 (pc' := 1265) (lv' := [(0, .retAddr 0), (1, .ref 0), (2, .ref 159), (3, .int y)]) (st' := [.int ((y + ((Int32.ofInt 1)))), .retAddr 0, .ref 159]) rfl ?_
  refine En_top (addI rfl (by decide : (Int32.ofInt 1).toInt = 1) (by omega) (by omega)) (fun z16 h17 => ?_)
  refine En_sld rfl rfl (by omega) (by omega) (fun z18 h19 => ?_)
  have h20 : z18.toInt = z3.toInt := by rw [h19, h4, show z16.toInt = z1.toInt by omega]
  obtain ⟨z22, h21, h23, h24⟩ := WT_peekI h8 tgz_160 (by decide +kernel : FT 36 (2 : Int).toNat = (0, 0, 4)) (by decide +kernel)
  refine En_callV rfl rfl rfl rfl rfl rfl rfl rfl tgz_159 (by decide +kernel) rfl (c_241 σ7 h8 z18 z22 h21) (by decide) (by decide) (fun v26 σ27 h25 => ?_)
  obtain ⟨h28, h29, z31, rfl, h30⟩ := h25
  have h32 := Fr_trans h13 h29 (by decide +kernel)
  have h33 := INVc_fr h29 (by decide +kernel) h14
  have h34 := WI_fr h29 (by decide +kernel) (by decide +kernel) h15
  refine En_Ps 2 (pc' := 2236) (lv' := [(0, .retAddr 0), (1, .ref 0), (2, .ref 159), (3, .int y)]) (st' := []) rfl ?_
  have h35 : FUL σ27 := (FUL_ch hR h28 h_p h9 h29 (RDL_fr hR.1 h9 h29 (by decide +kernel) (by decide +kernel)) (by decide +kernel) (by decide +kernel) h12 (fun i _ _ => congrFun ((wf_fr h29 (by decide +kernel)).trans (wf_fr h9 (by decide +kernel))) i) hR.2.2.2.2.1 hR.2.2.2.2.2.1)
  exact k _ h28 h33 h34 ⟨h35, (RUT_fr hQ h9 h29 (by decide +kernel) (by decide +kernel)), (QXS_fr hX h9 h29 (by decide +kernel) (by decide +kernel))⟩
set_option maxRecDepth 10000 in
set_option maxHeartbeats 4000000 in
theorem law_c33 {L : Nat} {xs : Nat → Int32} {P : PO} (hL : L ≤ 3072) (y : Int32) (h0 : 0 ≤ y.toInt) (h1 : y.toInt + 6 ≤ (L : Int)) (σ0 : SG) (hσ0 : WT σ0) (hC : INVc σ0) (hI : WI σ0) (hL : LEA σ0) (k : ∀ σ, WT σ → INVc σ → WI σ → LEA σ → En 2048 84000 (some (L, xs)) mr_336 P 2236 [(0, .retAddr 0), (1, .ref 0), (2, .ref 159), (3, .int y)] [] σ) : En 2048 84000 (some (L, xs)) mr_336 P 1273 [(0, .retAddr 0), (1, .ref 0), (2, .ref 159), (3, .int y)] [] σ0 := by
  obtain ⟨hR, hQ, hX⟩ := hL
  obtain ⟨p, p2, sg, hp, hp2, h_p, h_p2, hne, h_sg, hl_sg⟩ := id hC
  obtain ⟨-, hu_sg⟩ := WT_int hσ0 (g := 18) hp (by decide +kernel) (l := (-1)) (u := 4) (by decide +kernel) h_sg
  have hF0 : Fr [(20, 2), (21, 0), (22, 0), (35, 18), (35, 21), (42, 0), (43, 0), (44, 0), (45, 0), (46, 0)] σ0 σ0 := Fr_rfl
  obtain ⟨t, h_t1, h_t2, -⟩ := id hR.1
  obtain ⟨hl_t, hu_t⟩ := WT_int hσ0 (g := 1) tgz_1 (by decide +kernel) (l := 0) (u := 1600) (by decide +kernel) h_t1
  refine En_Ps 5 (pc' := 1278) (lv' := [(0, .retAddr 0), (1, .ref 0), (2, .ref 159), (3, .int y)]) (st' := [.int ((y + ((Int32.ofInt 1)))), .retAddr 0, .ref 0]) rfl ?_
  refine En_top (addI rfl (by decide : (Int32.ofInt 1).toInt = 1) (by omega) (by omega)) (fun z1 h2 => ?_)
  refine En_sld rfl rfl (by omega) (by omega) (fun z3 h4 => ?_)
  refine En_callV rfl rfl rfl rfl rfl rfl rfl rfl tgz_0 (by decide +kernel) rfl (c_152x σ0 hσ0 z3 p hp h_p sg h_sg (by omega) (PLA_of hp) (FXP_p hR.1 hp) (hR.2.2.2.1 p h_p).2 (WFw_w hσ0)) (by decide) (by decide) (fun v6 σ7 h5 => ?_)
  obtain ⟨h8, h9, z11, rfl, h10⟩ := h5
  have h12 := h10.2.2
  have h13 := Fr_trans hF0 h9 (by decide +kernel)
  have h14 := INVc_fr h9 (by decide +kernel) hC
  have h15 := WI_fr h9 (by decide +kernel) (by decide +kernel) hI
  refine En_Ps 6 (pc' := 1288) (lv' := [(0, .retAddr 0), (1, .ref 0), (2, .ref 159), (3, .int y)]) (st' := [.int ((y + ((Int32.ofInt 1)))), .retAddr 0, .ref 159]) rfl ?_
  refine En_top (addI rfl (by decide : (Int32.ofInt 1).toInt = 1) (by omega) (by omega)) (fun z16 h17 => ?_)
  refine En_sld rfl rfl (by omega) (by omega) (fun z18 h19 => ?_)
  have h20 : z18.toInt = z3.toInt := by rw [h19, h4, show z16.toInt = z1.toInt by omega]
  refine En_callV rfl rfl rfl rfl rfl rfl rfl rfl tgz_159 (by decide +kernel) rfl (c_279 σ7 h8 z18) (by decide) (by decide) (fun v22 σ23 h21 => ?_)
  obtain ⟨h24, h25, z27, rfl, h26⟩ := h21
  have h28 := Fr_trans h13 h25 (by decide +kernel)
  have h29 := INVc_fr h25 (by decide +kernel) h14
  have h30 := WI_fr h25 (by decide +kernel) (by decide +kernel) h15
  refine En_Ps 2 (pc' := 2236) (lv' := [(0, .retAddr 0), (1, .ref 0), (2, .ref 159), (3, .int y)]) (st' := []) rfl ?_
  have h31 : FUL σ23 := (FUL_ch hR h24 h_p h9 h25 (RDL_fr hR.1 h9 h25 (by decide +kernel) (by decide +kernel)) (by decide +kernel) (by decide +kernel) h12 (fun i _ _ => congrFun ((wf_fr h25 (by decide +kernel)).trans (wf_fr h9 (by decide +kernel))) i) hR.2.2.2.2.1 hR.2.2.2.2.2.1)
  exact k _ h24 h29 h30 ⟨h31, (RUT_fr hQ h9 h25 (by decide +kernel) (by decide +kernel)), (QXS_fr hX h9 h25 (by decide +kernel) (by decide +kernel))⟩
set_option maxRecDepth 10000 in
set_option maxHeartbeats 4000000 in
theorem law_c34 {L : Nat} {xs : Nat → Int32} {P : PO} (hL : L ≤ 3072) (y : Int32) (h0 : 0 ≤ y.toInt) (h1 : y.toInt + 6 ≤ (L : Int)) (σ0 : SG) (hσ0 : WT σ0) (hC : INVc σ0) (hI : WI σ0) (hL : LEA σ0) (k : ∀ σ, WT σ → INVc σ → WI σ → LEA σ → En 2048 84000 (some (L, xs)) mr_336 P 2236 [(0, .retAddr 0), (1, .ref 0), (2, .ref 159), (3, .int y)] [] σ) : En 2048 84000 (some (L, xs)) mr_336 P 1296 [(0, .retAddr 0), (1, .ref 0), (2, .ref 159), (3, .int y)] [] σ0 := by
  obtain ⟨hR, hQ, hX⟩ := hL
  obtain ⟨p, p2, sg, hp, hp2, h_p, h_p2, hne, h_sg, hl_sg⟩ := id hC
  obtain ⟨-, hu_sg⟩ := WT_int hσ0 (g := 18) hp (by decide +kernel) (l := (-1)) (u := 4) (by decide +kernel) h_sg
  have hF0 : Fr [(35, 18), (35, 21), (42, 0), (43, 0), (44, 0), (45, 0), (46, 0)] σ0 σ0 := Fr_rfl
  obtain ⟨t, h_t1, h_t2, -⟩ := id hR.1
  obtain ⟨hl_t, hu_t⟩ := WT_int hσ0 (g := 1) tgz_1 (by decide +kernel) (l := 0) (u := 1600) (by decide +kernel) h_t1
  refine En_Ps 5 (pc' := 1301) (lv' := [(0, .retAddr 0), (1, .ref 0), (2, .ref 159), (3, .int y)]) (st' := [.int ((y + ((Int32.ofInt 1)))), .retAddr 0, .ref 0]) rfl ?_
  refine En_top (addI rfl (by decide : (Int32.ofInt 1).toInt = 1) (by omega) (by omega)) (fun z1 h2 => ?_)
  refine En_sld rfl rfl (by omega) (by omega) (fun z3 h4 => ?_)
  refine En_Ps 4 (pc' := 1306) (lv' := [(0, .retAddr 0), (1, .ref 0), (2, .ref 159), (3, .int y)]) (st' := [.int ((y + ((Int32.ofInt 2)))), .retAddr 0, .int z3, .ref 0]) rfl ?_
  refine En_top (addI rfl (by decide : (Int32.ofInt 2).toInt = 2) (by omega) (by omega)) (fun z5 h6 => ?_)
  refine En_sld rfl rfl (by omega) (by omega) (fun z7 h8 => ?_)
  refine En_Ps 4 (pc' := 1311) (lv' := [(0, .retAddr 0), (1, .ref 0), (2, .ref 159), (3, .int y)]) (st' := [.int ((y + ((Int32.ofInt 3)))), .retAddr 0, .int z7, .int z3, .ref 0]) rfl ?_
  refine En_top (addI rfl (by decide : (Int32.ofInt 3).toInt = 3) (by omega) (by omega)) (fun z9 h10 => ?_)
  refine En_sld rfl rfl (by omega) (by omega) (fun z11 h12 => ?_)
  refine En_callV rfl rfl rfl rfl rfl rfl rfl rfl tgz_0 (by decide +kernel) rfl (c_131 σ0 hσ0 z3 z7 z11 p hp h_p sg h_sg (by omega)) (by decide) (by decide) (fun v14 σ15 h13 => ?_)
  obtain ⟨h16, h17, z19, rfl, h18⟩ := h13
  have h20 := Fr_trans hF0 h17 (by decide +kernel)
  have h21 := INVc_fr h17 (by decide +kernel) hC
  have h22 := WI_fr h17 (by decide +kernel) (by decide +kernel) hI
  refine En_Ps 6 (pc' := 1321) (lv' := [(0, .retAddr 0), (1, .ref 0), (2, .ref 159), (3, .int y)]) (st' := [.int ((y + ((Int32.ofInt 1)))), .retAddr 0, .ref 159]) rfl ?_
  refine En_top (addI rfl (by decide : (Int32.ofInt 1).toInt = 1) (by omega) (by omega)) (fun z23 h24 => ?_)
  refine En_sld rfl rfl (by omega) (by omega) (fun z25 h26 => ?_)
  have h27 : z25.toInt = z3.toInt := by rw [h26, h4, show z23.toInt = z1.toInt by omega]
  refine En_Ps 4 (pc' := 1326) (lv' := [(0, .retAddr 0), (1, .ref 0), (2, .ref 159), (3, .int y)]) (st' := [.int ((y + ((Int32.ofInt 2)))), .retAddr 0, .int z25, .ref 159]) rfl ?_
  refine En_top (addI rfl (by decide : (Int32.ofInt 2).toInt = 2) (by omega) (by omega)) (fun z28 h29 => ?_)
  refine En_sld rfl rfl (by omega) (by omega) (fun z30 h31 => ?_)
  have h32 : z30.toInt = z7.toInt := by rw [h31, h8, show z28.toInt = z5.toInt by omega]
  refine En_Ps 4 (pc' := 1331) (lv' := [(0, .retAddr 0), (1, .ref 0), (2, .ref 159), (3, .int y)]) (st' := [.int ((y + ((Int32.ofInt 3)))), .retAddr 0, .int z30, .int z25, .ref 159]) rfl ?_
  refine En_top (addI rfl (by decide : (Int32.ofInt 3).toInt = 3) (by omega) (by omega)) (fun z33 h34 => ?_)
  refine En_sld rfl rfl (by omega) (by omega) (fun z35 h36 => ?_)
  have h37 : z35.toInt = z11.toInt := by rw [h36, h12, show z33.toInt = z9.toInt by omega]
  refine En_callV rfl rfl rfl rfl rfl rfl rfl rfl tgz_159 (by decide +kernel) rfl (c_236 σ15 h16 z25 z30 z35) (by decide) (by decide) (fun v39 σ40 h38 => ?_)
  obtain ⟨h41, h42, z44, rfl, h43⟩ := h38
  have h45 := Fr_trans h20 h42 (by decide +kernel)
  have h46 := INVc_fr h42 (by decide +kernel) h21
  have h47 := WI_fr h42 (by decide +kernel) (by decide +kernel) h22
  refine En_Ps 2 (pc' := 2236) (lv' := [(0, .retAddr 0), (1, .ref 0), (2, .ref 159), (3, .int y)]) (st' := []) rfl ?_
  have h48 : FUL σ40 := (FUL_kp hR h17 h42 (by decide +kernel) (by decide +kernel) (RDL_fr hR.1 h17 h42 (by decide +kernel) (by decide +kernel)))
  exact k _ h41 h46 h47 ⟨h48, (RUT_fr hQ h17 h42 (by decide +kernel) (by decide +kernel)), (QXS_fr hX h17 h42 (by decide +kernel) (by decide +kernel))⟩
set_option maxRecDepth 10000 in
set_option maxHeartbeats 4000000 in
theorem law_c35 {L : Nat} {xs : Nat → Int32} {P : PO} (hL : L ≤ 3072) (y : Int32) (h0 : 0 ≤ y.toInt) (h1 : y.toInt + 6 ≤ (L : Int)) (σ0 : SG) (hσ0 : WT σ0) (hC : INVc σ0) (hI : WI σ0) (hL : LEA σ0) (k : ∀ σ, WT σ → INVc σ → WI σ → LEA σ → En 2048 84000 (some (L, xs)) mr_336 P 2236 [(0, .retAddr 0), (1, .ref 0), (2, .ref 159), (3, .int y)] [] σ) : En 2048 84000 (some (L, xs)) mr_336 P 1339 [(0, .retAddr 0), (1, .ref 0), (2, .ref 159), (3, .int y)] [] σ0 := by
  obtain ⟨hR, hQ, hX⟩ := hL
  obtain ⟨p, p2, sg, hp, hp2, h_p, h_p2, hne, h_sg, hl_sg⟩ := id hC
  obtain ⟨-, hu_sg⟩ := WT_int hσ0 (g := 18) hp (by decide +kernel) (l := (-1)) (u := 4) (by decide +kernel) h_sg
  have hF0 : Fr [(35, 18), (35, 21), (42, 0), (43, 0), (44, 0), (45, 0), (46, 0)] σ0 σ0 := Fr_rfl
  obtain ⟨t, h_t1, h_t2, -⟩ := id hR.1
  obtain ⟨hl_t, hu_t⟩ := WT_int hσ0 (g := 1) tgz_1 (by decide +kernel) (l := 0) (u := 1600) (by decide +kernel) h_t1
  refine En_Ps 5 (pc' := 1344) (lv' := [(0, .retAddr 0), (1, .ref 0), (2, .ref 159), (3, .int y)]) (st' := [.int ((y + ((Int32.ofInt 1)))), .retAddr 0, .ref 0]) rfl ?_
  refine En_top (addI rfl (by decide : (Int32.ofInt 1).toInt = 1) (by omega) (by omega)) (fun z1 h2 => ?_)
  refine En_sld rfl rfl (by omega) (by omega) (fun z3 h4 => ?_)
  refine En_callV rfl rfl rfl rfl rfl rfl rfl rfl tgz_0 (by decide +kernel) rfl (c_164 σ0 hσ0 z3 p hp h_p sg h_sg (by omega)) (by decide) (by decide) (fun v6 σ7 h5 => ?_)
  obtain ⟨h8, h9, z11, rfl, h10⟩ := h5
  have h12 := Fr_trans hF0 h9 (by decide +kernel)
  have h13 := INVc_fr h9 (by decide +kernel) hC
  have h14 := WI_fr h9 (by decide +kernel) (by decide +kernel) hI
  refine En_Ps 6 (pc' := 1354) (lv' := [(0, .retAddr 0), (1, .ref 0), (2, .ref 159), (3, .int y)]) (st' := [.int ((y + ((Int32.ofInt 1)))), .retAddr 0, .ref 159]) rfl ?_
  refine En_top (addI rfl (by decide : (Int32.ofInt 1).toInt = 1) (by omega) (by omega)) (fun z15 h16 => ?_)
  refine En_sld rfl rfl (by omega) (by omega) (fun z17 h18 => ?_)
  have h19 : z17.toInt = z3.toInt := by rw [h18, h4, show z15.toInt = z1.toInt by omega]
  refine En_callV rfl rfl rfl rfl rfl rfl rfl rfl tgz_159 (by decide +kernel) rfl (c_307 σ7 h8 z17) (by decide) (by decide) (fun v21 σ22 h20 => ?_)
  obtain ⟨h23, h24, z26, rfl, h25⟩ := h20
  have h27 := Fr_trans h12 h24 (by decide +kernel)
  have h28 := INVc_fr h24 (by decide +kernel) h13
  have h29 := WI_fr h24 (by decide +kernel) (by decide +kernel) h14
  refine En_Ps 2 (pc' := 2236) (lv' := [(0, .retAddr 0), (1, .ref 0), (2, .ref 159), (3, .int y)]) (st' := []) rfl ?_
  have h30 : FUL σ22 := (FUL_kp hR h9 h24 (by decide +kernel) (by decide +kernel) (RDL_fr hR.1 h9 h24 (by decide +kernel) (by decide +kernel)))
  exact k _ h23 h28 h29 ⟨h30, (RUT_fr hQ h9 h24 (by decide +kernel) (by decide +kernel)), (QXS_fr hX h9 h24 (by decide +kernel) (by decide +kernel))⟩
set_option maxRecDepth 10000 in
set_option maxHeartbeats 4000000 in
theorem law_c36 {L : Nat} {xs : Nat → Int32} {P : PO} (hL : L ≤ 3072) (y : Int32) (h0 : 0 ≤ y.toInt) (h1 : y.toInt + 6 ≤ (L : Int)) (σ0 : SG) (hσ0 : WT σ0) (hC : INVc σ0) (hI : WI σ0) (hL : LEA σ0) (k : ∀ σ, WT σ → INVc σ → WI σ → LEA σ → En 2048 84000 (some (L, xs)) mr_336 P 2236 [(0, .retAddr 0), (1, .ref 0), (2, .ref 159), (3, .int y)] [] σ) : En 2048 84000 (some (L, xs)) mr_336 P 1362 [(0, .retAddr 0), (1, .ref 0), (2, .ref 159), (3, .int y)] [] σ0 := by
  obtain ⟨hR, hQ, hX⟩ := hL
  obtain ⟨p, p2, sg, hp, hp2, h_p, h_p2, hne, h_sg, hl_sg⟩ := id hC
  obtain ⟨-, hu_sg⟩ := WT_int hσ0 (g := 18) hp (by decide +kernel) (l := (-1)) (u := 4) (by decide +kernel) h_sg
  have hF0 : Fr [(35, 18), (35, 21), (42, 0), (43, 0), (44, 0), (45, 0), (46, 0)] σ0 σ0 := Fr_rfl
  obtain ⟨t, h_t1, h_t2, -⟩ := id hR.1
  obtain ⟨hl_t, hu_t⟩ := WT_int hσ0 (g := 1) tgz_1 (by decide +kernel) (l := 0) (u := 1600) (by decide +kernel) h_t1
  refine En_Ps 5 (pc' := 1367) (lv' := [(0, .retAddr 0), (1, .ref 0), (2, .ref 159), (3, .int y)]) (st' := [.int ((y + ((Int32.ofInt 1)))), .retAddr 0, .ref 0]) rfl ?_
  refine En_top (addI rfl (by decide : (Int32.ofInt 1).toInt = 1) (by omega) (by omega)) (fun z1 h2 => ?_)
  refine En_sld rfl rfl (by omega) (by omega) (fun z3 h4 => ?_)
  refine En_callV rfl rfl rfl rfl rfl rfl rfl rfl tgz_0 (by decide +kernel) rfl (c_163 σ0 hσ0 z3 p hp h_p sg h_sg (by omega)) (by decide) (by decide) (fun v6 σ7 h5 => ?_)
  obtain ⟨h8, h9, z11, rfl, h10⟩ := h5
  have h12 := Fr_trans hF0 h9 (by decide +kernel)
  have h13 := INVc_fr h9 (by decide +kernel) hC
  have h14 := WI_fr h9 (by decide +kernel) (by decide +kernel) hI
  refine En_Ps 6 (pc' := 1377) (lv' := [(0, .retAddr 0), (1, .ref 0), (2, .ref 159), (3, .int y)]) (st' := [.int ((y + ((Int32.ofInt 1)))), .retAddr 0, .ref 159]) rfl ?_
  refine En_top (addI rfl (by decide : (Int32.ofInt 1).toInt = 1) (by omega) (by omega)) (fun z15 h16 => ?_)
  refine En_sld rfl rfl (by omega) (by omega) (fun z17 h18 => ?_)
  have h19 : z17.toInt = z3.toInt := by rw [h18, h4, show z15.toInt = z1.toInt by omega]
  refine En_callV rfl rfl rfl rfl rfl rfl rfl rfl tgz_159 (by decide +kernel) rfl (c_306 σ7 h8 z17) (by decide) (by decide) (fun v21 σ22 h20 => ?_)
  obtain ⟨h23, h24, z26, rfl, h25⟩ := h20
  have h27 := Fr_trans h12 h24 (by decide +kernel)
  have h28 := INVc_fr h24 (by decide +kernel) h13
  have h29 := WI_fr h24 (by decide +kernel) (by decide +kernel) h14
  refine En_Ps 2 (pc' := 2236) (lv' := [(0, .retAddr 0), (1, .ref 0), (2, .ref 159), (3, .int y)]) (st' := []) rfl ?_
  have h30 : FUL σ22 := (FUL_kp hR h9 h24 (by decide +kernel) (by decide +kernel) (RDL_fr hR.1 h9 h24 (by decide +kernel) (by decide +kernel)))
  exact k _ h23 h28 h29 ⟨h30, (RUT_fr hQ h9 h24 (by decide +kernel) (by decide +kernel)), (QXS_fr hX h9 h24 (by decide +kernel) (by decide +kernel))⟩
set_option maxRecDepth 10000 in
set_option maxHeartbeats 4000000 in
theorem law_c37 {L : Nat} {xs : Nat → Int32} {P : PO} (hL : L ≤ 3072) (y : Int32) (h0 : 0 ≤ y.toInt) (h1 : y.toInt + 6 ≤ (L : Int)) (σ0 : SG) (hσ0 : WT σ0) (hC : INVc σ0) (hI : WI σ0) (hL : LEA σ0) (k : ∀ σ, WT σ → INVc σ → WI σ → LEA σ → En 2048 84000 (some (L, xs)) mr_336 P 2236 [(0, .retAddr 0), (1, .ref 0), (2, .ref 159), (3, .int y)] [] σ) : En 2048 84000 (some (L, xs)) mr_336 P 1385 [(0, .retAddr 0), (1, .ref 0), (2, .ref 159), (3, .int y)] [] σ0 := by
  obtain ⟨hR, hQ, hX⟩ := hL
  obtain ⟨p, p2, sg, hp, hp2, h_p, h_p2, hne, h_sg, hl_sg⟩ := id hC
  obtain ⟨-, hu_sg⟩ := WT_int hσ0 (g := 18) hp (by decide +kernel) (l := (-1)) (u := 4) (by decide +kernel) h_sg
  have hF0 : Fr [(35, 18), (35, 21), (42, 0), (43, 0), (44, 0), (45, 0), (46, 0)] σ0 σ0 := Fr_rfl
  obtain ⟨t, h_t1, h_t2, -⟩ := id hR.1
  obtain ⟨hl_t, hu_t⟩ := WT_int hσ0 (g := 1) tgz_1 (by decide +kernel) (l := 0) (u := 1600) (by decide +kernel) h_t1
  refine En_Ps 5 (pc' := 1390) (lv' := [(0, .retAddr 0), (1, .ref 0), (2, .ref 159), (3, .int y)]) (st' := [.int ((y + ((Int32.ofInt 1)))), .retAddr 0, .ref 0]) rfl ?_
  refine En_top (addI rfl (by decide : (Int32.ofInt 1).toInt = 1) (by omega) (by omega)) (fun z1 h2 => ?_)
  refine En_sld rfl rfl (by omega) (by omega) (fun z3 h4 => ?_)
  refine En_Ps 4 (pc' := 1395) (lv' := [(0, .retAddr 0), (1, .ref 0), (2, .ref 159), (3, .int y)]) (st' := [.int ((y + ((Int32.ofInt 2)))), .retAddr 0, .int z3, .ref 0]) rfl ?_
  refine En_top (addI rfl (by decide : (Int32.ofInt 2).toInt = 2) (by omega) (by omega)) (fun z5 h6 => ?_)
  refine En_sld rfl rfl (by omega) (by omega) (fun z7 h8 => ?_)
  refine En_callV rfl rfl rfl rfl rfl rfl rfl rfl tgz_0 (by decide +kernel) rfl (c_182 σ0 hσ0 z3 z7 p hp h_p sg h_sg (by omega)) (by decide) (by decide) (fun v10 σ11 h9 => ?_)
  obtain ⟨h12, h13, z15, rfl, h14⟩ := h9
  have h16 := Fr_trans hF0 h13 (by decide +kernel)
  have h17 := INVc_fr h13 (by decide +kernel) hC
  have h18 := WI_fr h13 (by decide +kernel) (by decide +kernel) hI
  refine En_Ps 6 (pc' := 1405) (lv' := [(0, .retAddr 0), (1, .ref 0), (2, .ref 159), (3, .int y)]) (st' := [.int ((y + ((Int32.ofInt 1)))), .retAddr 0, .ref 159]) rfl ?_
  refine En_top (addI rfl (by decide : (Int32.ofInt 1).toInt = 1) (by omega) (by omega)) (fun z19 h20 => ?_)
  refine En_sld rfl rfl (by omega) (by omega) (fun z21 h22 => ?_)
  have h23 : z21.toInt = z3.toInt := by rw [h22, h4, show z19.toInt = z1.toInt by omega]
  refine En_Ps 4 (pc' := 1410) (lv' := [(0, .retAddr 0), (1, .ref 0), (2, .ref 159), (3, .int y)]) (st' := [.int ((y + ((Int32.ofInt 2)))), .retAddr 0, .int z21, .ref 159]) rfl ?_
  refine En_top (addI rfl (by decide : (Int32.ofInt 2).toInt = 2) (by omega) (by omega)) (fun z24 h25 => ?_)
  refine En_sld rfl rfl (by omega) (by omega) (fun z26 h27 => ?_)
  have h28 : z26.toInt = z7.toInt := by rw [h27, h8, show z24.toInt = z5.toInt by omega]
  refine En_callV rfl rfl rfl rfl rfl rfl rfl rfl tgz_159 (by decide +kernel) rfl (c_330 σ11 h12 z21 z26) (by decide) (by decide) (fun v30 σ31 h29 => ?_)
  obtain ⟨h32, h33, z35, rfl, h34⟩ := h29
  have h36 := Fr_trans h16 h33 (by decide +kernel)
  have h37 := INVc_fr h33 (by decide +kernel) h17
  have h38 := WI_fr h33 (by decide +kernel) (by decide +kernel) h18
  refine En_Ps 2 (pc' := 2236) (lv' := [(0, .retAddr 0), (1, .ref 0), (2, .ref 159), (3, .int y)]) (st' := []) rfl ?_
  have h39 : FUL σ31 := (FUL_kp hR h13 h33 (by decide +kernel) (by decide +kernel) (RDL_fr hR.1 h13 h33 (by decide +kernel) (by decide +kernel)))
  exact k _ h32 h37 h38 ⟨h39, (RUT_fr hQ h13 h33 (by decide +kernel) (by decide +kernel)), (QXS_fr hX h13 h33 (by decide +kernel) (by decide +kernel))⟩
set_option maxRecDepth 10000 in
set_option maxHeartbeats 4000000 in
theorem law_c38 {L : Nat} {xs : Nat → Int32} {P : PO} (hL : L ≤ 3072) (y : Int32) (h0 : 0 ≤ y.toInt) (h1 : y.toInt + 6 ≤ (L : Int)) (σ0 : SG) (hσ0 : WT σ0) (hC : INVc σ0) (hI : WI σ0) (hL : LEA σ0) (k : ∀ σ, WT σ → INVc σ → WI σ → LEA σ → En 2048 84000 (some (L, xs)) mr_336 P 2236 [(0, .retAddr 0), (1, .ref 0), (2, .ref 159), (3, .int y)] [] σ) : En 2048 84000 (some (L, xs)) mr_336 P 1418 [(0, .retAddr 0), (1, .ref 0), (2, .ref 159), (3, .int y)] [] σ0 := by
  obtain ⟨hR, hQ, hX⟩ := hL
  obtain ⟨p, p2, sg, hp, hp2, h_p, h_p2, hne, h_sg, hl_sg⟩ := id hC
  obtain ⟨-, hu_sg⟩ := WT_int hσ0 (g := 18) hp (by decide +kernel) (l := (-1)) (u := 4) (by decide +kernel) h_sg
  have hF0 : Fr [(35, 18), (35, 21), (35, 22), (35, 23), (42, 0), (43, 0), (44, 0), (45, 0), (46, 0)] σ0 σ0 := Fr_rfl
  obtain ⟨t, h_t1, h_t2, -⟩ := id hR.1
  obtain ⟨hl_t, hu_t⟩ := WT_int hσ0 (g := 1) tgz_1 (by decide +kernel) (l := 0) (u := 1600) (by decide +kernel) h_t1
  refine En_Ps 5 (pc' := 1423) (lv' := [(0, .retAddr 0), (1, .ref 0), (2, .ref 159), (3, .int y)]) (st' := [.int ((y + ((Int32.ofInt 1)))), .retAddr 0, .ref 0]) rfl ?_
  refine En_top (addI rfl (by decide : (Int32.ofInt 1).toInt = 1) (by omega) (by omega)) (fun z1 h2 => ?_)
  refine En_sld rfl rfl (by omega) (by omega) (fun z3 h4 => ?_)
  refine En_Ps 4 (pc' := 1428) (lv' := [(0, .retAddr 0), (1, .ref 0), (2, .ref 159), (3, .int y)]) (st' := [.int ((y + ((Int32.ofInt 2)))), .retAddr 0, .int z3, .ref 0]) rfl ?_
  refine En_top (addI rfl (by decide : (Int32.ofInt 2).toInt = 2) (by omega) (by omega)) (fun z5 h6 => ?_)
  refine En_sld rfl rfl (by omega) (by omega) (fun z7 h8 => ?_)
  refine En_callV rfl rfl rfl rfl rfl rfl rfl rfl tgz_0 (by decide +kernel) rfl (c_119 σ0 hσ0 z3 z7 p hp h_p sg h_sg (by omega)) (by decide) (by decide) (fun v10 σ11 h9 => ?_)
  obtain ⟨h12, h13, z15, rfl, h14⟩ := h9
  have h16 := Fr_trans hF0 h13 (by decide +kernel)
  have h17 := INVc_fr h13 (by decide +kernel) hC
  have h18 := WI_fr h13 (by decide +kernel) (by decide +kernel) hI
  refine En_Ps 6 (pc' := 1438) (lv' := [(0, .retAddr 0), (1, .ref 0), (2, .ref 159), (3, .int y)]) (st' := [.int ((y + ((Int32.ofInt 1)))), .retAddr 0, .ref 159]) rfl ?_
  refine En_top (addI rfl (by decide : (Int32.ofInt 1).toInt = 1) (by omega) (by omega)) (fun z19 h20 => ?_)
  refine En_sld rfl rfl (by omega) (by omega) (fun z21 h22 => ?_)
  have h23 : z21.toInt = z3.toInt := by rw [h22, h4, show z19.toInt = z1.toInt by omega]
  refine En_Ps 4 (pc' := 1443) (lv' := [(0, .retAddr 0), (1, .ref 0), (2, .ref 159), (3, .int y)]) (st' := [.int ((y + ((Int32.ofInt 2)))), .retAddr 0, .int z21, .ref 159]) rfl ?_
  refine En_top (addI rfl (by decide : (Int32.ofInt 2).toInt = 2) (by omega) (by omega)) (fun z24 h25 => ?_)
  refine En_sld rfl rfl (by omega) (by omega) (fun z26 h27 => ?_)
  have h28 : z26.toInt = z7.toInt := by rw [h27, h8, show z24.toInt = z5.toInt by omega]
  refine En_callV rfl rfl rfl rfl rfl rfl rfl rfl tgz_159 (by decide +kernel) rfl (c_222 σ11 h12 z21 z26) (by decide) (by decide) (fun v30 σ31 h29 => ?_)
  obtain ⟨h32, h33, z35, rfl, h34⟩ := h29
  have h36 := Fr_trans h16 h33 (by decide +kernel)
  have h37 := INVc_fr h33 (by decide +kernel) h17
  have h38 := WI_fr h33 (by decide +kernel) (by decide +kernel) h18
  refine En_Ps 2 (pc' := 2236) (lv' := [(0, .retAddr 0), (1, .ref 0), (2, .ref 159), (3, .int y)]) (st' := []) rfl ?_
  have h39 : FUL σ31 := (FUL_kp hR h13 h33 (by decide +kernel) (by decide +kernel) (RDL_fr hR.1 h13 h33 (by decide +kernel) (by decide +kernel)))
  exact k _ h32 h37 h38 ⟨h39, (RUT_fr hQ h13 h33 (by decide +kernel) (by decide +kernel)), (QXS_fr hX h13 h33 (by decide +kernel) (by decide +kernel))⟩
set_option maxRecDepth 10000 in
set_option maxHeartbeats 4000000 in
theorem law_c39 {L : Nat} {xs : Nat → Int32} {P : PO} (hL : L ≤ 3072) (y : Int32) (h0 : 0 ≤ y.toInt) (h1 : y.toInt + 6 ≤ (L : Int)) (σ0 : SG) (hσ0 : WT σ0) (hC : INVc σ0) (hI : WI σ0) (hL : LEA σ0) (k : ∀ σ, WT σ → INVc σ → WI σ → LEA σ → En 2048 84000 (some (L, xs)) mr_336 P 2236 [(0, .retAddr 0), (1, .ref 0), (2, .ref 159), (3, .int y)] [] σ) : En 2048 84000 (some (L, xs)) mr_336 P 1451 [(0, .retAddr 0), (1, .ref 0), (2, .ref 159), (3, .int y)] [] σ0 := by
  obtain ⟨hR, hQ, hX⟩ := hL
  obtain ⟨p, p2, sg, hp, hp2, h_p, h_p2, hne, h_sg, hl_sg⟩ := id hC
  obtain ⟨-, hu_sg⟩ := WT_int hσ0 (g := 18) hp (by decide +kernel) (l := (-1)) (u := 4) (by decide +kernel) h_sg
  have hF0 : Fr [(35, 18), (35, 21), (35, 22), (35, 23), (42, 0), (43, 0), (44, 0), (45, 0), (46, 0)] σ0 σ0 := Fr_rfl
  obtain ⟨t, h_t1, h_t2, -⟩ := id hR.1
  obtain ⟨hl_t, hu_t⟩ := WT_int hσ0 (g := 1) tgz_1 (by decide +kernel) (l := 0) (u := 1600) (by decide +kernel) h_t1
  refine En_Ps 5 (pc' := 1456) (lv' := [(0, .retAddr 0), (1, .ref 0), (2, .ref 159), (3, .int y)]) (st' := [.int ((y + ((Int32.ofInt 1)))), .retAddr 0, .ref 0]) rfl ?_
  refine En_top (addI rfl (by decide : (Int32.ofInt 1).toInt = 1) (by omega) (by omega)) (fun z1 h2 => ?_)
  refine En_sld rfl rfl (by omega) (by omega) (fun z3 h4 => ?_)
  refine En_Ps 4 (pc' := 1461) (lv' := [(0, .retAddr 0), (1, .ref 0), (2, .ref 159), (3, .int y)]) (st' := [.int ((y + ((Int32.ofInt 2)))), .retAddr 0, .int z3, .ref 0]) rfl ?_
  refine En_top (addI rfl (by decide : (Int32.ofInt 2).toInt = 2) (by omega) (by omega)) (fun z5 h6 => ?_)
  refine En_sld rfl rfl (by omega) (by omega) (fun z7 h8 => ?_)
  refine En_callV rfl rfl rfl rfl rfl rfl rfl rfl tgz_0 (by decide +kernel) rfl (c_150 σ0 hσ0 z3 z7 p hp h_p sg h_sg (by omega)) (by decide) (by decide) (fun v10 σ11 h9 => ?_)
  obtain ⟨h12, h13, z15, rfl, h14⟩ := h9
  have h16 := Fr_trans hF0 h13 (by decide +kernel)
  have h17 := INVc_fr h13 (by decide +kernel) hC
  have h18 := WI_fr h13 (by decide +kernel) (by decide +kernel) hI
  refine En_Ps 6 (pc' := 1471) (lv' := [(0, .retAddr 0), (1, .ref 0), (2, .ref 159), (3, .int y)]) (st' := [.int ((y + ((Int32.ofInt 1)))), .retAddr 0, .ref 159]) rfl ?_
  refine En_top (addI rfl (by decide : (Int32.ofInt 1).toInt = 1) (by omega) (by omega)) (fun z19 h20 => ?_)
  refine En_sld rfl rfl (by omega) (by omega) (fun z21 h22 => ?_)
  have h23 : z21.toInt = z3.toInt := by rw [h22, h4, show z19.toInt = z1.toInt by omega]
  refine En_Ps 4 (pc' := 1476) (lv' := [(0, .retAddr 0), (1, .ref 0), (2, .ref 159), (3, .int y)]) (st' := [.int ((y + ((Int32.ofInt 2)))), .retAddr 0, .int z21, .ref 159]) rfl ?_
  refine En_top (addI rfl (by decide : (Int32.ofInt 2).toInt = 2) (by omega) (by omega)) (fun z24 h25 => ?_)
  refine En_sld rfl rfl (by omega) (by omega) (fun z26 h27 => ?_)
  have h28 : z26.toInt = z7.toInt := by rw [h27, h8, show z24.toInt = z5.toInt by omega]
  refine En_callV rfl rfl rfl rfl rfl rfl rfl rfl tgz_159 (by decide +kernel) rfl (c_276 σ11 h12 z21 z26) (by decide) (by decide) (fun v30 σ31 h29 => ?_)
  obtain ⟨h32, h33, z35, rfl, h34⟩ := h29
  have h36 := Fr_trans h16 h33 (by decide +kernel)
  have h37 := INVc_fr h33 (by decide +kernel) h17
  have h38 := WI_fr h33 (by decide +kernel) (by decide +kernel) h18
  refine En_Ps 2 (pc' := 2236) (lv' := [(0, .retAddr 0), (1, .ref 0), (2, .ref 159), (3, .int y)]) (st' := []) rfl ?_
  have h39 : FUL σ31 := (FUL_kp hR h13 h33 (by decide +kernel) (by decide +kernel) (RDL_fr hR.1 h13 h33 (by decide +kernel) (by decide +kernel)))
  exact k _ h32 h37 h38 ⟨h39, (RUT_fr hQ h13 h33 (by decide +kernel) (by decide +kernel)), (QXS_fr hX h13 h33 (by decide +kernel) (by decide +kernel))⟩
set_option maxRecDepth 10000 in
set_option maxHeartbeats 4000000 in
theorem law_c40 {L : Nat} {xs : Nat → Int32} {P : PO} (hL : L ≤ 3072) (y : Int32) (h0 : 0 ≤ y.toInt) (h1 : y.toInt + 6 ≤ (L : Int)) (σ0 : SG) (hσ0 : WT σ0) (hC : INVc σ0) (hI : WI σ0) (hL : LEA σ0) (k : ∀ σ, WT σ → INVc σ → WI σ → LEA σ → En 2048 84000 (some (L, xs)) mr_336 P 2236 [(0, .retAddr 0), (1, .ref 0), (2, .ref 159), (3, .int y)] [] σ) : En 2048 84000 (some (L, xs)) mr_336 P 1484 [(0, .retAddr 0), (1, .ref 0), (2, .ref 159), (3, .int y)] [] σ0 := by
  obtain ⟨hR, hQ, hX⟩ := hL
  obtain ⟨p, p2, sg, hp, hp2, h_p, h_p2, hne, h_sg, hl_sg⟩ := id hC
  obtain ⟨-, hu_sg⟩ := WT_int hσ0 (g := 18) hp (by decide +kernel) (l := (-1)) (u := 4) (by decide +kernel) h_sg
  have hF0 : Fr [(35, 18), (35, 21), (35, 22), (35, 23), (42, 0), (43, 0), (44, 0), (45, 0), (46, 0)] σ0 σ0 := Fr_rfl
  obtain ⟨t, h_t1, h_t2, -⟩ := id hR.1
  obtain ⟨hl_t, hu_t⟩ := WT_int hσ0 (g := 1) tgz_1 (by decide +kernel) (l := 0) (u := 1600) (by decide +kernel) h_t1
  refine En_Ps 5 (pc' := 1489) (lv' := [(0, .retAddr 0), (1, .ref 0), (2, .ref 159), (3, .int y)]) (st' := [.int ((y + ((Int32.ofInt 1)))), .retAddr 0, .ref 0]) rfl ?_
  refine En_top (addI rfl (by decide : (Int32.ofInt 1).toInt = 1) (by omega) (by omega)) (fun z1 h2 => ?_)
  refine En_sld rfl rfl (by omega) (by omega) (fun z3 h4 => ?_)
  refine En_Ps 4 (pc' := 1494) (lv' := [(0, .retAddr 0), (1, .ref 0), (2, .ref 159), (3, .int y)]) (st' := [.int ((y + ((Int32.ofInt 2)))), .retAddr 0, .int z3, .ref 0]) rfl ?_
  refine En_top (addI rfl (by decide : (Int32.ofInt 2).toInt = 2) (by omega) (by omega)) (fun z5 h6 => ?_)
  refine En_sld rfl rfl (by omega) (by omega) (fun z7 h8 => ?_)
  refine En_callV rfl rfl rfl rfl rfl rfl rfl rfl tgz_0 (by decide +kernel) rfl (c_157 σ0 hσ0 z3 z7 p hp h_p sg h_sg (by omega)) (by decide) (by decide) (fun v10 σ11 h9 => ?_)
  obtain ⟨h12, h13, z15, rfl, h14⟩ := h9
  have h16 := Fr_trans hF0 h13 (by decide +kernel)
  have h17 := INVc_fr h13 (by decide +kernel) hC
  have h18 := WI_fr h13 (by decide +kernel) (by decide +kernel) hI
  refine En_Ps 6 (pc' := 1504) (lv' := [(0, .retAddr 0), (1, .ref 0), (2, .ref 159), (3, .int y)]) (st' := [.int ((y + ((Int32.ofInt 1)))), .retAddr 0, .ref 159]) rfl ?_
  refine En_top (addI rfl (by decide : (Int32.ofInt 1).toInt = 1) (by omega) (by omega)) (fun z19 h20 => ?_)
  refine En_sld rfl rfl (by omega) (by omega) (fun z21 h22 => ?_)
  have h23 : z21.toInt = z3.toInt := by rw [h22, h4, show z19.toInt = z1.toInt by omega]
  refine En_Ps 4 (pc' := 1509) (lv' := [(0, .retAddr 0), (1, .ref 0), (2, .ref 159), (3, .int y)]) (st' := [.int ((y + ((Int32.ofInt 2)))), .retAddr 0, .int z21, .ref 159]) rfl ?_
  refine En_top (addI rfl (by decide : (Int32.ofInt 2).toInt = 2) (by omega) (by omega)) (fun z24 h25 => ?_)
  refine En_sld rfl rfl (by omega) (by omega) (fun z26 h27 => ?_)
  have h28 : z26.toInt = z7.toInt := by rw [h27, h8, show z24.toInt = z5.toInt by omega]
  refine En_callV rfl rfl rfl rfl rfl rfl rfl rfl tgz_159 (by decide +kernel) rfl (c_287 σ11 h12 z21 z26) (by decide) (by decide) (fun v30 σ31 h29 => ?_)
  obtain ⟨h32, h33, z35, rfl, h34⟩ := h29
  have h36 := Fr_trans h16 h33 (by decide +kernel)
  have h37 := INVc_fr h33 (by decide +kernel) h17
  have h38 := WI_fr h33 (by decide +kernel) (by decide +kernel) h18
  refine En_Ps 2 (pc' := 2236) (lv' := [(0, .retAddr 0), (1, .ref 0), (2, .ref 159), (3, .int y)]) (st' := []) rfl ?_
  have h39 : FUL σ31 := (FUL_kp hR h13 h33 (by decide +kernel) (by decide +kernel) (RDL_fr hR.1 h13 h33 (by decide +kernel) (by decide +kernel)))
  exact k _ h32 h37 h38 ⟨h39, (RUT_fr hQ h13 h33 (by decide +kernel) (by decide +kernel)), (QXS_fr hX h13 h33 (by decide +kernel) (by decide +kernel))⟩
set_option maxRecDepth 10000 in
set_option maxHeartbeats 4000000 in
theorem law_c41 {L : Nat} {xs : Nat → Int32} {P : PO} (hL : L ≤ 3072) (y : Int32) (h0 : 0 ≤ y.toInt) (h1 : y.toInt + 6 ≤ (L : Int)) (σ0 : SG) (hσ0 : WT σ0) (hC : INVc σ0) (hI : WI σ0) (hL : LEA σ0) (k : ∀ σ, WT σ → INVc σ → WI σ → LEA σ → En 2048 84000 (some (L, xs)) mr_336 P 2236 [(0, .retAddr 0), (1, .ref 0), (2, .ref 159), (3, .int y)] [] σ) : En 2048 84000 (some (L, xs)) mr_336 P 1517 [(0, .retAddr 0), (1, .ref 0), (2, .ref 159), (3, .int y)] [] σ0 := by
  obtain ⟨hR, hQ, hX⟩ := hL
  obtain ⟨p, p2, sg, hp, hp2, h_p, h_p2, hne, h_sg, hl_sg⟩ := id hC
  obtain ⟨-, hu_sg⟩ := WT_int hσ0 (g := 18) hp (by decide +kernel) (l := (-1)) (u := 4) (by decide +kernel) h_sg
  have hF0 : Fr [(35, 18), (35, 21), (42, 0), (43, 0), (44, 0), (45, 0), (46, 0)] σ0 σ0 := Fr_rfl
  obtain ⟨t, h_t1, h_t2, -⟩ := id hR.1
  obtain ⟨hl_t, hu_t⟩ := WT_int hσ0 (g := 1) tgz_1 (by decide +kernel) (l := 0) (u := 1600) (by decide +kernel) h_t1
  refine En_Ps 5 (pc' := 1522) (lv' := [(0, .retAddr 0), (1, .ref 0), (2, .ref 159), (3, .int y)]) (st' := [.int ((y + ((Int32.ofInt 1)))), .retAddr 0, .ref 0]) rfl ?_
  refine En_top (addI rfl (by decide : (Int32.ofInt 1).toInt = 1) (by omega) (by omega)) (fun z1 h2 => ?_)
  refine En_sld rfl rfl (by omega) (by omega) (fun z3 h4 => ?_)
  refine En_callV rfl rfl rfl rfl rfl rfl rfl rfl tgz_0 (by decide +kernel) rfl (c_168 σ0 hσ0 z3 p hp h_p sg h_sg (by omega)) (by decide) (by decide) (fun v6 σ7 h5 => ?_)
  obtain ⟨h8, h9, z11, rfl, h10⟩ := h5
  have h12 := Fr_trans hF0 h9 (by decide +kernel)
  have h13 := INVc_fr h9 (by decide +kernel) hC
  have h14 := WI_fr h9 (by decide +kernel) (by decide +kernel) hI
  refine En_Ps 6 (pc' := 1532) (lv' := [(0, .retAddr 0), (1, .ref 0), (2, .ref 159), (3, .int y)]) (st' := [.int ((y + ((Int32.ofInt 1)))), .retAddr 0, .ref 159]) rfl ?_
  refine En_top (addI rfl (by decide : (Int32.ofInt 1).toInt = 1) (by omega) (by omega)) (fun z15 h16 => ?_)
  refine En_sld rfl rfl (by omega) (by omega) (fun z17 h18 => ?_)
  have h19 : z17.toInt = z3.toInt := by rw [h18, h4, show z15.toInt = z1.toInt by omega]
  refine En_callV rfl rfl rfl rfl rfl rfl rfl rfl tgz_159 (by decide +kernel) rfl (c_311 σ7 h8 z17) (by decide) (by decide) (fun v21 σ22 h20 => ?_)
  obtain ⟨h23, h24, z26, rfl, h25⟩ := h20
  have h27 := Fr_trans h12 h24 (by decide +kernel)
  have h28 := INVc_fr h24 (by decide +kernel) h13
  have h29 := WI_fr h24 (by decide +kernel) (by decide +kernel) h14
  refine En_Ps 2 (pc' := 2236) (lv' := [(0, .retAddr 0), (1, .ref 0), (2, .ref 159), (3, .int y)]) (st' := []) rfl ?_
  have h30 : FUL σ22 := (FUL_kp hR h9 h24 (by decide +kernel) (by decide +kernel) (RDL_fr hR.1 h9 h24 (by decide +kernel) (by decide +kernel)))
  exact k _ h23 h28 h29 ⟨h30, (RUT_fr hQ h9 h24 (by decide +kernel) (by decide +kernel)), (QXS_fr hX h9 h24 (by decide +kernel) (by decide +kernel))⟩

