/-- DoorSchool$Plan.clear()V -/
abbrev P_42x (σ0 : SG) (s : Nat) : PO := fun v σ => WT σ ∧ Fr [(18, 0), (18, 1), (18, 2), (18, 3), (18, 6), (18, 7), (18, 8), (18, 11), (18, 14), (20, 2), (26, 0)] σ0 σ ∧ ∃ l0 : Int32, (σ s)[0]? = some (.int l0) ∧ ∃ g0 : Int32, (σ s)[1]? = some (.int g0) ∧ v = none ∧ -l0.toInt ≤ 0 ∧ l0.toInt ≤ 0 ∧ -g0.toInt ≤ 0 ∧ g0.toInt ≤ 0 ∧ l0.toInt ≤ 0 ∧ -l0.toInt ≤ 0 ∧ g0.toInt ≤ 0 ∧ -g0.toInt ≤ 0 ∧ OTH s σ0 σ
set_option maxRecDepth 10000 in
set_option maxHeartbeats 4000000 in
theorem c_42x (σ0 : SG) (hσ0 : WT σ0) (s : Nat) (hs : TG s = 18) : En 1 23 none mr_42 (P_42x σ0 s) 0 [(0, .ref s)] [] σ0 := by
  have hF0 : Fr [(18, 0), (18, 1), (18, 2), (18, 3), (18, 6), (18, 7), (18, 8), (18, 11), (18, 14), (20, 2), (26, 0)] σ0 σ0 := Fr_rfl
  refine En_Ps 2 (pc' := 2) (lv' := [(0, .ref s)]) (st' := [.int ((Int32.ofInt 0)), .ref s]) rfl ?_
  refine En_put (j := 0) rfl rfl rfl hs (by decide +kernel) rfl (vI (l := 0) (u := 1601) (by decide +kernel) (by decide : (Int32.ofInt 0).toInt = 0) (by omega) (by omega)) hσ0 hF0 (by decide +kernel) (fun σ1 h2 h3 h4 h5 => ?_)
  have h6 := OTH_pj (OTH_0 (a := s) (σ := σ0)) h5 (by decide)
  refine En_Ps 2 (pc' := 7) (lv' := [(0, .ref s)]) (st' := [.int ((Int32.ofInt 0)), .ref s]) rfl ?_
  refine En_put (j := 1) rfl rfl rfl hs (by decide +kernel) rfl (vI (l := (-1)) (u := 4) (by decide +kernel) (by decide : (Int32.ofInt 0).toInt = 0) (by omega) (by omega)) h2 h3 (by decide +kernel) (fun σ7 h8 h9 h10 h11 => ?_)
  have h12 := OTH_pt h6 h11
  refine En_Ps 2 (pc' := 12) (lv' := [(0, .ref s)]) (st' := [.int ((Int32.ofInt 0)), .ref s]) rfl ?_
  refine En_put (j := 2) rfl rfl rfl hs (by decide +kernel) rfl (vI (l := (-1)) (u := 3) (by decide +kernel) (by decide : (Int32.ofInt 0).toInt = 0) (by omega) (by omega)) h8 h9 (by decide +kernel) (fun σ13 h14 h15 h16 h17 => ?_)
  have h18 := OTH_pj h12 h17 (by decide)
  refine En_Ps 2 (pc' := 17) (lv' := [(0, .ref s)]) (st' := [.int ((Int32.ofInt 0)), .ref s]) rfl ?_
  refine En_put (j := 3) rfl rfl rfl hs (by decide +kernel) rfl (vI (l := 0) (u := 4) (by decide +kernel) (by decide : (Int32.ofInt 0).toInt = 0) (by omega) (by omega)) h14 h15 (by decide +kernel) (fun σ19 h20 h21 h22 h23 => ?_)
  have h24 := OTH_pj h18 h23 (by decide)
  refine En_Ps 1 (pc' := 21) (lv' := [(0, .ref s)]) (st' := [.ref s]) rfl ?_
  refine En_getR (j := 5) (g' := 20) (u := 0) rfl rfl rfl hs (by decide +kernel) h20 (by decide +kernel) (fun a26 h25 ha26 => ?_)
  refine En_Ps 1 (pc' := 25) (lv' := [(0, .ref s)]) (st' := [.int ((Int32.ofInt 0)), .ref a26]) rfl ?_
  refine En_put (j := 2) rfl rfl rfl ha26 (by decide +kernel) rfl (vI (l := 0) (u := 13) (by decide +kernel) (by decide : (Int32.ofInt 0).toInt = 0) (by omega) (by omega)) h20 h21 (by decide +kernel) (fun σ27 h28 h29 h30 h31 => ?_)
  have h32 := OTH_pn h24 h31 ha26 (by decide)
  refine En_Ps 2 (pc' := 30) (lv' := [(0, .ref s)]) (st' := [.int ((Int32.ofInt 0)), .ref s]) rfl ?_
  refine En_put (j := 6) rfl rfl rfl hs (by decide +kernel) rfl (vI (l := 0) (u := 15) (by decide +kernel) (by decide : (Int32.ofInt 0).toInt = 0) (by omega) (by omega)) h28 h29 (by decide +kernel) (fun σ33 h34 h35 h36 h37 => ?_)
  have h38 := OTH_pj h32 h37 (by decide)
  refine En_Ps 2 (pc' := 35) (lv' := [(0, .ref s)]) (st' := [.int ((Int32.ofInt 0)), .ref s]) rfl ?_
  refine En_put (j := 7) rfl rfl rfl hs (by decide +kernel) rfl (vI (l := 0) (u := 15) (by decide +kernel) (by decide : (Int32.ofInt 0).toInt = 0) (by omega) (by omega)) h34 h35 (by decide +kernel) (fun σ39 h40 h41 h42 h43 => ?_)
  have h44 := OTH_pj h38 h43 (by decide)
  refine En_Ps 2 (pc' := 40) (lv' := [(0, .ref s)]) (st' := [.int ((Int32.ofInt 0)), .ref s]) rfl ?_
  refine En_put (j := 8) rfl rfl rfl hs (by decide +kernel) rfl (vI (l := 0) (u := 4) (by decide +kernel) (by decide : (Int32.ofInt 0).toInt = 0) (by omega) (by omega)) h40 h41 (by decide +kernel) (fun σ45 h46 h47 h48 h49 => ?_)
  have h50 := OTH_pj h44 h49 (by decide)
  refine En_Ps 2 (pc' := 45) (lv' := [(0, .ref s)]) (st' := [.int ((Int32.ofInt 0)), .ref s]) rfl ?_
  refine En_put (j := 11) rfl rfl rfl hs (by decide +kernel) rfl (vI (l := 0) (u := 6) (by decide +kernel) (by decide : (Int32.ofInt 0).toInt = 0) (by omega) (by omega)) h46 h47 (by decide +kernel) (fun σ51 h52 h53 h54 h55 => ?_)
  have h56 := OTH_pj h50 h55 (by decide)
  refine En_Ps 1 (pc' := 49) (lv' := [(0, .ref s)]) (st' := [.ref s]) rfl ?_
  refine En_getR (j := 13) (g' := 26) (u := 0) rfl rfl rfl hs (by decide +kernel) h52 (by decide +kernel) (fun a58 h57 ha58 => ?_)
  refine En_Ps 1 (pc' := 53) (lv' := [(0, .ref s)]) (st' := [.int ((Int32.ofInt 0)), .ref a58]) rfl ?_
  have := (by decide : ((Int32.ofInt 0)).toInt = 0)
  refine En_callS rfl rfl rfl rfl rfl rfl rfl rfl rfl (c_8a σ51 h52 a58 ha58 ((Int32.ofInt 0)) (geI (by decide : (Int32.ofInt 0).toInt = 0) (by omega)) (leI (by decide : (Int32.ofInt 0).toInt = 0) (by omega))) (by decide) (by decide) (fun v60 σ61 h59 => ?_)
  obtain ⟨h62, h63, rfl, h64⟩ := h59
  have h65 := Fr_trans h53 h63 (by decide +kernel)
  have h66 := OTH_fr h56 h63 (by decide +kernel)
  refine En_Ps 2 (pc' := 58) (lv' := [(0, .ref s)]) (st' := [.int ((Int32.ofInt 0)), .ref s]) rfl ?_
  refine En_put (j := 14) rfl rfl rfl hs (by decide +kernel) rfl (vI (l := 0) (u := 60) (by decide +kernel) (by decide : (Int32.ofInt 0).toInt = 0) (by omega) (by omega)) h62 h65 (by decide +kernel) (fun σ67 h68 h69 h70 h71 => ?_)
  have h72 := OTH_pj h66 h71 (by decide)
  have := (by decide : (Int32.ofInt 0).toInt = 0)
  have := (by decide : (Int32.ofInt 0).toInt = 0)
  exact En_ret (v := none) rfl rfl rfl ⟨h68, h69, (Int32.ofInt 0), ((h71 _ _ (Or.inr (by decide))).trans ((h63 _ _ (inW hs (by decide +kernel))).trans ((h55 _ _ (Or.inr (by decide))).trans ((h49 _ _ (Or.inr (by decide))).trans ((h43 _ _ (Or.inr (by decide))).trans ((h37 _ _ (Or.inr (by decide))).trans ((h31 _ _ (Or.inr (by decide))).trans ((h23 _ _ (Or.inr (by decide))).trans ((h17 _ _ (Or.inr (by decide))).trans ((h11 _ _ (Or.inr (by decide))).trans h4)))))))))), (Int32.ofInt 0), ((h71 _ _ (Or.inr (by decide))).trans ((h63 _ _ (inW hs (by decide +kernel))).trans ((h55 _ _ (Or.inr (by decide))).trans ((h49 _ _ (Or.inr (by decide))).trans ((h43 _ _ (Or.inr (by decide))).trans ((h37 _ _ (Or.inr (by decide))).trans ((h31 _ _ (Or.inr (by decide))).trans ((h23 _ _ (Or.inr (by decide))).trans ((h17 _ _ (Or.inr (by decide))).trans h10))))))))), rfl, ⟨by omega, by omega, by omega, by omega, by omega, by omega, by omega, by omega, h72⟩⟩
/-- DoorSchool$Reader.readFirst(LDoorSchool$Plan;)V -/
abbrev P_65x (σ0 : SG) (a : Nat) (f : Int32) : PO := fun v σ => WT σ ∧ Fr [(3, 1), (3, 2), (3, 3), (3, 4), (3, 5), (3, 6), (18, 1), (18, 2)] σ0 σ ∧ ∃ f1 : Int32, (σ 3)[5]? = some (.int f1) ∧ ∃ sg1 : Int32, (σ a)[1]? = some (.int sg1) ∧ v = none ∧ -f1.toInt ≤ 0 ∧ f1.toInt - 3 ≤ 0 ∧ -f1.toInt + f.toInt ≤ 0 ∧ f1.toInt - f.toInt - 3 ≤ 0 ∧ -sg1.toInt - 1 ≤ 0 ∧ sg1.toInt - 4 ≤ 0 ∧ -sg1.toInt + f.toInt - 4 ≤ 0 ∧ sg1.toInt - f.toInt - 4 ≤ 0 ∧ f.toInt - f1.toInt ≤ 0 ∧ -sg1.toInt - f1.toInt ≤ 0 ∧ OTH a σ0 σ
set_option maxRecDepth 10000 in
set_option maxHeartbeats 4000000 in
theorem c_65x (σ0 : SG) (hσ0 : WT σ0) (a : Nat) (ha : TG a = 18) (f : Int32) (h_f : (σ0 3)[5]? = some (.int f)) : En 5 112 none mr_65 (P_65x σ0 a f) 0 [(0, .ref 3), (1, .ref a)] [] σ0 := by
  obtain ⟨hl_f, hu_f⟩ := WT_int hσ0 (g := 3) (by decide +kernel) (by decide +kernel) (l := 0) (u := 3) (by decide +kernel) h_f
  have hF0 : Fr [(3, 1), (3, 2), (3, 3), (3, 4), (3, 5), (3, 6), (18, 1), (18, 2)] σ0 σ0 := Fr_rfl
  refine En_Ps 2 (pc' := 2) (lv' := [(0, .ref 3), (1, .ref a)]) (st' := [.ref 3, .ref 3]) rfl ?_
  refine En_ldcS (i := 10) rfl rfl rfl ?_
  refine En_callV rfl rfl rfl rfl rfl rfl rfl rfl (by decide +kernel : TG 3 = 3) (by decide +kernel) rfl (c_71s10 σ0 hσ0) (by decide) (by decide) (fun v2 σ3 h1 => ?_)
  obtain ⟨h4, h5, z7, rfl, h6⟩ := h1
  have h8 := Fr_trans hF0 h5 (by decide +kernel)
  have h9 := OTH_fr (OTH_0 (a := a) (σ := σ0)) h5 (by decide +kernel)
  refine En_callV rfl rfl rfl rfl rfl rfl rfl rfl (by decide +kernel : TG 3 = 3) (by decide +kernel) rfl (c_59 σ3 h4 z7 (geI rfl (by omega)) (leI rfl (by omega)) f ((h5 _ _ (inW (by decide +kernel : TG 3 = 3) (by decide +kernel))).trans h_f)) (by decide) (by decide) (fun v11 σ12 h10 => ?_)
  obtain ⟨h13, h14, z16, h17, rfl, h15⟩ := h10
  have h18 := Fr_trans h8 h14 (by decide +kernel)
  have h19 := OTH_fr h9 h14 (by decide +kernel)
  refine En_Ps 2 (pc' := 12) (lv' := [(0, .ref 3), (1, .ref a)]) (st' := [.ref 3, .ref 3]) rfl ?_
  refine En_ldcS (i := 13) rfl rfl rfl ?_
  refine En_callV rfl rfl rfl rfl rfl rfl rfl rfl (by decide +kernel : TG 3 = 3) (by decide +kernel) rfl (c_71s13 σ12 h13) (by decide) (by decide) (fun v21 σ22 h20 => ?_)
  obtain ⟨h23, h24, z26, rfl, h25⟩ := h20
  have h27 := Fr_trans h18 h24 (by decide +kernel)
  have h28 := OTH_fr h19 h24 (by decide +kernel)
  refine En_callV rfl rfl rfl rfl rfl rfl rfl rfl (by decide +kernel : TG 3 = 3) (by decide +kernel) rfl (c_59 σ22 h23 z26 (geI rfl (by omega)) (leI rfl (by omega)) z16 ((h24 _ _ (inW (by decide +kernel : TG 3 = 3) (by decide +kernel))).trans h17)) (by decide) (by decide) (fun v30 σ31 h29 => ?_)
  obtain ⟨h32, h33, z35, h36, rfl, h34⟩ := h29
  have h37 := Fr_trans h27 h33 (by decide +kernel)
  have h38 := OTH_fr h28 h33 (by decide +kernel)
  refine En_Ps 4 (pc' := 24) (lv' := [(0, .ref 3), (1, .ref a)]) (st' := [.int ((Int32.ofInt 4)), .int ((Int32.ofInt 2)), .ref 3, .ref a]) rfl ?_
  have := (by decide : ((Int32.ofInt 2)).toInt = 2)
  have := (by decide : ((Int32.ofInt 4)).toInt = 4)
  refine En_callV rfl rfl rfl rfl rfl rfl rfl rfl (by decide +kernel : TG 3 = 3) (by decide +kernel) rfl (c_73 σ31 h32 ((Int32.ofInt 2)) ((Int32.ofInt 4)) z35 h36) (by decide) (by decide) (fun v40 σ41 h39 => ?_)
  obtain ⟨h42, h43, z45, h46, z47, rfl, h44⟩ := h39
  have h48 := Fr_trans h37 h43 (by decide +kernel)
  have h49 := OTH_fr h38 h43 (by decide +kernel)
  refine En_put (j := 1) rfl rfl rfl ha (by decide +kernel) rfl (vI (l := (-1)) (u := 4) (by decide +kernel) rfl (by omega) (by omega)) h42 h48 (by decide +kernel) (fun σ50 h51 h52 h53 h54 => ?_)
  have h55 := OTH_pt h49 h54
  refine En_Ps 2 (pc' := 32) (lv' := [(0, .ref 3), (1, .ref a)]) (st' := [.ref 3, .ref 3]) rfl ?_
  refine En_ldcS (i := 16) rfl rfl rfl ?_
  refine En_callV rfl rfl rfl rfl rfl rfl rfl rfl (by decide +kernel : TG 3 = 3) (by decide +kernel) rfl (c_71s16 σ50 h51) (by decide) (by decide) (fun v57 σ58 h56 => ?_)
  obtain ⟨h59, h60, z62, rfl, h61⟩ := h56
  have h63 := Fr_trans h52 h60 (by decide +kernel)
  have h64 := OTH_fr h55 h60 (by decide +kernel)
  refine En_callV rfl rfl rfl rfl rfl rfl rfl rfl (by decide +kernel : TG 3 = 3) (by decide +kernel) rfl (c_59 σ58 h59 z62 (geI rfl (by omega)) (leI rfl (by omega)) z45 ((h60 _ _ (inW (by decide +kernel : TG 3 = 3) (by decide +kernel))).trans ((h54 _ _ (Or.inr (by decide))).trans h46))) (by decide) (by decide) (fun v66 σ67 h65 => ?_)
  obtain ⟨h68, h69, z71, h72, rfl, h70⟩ := h65
  have h73 := Fr_trans h63 h69 (by decide +kernel)
  have h74 := OTH_fr h64 h69 (by decide +kernel)
  refine En_Ps 4 (pc' := 44) (lv' := [(0, .ref 3), (1, .ref a)]) (st' := [.int ((Int32.ofInt 3)), .int ((Int32.ofInt 1)), .ref 3, .ref a]) rfl ?_
  have := (by decide : ((Int32.ofInt 1)).toInt = 1)
  have := (by decide : ((Int32.ofInt 3)).toInt = 3)
  refine En_callV rfl rfl rfl rfl rfl rfl rfl rfl (by decide +kernel : TG 3 = 3) (by decide +kernel) rfl (c_73 σ67 h68 ((Int32.ofInt 1)) ((Int32.ofInt 3)) z71 h72) (by decide) (by decide) (fun v76 σ77 h75 => ?_)
  obtain ⟨h78, h79, z81, h82, z83, rfl, h80⟩ := h75
  have h84 := Fr_trans h73 h79 (by decide +kernel)
  have h85 := OTH_fr h74 h79 (by decide +kernel)
  refine En_put (j := 2) rfl rfl rfl ha (by decide +kernel) rfl (vI (l := (-1)) (u := 3) (by decide +kernel) rfl (by omega) (by omega)) h78 h84 (by decide +kernel) (fun σ86 h87 h88 h89 h90 => ?_)
  have h91 := OTH_pj h85 h90 (by decide)
  exact En_ret (v := none) rfl rfl rfl ⟨h87, h88, z81, ((h90 _ _ (Or.inr (by decide))).trans h82), z47, ((h90 _ _ (Or.inr (by decide))).trans ((h79 _ _ (inW ha (by decide +kernel))).trans ((h69 _ _ (inW ha (by decide +kernel))).trans ((h60 _ _ (inW ha (by decide +kernel))).trans h53)))), rfl, ⟨by omega, by omega, by omega, by omega, by omega, by omega, by omega, by omega, by omega, by omega, h91⟩⟩
/-- DoorSchool$Reader.read(LDoorSchool$Plan;)V -/
abbrev P_60x (σ0 : SG) (a : Nat) : PO := fun v σ => WT σ ∧ Fr [(3, 1), (3, 2), (3, 3), (3, 4), (3, 5), (3, 6), (18, 0), (18, 1), (18, 2), (18, 3), (18, 6), (18, 7), (18, 8), (18, 11), (18, 14), (20, 2), (21, 0), (22, 0), (23, 0), (24, 0), (25, 0), (26, 0), (28, 1), (28, 2), (28, 3)] σ0 σ ∧ ∃ f1 : Int32, (σ 3)[5]? = some (.int f1) ∧ ∃ sg1 : Int32, (σ a)[1]? = some (.int sg1) ∧ v = none ∧ -f1.toInt ≤ 0 ∧ f1.toInt - 3 ≤ 0 ∧ -sg1.toInt - 1 ≤ 0 ∧ sg1.toInt - 4 ≤ 0 ∧ -sg1.toInt - f1.toInt ≤ 0 ∧ OTH a σ0 σ
set_option maxRecDepth 10000 in
set_option maxHeartbeats 4000000 in
theorem c_60x (σ0 : SG) (hσ0 : WT σ0) (a : Nat) (ha : TG a = 18) : En 7 159 none mr_60 (P_60x σ0 a) 0 [(0, .ref 3), (1, .ref a)] [] σ0 := by
  have hF0 : Fr [(3, 1), (3, 2), (3, 3), (3, 4), (3, 5), (3, 6), (18, 0), (18, 1), (18, 2), (18, 3), (18, 6), (18, 7), (18, 8), (18, 11), (18, 14), (20, 2), (21, 0), (22, 0), (23, 0), (24, 0), (25, 0), (26, 0), (28, 1), (28, 2), (28, 3)] σ0 σ0 := Fr_rfl
  refine En_Ps 2 (pc' := 2) (lv' := [(0, .ref 3), (1, .ref a)]) (st' := [.int ((Int32.ofInt 0)), .ref 3]) rfl ?_
  refine En_put (j := 5) rfl rfl rfl (by decide +kernel : TG 3 = 3) (by decide +kernel) rfl (vI (l := 0) (u := 3) (by decide +kernel) (by decide : (Int32.ofInt 0).toInt = 0) (by omega) (by omega)) hσ0 hF0 (by decide +kernel) (fun σ1 h2 h3 h4 h5 => ?_)
  have h6 := OTH_pn (OTH_0 (a := a) (σ := σ0)) h5 (by decide +kernel : TG 3 = 3) (by decide)
  refine En_Ps 2 (pc' := 7) (lv' := [(0, .ref 3), (1, .ref a)]) (st' := [.int ((Int32.ofInt (-1))), .ref 3]) rfl ?_
  refine En_put (j := 6) rfl rfl rfl (by decide +kernel : TG 3 = 3) (by decide +kernel) rfl (vI (l := (-1)) (u := 1600) (by decide +kernel) (by decide : (Int32.ofInt (-1)).toInt = -1) (by omega) (by omega)) h2 h3 (by decide +kernel) (fun σ7 h8 h9 h10 h11 => ?_)
  have h12 := OTH_pn h6 h11 (by decide +kernel : TG 3 = 3) (by decide)
  refine En_Ps 2 (pc' := 12) (lv' := [(0, .ref 3), (1, .ref a)]) (st' := [.int ((Int32.ofInt 0)), .ref 3]) rfl ?_
  refine En_put (j := 3) rfl rfl rfl (by decide +kernel : TG 3 = 3) (by decide +kernel) rfl (vI (l := 0) (u := 1600) (by decide +kernel) (by decide : (Int32.ofInt 0).toInt = 0) (by omega) (by omega)) h8 h9 (by decide +kernel) (fun σ13 h14 h15 h16 h17 => ?_)
  have h18 := OTH_pn h12 h17 (by decide +kernel : TG 3 = 3) (by decide)
  refine En_Ps 1 (pc' := 16) (lv' := [(0, .ref 3), (1, .ref a)]) (st' := [.ref a]) rfl ?_
  refine En_callV rfl rfl rfl rfl rfl rfl rfl rfl ha (by decide +kernel) rfl (c_42x σ13 h14 a ha) (by decide) (by decide) (fun v20 σ21 h19 => ?_)
  obtain ⟨h22, h23, z25, h26, z27, h28, rfl, h24⟩ := h19
  have h29 := h24.2.2.2.2.2.2.2.2
  have h30 := Fr_trans h15 h23 (by decide +kernel)
  have h31 := OTH_tr h18 h29
  refine En_Ps 1 (pc' := 20) (lv' := [(0, .ref 3), (1, .ref a)]) (st' := [.ref 3]) rfl ?_
  refine En_callV rfl rfl rfl rfl rfl rfl rfl rfl (by decide +kernel : TG 3 = 3) (by decide +kernel) rfl (c_72 σ21 h22) (by decide) (by decide) (fun v33 σ34 h32 => ?_)
  obtain ⟨h35, h36, rfl, h37⟩ := h32
  have h38 := Fr_trans h30 h36 (by decide +kernel)
  have h39 := OTH_fr h31 h36 (by decide +kernel)
  refine En_Ps 2 (pc' := 25) (lv' := [(2, .int ((Int32.ofInt 0))), (0, .ref 3), (1, .ref a)]) (st' := []) rfl ?_
  have key25 : ∀ (n25 : Nat) (σ44 : SG) (y40 : Int32) (y41 : Int32) (y42 : Int32) (y43 : Int32), WT σ44 → Fr [(3, 1), (3, 2), (3, 3), (3, 4), (3, 5), (3, 6), (18, 0), (18, 1), (18, 2), (18, 3), (18, 6), (18, 7), (18, 8), (18, 11), (18, 14), (20, 2), (21, 0), (22, 0), (23, 0), (24, 0), (25, 0), (26, 0), (28, 1), (28, 2), (28, 3)] σ0 σ44 → (σ44 3)[5]? = some (.int y41) → (σ44 a)[0]? = some (.int y42) → (σ44 a)[1]? = some (.int y43) → 0 ≤ y40.toInt → y40.toInt ≤ 1601 → 0 ≤ y41.toInt → y41.toInt ≤ 3 → 0 ≤ y42.toInt → y42.toInt ≤ 1601 → (-1) ≤ y43.toInt → y43.toInt ≤ 4 → -y43.toInt - y41.toInt ≤ 0 → -y43.toInt - y42.toInt ≤ 0 → y40.toInt - y42.toInt + z25.toInt ≤ 0 → -z25.toInt - y40.toInt + y42.toInt ≤ 0 → -y40.toInt + 1601 < (n25 : Int) → OTH a σ0 σ44 → En 7 159 none mr_60 (P_60x σ0 a) 25 [(0, .ref 3), (1, .ref a), (2, .int y40)] [] σ44 := by
    intro n25
    induction n25 with
    | zero =>
      intro σ44 y40 y41 y42 y43 h45 h46 h47 h48 h49 h50 h51 h52 h53 h54 h55 h56 h57 h58 h59 h60 h61 h62 h63
      exfalso; omega
    | succ n25 ih25 =>
      intro σ44 y40 y41 y42 y43 h45 h46 h47 h48 h49 h50 h51 h52 h53 h54 h55 h56 h57 h58 h59 h60 h61 h62 h63
      refine En_Ps 2 (pc' := 29) (lv' := [(0, .ref 3), (1, .ref a), (2, .int y40)]) (st' := [.int (((Int16.ofInt 1600).toInt32)), .int y40]) rfl ?_
      refine En_icGt _ rfl (by decide : ((Int16.ofInt 1600).toInt32).toInt = 1600) rfl (fun h64 => ?_) (fun h64 => ?_)
      · exact En_ret (v := none) rfl rfl rfl ⟨h45, h46, y41, h47, y43, h49, rfl, ⟨by omega, by omega, by omega, by omega, by omega, h63⟩⟩
      · refine En_Ps 1 (pc' := 33) (lv' := [(0, .ref 3), (1, .ref a), (2, .int y40)]) (st' := [.ref 3]) rfl ?_
        refine En_getI (j := 1) (l := 0) (u := 4) rfl rfl rfl (by decide +kernel : TG 3 = 3) (by decide +kernel) h45 (by decide +kernel) (fun z66 h65 h67 h68 => ?_)
        refine En_iEq _ rfl rfl (fun h69 => ?_) (fun h69 => ?_)
        · exact En_ret (v := none) rfl rfl rfl ⟨h45, h46, y41, h47, y43, h49, rfl, ⟨by omega, by omega, by omega, by omega, by omega, h63⟩⟩
        · refine En_Ps 1 (pc' := 40) (lv' := [(0, .ref 3), (1, .ref a), (2, .int y40)]) (st' := [.ref 3]) rfl ?_
          refine En_getK (j := 5) h47 rfl rfl rfl (by decide +kernel : TG 3 = 3) (by decide +kernel) ?_
          refine En_iNe _ rfl rfl (fun h70 => ?_) (fun h70 => ?_)
          · exact En_ret (v := none) rfl rfl rfl ⟨h45, h46, y41, h47, y43, h49, rfl, ⟨by omega, by omega, by omega, by omega, by omega, h63⟩⟩
          · refine En_Ps 1 (pc' := 47) (lv' := [(0, .ref 3), (1, .ref a), (2, .int y40)]) (st' := [.int y40]) rfl ?_
            refine En_iNe _ rfl rfl (fun h71 => ?_) (fun h71 => ?_)
            · refine En_Ps 1 (pc' := 59) (lv' := [(0, .ref 3), (1, .ref a), (2, .int y40)]) (st' := [.ref 3]) rfl ?_
              refine En_ldcS (i := 2) rfl rfl rfl ?_
              refine En_callV rfl rfl rfl rfl rfl rfl rfl rfl (by decide +kernel : TG 3 = 3) (by decide +kernel) rfl (c_71s2 σ44 h45) (by decide) (by decide) (fun v73 σ74 h72 => ?_)
              obtain ⟨h75, h76, z78, rfl, h77⟩ := h72
              have h79 := Fr_trans h46 h76 (by decide +kernel)
              have h80 := OTH_fr h63 h76 (by decide +kernel)
              refine En_iEq _ rfl rfl (fun h81 => ?_) (fun h81 => ?_)
              · refine En_Ps 1 (pc' := 76) (lv' := [(0, .ref 3), (1, .ref a), (2, .int y40)]) (st' := [.ref 3]) rfl ?_
                refine En_ldcS (i := 6) rfl rfl rfl ?_
                refine En_callV rfl rfl rfl rfl rfl rfl rfl rfl (by decide +kernel : TG 3 = 3) (by decide +kernel) rfl (c_71s6 σ74 h75) (by decide) (by decide) (fun v83 σ84 h82 => ?_)
                obtain ⟨h85, h86, z88, rfl, h87⟩ := h82
                have h89 := Fr_trans h79 h86 (by decide +kernel)
                have h90 := OTH_fr h80 h86 (by decide +kernel)
                refine En_iEq _ rfl rfl (fun h91 => ?_) (fun h91 => ?_)
                · refine En_Ps 1 (pc' := 93) (lv' := [(0, .ref 3), (1, .ref a), (2, .int y40)]) (st' := [.ref 3]) rfl ?_
                  refine En_ldcS (i := 3) rfl rfl rfl ?_
                  refine En_callV rfl rfl rfl rfl rfl rfl rfl rfl (by decide +kernel : TG 3 = 3) (by decide +kernel) rfl (c_71s3 σ84 h85) (by decide) (by decide) (fun v93 σ94 h92 => ?_)
                  obtain ⟨h95, h96, z98, rfl, h97⟩ := h92
                  have h99 := Fr_trans h89 h96 (by decide +kernel)
                  have h100 := OTH_fr h90 h96 (by decide +kernel)
                  refine En_iEq _ rfl rfl (fun h101 => ?_) (fun h101 => ?_)
                  · refine En_Ps 1 (pc' := 110) (lv' := [(0, .ref 3), (1, .ref a), (2, .int y40)]) (st' := [.ref 3]) rfl ?_
                    refine En_ldcS (i := 17) rfl rfl rfl ?_
                    refine En_callV rfl rfl rfl rfl rfl rfl rfl rfl (by decide +kernel : TG 3 = 3) (by decide +kernel) rfl (c_71s17 σ94 h95) (by decide) (by decide) (fun v103 σ104 h102 => ?_)
                    obtain ⟨h105, h106, z108, rfl, h107⟩ := h102
                    have h109 := Fr_trans h99 h106 (by decide +kernel)
                    have h110 := OTH_fr h100 h106 (by decide +kernel)
                    refine En_iEq _ rfl rfl (fun h111 => ?_) (fun h111 => ?_)
                    · refine En_Ps 1 (pc' := 127) (lv' := [(0, .ref 3), (1, .ref a), (2, .int y40)]) (st' := [.ref 3]) rfl ?_
                      refine En_ldcS (i := 9) rfl rfl rfl ?_
                      refine En_callV rfl rfl rfl rfl rfl rfl rfl rfl (by decide +kernel : TG 3 = 3) (by decide +kernel) rfl (c_71s9 σ104 h105) (by decide) (by decide) (fun v113 σ114 h112 => ?_)
                      obtain ⟨h115, h116, z118, rfl, h117⟩ := h112
                      have h119 := Fr_trans h109 h116 (by decide +kernel)
                      have h120 := OTH_fr h110 h116 (by decide +kernel)
                      refine En_iEq _ rfl rfl (fun h121 => ?_) (fun h121 => ?_)
                      · refine En_Ps 1 (pc' := 144) (lv' := [(0, .ref 3), (1, .ref a), (2, .int y40)]) (st' := [.ref 3]) rfl ?_
                        refine En_ldcS (i := 5) rfl rfl rfl ?_
                        refine En_callV rfl rfl rfl rfl rfl rfl rfl rfl (by decide +kernel : TG 3 = 3) (by decide +kernel) rfl (c_71s5 σ114 h115) (by decide) (by decide) (fun v123 σ124 h122 => ?_)
                        obtain ⟨h125, h126, z128, rfl, h127⟩ := h122
                        have h129 := Fr_trans h119 h126 (by decide +kernel)
                        have h130 := OTH_fr h120 h126 (by decide +kernel)
                        refine En_iEq _ rfl rfl (fun h131 => ?_) (fun h131 => ?_)
                        · refine En_Ps 1 (pc' := 161) (lv' := [(0, .ref 3), (1, .ref a), (2, .int y40)]) (st' := [.ref 3]) rfl ?_
                          refine En_ldcS (i := 1) rfl rfl rfl ?_
                          refine En_callV rfl rfl rfl rfl rfl rfl rfl rfl (by decide +kernel : TG 3 = 3) (by decide +kernel) rfl (c_71s1 σ124 h125) (by decide) (by decide) (fun v133 σ134 h132 => ?_)
                          obtain ⟨h135, h136, z138, rfl, h137⟩ := h132
                          have h139 := Fr_trans h129 h136 (by decide +kernel)
                          have h140 := OTH_fr h130 h136 (by decide +kernel)
                          refine En_iEq _ rfl rfl (fun h141 => ?_) (fun h141 => ?_)
                          · refine En_Ps 1 (pc' := 178) (lv' := [(0, .ref 3), (1, .ref a), (2, .int y40)]) (st' := [.ref 3]) rfl ?_
                            refine En_ldcS (i := 0) rfl rfl rfl ?_
                            refine En_callV rfl rfl rfl rfl rfl rfl rfl rfl (by decide +kernel : TG 3 = 3) (by decide +kernel) rfl (c_71s0 σ134 h135) (by decide) (by decide) (fun v143 σ144 h142 => ?_)
                            obtain ⟨h145, h146, z148, rfl, h147⟩ := h142
                            have h149 := Fr_trans h139 h146 (by decide +kernel)
                            have h150 := OTH_fr h140 h146 (by decide +kernel)
                            refine En_iEq _ rfl rfl (fun h151 => ?_) (fun h151 => ?_)
                            · refine En_Ps 2 (pc' := 196) (lv' := [(0, .ref 3), (1, .ref a), (2, .int y40)]) (st' := [.int ((Int32.ofInt 1)), .ref 3]) rfl ?_
                              have := (by decide : ((Int32.ofInt 1)).toInt = 1)
                              refine En_callV rfl rfl rfl rfl rfl rfl rfl rfl (by decide +kernel : TG 3 = 3) (by decide +kernel) rfl (c_54 σ144 h145 ((Int32.ofInt 1)) (geI (by decide : (Int32.ofInt 1).toInt = 1) (by omega)) (leI (by decide : (Int32.ofInt 1).toInt = 1) (by omega)) y41 ((h146 _ _ (inW (by decide +kernel : TG 3 = 3) (by decide +kernel))).trans ((h136 _ _ (inW (by decide +kernel : TG 3 = 3) (by decide +kernel))).trans ((h126 _ _ (inW (by decide +kernel : TG 3 = 3) (by decide +kernel))).trans ((h116 _ _ (inW (by decide +kernel : TG 3 = 3) (by decide +kernel))).trans ((h106 _ _ (inW (by decide +kernel : TG 3 = 3) (by decide +kernel))).trans ((h96 _ _ (inW (by decide +kernel : TG 3 = 3) (by decide +kernel))).trans ((h86 _ _ (inW (by decide +kernel : TG 3 = 3) (by decide +kernel))).trans ((h76 _ _ (inW (by decide +kernel : TG 3 = 3) (by decide +kernel))).trans h47))))))))) (by decide) (by decide) (fun v153 σ154 h152 => ?_)
                              obtain ⟨h155, h156, z158, h159, rfl, h157⟩ := h152
                              have h160 := Fr_trans h149 h156 (by decide +kernel)
                              have h161 := OTH_fr h150 h156 (by decide +kernel)
                              refine En_Ps 2 (pc' := 201) (lv' := [(0, .ref 3), (1, .ref a), (2, .int y40)]) (st' := [.ref 3, .ref 3]) rfl ?_
                              refine En_getK (j := 1) ((h156 _ _ (inW (by decide +kernel : TG 3 = 3) (by decide +kernel))).trans ((h146 _ _ (inW (by decide +kernel : TG 3 = 3) (by decide +kernel))).trans ((h136 _ _ (inW (by decide +kernel : TG 3 = 3) (by decide +kernel))).trans ((h126 _ _ (inW (by decide +kernel : TG 3 = 3) (by decide +kernel))).trans ((h116 _ _ (inW (by decide +kernel : TG 3 = 3) (by decide +kernel))).trans ((h106 _ _ (inW (by decide +kernel : TG 3 = 3) (by decide +kernel))).trans ((h96 _ _ (inW (by decide +kernel : TG 3 = 3) (by decide +kernel))).trans ((h86 _ _ (inW (by decide +kernel : TG 3 = 3) (by decide +kernel))).trans ((h76 _ _ (inW (by decide +kernel : TG 3 = 3) (by decide +kernel))).trans h65))))))))) rfl rfl rfl (by decide +kernel : TG 3 = 3) (by decide +kernel) ?_
                              refine En_Ps 1 (pc' := 205) (lv' := [(0, .ref 3), (1, .ref a), (2, .int y40)]) (st' := [.int ((Int32.ofInt 3)), .int z66, .ref 3]) rfl ?_
                              refine En_icNe _ rfl (by decide : (Int32.ofInt 3).toInt = 3) rfl (fun h162 => ?_) (fun h162 => ?_)
                              · refine En_Ps 1 (pc' := 213) (lv' := [(0, .ref 3), (1, .ref a), (2, .int y40)]) (st' := [.int ((Int32.ofInt 0)), .ref 3]) rfl ?_
                                have := (by decide : ((Int32.ofInt 0)).toInt = 0)
                                refine En_callV rfl rfl rfl rfl rfl rfl rfl rfl (by decide +kernel : TG 3 = 3) (by decide +kernel) rfl (c_59 σ154 h155 ((Int32.ofInt 0)) (geI (by decide : (Int32.ofInt 0).toInt = 0) (by omega)) (leI (by decide : (Int32.ofInt 0).toInt = 0) (by omega)) z158 h159) (by decide) (by decide) (fun v164 σ165 h163 => ?_)
                                obtain ⟨h166, h167, z169, h170, rfl, h168⟩ := h163
                                have h171 := Fr_trans h160 h167 (by decide +kernel)
                                have h172 := OTH_fr h161 h167 (by decide +kernel)
                                refine En_Ps 2 (pc' := 218) (lv' := [(0, .ref 3), (1, .ref a), (2, .int y40)]) (st' := [.ref a, .ref a]) rfl ?_
                                refine En_getK (j := 0) ((h167 _ _ (inW ha (by decide +kernel))).trans ((h156 _ _ (inW ha (by decide +kernel))).trans ((h146 _ _ (inW ha (by decide +kernel))).trans ((h136 _ _ (inW ha (by decide +kernel))).trans ((h126 _ _ (inW ha (by decide +kernel))).trans ((h116 _ _ (inW ha (by decide +kernel))).trans ((h106 _ _ (inW ha (by decide +kernel))).trans ((h96 _ _ (inW ha (by decide +kernel))).trans ((h86 _ _ (inW ha (by decide +kernel))).trans ((h76 _ _ (inW ha (by decide +kernel))).trans h48)))))))))) rfl rfl rfl ha (by decide +kernel) ?_
                                refine En_Ps 2 (pc' := 223) (lv' := [(0, .ref 3), (1, .ref a), (2, .int y40)]) (st' := [.int ((y42 + ((Int32.ofInt 1)))), .ref a]) rfl ?_
                                refine En_top (addI rfl (by decide : (Int32.ofInt 1).toInt = 1) (by omega) (by omega)) (fun z173 h174 => ?_)
                                refine En_put (j := 0) rfl rfl rfl ha (by decide +kernel) rfl (vI (l := 0) (u := 1601) (by decide +kernel) rfl (by omega) (by omega)) h166 h171 (by decide +kernel) (fun σ175 h176 h177 h178 h179 => ?_)
                                have h180 := OTH_pj h172 h179 (by decide)
                                refine En_Ps 1 (pc' := 229) (lv' := [(2, .int ((y40 + Int32.ofInt 1))), (0, .ref 3), (1, .ref a)]) (st' := []) rfl ?_
                                refine En_lv1 (addI rfl (by decide : (Int32.ofInt 1).toInt = 1) (by omega) (by omega)) (fun z181 h182 => ?_)
                                refine En_Ps 1 (pc' := 25) (lv' := [(2, .int z181), (0, .ref 3), (1, .ref a)]) (st' := []) rfl ?_
                                refine En_lv (lv := [(0, .ref 3), (1, .ref a), (2, .int z181)]) ⟨rfl, rfl, rfl, trivial⟩ ?_
                                exact ih25 σ175 z181 z169 z173 y43 h176 h177 ((h179 _ _ (Or.inr (by decide))).trans h170) h178 ((h179 _ _ (Or.inr (by decide))).trans ((h167 _ _ (inW ha (by decide +kernel))).trans ((h156 _ _ (inW ha (by decide +kernel))).trans ((h146 _ _ (inW ha (by decide +kernel))).trans ((h136 _ _ (inW ha (by decide +kernel))).trans ((h126 _ _ (inW ha (by decide +kernel))).trans ((h116 _ _ (inW ha (by decide +kernel))).trans ((h106 _ _ (inW ha (by decide +kernel))).trans ((h96 _ _ (inW ha (by decide +kernel))).trans ((h86 _ _ (inW ha (by decide +kernel))).trans ((h76 _ _ (inW ha (by decide +kernel))).trans h49))))))))))) (by omega) (by omega) (by omega) (by omega) (by omega) (by omega) (by omega) (by omega) (by omega) (by omega) (by omega) (by omega) (by omega) (h180)
                              · refine En_Ps 2 (pc' := 213) (lv' := [(0, .ref 3), (1, .ref a), (2, .int y40)]) (st' := [.int ((Int32.ofInt 1)), .ref 3]) rfl ?_
                                have := (by decide : ((Int32.ofInt 1)).toInt = 1)
                                refine En_callV rfl rfl rfl rfl rfl rfl rfl rfl (by decide +kernel : TG 3 = 3) (by decide +kernel) rfl (c_59 σ154 h155 ((Int32.ofInt 1)) (geI (by decide : (Int32.ofInt 1).toInt = 1) (by omega)) (leI (by decide : (Int32.ofInt 1).toInt = 1) (by omega)) z158 h159) (by decide) (by decide) (fun v184 σ185 h183 => ?_)
                                obtain ⟨h186, h187, z189, h190, rfl, h188⟩ := h183
                                have h191 := Fr_trans h160 h187 (by decide +kernel)
                                have h192 := OTH_fr h161 h187 (by decide +kernel)
                                refine En_Ps 2 (pc' := 218) (lv' := [(0, .ref 3), (1, .ref a), (2, .int y40)]) (st' := [.ref a, .ref a]) rfl ?_
                                refine En_getK (j := 0) ((h187 _ _ (inW ha (by decide +kernel))).trans ((h156 _ _ (inW ha (by decide +kernel))).trans ((h146 _ _ (inW ha (by decide +kernel))).trans ((h136 _ _ (inW ha (by decide +kernel))).trans ((h126 _ _ (inW ha (by decide +kernel))).trans ((h116 _ _ (inW ha (by decide +kernel))).trans ((h106 _ _ (inW ha (by decide +kernel))).trans ((h96 _ _ (inW ha (by decide +kernel))).trans ((h86 _ _ (inW ha (by decide +kernel))).trans ((h76 _ _ (inW ha (by decide +kernel))).trans h48)))))))))) rfl rfl rfl ha (by decide +kernel) ?_
                                refine En_Ps 2 (pc' := 223) (lv' := [(0, .ref 3), (1, .ref a), (2, .int y40)]) (st' := [.int ((y42 + ((Int32.ofInt 1)))), .ref a]) rfl ?_
                                refine En_top (addI rfl (by decide : (Int32.ofInt 1).toInt = 1) (by omega) (by omega)) (fun z193 h194 => ?_)
                                refine En_put (j := 0) rfl rfl rfl ha (by decide +kernel) rfl (vI (l := 0) (u := 1601) (by decide +kernel) rfl (by omega) (by omega)) h186 h191 (by decide +kernel) (fun σ195 h196 h197 h198 h199 => ?_)
                                have h200 := OTH_pj h192 h199 (by decide)
                                refine En_Ps 1 (pc' := 229) (lv' := [(2, .int ((y40 + Int32.ofInt 1))), (0, .ref 3), (1, .ref a)]) (st' := []) rfl ?_
                                refine En_lv1 (addI rfl (by decide : (Int32.ofInt 1).toInt = 1) (by omega) (by omega)) (fun z201 h202 => ?_)
                                refine En_Ps 1 (pc' := 25) (lv' := [(2, .int z201), (0, .ref 3), (1, .ref a)]) (st' := []) rfl ?_
                                refine En_lv (lv := [(0, .ref 3), (1, .ref a), (2, .int z201)]) ⟨rfl, rfl, rfl, trivial⟩ ?_
                                exact ih25 σ195 z201 z189 z193 y43 h196 h197 ((h199 _ _ (Or.inr (by decide))).trans h190) h198 ((h199 _ _ (Or.inr (by decide))).trans ((h187 _ _ (inW ha (by decide +kernel))).trans ((h156 _ _ (inW ha (by decide +kernel))).trans ((h146 _ _ (inW ha (by decide +kernel))).trans ((h136 _ _ (inW ha (by decide +kernel))).trans ((h126 _ _ (inW ha (by decide +kernel))).trans ((h116 _ _ (inW ha (by decide +kernel))).trans ((h106 _ _ (inW ha (by decide +kernel))).trans ((h96 _ _ (inW ha (by decide +kernel))).trans ((h86 _ _ (inW ha (by decide +kernel))).trans ((h76 _ _ (inW ha (by decide +kernel))).trans h49))))))))))) (by omega) (by omega) (by omega) (by omega) (by omega) (by omega) (by omega) (by omega) (by omega) (by omega) (by omega) (by omega) (by omega) (h200)
                            · refine En_Ps 2 (pc' := 188) (lv' := [(0, .ref 3), (1, .ref a), (2, .int y40)]) (st' := [.ref a, .ref 3]) rfl ?_
                              refine En_callV rfl rfl rfl rfl rfl rfl rfl rfl (by decide +kernel : TG 3 = 3) (by decide +kernel) rfl (c_61 σ144 h145 a ha y41 ((h146 _ _ (inW (by decide +kernel : TG 3 = 3) (by decide +kernel))).trans ((h136 _ _ (inW (by decide +kernel : TG 3 = 3) (by decide +kernel))).trans ((h126 _ _ (inW (by decide +kernel : TG 3 = 3) (by decide +kernel))).trans ((h116 _ _ (inW (by decide +kernel : TG 3 = 3) (by decide +kernel))).trans ((h106 _ _ (inW (by decide +kernel : TG 3 = 3) (by decide +kernel))).trans ((h96 _ _ (inW (by decide +kernel : TG 3 = 3) (by decide +kernel))).trans ((h86 _ _ (inW (by decide +kernel : TG 3 = 3) (by decide +kernel))).trans ((h76 _ _ (inW (by decide +kernel : TG 3 = 3) (by decide +kernel))).trans h47)))))))) y43 ((h146 _ _ (inW ha (by decide +kernel))).trans ((h136 _ _ (inW ha (by decide +kernel))).trans ((h126 _ _ (inW ha (by decide +kernel))).trans ((h116 _ _ (inW ha (by decide +kernel))).trans ((h106 _ _ (inW ha (by decide +kernel))).trans ((h96 _ _ (inW ha (by decide +kernel))).trans ((h86 _ _ (inW ha (by decide +kernel))).trans ((h76 _ _ (inW ha (by decide +kernel))).trans h49)))))))) (by omega)) (by decide) (by decide) (fun v204 σ205 h203 => ?_)
                              obtain ⟨h206, h207, z209, h210, rfl, h208⟩ := h203
                              have h211 := Fr_trans h149 h207 (by decide +kernel)
                              have h212 := OTH_fr h150 h207 (by decide +kernel)
                              refine En_Ps 3 (pc' := 201) (lv' := [(0, .ref 3), (1, .ref a), (2, .int y40)]) (st' := [.ref 3, .ref 3]) rfl ?_
                              refine En_getI (j := 1) (l := 0) (u := 4) rfl rfl rfl (by decide +kernel : TG 3 = 3) (by decide +kernel) h206 (by decide +kernel) (fun z214 h213 h215 h216 => ?_)
                              refine En_Ps 1 (pc' := 205) (lv' := [(0, .ref 3), (1, .ref a), (2, .int y40)]) (st' := [.int ((Int32.ofInt 3)), .int z214, .ref 3]) rfl ?_
                              refine En_icNe _ rfl (by decide : (Int32.ofInt 3).toInt = 3) rfl (fun h217 => ?_) (fun h217 => ?_)
                              · refine En_Ps 1 (pc' := 213) (lv' := [(0, .ref 3), (1, .ref a), (2, .int y40)]) (st' := [.int ((Int32.ofInt 0)), .ref 3]) rfl ?_
                                have := (by decide : ((Int32.ofInt 0)).toInt = 0)
                                refine En_callV rfl rfl rfl rfl rfl rfl rfl rfl (by decide +kernel : TG 3 = 3) (by decide +kernel) rfl (c_59 σ205 h206 ((Int32.ofInt 0)) (geI (by decide : (Int32.ofInt 0).toInt = 0) (by omega)) (leI (by decide : (Int32.ofInt 0).toInt = 0) (by omega)) z209 h210) (by decide) (by decide) (fun v219 σ220 h218 => ?_)
                                obtain ⟨h221, h222, z224, h225, rfl, h223⟩ := h218
                                have h226 := Fr_trans h211 h222 (by decide +kernel)
                                have h227 := OTH_fr h212 h222 (by decide +kernel)
                                refine En_Ps 2 (pc' := 218) (lv' := [(0, .ref 3), (1, .ref a), (2, .int y40)]) (st' := [.ref a, .ref a]) rfl ?_
                                refine En_getK (j := 0) ((h222 _ _ (inW ha (by decide +kernel))).trans ((h207 _ _ (inW ha (by decide +kernel))).trans ((h146 _ _ (inW ha (by decide +kernel))).trans ((h136 _ _ (inW ha (by decide +kernel))).trans ((h126 _ _ (inW ha (by decide +kernel))).trans ((h116 _ _ (inW ha (by decide +kernel))).trans ((h106 _ _ (inW ha (by decide +kernel))).trans ((h96 _ _ (inW ha (by decide +kernel))).trans ((h86 _ _ (inW ha (by decide +kernel))).trans ((h76 _ _ (inW ha (by decide +kernel))).trans h48)))))))))) rfl rfl rfl ha (by decide +kernel) ?_
                                refine En_Ps 2 (pc' := 223) (lv' := [(0, .ref 3), (1, .ref a), (2, .int y40)]) (st' := [.int ((y42 + ((Int32.ofInt 1)))), .ref a]) rfl ?_
                                refine En_top (addI rfl (by decide : (Int32.ofInt 1).toInt = 1) (by omega) (by omega)) (fun z228 h229 => ?_)
                                refine En_put (j := 0) rfl rfl rfl ha (by decide +kernel) rfl (vI (l := 0) (u := 1601) (by decide +kernel) rfl (by omega) (by omega)) h221 h226 (by decide +kernel) (fun σ230 h231 h232 h233 h234 => ?_)
                                have h235 := OTH_pj h227 h234 (by decide)
                                refine En_Ps 1 (pc' := 229) (lv' := [(2, .int ((y40 + Int32.ofInt 1))), (0, .ref 3), (1, .ref a)]) (st' := []) rfl ?_
                                refine En_lv1 (addI rfl (by decide : (Int32.ofInt 1).toInt = 1) (by omega) (by omega)) (fun z236 h237 => ?_)
                                refine En_Ps 1 (pc' := 25) (lv' := [(2, .int z236), (0, .ref 3), (1, .ref a)]) (st' := []) rfl ?_
                                refine En_lv (lv := [(0, .ref 3), (1, .ref a), (2, .int z236)]) ⟨rfl, rfl, rfl, trivial⟩ ?_
                                exact ih25 σ230 z236 z224 z228 y43 h231 h232 ((h234 _ _ (Or.inr (by decide))).trans h225) h233 ((h234 _ _ (Or.inr (by decide))).trans ((h222 _ _ (inW ha (by decide +kernel))).trans ((h207 _ _ (inW ha (by decide +kernel))).trans ((h146 _ _ (inW ha (by decide +kernel))).trans ((h136 _ _ (inW ha (by decide +kernel))).trans ((h126 _ _ (inW ha (by decide +kernel))).trans ((h116 _ _ (inW ha (by decide +kernel))).trans ((h106 _ _ (inW ha (by decide +kernel))).trans ((h96 _ _ (inW ha (by decide +kernel))).trans ((h86 _ _ (inW ha (by decide +kernel))).trans ((h76 _ _ (inW ha (by decide +kernel))).trans h49))))))))))) (by omega) (by omega) (by omega) (by omega) (by omega) (by omega) (by omega) (by omega) (by omega) (by omega) (by omega) (by omega) (by omega) (h235)
                              · refine En_Ps 2 (pc' := 213) (lv' := [(0, .ref 3), (1, .ref a), (2, .int y40)]) (st' := [.int ((Int32.ofInt 1)), .ref 3]) rfl ?_
                                have := (by decide : ((Int32.ofInt 1)).toInt = 1)
                                refine En_callV rfl rfl rfl rfl rfl rfl rfl rfl (by decide +kernel : TG 3 = 3) (by decide +kernel) rfl (c_59 σ205 h206 ((Int32.ofInt 1)) (geI (by decide : (Int32.ofInt 1).toInt = 1) (by omega)) (leI (by decide : (Int32.ofInt 1).toInt = 1) (by omega)) z209 h210) (by decide) (by decide) (fun v239 σ240 h238 => ?_)
                                obtain ⟨h241, h242, z244, h245, rfl, h243⟩ := h238
                                have h246 := Fr_trans h211 h242 (by decide +kernel)
                                have h247 := OTH_fr h212 h242 (by decide +kernel)
                                refine En_Ps 2 (pc' := 218) (lv' := [(0, .ref 3), (1, .ref a), (2, .int y40)]) (st' := [.ref a, .ref a]) rfl ?_
                                refine En_getK (j := 0) ((h242 _ _ (inW ha (by decide +kernel))).trans ((h207 _ _ (inW ha (by decide +kernel))).trans ((h146 _ _ (inW ha (by decide +kernel))).trans ((h136 _ _ (inW ha (by decide +kernel))).trans ((h126 _ _ (inW ha (by decide +kernel))).trans ((h116 _ _ (inW ha (by decide +kernel))).trans ((h106 _ _ (inW ha (by decide +kernel))).trans ((h96 _ _ (inW ha (by decide +kernel))).trans ((h86 _ _ (inW ha (by decide +kernel))).trans ((h76 _ _ (inW ha (by decide +kernel))).trans h48)))))))))) rfl rfl rfl ha (by decide +kernel) ?_
                                refine En_Ps 2 (pc' := 223) (lv' := [(0, .ref 3), (1, .ref a), (2, .int y40)]) (st' := [.int ((y42 + ((Int32.ofInt 1)))), .ref a]) rfl ?_
                                refine En_top (addI rfl (by decide : (Int32.ofInt 1).toInt = 1) (by omega) (by omega)) (fun z248 h249 => ?_)
                                refine En_put (j := 0) rfl rfl rfl ha (by decide +kernel) rfl (vI (l := 0) (u := 1601) (by decide +kernel) rfl (by omega) (by omega)) h241 h246 (by decide +kernel) (fun σ250 h251 h252 h253 h254 => ?_)
                                have h255 := OTH_pj h247 h254 (by decide)
                                refine En_Ps 1 (pc' := 229) (lv' := [(2, .int ((y40 + Int32.ofInt 1))), (0, .ref 3), (1, .ref a)]) (st' := []) rfl ?_
                                refine En_lv1 (addI rfl (by decide : (Int32.ofInt 1).toInt = 1) (by omega) (by omega)) (fun z256 h257 => ?_)
                                refine En_Ps 1 (pc' := 25) (lv' := [(2, .int z256), (0, .ref 3), (1, .ref a)]) (st' := []) rfl ?_
                                refine En_lv (lv := [(0, .ref 3), (1, .ref a), (2, .int z256)]) ⟨rfl, rfl, rfl, trivial⟩ ?_
                                exact ih25 σ250 z256 z244 z248 y43 h251 h252 ((h254 _ _ (Or.inr (by decide))).trans h245) h253 ((h254 _ _ (Or.inr (by decide))).trans ((h242 _ _ (inW ha (by decide +kernel))).trans ((h207 _ _ (inW ha (by decide +kernel))).trans ((h146 _ _ (inW ha (by decide +kernel))).trans ((h136 _ _ (inW ha (by decide +kernel))).trans ((h126 _ _ (inW ha (by decide +kernel))).trans ((h116 _ _ (inW ha (by decide +kernel))).trans ((h106 _ _ (inW ha (by decide +kernel))).trans ((h96 _ _ (inW ha (by decide +kernel))).trans ((h86 _ _ (inW ha (by decide +kernel))).trans ((h76 _ _ (inW ha (by decide +kernel))).trans h49))))))))))) (by omega) (by omega) (by omega) (by omega) (by omega) (by omega) (by omega) (by omega) (by omega) (by omega) (by omega) (by omega) (by omega) (h255)
                          · refine En_Ps 2 (pc' := 171) (lv' := [(0, .ref 3), (1, .ref a), (2, .int y40)]) (st' := [.ref a, .ref 3]) rfl ?_
                            refine En_callV rfl rfl rfl rfl rfl rfl rfl rfl (by decide +kernel : TG 3 = 3) (by decide +kernel) rfl (c_62 σ134 h135 a ha y41 ((h136 _ _ (inW (by decide +kernel : TG 3 = 3) (by decide +kernel))).trans ((h126 _ _ (inW (by decide +kernel : TG 3 = 3) (by decide +kernel))).trans ((h116 _ _ (inW (by decide +kernel : TG 3 = 3) (by decide +kernel))).trans ((h106 _ _ (inW (by decide +kernel : TG 3 = 3) (by decide +kernel))).trans ((h96 _ _ (inW (by decide +kernel : TG 3 = 3) (by decide +kernel))).trans ((h86 _ _ (inW (by decide +kernel : TG 3 = 3) (by decide +kernel))).trans ((h76 _ _ (inW (by decide +kernel : TG 3 = 3) (by decide +kernel))).trans h47))))))) y43 ((h136 _ _ (inW ha (by decide +kernel))).trans ((h126 _ _ (inW ha (by decide +kernel))).trans ((h116 _ _ (inW ha (by decide +kernel))).trans ((h106 _ _ (inW ha (by decide +kernel))).trans ((h96 _ _ (inW ha (by decide +kernel))).trans ((h86 _ _ (inW ha (by decide +kernel))).trans ((h76 _ _ (inW ha (by decide +kernel))).trans h49))))))) (by omega)) (by decide) (by decide) (fun v259 σ260 h258 => ?_)
                            obtain ⟨h261, h262, z264, h265, rfl, h263⟩ := h258
                            have h266 := Fr_trans h139 h262 (by decide +kernel)
                            have h267 := OTH_fr h140 h262 (by decide +kernel)
                            refine En_Ps 3 (pc' := 201) (lv' := [(0, .ref 3), (1, .ref a), (2, .int y40)]) (st' := [.ref 3, .ref 3]) rfl ?_
                            refine En_getI (j := 1) (l := 0) (u := 4) rfl rfl rfl (by decide +kernel : TG 3 = 3) (by decide +kernel) h261 (by decide +kernel) (fun z269 h268 h270 h271 => ?_)
                            refine En_Ps 1 (pc' := 205) (lv' := [(0, .ref 3), (1, .ref a), (2, .int y40)]) (st' := [.int ((Int32.ofInt 3)), .int z269, .ref 3]) rfl ?_
                            refine En_icNe _ rfl (by decide : (Int32.ofInt 3).toInt = 3) rfl (fun h272 => ?_) (fun h272 => ?_)
                            · refine En_Ps 1 (pc' := 213) (lv' := [(0, .ref 3), (1, .ref a), (2, .int y40)]) (st' := [.int ((Int32.ofInt 0)), .ref 3]) rfl ?_
                              have := (by decide : ((Int32.ofInt 0)).toInt = 0)
                              refine En_callV rfl rfl rfl rfl rfl rfl rfl rfl (by decide +kernel : TG 3 = 3) (by decide +kernel) rfl (c_59 σ260 h261 ((Int32.ofInt 0)) (geI (by decide : (Int32.ofInt 0).toInt = 0) (by omega)) (leI (by decide : (Int32.ofInt 0).toInt = 0) (by omega)) z264 h265) (by decide) (by decide) (fun v274 σ275 h273 => ?_)
                              obtain ⟨h276, h277, z279, h280, rfl, h278⟩ := h273
                              have h281 := Fr_trans h266 h277 (by decide +kernel)
                              have h282 := OTH_fr h267 h277 (by decide +kernel)
                              refine En_Ps 2 (pc' := 218) (lv' := [(0, .ref 3), (1, .ref a), (2, .int y40)]) (st' := [.ref a, .ref a]) rfl ?_
                              refine En_getK (j := 0) ((h277 _ _ (inW ha (by decide +kernel))).trans ((h262 _ _ (inW ha (by decide +kernel))).trans ((h136 _ _ (inW ha (by decide +kernel))).trans ((h126 _ _ (inW ha (by decide +kernel))).trans ((h116 _ _ (inW ha (by decide +kernel))).trans ((h106 _ _ (inW ha (by decide +kernel))).trans ((h96 _ _ (inW ha (by decide +kernel))).trans ((h86 _ _ (inW ha (by decide +kernel))).trans ((h76 _ _ (inW ha (by decide +kernel))).trans h48))))))))) rfl rfl rfl ha (by decide +kernel) ?_
                              refine En_Ps 2 (pc' := 223) (lv' := [(0, .ref 3), (1, .ref a), (2, .int y40)]) (st' := [.int ((y42 + ((Int32.ofInt 1)))), .ref a]) rfl ?_
                              refine En_top (addI rfl (by decide : (Int32.ofInt 1).toInt = 1) (by omega) (by omega)) (fun z283 h284 => ?_)
                              refine En_put (j := 0) rfl rfl rfl ha (by decide +kernel) rfl (vI (l := 0) (u := 1601) (by decide +kernel) rfl (by omega) (by omega)) h276 h281 (by decide +kernel) (fun σ285 h286 h287 h288 h289 => ?_)
                              have h290 := OTH_pj h282 h289 (by decide)
                              refine En_Ps 1 (pc' := 229) (lv' := [(2, .int ((y40 + Int32.ofInt 1))), (0, .ref 3), (1, .ref a)]) (st' := []) rfl ?_
                              refine En_lv1 (addI rfl (by decide : (Int32.ofInt 1).toInt = 1) (by omega) (by omega)) (fun z291 h292 => ?_)
                              refine En_Ps 1 (pc' := 25) (lv' := [(2, .int z291), (0, .ref 3), (1, .ref a)]) (st' := []) rfl ?_
                              refine En_lv (lv := [(0, .ref 3), (1, .ref a), (2, .int z291)]) ⟨rfl, rfl, rfl, trivial⟩ ?_
                              exact ih25 σ285 z291 z279 z283 y43 h286 h287 ((h289 _ _ (Or.inr (by decide))).trans h280) h288 ((h289 _ _ (Or.inr (by decide))).trans ((h277 _ _ (inW ha (by decide +kernel))).trans ((h262 _ _ (inW ha (by decide +kernel))).trans ((h136 _ _ (inW ha (by decide +kernel))).trans ((h126 _ _ (inW ha (by decide +kernel))).trans ((h116 _ _ (inW ha (by decide +kernel))).trans ((h106 _ _ (inW ha (by decide +kernel))).trans ((h96 _ _ (inW ha (by decide +kernel))).trans ((h86 _ _ (inW ha (by decide +kernel))).trans ((h76 _ _ (inW ha (by decide +kernel))).trans h49)))))))))) (by omega) (by omega) (by omega) (by omega) (by omega) (by omega) (by omega) (by omega) (by omega) (by omega) (by omega) (by omega) (by omega) (h290)
                            · refine En_Ps 2 (pc' := 213) (lv' := [(0, .ref 3), (1, .ref a), (2, .int y40)]) (st' := [.int ((Int32.ofInt 1)), .ref 3]) rfl ?_
                              have := (by decide : ((Int32.ofInt 1)).toInt = 1)
                              refine En_callV rfl rfl rfl rfl rfl rfl rfl rfl (by decide +kernel : TG 3 = 3) (by decide +kernel) rfl (c_59 σ260 h261 ((Int32.ofInt 1)) (geI (by decide : (Int32.ofInt 1).toInt = 1) (by omega)) (leI (by decide : (Int32.ofInt 1).toInt = 1) (by omega)) z264 h265) (by decide) (by decide) (fun v294 σ295 h293 => ?_)
                              obtain ⟨h296, h297, z299, h300, rfl, h298⟩ := h293
                              have h301 := Fr_trans h266 h297 (by decide +kernel)
                              have h302 := OTH_fr h267 h297 (by decide +kernel)
                              refine En_Ps 2 (pc' := 218) (lv' := [(0, .ref 3), (1, .ref a), (2, .int y40)]) (st' := [.ref a, .ref a]) rfl ?_
                              refine En_getK (j := 0) ((h297 _ _ (inW ha (by decide +kernel))).trans ((h262 _ _ (inW ha (by decide +kernel))).trans ((h136 _ _ (inW ha (by decide +kernel))).trans ((h126 _ _ (inW ha (by decide +kernel))).trans ((h116 _ _ (inW ha (by decide +kernel))).trans ((h106 _ _ (inW ha (by decide +kernel))).trans ((h96 _ _ (inW ha (by decide +kernel))).trans ((h86 _ _ (inW ha (by decide +kernel))).trans ((h76 _ _ (inW ha (by decide +kernel))).trans h48))))))))) rfl rfl rfl ha (by decide +kernel) ?_
                              refine En_Ps 2 (pc' := 223) (lv' := [(0, .ref 3), (1, .ref a), (2, .int y40)]) (st' := [.int ((y42 + ((Int32.ofInt 1)))), .ref a]) rfl ?_
                              refine En_top (addI rfl (by decide : (Int32.ofInt 1).toInt = 1) (by omega) (by omega)) (fun z303 h304 => ?_)
                              refine En_put (j := 0) rfl rfl rfl ha (by decide +kernel) rfl (vI (l := 0) (u := 1601) (by decide +kernel) rfl (by omega) (by omega)) h296 h301 (by decide +kernel) (fun σ305 h306 h307 h308 h309 => ?_)
                              have h310 := OTH_pj h302 h309 (by decide)
                              refine En_Ps 1 (pc' := 229) (lv' := [(2, .int ((y40 + Int32.ofInt 1))), (0, .ref 3), (1, .ref a)]) (st' := []) rfl ?_
                              refine En_lv1 (addI rfl (by decide : (Int32.ofInt 1).toInt = 1) (by omega) (by omega)) (fun z311 h312 => ?_)
                              refine En_Ps 1 (pc' := 25) (lv' := [(2, .int z311), (0, .ref 3), (1, .ref a)]) (st' := []) rfl ?_
                              refine En_lv (lv := [(0, .ref 3), (1, .ref a), (2, .int z311)]) ⟨rfl, rfl, rfl, trivial⟩ ?_
                              exact ih25 σ305 z311 z299 z303 y43 h306 h307 ((h309 _ _ (Or.inr (by decide))).trans h300) h308 ((h309 _ _ (Or.inr (by decide))).trans ((h297 _ _ (inW ha (by decide +kernel))).trans ((h262 _ _ (inW ha (by decide +kernel))).trans ((h136 _ _ (inW ha (by decide +kernel))).trans ((h126 _ _ (inW ha (by decide +kernel))).trans ((h116 _ _ (inW ha (by decide +kernel))).trans ((h106 _ _ (inW ha (by decide +kernel))).trans ((h96 _ _ (inW ha (by decide +kernel))).trans ((h86 _ _ (inW ha (by decide +kernel))).trans ((h76 _ _ (inW ha (by decide +kernel))).trans h49)))))))))) (by omega) (by omega) (by omega) (by omega) (by omega) (by omega) (by omega) (by omega) (by omega) (by omega) (by omega) (by omega) (by omega) (h310)
                        · refine En_Ps 2 (pc' := 154) (lv' := [(0, .ref 3), (1, .ref a), (2, .int y40)]) (st' := [.ref a, .ref 3]) rfl ?_
                          refine En_callV rfl rfl rfl rfl rfl rfl rfl rfl (by decide +kernel : TG 3 = 3) (by decide +kernel) rfl (c_66 σ124 h125 a ha y41 ((h126 _ _ (inW (by decide +kernel : TG 3 = 3) (by decide +kernel))).trans ((h116 _ _ (inW (by decide +kernel : TG 3 = 3) (by decide +kernel))).trans ((h106 _ _ (inW (by decide +kernel : TG 3 = 3) (by decide +kernel))).trans ((h96 _ _ (inW (by decide +kernel : TG 3 = 3) (by decide +kernel))).trans ((h86 _ _ (inW (by decide +kernel : TG 3 = 3) (by decide +kernel))).trans ((h76 _ _ (inW (by decide +kernel : TG 3 = 3) (by decide +kernel))).trans h47)))))) y43 ((h126 _ _ (inW ha (by decide +kernel))).trans ((h116 _ _ (inW ha (by decide +kernel))).trans ((h106 _ _ (inW ha (by decide +kernel))).trans ((h96 _ _ (inW ha (by decide +kernel))).trans ((h86 _ _ (inW ha (by decide +kernel))).trans ((h76 _ _ (inW ha (by decide +kernel))).trans h49)))))) (by omega)) (by decide) (by decide) (fun v314 σ315 h313 => ?_)
                          obtain ⟨h316, h317, z319, h320, rfl, h318⟩ := h313
                          have h321 := Fr_trans h129 h317 (by decide +kernel)
                          have h322 := OTH_fr h130 h317 (by decide +kernel)
                          refine En_Ps 3 (pc' := 201) (lv' := [(0, .ref 3), (1, .ref a), (2, .int y40)]) (st' := [.ref 3, .ref 3]) rfl ?_
                          refine En_getI (j := 1) (l := 0) (u := 4) rfl rfl rfl (by decide +kernel : TG 3 = 3) (by decide +kernel) h316 (by decide +kernel) (fun z324 h323 h325 h326 => ?_)
                          refine En_Ps 1 (pc' := 205) (lv' := [(0, .ref 3), (1, .ref a), (2, .int y40)]) (st' := [.int ((Int32.ofInt 3)), .int z324, .ref 3]) rfl ?_
                          refine En_icNe _ rfl (by decide : (Int32.ofInt 3).toInt = 3) rfl (fun h327 => ?_) (fun h327 => ?_)
                          · refine En_Ps 1 (pc' := 213) (lv' := [(0, .ref 3), (1, .ref a), (2, .int y40)]) (st' := [.int ((Int32.ofInt 0)), .ref 3]) rfl ?_
                            have := (by decide : ((Int32.ofInt 0)).toInt = 0)
                            refine En_callV rfl rfl rfl rfl rfl rfl rfl rfl (by decide +kernel : TG 3 = 3) (by decide +kernel) rfl (c_59 σ315 h316 ((Int32.ofInt 0)) (geI (by decide : (Int32.ofInt 0).toInt = 0) (by omega)) (leI (by decide : (Int32.ofInt 0).toInt = 0) (by omega)) z319 h320) (by decide) (by decide) (fun v329 σ330 h328 => ?_)
                            obtain ⟨h331, h332, z334, h335, rfl, h333⟩ := h328
                            have h336 := Fr_trans h321 h332 (by decide +kernel)
                            have h337 := OTH_fr h322 h332 (by decide +kernel)
                            refine En_Ps 2 (pc' := 218) (lv' := [(0, .ref 3), (1, .ref a), (2, .int y40)]) (st' := [.ref a, .ref a]) rfl ?_
                            refine En_getK (j := 0) ((h332 _ _ (inW ha (by decide +kernel))).trans ((h317 _ _ (inW ha (by decide +kernel))).trans ((h126 _ _ (inW ha (by decide +kernel))).trans ((h116 _ _ (inW ha (by decide +kernel))).trans ((h106 _ _ (inW ha (by decide +kernel))).trans ((h96 _ _ (inW ha (by decide +kernel))).trans ((h86 _ _ (inW ha (by decide +kernel))).trans ((h76 _ _ (inW ha (by decide +kernel))).trans h48)))))))) rfl rfl rfl ha (by decide +kernel) ?_
                            refine En_Ps 2 (pc' := 223) (lv' := [(0, .ref 3), (1, .ref a), (2, .int y40)]) (st' := [.int ((y42 + ((Int32.ofInt 1)))), .ref a]) rfl ?_
                            refine En_top (addI rfl (by decide : (Int32.ofInt 1).toInt = 1) (by omega) (by omega)) (fun z338 h339 => ?_)
                            refine En_put (j := 0) rfl rfl rfl ha (by decide +kernel) rfl (vI (l := 0) (u := 1601) (by decide +kernel) rfl (by omega) (by omega)) h331 h336 (by decide +kernel) (fun σ340 h341 h342 h343 h344 => ?_)
                            have h345 := OTH_pj h337 h344 (by decide)
                            refine En_Ps 1 (pc' := 229) (lv' := [(2, .int ((y40 + Int32.ofInt 1))), (0, .ref 3), (1, .ref a)]) (st' := []) rfl ?_
                            refine En_lv1 (addI rfl (by decide : (Int32.ofInt 1).toInt = 1) (by omega) (by omega)) (fun z346 h347 => ?_)
                            refine En_Ps 1 (pc' := 25) (lv' := [(2, .int z346), (0, .ref 3), (1, .ref a)]) (st' := []) rfl ?_
                            refine En_lv (lv := [(0, .ref 3), (1, .ref a), (2, .int z346)]) ⟨rfl, rfl, rfl, trivial⟩ ?_
                            exact ih25 σ340 z346 z334 z338 y43 h341 h342 ((h344 _ _ (Or.inr (by decide))).trans h335) h343 ((h344 _ _ (Or.inr (by decide))).trans ((h332 _ _ (inW ha (by decide +kernel))).trans ((h317 _ _ (inW ha (by decide +kernel))).trans ((h126 _ _ (inW ha (by decide +kernel))).trans ((h116 _ _ (inW ha (by decide +kernel))).trans ((h106 _ _ (inW ha (by decide +kernel))).trans ((h96 _ _ (inW ha (by decide +kernel))).trans ((h86 _ _ (inW ha (by decide +kernel))).trans ((h76 _ _ (inW ha (by decide +kernel))).trans h49))))))))) (by omega) (by omega) (by omega) (by omega) (by omega) (by omega) (by omega) (by omega) (by omega) (by omega) (by omega) (by omega) (by omega) (h345)
                          · refine En_Ps 2 (pc' := 213) (lv' := [(0, .ref 3), (1, .ref a), (2, .int y40)]) (st' := [.int ((Int32.ofInt 1)), .ref 3]) rfl ?_
                            have := (by decide : ((Int32.ofInt 1)).toInt = 1)
                            refine En_callV rfl rfl rfl rfl rfl rfl rfl rfl (by decide +kernel : TG 3 = 3) (by decide +kernel) rfl (c_59 σ315 h316 ((Int32.ofInt 1)) (geI (by decide : (Int32.ofInt 1).toInt = 1) (by omega)) (leI (by decide : (Int32.ofInt 1).toInt = 1) (by omega)) z319 h320) (by decide) (by decide) (fun v349 σ350 h348 => ?_)
                            obtain ⟨h351, h352, z354, h355, rfl, h353⟩ := h348
                            have h356 := Fr_trans h321 h352 (by decide +kernel)
                            have h357 := OTH_fr h322 h352 (by decide +kernel)
                            refine En_Ps 2 (pc' := 218) (lv' := [(0, .ref 3), (1, .ref a), (2, .int y40)]) (st' := [.ref a, .ref a]) rfl ?_
                            refine En_getK (j := 0) ((h352 _ _ (inW ha (by decide +kernel))).trans ((h317 _ _ (inW ha (by decide +kernel))).trans ((h126 _ _ (inW ha (by decide +kernel))).trans ((h116 _ _ (inW ha (by decide +kernel))).trans ((h106 _ _ (inW ha (by decide +kernel))).trans ((h96 _ _ (inW ha (by decide +kernel))).trans ((h86 _ _ (inW ha (by decide +kernel))).trans ((h76 _ _ (inW ha (by decide +kernel))).trans h48)))))))) rfl rfl rfl ha (by decide +kernel) ?_
                            refine En_Ps 2 (pc' := 223) (lv' := [(0, .ref 3), (1, .ref a), (2, .int y40)]) (st' := [.int ((y42 + ((Int32.ofInt 1)))), .ref a]) rfl ?_
                            refine En_top (addI rfl (by decide : (Int32.ofInt 1).toInt = 1) (by omega) (by omega)) (fun z358 h359 => ?_)
                            refine En_put (j := 0) rfl rfl rfl ha (by decide +kernel) rfl (vI (l := 0) (u := 1601) (by decide +kernel) rfl (by omega) (by omega)) h351 h356 (by decide +kernel) (fun σ360 h361 h362 h363 h364 => ?_)
                            have h365 := OTH_pj h357 h364 (by decide)
                            refine En_Ps 1 (pc' := 229) (lv' := [(2, .int ((y40 + Int32.ofInt 1))), (0, .ref 3), (1, .ref a)]) (st' := []) rfl ?_
                            refine En_lv1 (addI rfl (by decide : (Int32.ofInt 1).toInt = 1) (by omega) (by omega)) (fun z366 h367 => ?_)
                            refine En_Ps 1 (pc' := 25) (lv' := [(2, .int z366), (0, .ref 3), (1, .ref a)]) (st' := []) rfl ?_
                            refine En_lv (lv := [(0, .ref 3), (1, .ref a), (2, .int z366)]) ⟨rfl, rfl, rfl, trivial⟩ ?_
                            exact ih25 σ360 z366 z354 z358 y43 h361 h362 ((h364 _ _ (Or.inr (by decide))).trans h355) h363 ((h364 _ _ (Or.inr (by decide))).trans ((h352 _ _ (inW ha (by decide +kernel))).trans ((h317 _ _ (inW ha (by decide +kernel))).trans ((h126 _ _ (inW ha (by decide +kernel))).trans ((h116 _ _ (inW ha (by decide +kernel))).trans ((h106 _ _ (inW ha (by decide +kernel))).trans ((h96 _ _ (inW ha (by decide +kernel))).trans ((h86 _ _ (inW ha (by decide +kernel))).trans ((h76 _ _ (inW ha (by decide +kernel))).trans h49))))))))) (by omega) (by omega) (by omega) (by omega) (by omega) (by omega) (by omega) (by omega) (by omega) (by omega) (by omega) (by omega) (by omega) (h365)
                      · refine En_Ps 2 (pc' := 137) (lv' := [(0, .ref 3), (1, .ref a), (2, .int y40)]) (st' := [.ref a, .ref 3]) rfl ?_
                        refine En_callV rfl rfl rfl rfl rfl rfl rfl rfl (by decide +kernel : TG 3 = 3) (by decide +kernel) rfl (c_68 σ114 h115 a ha y41 ((h116 _ _ (inW (by decide +kernel : TG 3 = 3) (by decide +kernel))).trans ((h106 _ _ (inW (by decide +kernel : TG 3 = 3) (by decide +kernel))).trans ((h96 _ _ (inW (by decide +kernel : TG 3 = 3) (by decide +kernel))).trans ((h86 _ _ (inW (by decide +kernel : TG 3 = 3) (by decide +kernel))).trans ((h76 _ _ (inW (by decide +kernel : TG 3 = 3) (by decide +kernel))).trans h47))))) y43 ((h116 _ _ (inW ha (by decide +kernel))).trans ((h106 _ _ (inW ha (by decide +kernel))).trans ((h96 _ _ (inW ha (by decide +kernel))).trans ((h86 _ _ (inW ha (by decide +kernel))).trans ((h76 _ _ (inW ha (by decide +kernel))).trans h49))))) (by omega)) (by decide) (by decide) (fun v369 σ370 h368 => ?_)
                        obtain ⟨h371, h372, z374, h375, rfl, h373⟩ := h368
                        have h376 := Fr_trans h119 h372 (by decide +kernel)
                        have h377 := OTH_fr h120 h372 (by decide +kernel)
                        refine En_Ps 3 (pc' := 201) (lv' := [(0, .ref 3), (1, .ref a), (2, .int y40)]) (st' := [.ref 3, .ref 3]) rfl ?_
                        refine En_getI (j := 1) (l := 0) (u := 4) rfl rfl rfl (by decide +kernel : TG 3 = 3) (by decide +kernel) h371 (by decide +kernel) (fun z379 h378 h380 h381 => ?_)
                        refine En_Ps 1 (pc' := 205) (lv' := [(0, .ref 3), (1, .ref a), (2, .int y40)]) (st' := [.int ((Int32.ofInt 3)), .int z379, .ref 3]) rfl ?_
                        refine En_icNe _ rfl (by decide : (Int32.ofInt 3).toInt = 3) rfl (fun h382 => ?_) (fun h382 => ?_)
                        · refine En_Ps 1 (pc' := 213) (lv' := [(0, .ref 3), (1, .ref a), (2, .int y40)]) (st' := [.int ((Int32.ofInt 0)), .ref 3]) rfl ?_
                          have := (by decide : ((Int32.ofInt 0)).toInt = 0)
                          refine En_callV rfl rfl rfl rfl rfl rfl rfl rfl (by decide +kernel : TG 3 = 3) (by decide +kernel) rfl (c_59 σ370 h371 ((Int32.ofInt 0)) (geI (by decide : (Int32.ofInt 0).toInt = 0) (by omega)) (leI (by decide : (Int32.ofInt 0).toInt = 0) (by omega)) z374 h375) (by decide) (by decide) (fun v384 σ385 h383 => ?_)
                          obtain ⟨h386, h387, z389, h390, rfl, h388⟩ := h383
                          have h391 := Fr_trans h376 h387 (by decide +kernel)
                          have h392 := OTH_fr h377 h387 (by decide +kernel)
                          refine En_Ps 2 (pc' := 218) (lv' := [(0, .ref 3), (1, .ref a), (2, .int y40)]) (st' := [.ref a, .ref a]) rfl ?_
                          refine En_getK (j := 0) ((h387 _ _ (inW ha (by decide +kernel))).trans ((h372 _ _ (inW ha (by decide +kernel))).trans ((h116 _ _ (inW ha (by decide +kernel))).trans ((h106 _ _ (inW ha (by decide +kernel))).trans ((h96 _ _ (inW ha (by decide +kernel))).trans ((h86 _ _ (inW ha (by decide +kernel))).trans ((h76 _ _ (inW ha (by decide +kernel))).trans h48))))))) rfl rfl rfl ha (by decide +kernel) ?_
                          refine En_Ps 2 (pc' := 223) (lv' := [(0, .ref 3), (1, .ref a), (2, .int y40)]) (st' := [.int ((y42 + ((Int32.ofInt 1)))), .ref a]) rfl ?_
                          refine En_top (addI rfl (by decide : (Int32.ofInt 1).toInt = 1) (by omega) (by omega)) (fun z393 h394 => ?_)
                          refine En_put (j := 0) rfl rfl rfl ha (by decide +kernel) rfl (vI (l := 0) (u := 1601) (by decide +kernel) rfl (by omega) (by omega)) h386 h391 (by decide +kernel) (fun σ395 h396 h397 h398 h399 => ?_)
                          have h400 := OTH_pj h392 h399 (by decide)
                          refine En_Ps 1 (pc' := 229) (lv' := [(2, .int ((y40 + Int32.ofInt 1))), (0, .ref 3), (1, .ref a)]) (st' := []) rfl ?_
                          refine En_lv1 (addI rfl (by decide : (Int32.ofInt 1).toInt = 1) (by omega) (by omega)) (fun z401 h402 => ?_)
                          refine En_Ps 1 (pc' := 25) (lv' := [(2, .int z401), (0, .ref 3), (1, .ref a)]) (st' := []) rfl ?_
                          refine En_lv (lv := [(0, .ref 3), (1, .ref a), (2, .int z401)]) ⟨rfl, rfl, rfl, trivial⟩ ?_
                          exact ih25 σ395 z401 z389 z393 y43 h396 h397 ((h399 _ _ (Or.inr (by decide))).trans h390) h398 ((h399 _ _ (Or.inr (by decide))).trans ((h387 _ _ (inW ha (by decide +kernel))).trans ((h372 _ _ (inW ha (by decide +kernel))).trans ((h116 _ _ (inW ha (by decide +kernel))).trans ((h106 _ _ (inW ha (by decide +kernel))).trans ((h96 _ _ (inW ha (by decide +kernel))).trans ((h86 _ _ (inW ha (by decide +kernel))).trans ((h76 _ _ (inW ha (by decide +kernel))).trans h49)))))))) (by omega) (by omega) (by omega) (by omega) (by omega) (by omega) (by omega) (by omega) (by omega) (by omega) (by omega) (by omega) (by omega) (h400)
                        · refine En_Ps 2 (pc' := 213) (lv' := [(0, .ref 3), (1, .ref a), (2, .int y40)]) (st' := [.int ((Int32.ofInt 1)), .ref 3]) rfl ?_
                          have := (by decide : ((Int32.ofInt 1)).toInt = 1)
                          refine En_callV rfl rfl rfl rfl rfl rfl rfl rfl (by decide +kernel : TG 3 = 3) (by decide +kernel) rfl (c_59 σ370 h371 ((Int32.ofInt 1)) (geI (by decide : (Int32.ofInt 1).toInt = 1) (by omega)) (leI (by decide : (Int32.ofInt 1).toInt = 1) (by omega)) z374 h375) (by decide) (by decide) (fun v404 σ405 h403 => ?_)
                          obtain ⟨h406, h407, z409, h410, rfl, h408⟩ := h403
                          have h411 := Fr_trans h376 h407 (by decide +kernel)
                          have h412 := OTH_fr h377 h407 (by decide +kernel)
                          refine En_Ps 2 (pc' := 218) (lv' := [(0, .ref 3), (1, .ref a), (2, .int y40)]) (st' := [.ref a, .ref a]) rfl ?_
                          refine En_getK (j := 0) ((h407 _ _ (inW ha (by decide +kernel))).trans ((h372 _ _ (inW ha (by decide +kernel))).trans ((h116 _ _ (inW ha (by decide +kernel))).trans ((h106 _ _ (inW ha (by decide +kernel))).trans ((h96 _ _ (inW ha (by decide +kernel))).trans ((h86 _ _ (inW ha (by decide +kernel))).trans ((h76 _ _ (inW ha (by decide +kernel))).trans h48))))))) rfl rfl rfl ha (by decide +kernel) ?_
                          refine En_Ps 2 (pc' := 223) (lv' := [(0, .ref 3), (1, .ref a), (2, .int y40)]) (st' := [.int ((y42 + ((Int32.ofInt 1)))), .ref a]) rfl ?_
                          refine En_top (addI rfl (by decide : (Int32.ofInt 1).toInt = 1) (by omega) (by omega)) (fun z413 h414 => ?_)
                          refine En_put (j := 0) rfl rfl rfl ha (by decide +kernel) rfl (vI (l := 0) (u := 1601) (by decide +kernel) rfl (by omega) (by omega)) h406 h411 (by decide +kernel) (fun σ415 h416 h417 h418 h419 => ?_)
                          have h420 := OTH_pj h412 h419 (by decide)
                          refine En_Ps 1 (pc' := 229) (lv' := [(2, .int ((y40 + Int32.ofInt 1))), (0, .ref 3), (1, .ref a)]) (st' := []) rfl ?_
                          refine En_lv1 (addI rfl (by decide : (Int32.ofInt 1).toInt = 1) (by omega) (by omega)) (fun z421 h422 => ?_)
                          refine En_Ps 1 (pc' := 25) (lv' := [(2, .int z421), (0, .ref 3), (1, .ref a)]) (st' := []) rfl ?_
                          refine En_lv (lv := [(0, .ref 3), (1, .ref a), (2, .int z421)]) ⟨rfl, rfl, rfl, trivial⟩ ?_
                          exact ih25 σ415 z421 z409 z413 y43 h416 h417 ((h419 _ _ (Or.inr (by decide))).trans h410) h418 ((h419 _ _ (Or.inr (by decide))).trans ((h407 _ _ (inW ha (by decide +kernel))).trans ((h372 _ _ (inW ha (by decide +kernel))).trans ((h116 _ _ (inW ha (by decide +kernel))).trans ((h106 _ _ (inW ha (by decide +kernel))).trans ((h96 _ _ (inW ha (by decide +kernel))).trans ((h86 _ _ (inW ha (by decide +kernel))).trans ((h76 _ _ (inW ha (by decide +kernel))).trans h49)))))))) (by omega) (by omega) (by omega) (by omega) (by omega) (by omega) (by omega) (by omega) (by omega) (by omega) (by omega) (by omega) (by omega) (h420)
                    · refine En_Ps 2 (pc' := 120) (lv' := [(0, .ref 3), (1, .ref a), (2, .int y40)]) (st' := [.ref a, .ref 3]) rfl ?_
                      refine En_callV rfl rfl rfl rfl rfl rfl rfl rfl (by decide +kernel : TG 3 = 3) (by decide +kernel) rfl (c_70 σ104 h105 a ha y41 ((h106 _ _ (inW (by decide +kernel : TG 3 = 3) (by decide +kernel))).trans ((h96 _ _ (inW (by decide +kernel : TG 3 = 3) (by decide +kernel))).trans ((h86 _ _ (inW (by decide +kernel : TG 3 = 3) (by decide +kernel))).trans ((h76 _ _ (inW (by decide +kernel : TG 3 = 3) (by decide +kernel))).trans h47)))) y43 ((h106 _ _ (inW ha (by decide +kernel))).trans ((h96 _ _ (inW ha (by decide +kernel))).trans ((h86 _ _ (inW ha (by decide +kernel))).trans ((h76 _ _ (inW ha (by decide +kernel))).trans h49)))) (by omega)) (by decide) (by decide) (fun v424 σ425 h423 => ?_)
                      obtain ⟨h426, h427, z429, h430, rfl, h428⟩ := h423
                      have h431 := Fr_trans h109 h427 (by decide +kernel)
                      have h432 := OTH_fr h110 h427 (by decide +kernel)
                      refine En_Ps 3 (pc' := 201) (lv' := [(0, .ref 3), (1, .ref a), (2, .int y40)]) (st' := [.ref 3, .ref 3]) rfl ?_
                      refine En_getI (j := 1) (l := 0) (u := 4) rfl rfl rfl (by decide +kernel : TG 3 = 3) (by decide +kernel) h426 (by decide +kernel) (fun z434 h433 h435 h436 => ?_)
                      refine En_Ps 1 (pc' := 205) (lv' := [(0, .ref 3), (1, .ref a), (2, .int y40)]) (st' := [.int ((Int32.ofInt 3)), .int z434, .ref 3]) rfl ?_
                      refine En_icNe _ rfl (by decide : (Int32.ofInt 3).toInt = 3) rfl (fun h437 => ?_) (fun h437 => ?_)
                      · refine En_Ps 1 (pc' := 213) (lv' := [(0, .ref 3), (1, .ref a), (2, .int y40)]) (st' := [.int ((Int32.ofInt 0)), .ref 3]) rfl ?_
                        have := (by decide : ((Int32.ofInt 0)).toInt = 0)
                        refine En_callV rfl rfl rfl rfl rfl rfl rfl rfl (by decide +kernel : TG 3 = 3) (by decide +kernel) rfl (c_59 σ425 h426 ((Int32.ofInt 0)) (geI (by decide : (Int32.ofInt 0).toInt = 0) (by omega)) (leI (by decide : (Int32.ofInt 0).toInt = 0) (by omega)) z429 h430) (by decide) (by decide) (fun v439 σ440 h438 => ?_)
                        obtain ⟨h441, h442, z444, h445, rfl, h443⟩ := h438
                        have h446 := Fr_trans h431 h442 (by decide +kernel)
                        have h447 := OTH_fr h432 h442 (by decide +kernel)
                        refine En_Ps 2 (pc' := 218) (lv' := [(0, .ref 3), (1, .ref a), (2, .int y40)]) (st' := [.ref a, .ref a]) rfl ?_
                        refine En_getK (j := 0) ((h442 _ _ (inW ha (by decide +kernel))).trans ((h427 _ _ (inW ha (by decide +kernel))).trans ((h106 _ _ (inW ha (by decide +kernel))).trans ((h96 _ _ (inW ha (by decide +kernel))).trans ((h86 _ _ (inW ha (by decide +kernel))).trans ((h76 _ _ (inW ha (by decide +kernel))).trans h48)))))) rfl rfl rfl ha (by decide +kernel) ?_
                        refine En_Ps 2 (pc' := 223) (lv' := [(0, .ref 3), (1, .ref a), (2, .int y40)]) (st' := [.int ((y42 + ((Int32.ofInt 1)))), .ref a]) rfl ?_
                        refine En_top (addI rfl (by decide : (Int32.ofInt 1).toInt = 1) (by omega) (by omega)) (fun z448 h449 => ?_)
                        refine En_put (j := 0) rfl rfl rfl ha (by decide +kernel) rfl (vI (l := 0) (u := 1601) (by decide +kernel) rfl (by omega) (by omega)) h441 h446 (by decide +kernel) (fun σ450 h451 h452 h453 h454 => ?_)
                        have h455 := OTH_pj h447 h454 (by decide)
                        refine En_Ps 1 (pc' := 229) (lv' := [(2, .int ((y40 + Int32.ofInt 1))), (0, .ref 3), (1, .ref a)]) (st' := []) rfl ?_
                        refine En_lv1 (addI rfl (by decide : (Int32.ofInt 1).toInt = 1) (by omega) (by omega)) (fun z456 h457 => ?_)
                        refine En_Ps 1 (pc' := 25) (lv' := [(2, .int z456), (0, .ref 3), (1, .ref a)]) (st' := []) rfl ?_
                        refine En_lv (lv := [(0, .ref 3), (1, .ref a), (2, .int z456)]) ⟨rfl, rfl, rfl, trivial⟩ ?_
                        exact ih25 σ450 z456 z444 z448 y43 h451 h452 ((h454 _ _ (Or.inr (by decide))).trans h445) h453 ((h454 _ _ (Or.inr (by decide))).trans ((h442 _ _ (inW ha (by decide +kernel))).trans ((h427 _ _ (inW ha (by decide +kernel))).trans ((h106 _ _ (inW ha (by decide +kernel))).trans ((h96 _ _ (inW ha (by decide +kernel))).trans ((h86 _ _ (inW ha (by decide +kernel))).trans ((h76 _ _ (inW ha (by decide +kernel))).trans h49))))))) (by omega) (by omega) (by omega) (by omega) (by omega) (by omega) (by omega) (by omega) (by omega) (by omega) (by omega) (by omega) (by omega) (h455)
                      · refine En_Ps 2 (pc' := 213) (lv' := [(0, .ref 3), (1, .ref a), (2, .int y40)]) (st' := [.int ((Int32.ofInt 1)), .ref 3]) rfl ?_
                        have := (by decide : ((Int32.ofInt 1)).toInt = 1)
                        refine En_callV rfl rfl rfl rfl rfl rfl rfl rfl (by decide +kernel : TG 3 = 3) (by decide +kernel) rfl (c_59 σ425 h426 ((Int32.ofInt 1)) (geI (by decide : (Int32.ofInt 1).toInt = 1) (by omega)) (leI (by decide : (Int32.ofInt 1).toInt = 1) (by omega)) z429 h430) (by decide) (by decide) (fun v459 σ460 h458 => ?_)
                        obtain ⟨h461, h462, z464, h465, rfl, h463⟩ := h458
                        have h466 := Fr_trans h431 h462 (by decide +kernel)
                        have h467 := OTH_fr h432 h462 (by decide +kernel)
                        refine En_Ps 2 (pc' := 218) (lv' := [(0, .ref 3), (1, .ref a), (2, .int y40)]) (st' := [.ref a, .ref a]) rfl ?_
                        refine En_getK (j := 0) ((h462 _ _ (inW ha (by decide +kernel))).trans ((h427 _ _ (inW ha (by decide +kernel))).trans ((h106 _ _ (inW ha (by decide +kernel))).trans ((h96 _ _ (inW ha (by decide +kernel))).trans ((h86 _ _ (inW ha (by decide +kernel))).trans ((h76 _ _ (inW ha (by decide +kernel))).trans h48)))))) rfl rfl rfl ha (by decide +kernel) ?_
                        refine En_Ps 2 (pc' := 223) (lv' := [(0, .ref 3), (1, .ref a), (2, .int y40)]) (st' := [.int ((y42 + ((Int32.ofInt 1)))), .ref a]) rfl ?_
                        refine En_top (addI rfl (by decide : (Int32.ofInt 1).toInt = 1) (by omega) (by omega)) (fun z468 h469 => ?_)
                        refine En_put (j := 0) rfl rfl rfl ha (by decide +kernel) rfl (vI (l := 0) (u := 1601) (by decide +kernel) rfl (by omega) (by omega)) h461 h466 (by decide +kernel) (fun σ470 h471 h472 h473 h474 => ?_)
                        have h475 := OTH_pj h467 h474 (by decide)
                        refine En_Ps 1 (pc' := 229) (lv' := [(2, .int ((y40 + Int32.ofInt 1))), (0, .ref 3), (1, .ref a)]) (st' := []) rfl ?_
                        refine En_lv1 (addI rfl (by decide : (Int32.ofInt 1).toInt = 1) (by omega) (by omega)) (fun z476 h477 => ?_)
                        refine En_Ps 1 (pc' := 25) (lv' := [(2, .int z476), (0, .ref 3), (1, .ref a)]) (st' := []) rfl ?_
                        refine En_lv (lv := [(0, .ref 3), (1, .ref a), (2, .int z476)]) ⟨rfl, rfl, rfl, trivial⟩ ?_
                        exact ih25 σ470 z476 z464 z468 y43 h471 h472 ((h474 _ _ (Or.inr (by decide))).trans h465) h473 ((h474 _ _ (Or.inr (by decide))).trans ((h462 _ _ (inW ha (by decide +kernel))).trans ((h427 _ _ (inW ha (by decide +kernel))).trans ((h106 _ _ (inW ha (by decide +kernel))).trans ((h96 _ _ (inW ha (by decide +kernel))).trans ((h86 _ _ (inW ha (by decide +kernel))).trans ((h76 _ _ (inW ha (by decide +kernel))).trans h49))))))) (by omega) (by omega) (by omega) (by omega) (by omega) (by omega) (by omega) (by omega) (by omega) (by omega) (by omega) (by omega) (by omega) (h475)
                  · refine En_Ps 2 (pc' := 103) (lv' := [(0, .ref 3), (1, .ref a), (2, .int y40)]) (st' := [.ref a, .ref 3]) rfl ?_
                    refine En_callV rfl rfl rfl rfl rfl rfl rfl rfl (by decide +kernel : TG 3 = 3) (by decide +kernel) rfl (c_64 σ94 h95 a ha y41 ((h96 _ _ (inW (by decide +kernel : TG 3 = 3) (by decide +kernel))).trans ((h86 _ _ (inW (by decide +kernel : TG 3 = 3) (by decide +kernel))).trans ((h76 _ _ (inW (by decide +kernel : TG 3 = 3) (by decide +kernel))).trans h47))) y43 ((h96 _ _ (inW ha (by decide +kernel))).trans ((h86 _ _ (inW ha (by decide +kernel))).trans ((h76 _ _ (inW ha (by decide +kernel))).trans h49))) (by omega)) (by decide) (by decide) (fun v479 σ480 h478 => ?_)
                    obtain ⟨h481, h482, z484, h485, rfl, h483⟩ := h478
                    have h486 := Fr_trans h99 h482 (by decide +kernel)
                    have h487 := OTH_fr h100 h482 (by decide +kernel)
                    refine En_Ps 3 (pc' := 201) (lv' := [(0, .ref 3), (1, .ref a), (2, .int y40)]) (st' := [.ref 3, .ref 3]) rfl ?_
                    refine En_getI (j := 1) (l := 0) (u := 4) rfl rfl rfl (by decide +kernel : TG 3 = 3) (by decide +kernel) h481 (by decide +kernel) (fun z489 h488 h490 h491 => ?_)
                    refine En_Ps 1 (pc' := 205) (lv' := [(0, .ref 3), (1, .ref a), (2, .int y40)]) (st' := [.int ((Int32.ofInt 3)), .int z489, .ref 3]) rfl ?_
                    refine En_icNe _ rfl (by decide : (Int32.ofInt 3).toInt = 3) rfl (fun h492 => ?_) (fun h492 => ?_)
                    · refine En_Ps 1 (pc' := 213) (lv' := [(0, .ref 3), (1, .ref a), (2, .int y40)]) (st' := [.int ((Int32.ofInt 0)), .ref 3]) rfl ?_
                      have := (by decide : ((Int32.ofInt 0)).toInt = 0)
                      refine En_callV rfl rfl rfl rfl rfl rfl rfl rfl (by decide +kernel : TG 3 = 3) (by decide +kernel) rfl (c_59 σ480 h481 ((Int32.ofInt 0)) (geI (by decide : (Int32.ofInt 0).toInt = 0) (by omega)) (leI (by decide : (Int32.ofInt 0).toInt = 0) (by omega)) z484 h485) (by decide) (by decide) (fun v494 σ495 h493 => ?_)
                      obtain ⟨h496, h497, z499, h500, rfl, h498⟩ := h493
                      have h501 := Fr_trans h486 h497 (by decide +kernel)
                      have h502 := OTH_fr h487 h497 (by decide +kernel)
                      refine En_Ps 2 (pc' := 218) (lv' := [(0, .ref 3), (1, .ref a), (2, .int y40)]) (st' := [.ref a, .ref a]) rfl ?_
                      refine En_getK (j := 0) ((h497 _ _ (inW ha (by decide +kernel))).trans ((h482 _ _ (inW ha (by decide +kernel))).trans ((h96 _ _ (inW ha (by decide +kernel))).trans ((h86 _ _ (inW ha (by decide +kernel))).trans ((h76 _ _ (inW ha (by decide +kernel))).trans h48))))) rfl rfl rfl ha (by decide +kernel) ?_
                      refine En_Ps 2 (pc' := 223) (lv' := [(0, .ref 3), (1, .ref a), (2, .int y40)]) (st' := [.int ((y42 + ((Int32.ofInt 1)))), .ref a]) rfl ?_
                      refine En_top (addI rfl (by decide : (Int32.ofInt 1).toInt = 1) (by omega) (by omega)) (fun z503 h504 => ?_)
                      refine En_put (j := 0) rfl rfl rfl ha (by decide +kernel) rfl (vI (l := 0) (u := 1601) (by decide +kernel) rfl (by omega) (by omega)) h496 h501 (by decide +kernel) (fun σ505 h506 h507 h508 h509 => ?_)
                      have h510 := OTH_pj h502 h509 (by decide)
                      refine En_Ps 1 (pc' := 229) (lv' := [(2, .int ((y40 + Int32.ofInt 1))), (0, .ref 3), (1, .ref a)]) (st' := []) rfl ?_
                      refine En_lv1 (addI rfl (by decide : (Int32.ofInt 1).toInt = 1) (by omega) (by omega)) (fun z511 h512 => ?_)
                      refine En_Ps 1 (pc' := 25) (lv' := [(2, .int z511), (0, .ref 3), (1, .ref a)]) (st' := []) rfl ?_
                      refine En_lv (lv := [(0, .ref 3), (1, .ref a), (2, .int z511)]) ⟨rfl, rfl, rfl, trivial⟩ ?_
                      exact ih25 σ505 z511 z499 z503 y43 h506 h507 ((h509 _ _ (Or.inr (by decide))).trans h500) h508 ((h509 _ _ (Or.inr (by decide))).trans ((h497 _ _ (inW ha (by decide +kernel))).trans ((h482 _ _ (inW ha (by decide +kernel))).trans ((h96 _ _ (inW ha (by decide +kernel))).trans ((h86 _ _ (inW ha (by decide +kernel))).trans ((h76 _ _ (inW ha (by decide +kernel))).trans h49)))))) (by omega) (by omega) (by omega) (by omega) (by omega) (by omega) (by omega) (by omega) (by omega) (by omega) (by omega) (by omega) (by omega) (h510)
                    · refine En_Ps 2 (pc' := 213) (lv' := [(0, .ref 3), (1, .ref a), (2, .int y40)]) (st' := [.int ((Int32.ofInt 1)), .ref 3]) rfl ?_
                      have := (by decide : ((Int32.ofInt 1)).toInt = 1)
                      refine En_callV rfl rfl rfl rfl rfl rfl rfl rfl (by decide +kernel : TG 3 = 3) (by decide +kernel) rfl (c_59 σ480 h481 ((Int32.ofInt 1)) (geI (by decide : (Int32.ofInt 1).toInt = 1) (by omega)) (leI (by decide : (Int32.ofInt 1).toInt = 1) (by omega)) z484 h485) (by decide) (by decide) (fun v514 σ515 h513 => ?_)
                      obtain ⟨h516, h517, z519, h520, rfl, h518⟩ := h513
                      have h521 := Fr_trans h486 h517 (by decide +kernel)
                      have h522 := OTH_fr h487 h517 (by decide +kernel)
                      refine En_Ps 2 (pc' := 218) (lv' := [(0, .ref 3), (1, .ref a), (2, .int y40)]) (st' := [.ref a, .ref a]) rfl ?_
                      refine En_getK (j := 0) ((h517 _ _ (inW ha (by decide +kernel))).trans ((h482 _ _ (inW ha (by decide +kernel))).trans ((h96 _ _ (inW ha (by decide +kernel))).trans ((h86 _ _ (inW ha (by decide +kernel))).trans ((h76 _ _ (inW ha (by decide +kernel))).trans h48))))) rfl rfl rfl ha (by decide +kernel) ?_
                      refine En_Ps 2 (pc' := 223) (lv' := [(0, .ref 3), (1, .ref a), (2, .int y40)]) (st' := [.int ((y42 + ((Int32.ofInt 1)))), .ref a]) rfl ?_
                      refine En_top (addI rfl (by decide : (Int32.ofInt 1).toInt = 1) (by omega) (by omega)) (fun z523 h524 => ?_)
                      refine En_put (j := 0) rfl rfl rfl ha (by decide +kernel) rfl (vI (l := 0) (u := 1601) (by decide +kernel) rfl (by omega) (by omega)) h516 h521 (by decide +kernel) (fun σ525 h526 h527 h528 h529 => ?_)
                      have h530 := OTH_pj h522 h529 (by decide)
                      refine En_Ps 1 (pc' := 229) (lv' := [(2, .int ((y40 + Int32.ofInt 1))), (0, .ref 3), (1, .ref a)]) (st' := []) rfl ?_
                      refine En_lv1 (addI rfl (by decide : (Int32.ofInt 1).toInt = 1) (by omega) (by omega)) (fun z531 h532 => ?_)
                      refine En_Ps 1 (pc' := 25) (lv' := [(2, .int z531), (0, .ref 3), (1, .ref a)]) (st' := []) rfl ?_
                      refine En_lv (lv := [(0, .ref 3), (1, .ref a), (2, .int z531)]) ⟨rfl, rfl, rfl, trivial⟩ ?_
                      exact ih25 σ525 z531 z519 z523 y43 h526 h527 ((h529 _ _ (Or.inr (by decide))).trans h520) h528 ((h529 _ _ (Or.inr (by decide))).trans ((h517 _ _ (inW ha (by decide +kernel))).trans ((h482 _ _ (inW ha (by decide +kernel))).trans ((h96 _ _ (inW ha (by decide +kernel))).trans ((h86 _ _ (inW ha (by decide +kernel))).trans ((h76 _ _ (inW ha (by decide +kernel))).trans h49)))))) (by omega) (by omega) (by omega) (by omega) (by omega) (by omega) (by omega) (by omega) (by omega) (by omega) (by omega) (by omega) (by omega) (h530)
                · refine En_Ps 2 (pc' := 86) (lv' := [(0, .ref 3), (1, .ref a), (2, .int y40)]) (st' := [.ref a, .ref 3]) rfl ?_
                  refine En_callV rfl rfl rfl rfl rfl rfl rfl rfl (by decide +kernel : TG 3 = 3) (by decide +kernel) rfl (c_67 σ84 h85 a ha y41 ((h86 _ _ (inW (by decide +kernel : TG 3 = 3) (by decide +kernel))).trans ((h76 _ _ (inW (by decide +kernel : TG 3 = 3) (by decide +kernel))).trans h47)) y43 ((h86 _ _ (inW ha (by decide +kernel))).trans ((h76 _ _ (inW ha (by decide +kernel))).trans h49)) (by omega)) (by decide) (by decide) (fun v534 σ535 h533 => ?_)
                  obtain ⟨h536, h537, z539, h540, rfl, h538⟩ := h533
                  have h541 := Fr_trans h89 h537 (by decide +kernel)
                  have h542 := OTH_fr h90 h537 (by decide +kernel)
                  refine En_Ps 3 (pc' := 201) (lv' := [(0, .ref 3), (1, .ref a), (2, .int y40)]) (st' := [.ref 3, .ref 3]) rfl ?_
                  refine En_getI (j := 1) (l := 0) (u := 4) rfl rfl rfl (by decide +kernel : TG 3 = 3) (by decide +kernel) h536 (by decide +kernel) (fun z544 h543 h545 h546 => ?_)
                  refine En_Ps 1 (pc' := 205) (lv' := [(0, .ref 3), (1, .ref a), (2, .int y40)]) (st' := [.int ((Int32.ofInt 3)), .int z544, .ref 3]) rfl ?_
                  refine En_icNe _ rfl (by decide : (Int32.ofInt 3).toInt = 3) rfl (fun h547 => ?_) (fun h547 => ?_)
                  · refine En_Ps 1 (pc' := 213) (lv' := [(0, .ref 3), (1, .ref a), (2, .int y40)]) (st' := [.int ((Int32.ofInt 0)), .ref 3]) rfl ?_
                    have := (by decide : ((Int32.ofInt 0)).toInt = 0)
                    refine En_callV rfl rfl rfl rfl rfl rfl rfl rfl (by decide +kernel : TG 3 = 3) (by decide +kernel) rfl (c_59 σ535 h536 ((Int32.ofInt 0)) (geI (by decide : (Int32.ofInt 0).toInt = 0) (by omega)) (leI (by decide : (Int32.ofInt 0).toInt = 0) (by omega)) z539 h540) (by decide) (by decide) (fun v549 σ550 h548 => ?_)
                    obtain ⟨h551, h552, z554, h555, rfl, h553⟩ := h548
                    have h556 := Fr_trans h541 h552 (by decide +kernel)
                    have h557 := OTH_fr h542 h552 (by decide +kernel)
                    refine En_Ps 2 (pc' := 218) (lv' := [(0, .ref 3), (1, .ref a), (2, .int y40)]) (st' := [.ref a, .ref a]) rfl ?_
                    refine En_getK (j := 0) ((h552 _ _ (inW ha (by decide +kernel))).trans ((h537 _ _ (inW ha (by decide +kernel))).trans ((h86 _ _ (inW ha (by decide +kernel))).trans ((h76 _ _ (inW ha (by decide +kernel))).trans h48)))) rfl rfl rfl ha (by decide +kernel) ?_
                    refine En_Ps 2 (pc' := 223) (lv' := [(0, .ref 3), (1, .ref a), (2, .int y40)]) (st' := [.int ((y42 + ((Int32.ofInt 1)))), .ref a]) rfl ?_
                    refine En_top (addI rfl (by decide : (Int32.ofInt 1).toInt = 1) (by omega) (by omega)) (fun z558 h559 => ?_)
                    refine En_put (j := 0) rfl rfl rfl ha (by decide +kernel) rfl (vI (l := 0) (u := 1601) (by decide +kernel) rfl (by omega) (by omega)) h551 h556 (by decide +kernel) (fun σ560 h561 h562 h563 h564 => ?_)
                    have h565 := OTH_pj h557 h564 (by decide)
                    refine En_Ps 1 (pc' := 229) (lv' := [(2, .int ((y40 + Int32.ofInt 1))), (0, .ref 3), (1, .ref a)]) (st' := []) rfl ?_
                    refine En_lv1 (addI rfl (by decide : (Int32.ofInt 1).toInt = 1) (by omega) (by omega)) (fun z566 h567 => ?_)
                    refine En_Ps 1 (pc' := 25) (lv' := [(2, .int z566), (0, .ref 3), (1, .ref a)]) (st' := []) rfl ?_
                    refine En_lv (lv := [(0, .ref 3), (1, .ref a), (2, .int z566)]) ⟨rfl, rfl, rfl, trivial⟩ ?_
                    exact ih25 σ560 z566 z554 z558 y43 h561 h562 ((h564 _ _ (Or.inr (by decide))).trans h555) h563 ((h564 _ _ (Or.inr (by decide))).trans ((h552 _ _ (inW ha (by decide +kernel))).trans ((h537 _ _ (inW ha (by decide +kernel))).trans ((h86 _ _ (inW ha (by decide +kernel))).trans ((h76 _ _ (inW ha (by decide +kernel))).trans h49))))) (by omega) (by omega) (by omega) (by omega) (by omega) (by omega) (by omega) (by omega) (by omega) (by omega) (by omega) (by omega) (by omega) (h565)
                  · refine En_Ps 2 (pc' := 213) (lv' := [(0, .ref 3), (1, .ref a), (2, .int y40)]) (st' := [.int ((Int32.ofInt 1)), .ref 3]) rfl ?_
                    have := (by decide : ((Int32.ofInt 1)).toInt = 1)
                    refine En_callV rfl rfl rfl rfl rfl rfl rfl rfl (by decide +kernel : TG 3 = 3) (by decide +kernel) rfl (c_59 σ535 h536 ((Int32.ofInt 1)) (geI (by decide : (Int32.ofInt 1).toInt = 1) (by omega)) (leI (by decide : (Int32.ofInt 1).toInt = 1) (by omega)) z539 h540) (by decide) (by decide) (fun v569 σ570 h568 => ?_)
                    obtain ⟨h571, h572, z574, h575, rfl, h573⟩ := h568
                    have h576 := Fr_trans h541 h572 (by decide +kernel)
                    have h577 := OTH_fr h542 h572 (by decide +kernel)
                    refine En_Ps 2 (pc' := 218) (lv' := [(0, .ref 3), (1, .ref a), (2, .int y40)]) (st' := [.ref a, .ref a]) rfl ?_
                    refine En_getK (j := 0) ((h572 _ _ (inW ha (by decide +kernel))).trans ((h537 _ _ (inW ha (by decide +kernel))).trans ((h86 _ _ (inW ha (by decide +kernel))).trans ((h76 _ _ (inW ha (by decide +kernel))).trans h48)))) rfl rfl rfl ha (by decide +kernel) ?_
                    refine En_Ps 2 (pc' := 223) (lv' := [(0, .ref 3), (1, .ref a), (2, .int y40)]) (st' := [.int ((y42 + ((Int32.ofInt 1)))), .ref a]) rfl ?_
                    refine En_top (addI rfl (by decide : (Int32.ofInt 1).toInt = 1) (by omega) (by omega)) (fun z578 h579 => ?_)
                    refine En_put (j := 0) rfl rfl rfl ha (by decide +kernel) rfl (vI (l := 0) (u := 1601) (by decide +kernel) rfl (by omega) (by omega)) h571 h576 (by decide +kernel) (fun σ580 h581 h582 h583 h584 => ?_)
                    have h585 := OTH_pj h577 h584 (by decide)
                    refine En_Ps 1 (pc' := 229) (lv' := [(2, .int ((y40 + Int32.ofInt 1))), (0, .ref 3), (1, .ref a)]) (st' := []) rfl ?_
                    refine En_lv1 (addI rfl (by decide : (Int32.ofInt 1).toInt = 1) (by omega) (by omega)) (fun z586 h587 => ?_)
                    refine En_Ps 1 (pc' := 25) (lv' := [(2, .int z586), (0, .ref 3), (1, .ref a)]) (st' := []) rfl ?_
                    refine En_lv (lv := [(0, .ref 3), (1, .ref a), (2, .int z586)]) ⟨rfl, rfl, rfl, trivial⟩ ?_
                    exact ih25 σ580 z586 z574 z578 y43 h581 h582 ((h584 _ _ (Or.inr (by decide))).trans h575) h583 ((h584 _ _ (Or.inr (by decide))).trans ((h572 _ _ (inW ha (by decide +kernel))).trans ((h537 _ _ (inW ha (by decide +kernel))).trans ((h86 _ _ (inW ha (by decide +kernel))).trans ((h76 _ _ (inW ha (by decide +kernel))).trans h49))))) (by omega) (by omega) (by omega) (by omega) (by omega) (by omega) (by omega) (by omega) (by omega) (by omega) (by omega) (by omega) (by omega) (h585)
              · refine En_Ps 2 (pc' := 69) (lv' := [(0, .ref 3), (1, .ref a), (2, .int y40)]) (st' := [.ref a, .ref 3]) rfl ?_
                refine En_callV rfl rfl rfl rfl rfl rfl rfl rfl (by decide +kernel : TG 3 = 3) (by decide +kernel) rfl (c_63 σ74 h75 a ha y41 ((h76 _ _ (inW (by decide +kernel : TG 3 = 3) (by decide +kernel))).trans h47) y43 ((h76 _ _ (inW ha (by decide +kernel))).trans h49) (by omega)) (by decide) (by decide) (fun v589 σ590 h588 => ?_)
                obtain ⟨h591, h592, z594, h595, rfl, h593⟩ := h588
                have h596 := Fr_trans h79 h592 (by decide +kernel)
                have h597 := OTH_fr h80 h592 (by decide +kernel)
                refine En_Ps 3 (pc' := 201) (lv' := [(0, .ref 3), (1, .ref a), (2, .int y40)]) (st' := [.ref 3, .ref 3]) rfl ?_
                refine En_getI (j := 1) (l := 0) (u := 4) rfl rfl rfl (by decide +kernel : TG 3 = 3) (by decide +kernel) h591 (by decide +kernel) (fun z599 h598 h600 h601 => ?_)
                refine En_Ps 1 (pc' := 205) (lv' := [(0, .ref 3), (1, .ref a), (2, .int y40)]) (st' := [.int ((Int32.ofInt 3)), .int z599, .ref 3]) rfl ?_
                refine En_icNe _ rfl (by decide : (Int32.ofInt 3).toInt = 3) rfl (fun h602 => ?_) (fun h602 => ?_)
                · refine En_Ps 1 (pc' := 213) (lv' := [(0, .ref 3), (1, .ref a), (2, .int y40)]) (st' := [.int ((Int32.ofInt 0)), .ref 3]) rfl ?_
                  have := (by decide : ((Int32.ofInt 0)).toInt = 0)
                  refine En_callV rfl rfl rfl rfl rfl rfl rfl rfl (by decide +kernel : TG 3 = 3) (by decide +kernel) rfl (c_59 σ590 h591 ((Int32.ofInt 0)) (geI (by decide : (Int32.ofInt 0).toInt = 0) (by omega)) (leI (by decide : (Int32.ofInt 0).toInt = 0) (by omega)) z594 h595) (by decide) (by decide) (fun v604 σ605 h603 => ?_)
                  obtain ⟨h606, h607, z609, h610, rfl, h608⟩ := h603
                  have h611 := Fr_trans h596 h607 (by decide +kernel)
                  have h612 := OTH_fr h597 h607 (by decide +kernel)
                  refine En_Ps 2 (pc' := 218) (lv' := [(0, .ref 3), (1, .ref a), (2, .int y40)]) (st' := [.ref a, .ref a]) rfl ?_
                  refine En_getK (j := 0) ((h607 _ _ (inW ha (by decide +kernel))).trans ((h592 _ _ (inW ha (by decide +kernel))).trans ((h76 _ _ (inW ha (by decide +kernel))).trans h48))) rfl rfl rfl ha (by decide +kernel) ?_
                  refine En_Ps 2 (pc' := 223) (lv' := [(0, .ref 3), (1, .ref a), (2, .int y40)]) (st' := [.int ((y42 + ((Int32.ofInt 1)))), .ref a]) rfl ?_
                  refine En_top (addI rfl (by decide : (Int32.ofInt 1).toInt = 1) (by omega) (by omega)) (fun z613 h614 => ?_)
                  refine En_put (j := 0) rfl rfl rfl ha (by decide +kernel) rfl (vI (l := 0) (u := 1601) (by decide +kernel) rfl (by omega) (by omega)) h606 h611 (by decide +kernel) (fun σ615 h616 h617 h618 h619 => ?_)
                  have h620 := OTH_pj h612 h619 (by decide)
                  refine En_Ps 1 (pc' := 229) (lv' := [(2, .int ((y40 + Int32.ofInt 1))), (0, .ref 3), (1, .ref a)]) (st' := []) rfl ?_
                  refine En_lv1 (addI rfl (by decide : (Int32.ofInt 1).toInt = 1) (by omega) (by omega)) (fun z621 h622 => ?_)
                  refine En_Ps 1 (pc' := 25) (lv' := [(2, .int z621), (0, .ref 3), (1, .ref a)]) (st' := []) rfl ?_
                  refine En_lv (lv := [(0, .ref 3), (1, .ref a), (2, .int z621)]) ⟨rfl, rfl, rfl, trivial⟩ ?_
                  exact ih25 σ615 z621 z609 z613 y43 h616 h617 ((h619 _ _ (Or.inr (by decide))).trans h610) h618 ((h619 _ _ (Or.inr (by decide))).trans ((h607 _ _ (inW ha (by decide +kernel))).trans ((h592 _ _ (inW ha (by decide +kernel))).trans ((h76 _ _ (inW ha (by decide +kernel))).trans h49)))) (by omega) (by omega) (by omega) (by omega) (by omega) (by omega) (by omega) (by omega) (by omega) (by omega) (by omega) (by omega) (by omega) (h620)
                · refine En_Ps 2 (pc' := 213) (lv' := [(0, .ref 3), (1, .ref a), (2, .int y40)]) (st' := [.int ((Int32.ofInt 1)), .ref 3]) rfl ?_
                  have := (by decide : ((Int32.ofInt 1)).toInt = 1)
                  refine En_callV rfl rfl rfl rfl rfl rfl rfl rfl (by decide +kernel : TG 3 = 3) (by decide +kernel) rfl (c_59 σ590 h591 ((Int32.ofInt 1)) (geI (by decide : (Int32.ofInt 1).toInt = 1) (by omega)) (leI (by decide : (Int32.ofInt 1).toInt = 1) (by omega)) z594 h595) (by decide) (by decide) (fun v624 σ625 h623 => ?_)
                  obtain ⟨h626, h627, z629, h630, rfl, h628⟩ := h623
                  have h631 := Fr_trans h596 h627 (by decide +kernel)
                  have h632 := OTH_fr h597 h627 (by decide +kernel)
                  refine En_Ps 2 (pc' := 218) (lv' := [(0, .ref 3), (1, .ref a), (2, .int y40)]) (st' := [.ref a, .ref a]) rfl ?_
                  refine En_getK (j := 0) ((h627 _ _ (inW ha (by decide +kernel))).trans ((h592 _ _ (inW ha (by decide +kernel))).trans ((h76 _ _ (inW ha (by decide +kernel))).trans h48))) rfl rfl rfl ha (by decide +kernel) ?_
                  refine En_Ps 2 (pc' := 223) (lv' := [(0, .ref 3), (1, .ref a), (2, .int y40)]) (st' := [.int ((y42 + ((Int32.ofInt 1)))), .ref a]) rfl ?_
                  refine En_top (addI rfl (by decide : (Int32.ofInt 1).toInt = 1) (by omega) (by omega)) (fun z633 h634 => ?_)
                  refine En_put (j := 0) rfl rfl rfl ha (by decide +kernel) rfl (vI (l := 0) (u := 1601) (by decide +kernel) rfl (by omega) (by omega)) h626 h631 (by decide +kernel) (fun σ635 h636 h637 h638 h639 => ?_)
                  have h640 := OTH_pj h632 h639 (by decide)
                  refine En_Ps 1 (pc' := 229) (lv' := [(2, .int ((y40 + Int32.ofInt 1))), (0, .ref 3), (1, .ref a)]) (st' := []) rfl ?_
                  refine En_lv1 (addI rfl (by decide : (Int32.ofInt 1).toInt = 1) (by omega) (by omega)) (fun z641 h642 => ?_)
                  refine En_Ps 1 (pc' := 25) (lv' := [(2, .int z641), (0, .ref 3), (1, .ref a)]) (st' := []) rfl ?_
                  refine En_lv (lv := [(0, .ref 3), (1, .ref a), (2, .int z641)]) ⟨rfl, rfl, rfl, trivial⟩ ?_
                  exact ih25 σ635 z641 z629 z633 y43 h636 h637 ((h639 _ _ (Or.inr (by decide))).trans h630) h638 ((h639 _ _ (Or.inr (by decide))).trans ((h627 _ _ (inW ha (by decide +kernel))).trans ((h592 _ _ (inW ha (by decide +kernel))).trans ((h76 _ _ (inW ha (by decide +kernel))).trans h49)))) (by omega) (by omega) (by omega) (by omega) (by omega) (by omega) (by omega) (by omega) (by omega) (by omega) (by omega) (by omega) (by omega) (h640)
            · refine En_Ps 2 (pc' := 52) (lv' := [(0, .ref 3), (1, .ref a), (2, .int y40)]) (st' := [.ref a, .ref 3]) rfl ?_
              refine En_callV rfl rfl rfl rfl rfl rfl rfl rfl (by decide +kernel : TG 3 = 3) (by decide +kernel) rfl (c_65x σ44 h45 a ha y41 h47) (by decide) (by decide) (fun v644 σ645 h643 => ?_)
              obtain ⟨h646, h647, z649, h650, z651, h652, rfl, h648⟩ := h643
              have h653 := h648.2.2.2.2.2.2.2.2.2.2
              have h654 := Fr_trans h46 h647 (by decide +kernel)
              have h655 := OTH_tr h63 h653
              refine En_Ps 3 (pc' := 201) (lv' := [(0, .ref 3), (1, .ref a), (2, .int y40)]) (st' := [.ref 3, .ref 3]) rfl ?_
              refine En_getI (j := 1) (l := 0) (u := 4) rfl rfl rfl (by decide +kernel : TG 3 = 3) (by decide +kernel) h646 (by decide +kernel) (fun z657 h656 h658 h659 => ?_)
              refine En_Ps 1 (pc' := 205) (lv' := [(0, .ref 3), (1, .ref a), (2, .int y40)]) (st' := [.int ((Int32.ofInt 3)), .int z657, .ref 3]) rfl ?_
              refine En_icNe _ rfl (by decide : (Int32.ofInt 3).toInt = 3) rfl (fun h660 => ?_) (fun h660 => ?_)
              · refine En_Ps 1 (pc' := 213) (lv' := [(0, .ref 3), (1, .ref a), (2, .int y40)]) (st' := [.int ((Int32.ofInt 0)), .ref 3]) rfl ?_
                have := (by decide : ((Int32.ofInt 0)).toInt = 0)
                refine En_callV rfl rfl rfl rfl rfl rfl rfl rfl (by decide +kernel : TG 3 = 3) (by decide +kernel) rfl (c_59 σ645 h646 ((Int32.ofInt 0)) (geI (by decide : (Int32.ofInt 0).toInt = 0) (by omega)) (leI (by decide : (Int32.ofInt 0).toInt = 0) (by omega)) z649 h650) (by decide) (by decide) (fun v662 σ663 h661 => ?_)
                obtain ⟨h664, h665, z667, h668, rfl, h666⟩ := h661
                have h669 := Fr_trans h654 h665 (by decide +kernel)
                have h670 := OTH_fr h655 h665 (by decide +kernel)
                refine En_Ps 2 (pc' := 218) (lv' := [(0, .ref 3), (1, .ref a), (2, .int y40)]) (st' := [.ref a, .ref a]) rfl ?_
                refine En_getK (j := 0) ((h665 _ _ (inW ha (by decide +kernel))).trans ((h647 _ _ (inW ha (by decide +kernel))).trans h48)) rfl rfl rfl ha (by decide +kernel) ?_
                refine En_Ps 2 (pc' := 223) (lv' := [(0, .ref 3), (1, .ref a), (2, .int y40)]) (st' := [.int ((y42 + ((Int32.ofInt 1)))), .ref a]) rfl ?_
                refine En_top (addI rfl (by decide : (Int32.ofInt 1).toInt = 1) (by omega) (by omega)) (fun z671 h672 => ?_)
                refine En_put (j := 0) rfl rfl rfl ha (by decide +kernel) rfl (vI (l := 0) (u := 1601) (by decide +kernel) rfl (by omega) (by omega)) h664 h669 (by decide +kernel) (fun σ673 h674 h675 h676 h677 => ?_)
                have h678 := OTH_pj h670 h677 (by decide)
                refine En_Ps 1 (pc' := 229) (lv' := [(2, .int ((y40 + Int32.ofInt 1))), (0, .ref 3), (1, .ref a)]) (st' := []) rfl ?_
                refine En_lv1 (addI rfl (by decide : (Int32.ofInt 1).toInt = 1) (by omega) (by omega)) (fun z679 h680 => ?_)
                refine En_Ps 1 (pc' := 25) (lv' := [(2, .int z679), (0, .ref 3), (1, .ref a)]) (st' := []) rfl ?_
                refine En_lv (lv := [(0, .ref 3), (1, .ref a), (2, .int z679)]) ⟨rfl, rfl, rfl, trivial⟩ ?_
                exact ih25 σ673 z679 z667 z671 z651 h674 h675 ((h677 _ _ (Or.inr (by decide))).trans h668) h676 ((h677 _ _ (Or.inr (by decide))).trans ((h665 _ _ (inW ha (by decide +kernel))).trans h652)) (by omega) (by omega) (by omega) (by omega) (by omega) (by omega) (by omega) (by omega) (by omega) (by omega) (by omega) (by omega) (by omega) (h678)
              · refine En_Ps 2 (pc' := 213) (lv' := [(0, .ref 3), (1, .ref a), (2, .int y40)]) (st' := [.int ((Int32.ofInt 1)), .ref 3]) rfl ?_
                have := (by decide : ((Int32.ofInt 1)).toInt = 1)
                refine En_callV rfl rfl rfl rfl rfl rfl rfl rfl (by decide +kernel : TG 3 = 3) (by decide +kernel) rfl (c_59 σ645 h646 ((Int32.ofInt 1)) (geI (by decide : (Int32.ofInt 1).toInt = 1) (by omega)) (leI (by decide : (Int32.ofInt 1).toInt = 1) (by omega)) z649 h650) (by decide) (by decide) (fun v682 σ683 h681 => ?_)
                obtain ⟨h684, h685, z687, h688, rfl, h686⟩ := h681
                have h689 := Fr_trans h654 h685 (by decide +kernel)
                have h690 := OTH_fr h655 h685 (by decide +kernel)
                refine En_Ps 2 (pc' := 218) (lv' := [(0, .ref 3), (1, .ref a), (2, .int y40)]) (st' := [.ref a, .ref a]) rfl ?_
                refine En_getK (j := 0) ((h685 _ _ (inW ha (by decide +kernel))).trans ((h647 _ _ (inW ha (by decide +kernel))).trans h48)) rfl rfl rfl ha (by decide +kernel) ?_
                refine En_Ps 2 (pc' := 223) (lv' := [(0, .ref 3), (1, .ref a), (2, .int y40)]) (st' := [.int ((y42 + ((Int32.ofInt 1)))), .ref a]) rfl ?_
                refine En_top (addI rfl (by decide : (Int32.ofInt 1).toInt = 1) (by omega) (by omega)) (fun z691 h692 => ?_)
                refine En_put (j := 0) rfl rfl rfl ha (by decide +kernel) rfl (vI (l := 0) (u := 1601) (by decide +kernel) rfl (by omega) (by omega)) h684 h689 (by decide +kernel) (fun σ693 h694 h695 h696 h697 => ?_)
                have h698 := OTH_pj h690 h697 (by decide)
                refine En_Ps 1 (pc' := 229) (lv' := [(2, .int ((y40 + Int32.ofInt 1))), (0, .ref 3), (1, .ref a)]) (st' := []) rfl ?_
                refine En_lv1 (addI rfl (by decide : (Int32.ofInt 1).toInt = 1) (by omega) (by omega)) (fun z699 h700 => ?_)
                refine En_Ps 1 (pc' := 25) (lv' := [(2, .int z699), (0, .ref 3), (1, .ref a)]) (st' := []) rfl ?_
                refine En_lv (lv := [(0, .ref 3), (1, .ref a), (2, .int z699)]) ⟨rfl, rfl, rfl, trivial⟩ ?_
                exact ih25 σ693 z699 z687 z691 z651 h694 h695 ((h697 _ _ (Or.inr (by decide))).trans h688) h696 ((h697 _ _ (Or.inr (by decide))).trans ((h685 _ _ (inW ha (by decide +kernel))).trans h652)) (by omega) (by omega) (by omega) (by omega) (by omega) (by omega) (by omega) (by omega) (by omega) (by omega) (by omega) (by omega) (by omega) (h698)
  have := (by decide : (Int32.ofInt 0).toInt = 0)
  have := (by decide : (Int32.ofInt 0).toInt = 0)
  refine En_lv (lv := [(0, .ref 3), (1, .ref a), (2, .int ((Int32.ofInt 0)))]) ⟨rfl, rfl, rfl, trivial⟩ ?_
  exact key25 (Int.toNat (1601) + 1) σ34 ((Int32.ofInt 0)) ((Int32.ofInt 0)) z25 z27 h35 h38 ((h36 _ _ (inW (by decide +kernel : TG 3 = 3) (by decide +kernel))).trans ((h23 _ _ (inW (by decide +kernel : TG 3 = 3) (by decide +kernel))).trans ((h17 _ _ (Or.inr (by decide))).trans ((h11 _ _ (Or.inr (by decide))).trans h4)))) ((h36 _ _ (inW ha (by decide +kernel))).trans h26) ((h36 _ _ (inW ha (by decide +kernel))).trans h28) (by omega) (by omega) (by omega) (by omega) (by omega) (by omega) (by omega) (by omega) (by omega) (by omega) (by omega) (by omega) (by omega) (h39)
/-- DoorSchool$Tape.append(I)V -/
abbrev P_90x (σ0 : SG) (a : Int32) (m : Int32) : PO := fun v σ => WT σ ∧ Fr [(1, 1), (2, 0)] σ0 σ ∧ ∃ m1 : Int32, (σ 1)[1]? = some (.int m1) ∧ v = none ∧ -m1.toInt + 4 ≤ 0 ∧ m1.toInt - 1600 ≤ 0 ∧ -m1.toInt + m.toInt ≤ 0 ∧ m1.toInt - m.toInt - 4 ≤ 0 ∧ (m.toInt - 1596 ≤ 0 → m1.toInt - m.toInt - 4 ≤ 0 ∧ -m1.toInt + m.toInt + 4 ≤ 0)
set_option maxRecDepth 10000 in
set_option maxHeartbeats 4000000 in
theorem c_90x (σ0 : SG) (hσ0 : WT σ0) (a : Int32) (m : Int32) (h_m : (σ0 1)[1]? = some (.int m)) : En 0 0 none mr_90 (P_90x σ0 a m) 0 [(0, .ref 1), (1, .int a)] [] σ0 := by
  obtain ⟨hl_m, hu_m⟩ := WT_int hσ0 (g := 1) (by decide +kernel) (by decide +kernel) (l := 0) (u := 1600) (by decide +kernel) h_m
  have hF0 : Fr [(1, 1), (2, 0)] σ0 σ0 := Fr_rfl
  refine En_Ps 2 (pc' := 3) (lv' := [(2, .int (((Int8.ofInt 24).toInt32))), (0, .ref 1), (1, .int a)]) (st' := []) rfl ?_
  have key3 : ∀ (n3 : Nat) (σ3 : SG) (y1 : Int32) (y2 : Int32), WT σ3 → Fr [(1, 1), (2, 0)] σ0 σ3 → (σ3 1)[1]? = some (.int y2) → (-8) ≤ y1.toInt → y1.toInt ≤ 24 → 0 ≤ y2.toInt → y2.toInt ≤ 1600 → y1.toInt + 8 * y2.toInt - 8 * m.toInt - 24 ≤ 0 → 8 * m.toInt - y1.toInt - 8 * y2.toInt + 24 ≤ 0 → y1.toInt + 8 < (n3 : Int) → En 0 0 none mr_90 (P_90x σ0 a m) 3 [(0, .ref 1), (1, .int a), (2, .int y1)] [] σ3 := by
    intro n3
    induction n3 with
    | zero =>
      intro σ3 y1 y2 h4 h5 h6 h7 h8 h9 h10 h11 h12 h13
      exfalso; omega
    | succ n3 ih3 =>
      intro σ3 y1 y2 h4 h5 h6 h7 h8 h9 h10 h11 h12 h13
      refine En_Ps 1 (pc' := 4) (lv' := [(0, .ref 1), (1, .int a), (2, .int y1)]) (st' := [.int y1]) rfl ?_
      refine En_iLt _ rfl rfl (fun h14 => ?_) (fun h14 => ?_)
      · exact En_ret (v := none) rfl rfl rfl ⟨h4, h5, y2, h6, rfl, (by omega)⟩
      · refine En_Ps 1 (pc' := 8) (lv' := [(0, .ref 1), (1, .int a), (2, .int y1)]) (st' := [.ref 1]) rfl ?_
        refine En_getK (j := 1) h6 rfl rfl rfl (by decide +kernel : TG 1 = 1) (by decide +kernel) ?_
        refine En_Ps 1 (pc' := 12) (lv' := [(0, .ref 1), (1, .int a), (2, .int y1)]) (st' := [.ref 1, .int y2]) rfl ?_
        refine En_getU (j := 0) (u := 2) (g' := 2) (q := 0) rfl rfl rfl (by decide +kernel : TG 1 = 1) (by decide +kernel) h4 (by decide +kernel) (by decide +kernel) (fun h15 => ?_)
        refine En_alenN (n := 1600) rfl (by decide +kernel : TG 2 = 2) (by decide +kernel) (by decide +kernel) h4 ?_
        refine En_icGe _ rfl (by decide : (Int32.ofNat 1600).toInt = 1600) rfl (fun h17 => ?_) (fun h17 => ?_)
        · exact En_ret (v := none) rfl rfl rfl ⟨h4, h5, y2, h6, rfl, (by omega)⟩
        · refine En_Ps 1 (pc' := 20) (lv' := [(0, .ref 1), (1, .int a), (2, .int y1)]) (st' := [.ref 1]) rfl ?_
          refine En_getK (j := 0) h15 rfl rfl rfl (by decide +kernel : TG 1 = 1) (by decide +kernel) ?_
          refine En_Ps 1 (pc' := 24) (lv' := [(0, .ref 1), (1, .int a), (2, .int y1)]) (st' := [.ref 1, .ref 2]) rfl ?_
          refine En_getK (j := 1) h6 rfl rfl rfl (by decide +kernel : TG 1 = 1) (by decide +kernel) ?_
          refine En_Ps 3 (pc' := 30) (lv' := [(0, .ref 1), (1, .int a), (2, .int y1)]) (st' := [.int (((a.toUInt32 >>> (y1.toUInt32 &&& Int32.toUInt32 31)).toInt32)), .int y2, .ref 2]) rfl ?_
          refine En_hav (fun z18 => ?_)
          refine En_Ps 1 (pc' := 31) (lv' := [(0, .ref 1), (1, .int a), (2, .int y1)]) (st' := [.int ((z18.toInt8.toInt32)), .int y2, .ref 2]) rfl ?_
          refine En_rng (l := -128) (u := 127) (i2b_rng _) (fun z19 h20 h21 => ?_)
          refine En_bast (l := (-128)) (u := 127) rfl rfl (by decide +kernel : TG 2 = 2) (by decide +kernel) (narB rfl (by omega) (by omega)) (by omega) (lnI (by decide +kernel : LN _ = 1600) (by omega)) (FTsgl (by decide +kernel)) (rngI rfl (by omega) (by omega)) h4 h5 (by decide +kernel) (fun σ22 h23 h24 h25 h26 => ?_)
          refine En_Ps 2 (pc' := 34) (lv' := [(0, .ref 1), (1, .int a), (2, .int y1)]) (st' := [.ref 1, .ref 1]) rfl ?_
          refine En_getK (j := 1) ((h26 _ _ (Or.inl (neTG (by decide +kernel : TG 1 = 1) (by decide +kernel : TG 2 = 2) (by decide)))).trans h6) rfl rfl rfl (by decide +kernel : TG 1 = 1) (by decide +kernel) ?_
          refine En_Ps 2 (pc' := 39) (lv' := [(0, .ref 1), (1, .int a), (2, .int y1)]) (st' := [.int ((y2 + ((Int32.ofInt 1)))), .ref 1]) rfl ?_
          refine En_top (addI rfl (by decide : (Int32.ofInt 1).toInt = 1) (by omega) (by omega)) (fun z27 h28 => ?_)
          refine En_put (j := 1) rfl rfl rfl (by decide +kernel : TG 1 = 1) (by decide +kernel) rfl (vI (l := 0) (u := 1600) (by decide +kernel) rfl (by omega) (by omega)) h23 h24 (by decide +kernel) (fun σ29 h30 h31 h32 h33 => ?_)
          refine En_Ps 1 (pc' := 45) (lv' := [(2, .int ((y1 + Int32.ofInt (-8)))), (0, .ref 1), (1, .int a)]) (st' := []) rfl ?_
          refine En_lv1 (addI rfl (by decide : (Int32.ofInt (-8)).toInt = -8) (by omega) (by omega)) (fun z34 h35 => ?_)
          refine En_Ps 1 (pc' := 3) (lv' := [(2, .int z34), (0, .ref 1), (1, .int a)]) (st' := []) rfl ?_
          refine En_lv (lv := [(0, .ref 1), (1, .int a), (2, .int z34)]) ⟨rfl, rfl, rfl, trivial⟩ ?_
          exact ih3 σ29 z34 z27 h30 h31 h32 (by omega) (by omega) (by omega) (by omega) (by omega) (by omega) (by omega)
  have := (by decide : ((Int8.ofInt 24).toInt32).toInt = 24)
  refine En_lv (lv := [(0, .ref 1), (1, .int a), (2, .int (((Int8.ofInt 24).toInt32)))]) ⟨rfl, rfl, rfl, trivial⟩ ?_
  exact key3 (Int.toNat (32) + 1) σ0 (((Int8.ofInt 24).toInt32)) m hσ0 hF0 h_m (by omega) (by omega) (by omega) (by omega) (by omega) (by omega) (by omega)
/-- DoorSchool.back(I)I -/
abbrev P_105x (σ0 : SG) (a : Int32) (p : Nat) (sg : Int32) (p2 : Nat) : PO := fun v σ => WT σ ∧ Fr [(4, 0), (4, 1), (5, 0), (6, 0), (7, 0), (18, 0), (18, 1), (18, 2), (18, 3), (18, 6), (18, 7), (18, 8), (18, 11), (18, 14), (20, 2), (21, 0), (22, 0), (23, 0), (24, 0), (25, 0), (26, 0), (27, 0), (28, 1), (28, 2), (28, 3)] σ0 σ ∧ ∃ ret : Int32, v = some (.int ret) ∧ -ret.toInt - 6 ≤ 0 ∧ ret.toInt ≤ 0 ∧ INVc σ
set_option maxRecDepth 10000 in
set_option maxHeartbeats 4000000 in
theorem c_105x (σ0 : SG) (hσ0 : WT σ0) (a : Int32) (p : Nat) (hp : TG p = 18) (h_p : (σ0 0)[9]? = some (.ref p)) (sg : Int32) (h_sg : (σ0 p)[1]? = some (.int sg)) (p2 : Nat) (hp2 : TG p2 = 18) (h_p2 : (σ0 0)[10]? = some (.ref p2)) (hp0 : -sg.toInt ≤ 0) (hne : p ≠ p2) : En 4 124 none mr_105 (P_105x σ0 a p sg p2) 0 [(0, .ref 0), (1, .int a)] [] σ0 := by
  obtain ⟨hl_sg, hu_sg⟩ := WT_int hσ0 (g := 18) hp (by decide +kernel) (l := (-1)) (u := 4) (by decide +kernel) h_sg
  have hF0 : Fr [(4, 0), (4, 1), (5, 0), (6, 0), (7, 0), (18, 0), (18, 1), (18, 2), (18, 3), (18, 6), (18, 7), (18, 8), (18, 11), (18, 14), (20, 2), (21, 0), (22, 0), (23, 0), (24, 0), (25, 0), (26, 0), (27, 0), (28, 1), (28, 2), (28, 3)] σ0 σ0 := Fr_rfl
  refine En_Ps 1 (pc' := 1) (lv' := [(0, .ref 0), (1, .int a)]) (st' := [.int a]) rfl ?_
  refine En_iLt _ rfl rfl (fun h1 => ?_) (fun h1 => ?_)
  · refine En_Ps 1 (pc' := 11) (lv' := [(0, .ref 0), (1, .int a)]) (st' := [.int (((Int8.ofInt (-2)).toInt32))]) rfl ?_
    refine En_top (by decide : ((Int8.ofInt (-2)).toInt32).toInt = -2) (fun z2 h3 => ?_)
    exact En_ret (v := some (.int z2)) rfl rfl rfl ⟨hσ0, hF0, z2, rfl, ⟨by omega, by omega, ⟨p, p2, sg, hp, hp2, h_p, h_p2, hne, h_sg, (by omega)⟩⟩⟩
  · refine En_Ps 2 (pc' := 6) (lv' := [(0, .ref 0), (1, .int a)]) (st' := [.int ((Int32.ofInt 3)), .int a]) rfl ?_
    refine En_icLt _ rfl (by decide : (Int32.ofInt 3).toInt = 3) rfl (fun h4 => ?_) (fun h4 => ?_)
    · refine En_Ps 1 (pc' := 13) (lv' := [(0, .ref 0), (1, .int a)]) (st' := [.ref 0]) rfl ?_
      refine En_getU (j := 8) (u := 71) (g' := 30) (q := 0) rfl rfl rfl (by decide +kernel : TG 0 = 0) (by decide +kernel) hσ0 (by decide +kernel) (by decide +kernel) (fun h5 => ?_)
      refine En_Ps 1 (pc' := 17) (lv' := [(0, .ref 0), (1, .int a)]) (st' := [.int a, .ref 71]) rfl ?_
      refine En_bald (l := 0) (u := 1) rfl rfl (by decide +kernel : TG 71 = 30) (by decide +kernel) hσ0 (by omega) (lnI (by decide +kernel : LN _ = 3) (by omega)) (FTsgl (by decide +kernel)) (fun z8 h7 h9 h10 => ?_)
      refine En_iNe _ rfl rfl (fun h11 => ?_) (fun h11 => ?_)
      · refine En_Ps 1 (pc' := 25) (lv' := [(0, .ref 0), (1, .int a)]) (st' := [.ref 0]) rfl ?_
        refine En_getK (j := 9) h_p rfl rfl rfl (by decide +kernel : TG 0 = 0) (by decide +kernel) ?_
        refine En_Ps 1 (pc' := 29) (lv' := [(0, .ref 0), (1, .int a)]) (st' := [.ref 0, .ref p]) rfl ?_
        refine En_getU (j := 7) (u := 70) (g' := 29) (q := 0) rfl rfl rfl (by decide +kernel : TG 0 = 0) (by decide +kernel) hσ0 (by decide +kernel) (by decide +kernel) (fun h12 => ?_)
        refine En_Ps 1 (pc' := 33) (lv' := [(0, .ref 0), (1, .int a)]) (st' := [.int a, .ref 70, .ref p]) rfl ?_
        refine En_aald (g' := 31) (u := 0) rfl rfl (by decide +kernel : TG 70 = 29) (by decide +kernel) hσ0 (by omega) (lnI (by decide +kernel : LN _ = 3) (by omega)) (FTsgl (by decide +kernel)) (fun a15 h14 ha15 => ?_)
        refine En_callV rfl rfl rfl rfl rfl rfl rfl rfl hp (by decide +kernel) rfl (c_53b σ0 hσ0 p hp a15 ha15) (by decide) (by decide) (fun v17 σ18 h16 => ?_)
        obtain ⟨h19, h20, z22, h23, rfl, h21⟩ := h16
        have h24 := Fr_trans hF0 h20 (by decide +kernel)
        refine En_Ps 1 (pc' := 38) (lv' := [(0, .ref 0), (1, .int a)]) (st' := [.ref 0]) rfl ?_
        refine En_getU (j := 2) (u := 4) (g' := 4) (q := 0) rfl rfl rfl (by decide +kernel : TG 0 = 0) (by decide +kernel) h19 (by decide +kernel) (by decide +kernel) (fun h25 => ?_)
        refine En_Ps 1 (pc' := 42) (lv' := [(0, .ref 0), (1, .int a)]) (st' := [.ref 0, .ref 4]) rfl ?_
        refine En_getK (j := 9) ((h20 _ _ (inW (by decide +kernel : TG 0 = 0) (by decide +kernel))).trans h_p) rfl rfl rfl (by decide +kernel : TG 0 = 0) (by decide +kernel) ?_
        refine En_getK (j := 1) h23 rfl rfl rfl hp (by decide +kernel) ?_
        refine En_callV rfl rfl rfl rfl rfl rfl rfl rfl (by decide +kernel : TG 4 = 4) (by decide +kernel) rfl (c_82 σ18 h19 z22 (geI rfl (by omega)) (leI rfl (by omega))) (by decide) (by decide) (fun v28 σ29 h27 => ?_)
        obtain ⟨h30, h31, rfl, h32⟩ := h27
        have h33 := Fr_trans h24 h31 (by decide +kernel)
        refine En_Ps 1 (pc' := 52) (lv' := [(0, .ref 0), (1, .int a)]) (st' := [.int ((Int32.ofInt 0))]) rfl ?_
        refine En_top (by decide : (Int32.ofInt 0).toInt = 0) (fun z34 h35 => ?_)
        exact En_ret (v := some (.int z34)) rfl rfl rfl ⟨h30, h33, z34, rfl, ⟨by omega, by omega, ⟨p, p2, z22, hp, hp2, ((h31 _ _ (inW (by decide +kernel : TG 0 = 0) (by decide +kernel))).trans ((h20 _ _ (inW (by decide +kernel : TG 0 = 0) (by decide +kernel))).trans h_p)), ((h31 _ _ (inW (by decide +kernel : TG 0 = 0) (by decide +kernel))).trans ((h20 _ _ (inW (by decide +kernel : TG 0 = 0) (by decide +kernel))).trans h_p2)), hne, ((h31 _ _ (inW hp (by decide +kernel))).trans h23), (by omega)⟩⟩⟩
      · refine En_Ps 1 (pc' := 23) (lv' := [(0, .ref 0), (1, .int a)]) (st' := [.int (((Int8.ofInt (-6)).toInt32))]) rfl ?_
        refine En_top (by decide : ((Int8.ofInt (-6)).toInt32).toInt = -6) (fun z36 h37 => ?_)
        exact En_ret (v := some (.int z36)) rfl rfl rfl ⟨hσ0, hF0, z36, rfl, ⟨by omega, by omega, ⟨p, p2, sg, hp, hp2, h_p, h_p2, hne, h_sg, (by omega)⟩⟩⟩
    · refine En_Ps 1 (pc' := 11) (lv' := [(0, .ref 0), (1, .int a)]) (st' := [.int (((Int8.ofInt (-2)).toInt32))]) rfl ?_
      refine En_top (by decide : ((Int8.ofInt (-2)).toInt32).toInt = -2) (fun z38 h39 => ?_)
      exact En_ret (v := some (.int z38)) rfl rfl rfl ⟨hσ0, hF0, z38, rfl, ⟨by omega, by omega, ⟨p, p2, sg, hp, hp2, h_p, h_p2, hne, h_sg, (by omega)⟩⟩⟩
/-- DoorSchool.end(I)I -/
abbrev P_118x (σ0 : SG) (a : Int32) (p : Nat) (sg : Int32) (m : Int32) : PO := fun v σ => WT σ ∧ Fr [(1, 1)] σ0 σ ∧ ∃ m1 : Int32, (σ 1)[1]? = some (.int m1) ∧ ∃ ret : Int32, v = some (.int ret) ∧ -ret.toInt - 1 ≤ 0 ∧ ret.toInt - 1600 ≤ 0 ∧ -m1.toInt ≤ 0 ∧ m1.toInt - 1600 ≤ 0 ∧ -m1.toInt + sg.toInt - 4 ≤ 0 ∧ m1.toInt - sg.toInt - 1600 ≤ 0 ∧ -m1.toInt + m.toInt - 1600 ≤ 0 ∧ m1.toInt - m.toInt ≤ 0 ∧ (-a.toInt ≤ 0 ∧ a.toInt - m.toInt ≤ 0 → m1.toInt - a.toInt ≤ 0 ∧ -m1.toInt + a.toInt ≤ 0 ∧ ret.toInt - a.toInt ≤ 0 ∧ -ret.toInt + a.toInt ≤ 0) ∧ (a.toInt + 1 ≤ 0 → m1.toInt - m.toInt ≤ 0 ∧ -m1.toInt + m.toInt ≤ 0 ∧ ret.toInt + 1 ≤ 0 ∧ -ret.toInt - 1 ≤ 0) ∧ (m.toInt - a.toInt + 1 ≤ 0 → m1.toInt - m.toInt ≤ 0 ∧ -m1.toInt + m.toInt ≤ 0 ∧ ret.toInt + 1 ≤ 0 ∧ -ret.toInt - 1 ≤ 0)
set_option maxRecDepth 10000 in
set_option maxHeartbeats 4000000 in
theorem c_118x (σ0 : SG) (hσ0 : WT σ0) (a : Int32) (p : Nat) (hp : TG p = 18) (h_p : (σ0 0)[9]? = some (.ref p)) (sg : Int32) (h_sg : (σ0 p)[1]? = some (.int sg)) (m : Int32) (h_m : (σ0 1)[1]? = some (.int m)) (hp0 : -sg.toInt ≤ 0) : En 0 0 none mr_118 (P_118x σ0 a p sg m) 0 [(0, .ref 0), (1, .int a)] [] σ0 := by
  obtain ⟨hl_sg, hu_sg⟩ := WT_int hσ0 (g := 18) hp (by decide +kernel) (l := (-1)) (u := 4) (by decide +kernel) h_sg
  obtain ⟨hl_m, hu_m⟩ := WT_int hσ0 (g := 1) (by decide +kernel) (by decide +kernel) (l := 0) (u := 1600) (by decide +kernel) h_m
  have hF0 : Fr [(1, 1)] σ0 σ0 := Fr_rfl
  refine En_Ps 1 (pc' := 1) (lv' := [(0, .ref 0), (1, .int a)]) (st' := [.int a]) rfl ?_
  refine En_iLt _ rfl rfl (fun h1 => ?_) (fun h1 => ?_)
  · refine En_Ps 1 (pc' := 16) (lv' := [(0, .ref 0), (1, .int a)]) (st' := [.int ((Int32.ofInt (-1)))]) rfl ?_
    refine En_top (by decide : (Int32.ofInt (-1)).toInt = -1) (fun z2 h3 => ?_)
    exact En_ret (v := some (.int z2)) rfl rfl rfl ⟨hσ0, hF0, m, h_m, z2, rfl, (by omega)⟩
  · refine En_Ps 2 (pc' := 6) (lv' := [(0, .ref 0), (1, .int a)]) (st' := [.ref 0, .int a]) rfl ?_
    refine En_getU (j := 0) (u := 1) (g' := 1) (q := 0) rfl rfl rfl (by decide +kernel : TG 0 = 0) (by decide +kernel) hσ0 (by decide +kernel) (by decide +kernel) (fun h4 => ?_)
    refine En_getK (j := 1) h_m rfl rfl rfl (by decide +kernel : TG 1 = 1) (by decide +kernel) ?_
    refine En_icLe _ rfl rfl rfl (fun h6 => ?_) (fun h6 => ?_)
    · refine En_Ps 1 (pc' := 18) (lv' := [(0, .ref 0), (1, .int a)]) (st' := [.ref 0]) rfl ?_
      refine En_getK (j := 0) h4 rfl rfl rfl (by decide +kernel : TG 0 = 0) (by decide +kernel) ?_
      refine En_Ps 1 (pc' := 22) (lv' := [(0, .ref 0), (1, .int a)]) (st' := [.int a, .ref 1]) rfl ?_
      refine En_put (j := 1) rfl rfl rfl (by decide +kernel : TG 1 = 1) (by decide +kernel) rfl (vI (l := 0) (u := 1600) (by decide +kernel) rfl (by omega) (by omega)) hσ0 hF0 (by decide +kernel) (fun σ7 h8 h9 h10 h11 => ?_)
      refine En_Ps 1 (pc' := 26) (lv' := [(0, .ref 0), (1, .int a)]) (st' := [.int a]) rfl ?_
      exact En_ret (v := some (.int a)) rfl rfl rfl ⟨h8, h9, a, h10, a, rfl, (by omega)⟩
    · refine En_Ps 1 (pc' := 16) (lv' := [(0, .ref 0), (1, .int a)]) (st' := [.int ((Int32.ofInt (-1)))]) rfl ?_
      refine En_top (by decide : (Int32.ofInt (-1)).toInt = -1) (fun z12 h13 => ?_)
      exact En_ret (v := some (.int z12)) rfl rfl rfl ⟨hσ0, hF0, m, h_m, z12, rfl, (by omega)⟩
/-- DoorSchool.feed(IIIII)I -/
abbrev P_122x (σ0 : SG) (a : Int32) (b : Int32) (c : Int32) (d : Int32) (e : Int32) (p : Nat) (sg : Int32) (m : Int32) : PO := fun v σ => WT σ ∧ Fr [(1, 1), (2, 0)] σ0 σ ∧ ∃ m1 : Int32, (σ 1)[1]? = some (.int m1) ∧ ∃ ret : Int32, v = some (.int ret) ∧ -ret.toInt - 1 ≤ 0 ∧ ret.toInt - 1600 ≤ 0 ∧ -m1.toInt + 20 ≤ 0 ∧ m1.toInt - 1600 ≤ 0 ∧ -m1.toInt + sg.toInt + 16 ≤ 0 ∧ m1.toInt - sg.toInt - 1600 ≤ 0 ∧ -m1.toInt + m.toInt ≤ 0 ∧ m1.toInt - m.toInt - 20 ≤ 0 ∧ (m.toInt - 1580 ≤ 0 → m1.toInt - m.toInt - 20 ≤ 0 ∧ -m1.toInt + m.toInt + 20 ≤ 0 ∧ ret.toInt - m1.toInt ≤ 0 ∧ -ret.toInt + m1.toInt ≤ 0) ∧ (-m.toInt + 1581 ≤ 0 → m1.toInt - m.toInt ≤ 0 ∧ -m1.toInt + m.toInt ≤ 0 ∧ ret.toInt + 1 ≤ 0 ∧ -ret.toInt - 1 ≤ 0)
set_option maxRecDepth 10000 in
set_option maxHeartbeats 4000000 in
theorem c_122x (σ0 : SG) (hσ0 : WT σ0) (a : Int32) (b : Int32) (c : Int32) (d : Int32) (e : Int32) (p : Nat) (hp : TG p = 18) (h_p : (σ0 0)[9]? = some (.ref p)) (sg : Int32) (h_sg : (σ0 p)[1]? = some (.int sg)) (m : Int32) (h_m : (σ0 1)[1]? = some (.int m)) (hp0 : -sg.toInt ≤ 0) : En 1 22 none mr_122 (P_122x σ0 a b c d e p sg m) 0 [(0, .ref 0), (1, .int a), (2, .int b), (3, .int c), (4, .int d), (5, .int e)] [] σ0 := by
  obtain ⟨hl_sg, hu_sg⟩ := WT_int hσ0 (g := 18) hp (by decide +kernel) (l := (-1)) (u := 4) (by decide +kernel) h_sg
  obtain ⟨hl_m, hu_m⟩ := WT_int hσ0 (g := 1) (by decide +kernel) (by decide +kernel) (l := 0) (u := 1600) (by decide +kernel) h_m
  have hF0 : Fr [(1, 1), (2, 0)] σ0 σ0 := Fr_rfl
  refine En_Ps 1 (pc' := 1) (lv' := [(0, .ref 0), (1, .int a), (2, .int b), (3, .int c), (4, .int d), (5, .int e)]) (st' := [.ref 0]) rfl ?_
  refine En_getU (j := 0) (u := 1) (g' := 1) (q := 0) rfl rfl rfl (by decide +kernel : TG 0 = 0) (by decide +kernel) hσ0 (by decide +kernel) (by decide +kernel) (fun h1 => ?_)
  refine En_getK (j := 1) h_m rfl rfl rfl (by decide +kernel : TG 1 = 1) (by decide +kernel) ?_
  refine En_Ps 2 (pc' := 10) (lv' := [(0, .ref 0), (1, .int a), (2, .int b), (3, .int c), (4, .int d), (5, .int e)]) (st' := [.int ((m + (((Int8.ofInt 20).toInt32))))]) rfl ?_
  refine En_top (addI rfl (by decide : ((Int8.ofInt 20).toInt32).toInt = 20) (by omega) (by omega)) (fun z3 h4 => ?_)
  refine En_Ps 1 (pc' := 13) (lv' := [(0, .ref 0), (1, .int a), (2, .int b), (3, .int c), (4, .int d), (5, .int e)]) (st' := [.int (((Int16.ofInt 1600).toInt32)), .int z3]) rfl ?_
  refine En_icLe _ rfl (by decide : ((Int16.ofInt 1600).toInt32).toInt = 1600) rfl (fun h5 => ?_) (fun h5 => ?_)
  · refine En_Ps 1 (pc' := 19) (lv' := [(0, .ref 0), (1, .int a), (2, .int b), (3, .int c), (4, .int d), (5, .int e)]) (st' := [.ref 0]) rfl ?_
    refine En_getK (j := 0) h1 rfl rfl rfl (by decide +kernel : TG 0 = 0) (by decide +kernel) ?_
    refine En_Ps 1 (pc' := 23) (lv' := [(0, .ref 0), (1, .int a), (2, .int b), (3, .int c), (4, .int d), (5, .int e)]) (st' := [.int a, .ref 1]) rfl ?_
    refine En_callV rfl rfl rfl rfl rfl rfl rfl rfl (by decide +kernel : TG 1 = 1) (by decide +kernel) rfl (c_90x σ0 hσ0 a m h_m) (by decide) (by decide) (fun v7 σ8 h6 => ?_)
    obtain ⟨h9, h10, z12, h13, rfl, h11⟩ := h6
    have h14 := Fr_trans hF0 h10 (by decide +kernel)
    refine En_Ps 1 (pc' := 27) (lv' := [(0, .ref 0), (1, .int a), (2, .int b), (3, .int c), (4, .int d), (5, .int e)]) (st' := [.ref 0]) rfl ?_
    refine En_getK (j := 0) ((h10 _ _ (inW (by decide +kernel : TG 0 = 0) (by decide +kernel))).trans h1) rfl rfl rfl (by decide +kernel : TG 0 = 0) (by decide +kernel) ?_
    refine En_Ps 1 (pc' := 31) (lv' := [(0, .ref 0), (1, .int a), (2, .int b), (3, .int c), (4, .int d), (5, .int e)]) (st' := [.int b, .ref 1]) rfl ?_
    refine En_callV rfl rfl rfl rfl rfl rfl rfl rfl (by decide +kernel : TG 1 = 1) (by decide +kernel) rfl (c_90x σ8 h9 b z12 h13) (by decide) (by decide) (fun v16 σ17 h15 => ?_)
    obtain ⟨h18, h19, z21, h22, rfl, h20⟩ := h15
    have h23 := Fr_trans h14 h19 (by decide +kernel)
    refine En_Ps 1 (pc' := 35) (lv' := [(0, .ref 0), (1, .int a), (2, .int b), (3, .int c), (4, .int d), (5, .int e)]) (st' := [.ref 0]) rfl ?_
    refine En_getK (j := 0) ((h19 _ _ (inW (by decide +kernel : TG 0 = 0) (by decide +kernel))).trans ((h10 _ _ (inW (by decide +kernel : TG 0 = 0) (by decide +kernel))).trans h1)) rfl rfl rfl (by decide +kernel : TG 0 = 0) (by decide +kernel) ?_
    refine En_Ps 1 (pc' := 39) (lv' := [(0, .ref 0), (1, .int a), (2, .int b), (3, .int c), (4, .int d), (5, .int e)]) (st' := [.int c, .ref 1]) rfl ?_
    refine En_callV rfl rfl rfl rfl rfl rfl rfl rfl (by decide +kernel : TG 1 = 1) (by decide +kernel) rfl (c_90x σ17 h18 c z21 h22) (by decide) (by decide) (fun v25 σ26 h24 => ?_)
    obtain ⟨h27, h28, z30, h31, rfl, h29⟩ := h24
    have h32 := Fr_trans h23 h28 (by decide +kernel)
    refine En_Ps 1 (pc' := 43) (lv' := [(0, .ref 0), (1, .int a), (2, .int b), (3, .int c), (4, .int d), (5, .int e)]) (st' := [.ref 0]) rfl ?_
    refine En_getK (j := 0) ((h28 _ _ (inW (by decide +kernel : TG 0 = 0) (by decide +kernel))).trans ((h19 _ _ (inW (by decide +kernel : TG 0 = 0) (by decide +kernel))).trans ((h10 _ _ (inW (by decide +kernel : TG 0 = 0) (by decide +kernel))).trans h1))) rfl rfl rfl (by decide +kernel : TG 0 = 0) (by decide +kernel) ?_
    refine En_Ps 1 (pc' := 48) (lv' := [(0, .ref 0), (1, .int a), (2, .int b), (3, .int c), (4, .int d), (5, .int e)]) (st' := [.int d, .ref 1]) rfl ?_
    refine En_callV rfl rfl rfl rfl rfl rfl rfl rfl (by decide +kernel : TG 1 = 1) (by decide +kernel) rfl (c_90x σ26 h27 d z30 h31) (by decide) (by decide) (fun v34 σ35 h33 => ?_)
    obtain ⟨h36, h37, z39, h40, rfl, h38⟩ := h33
    have h41 := Fr_trans h32 h37 (by decide +kernel)
    refine En_Ps 1 (pc' := 52) (lv' := [(0, .ref 0), (1, .int a), (2, .int b), (3, .int c), (4, .int d), (5, .int e)]) (st' := [.ref 0]) rfl ?_
    refine En_getK (j := 0) ((h37 _ _ (inW (by decide +kernel : TG 0 = 0) (by decide +kernel))).trans ((h28 _ _ (inW (by decide +kernel : TG 0 = 0) (by decide +kernel))).trans ((h19 _ _ (inW (by decide +kernel : TG 0 = 0) (by decide +kernel))).trans ((h10 _ _ (inW (by decide +kernel : TG 0 = 0) (by decide +kernel))).trans h1)))) rfl rfl rfl (by decide +kernel : TG 0 = 0) (by decide +kernel) ?_
    refine En_Ps 1 (pc' := 57) (lv' := [(0, .ref 0), (1, .int a), (2, .int b), (3, .int c), (4, .int d), (5, .int e)]) (st' := [.int e, .ref 1]) rfl ?_
    refine En_callV rfl rfl rfl rfl rfl rfl rfl rfl (by decide +kernel : TG 1 = 1) (by decide +kernel) rfl (c_90x σ35 h36 e z39 h40) (by decide) (by decide) (fun v43 σ44 h42 => ?_)
    obtain ⟨h45, h46, z48, h49, rfl, h47⟩ := h42
    have h50 := Fr_trans h41 h46 (by decide +kernel)
    refine En_Ps 1 (pc' := 61) (lv' := [(0, .ref 0), (1, .int a), (2, .int b), (3, .int c), (4, .int d), (5, .int e)]) (st' := [.ref 0]) rfl ?_
    refine En_getK (j := 0) ((h46 _ _ (inW (by decide +kernel : TG 0 = 0) (by decide +kernel))).trans ((h37 _ _ (inW (by decide +kernel : TG 0 = 0) (by decide +kernel))).trans ((h28 _ _ (inW (by decide +kernel : TG 0 = 0) (by decide +kernel))).trans ((h19 _ _ (inW (by decide +kernel : TG 0 = 0) (by decide +kernel))).trans ((h10 _ _ (inW (by decide +kernel : TG 0 = 0) (by decide +kernel))).trans h1))))) rfl rfl rfl (by decide +kernel : TG 0 = 0) (by decide +kernel) ?_
    refine En_getK (j := 1) h49 rfl rfl rfl (by decide +kernel : TG 1 = 1) (by decide +kernel) ?_
    exact En_ret (v := some (.int z48)) rfl rfl rfl ⟨h45, h50, z48, h49, z48, rfl, (by omega)⟩
  · refine En_Ps 1 (pc' := 17) (lv' := [(0, .ref 0), (1, .int a), (2, .int b), (3, .int c), (4, .int d), (5, .int e)]) (st' := [.int ((Int32.ofInt (-1)))]) rfl ?_
    refine En_top (by decide : (Int32.ofInt (-1)).toInt = -1) (fun z51 h52 => ?_)
    exact En_ret (v := some (.int z51)) rfl rfl rfl ⟨hσ0, hF0, m, h_m, z51, rfl, (by omega)⟩
/-- DoorSchool.image(I)I -/
abbrev P_142x (σ0 : SG) (a : Int32) (p : Nat) (sg : Int32) : PO := fun v σ => WT σ ∧ Fr [(20, 2), (21, 0), (22, 0), (23, 0), (24, 0), (25, 0), (26, 0), (27, 0), (28, 1), (28, 2), (28, 3), (30, 0), (31, 0), (31, 1), (31, 2), (31, 3), (31, 6), (31, 7), (31, 8), (31, 11), (31, 14)] σ0 σ ∧ ∃ ret : Int32, v = some (.int ret) ∧ -ret.toInt - 2 ≤ 0 ∧ ret.toInt ≤ 0 ∧ (-a.toInt ≤ 0 ∧ a.toInt - 2 ≤ 0 → ret.toInt ≤ 0 ∧ -ret.toInt ≤ 0) ∧ (a.toInt + 1 ≤ 0 → ret.toInt + 2 ≤ 0 ∧ -ret.toInt - 2 ≤ 0) ∧ (-a.toInt + 3 ≤ 0 → ret.toInt + 2 ≤ 0 ∧ -ret.toInt - 2 ≤ 0)
set_option maxRecDepth 10000 in
set_option maxHeartbeats 4000000 in
theorem c_142x (σ0 : SG) (hσ0 : WT σ0) (a : Int32) (p : Nat) (hp : TG p = 18) (h_p : (σ0 0)[9]? = some (.ref p)) (sg : Int32) (h_sg : (σ0 p)[1]? = some (.int sg)) (hp0 : -sg.toInt ≤ 0) : En 4 124 none mr_142 (P_142x σ0 a p sg) 0 [(0, .ref 0), (1, .int a)] [] σ0 := by
  obtain ⟨hl_sg, hu_sg⟩ := WT_int hσ0 (g := 18) hp (by decide +kernel) (l := (-1)) (u := 4) (by decide +kernel) h_sg
  have hF0 : Fr [(20, 2), (21, 0), (22, 0), (23, 0), (24, 0), (25, 0), (26, 0), (27, 0), (28, 1), (28, 2), (28, 3), (30, 0), (31, 0), (31, 1), (31, 2), (31, 3), (31, 6), (31, 7), (31, 8), (31, 11), (31, 14)] σ0 σ0 := Fr_rfl
  refine En_Ps 1 (pc' := 1) (lv' := [(0, .ref 0), (1, .int a)]) (st' := [.int a]) rfl ?_
  refine En_iLt _ rfl rfl (fun h1 => ?_) (fun h1 => ?_)
  · refine En_Ps 1 (pc' := 11) (lv' := [(0, .ref 0), (1, .int a)]) (st' := [.int (((Int8.ofInt (-2)).toInt32))]) rfl ?_
    refine En_top (by decide : ((Int8.ofInt (-2)).toInt32).toInt = -2) (fun z2 h3 => ?_)
    exact En_ret (v := some (.int z2)) rfl rfl rfl ⟨hσ0, hF0, z2, rfl, (by omega)⟩
  · refine En_Ps 2 (pc' := 6) (lv' := [(0, .ref 0), (1, .int a)]) (st' := [.int ((Int32.ofInt 3)), .int a]) rfl ?_
    refine En_icLt _ rfl (by decide : (Int32.ofInt 3).toInt = 3) rfl (fun h4 => ?_) (fun h4 => ?_)
    · refine En_Ps 1 (pc' := 13) (lv' := [(0, .ref 0), (1, .int a)]) (st' := [.ref 0]) rfl ?_
      refine En_getU (j := 7) (u := 70) (g' := 29) (q := 0) rfl rfl rfl (by decide +kernel : TG 0 = 0) (by decide +kernel) hσ0 (by decide +kernel) (by decide +kernel) (fun h5 => ?_)
      refine En_Ps 1 (pc' := 17) (lv' := [(0, .ref 0), (1, .int a)]) (st' := [.int a, .ref 70]) rfl ?_
      refine En_aald (g' := 31) (u := 0) rfl rfl (by decide +kernel : TG 70 = 29) (by decide +kernel) hσ0 (by omega) (lnI (by decide +kernel : LN _ = 3) (by omega)) (FTsgl (by decide +kernel)) (fun a8 h7 ha8 => ?_)
      refine En_Ps 1 (pc' := 19) (lv' := [(0, .ref 0), (1, .int a)]) (st' := [.ref 0, .ref a8]) rfl ?_
      refine En_getK (j := 9) h_p rfl rfl rfl (by decide +kernel : TG 0 = 0) (by decide +kernel) ?_
      refine En_callV rfl rfl rfl rfl rfl rfl rfl rfl ha8 (by decide +kernel) rfl (c_53a σ0 hσ0 a8 ha8 p hp sg h_sg (by omega)) (by decide) (by decide) (fun v10 σ11 h9 => ?_)
      obtain ⟨h12, h13, rfl, h14⟩ := h9
      have h15 := Fr_trans hF0 h13 (by decide +kernel)
      refine En_Ps 1 (pc' := 26) (lv' := [(0, .ref 0), (1, .int a)]) (st' := [.ref 0]) rfl ?_
      refine En_getU (j := 8) (u := 71) (g' := 30) (q := 0) rfl rfl rfl (by decide +kernel : TG 0 = 0) (by decide +kernel) h12 (by decide +kernel) (by decide +kernel) (fun h16 => ?_)
      refine En_Ps 2 (pc' := 31) (lv' := [(0, .ref 0), (1, .int a)]) (st' := [.int ((Int32.ofInt 1)), .int a, .ref 71]) rfl ?_
      refine En_bast (l := 0) (u := 1) rfl rfl (by decide +kernel : TG 71 = 30) (by decide +kernel) (narZ (by decide : (Int32.ofInt 1).toInt = 1) (by omega) (by omega)) (by omega) (lnI (by decide +kernel : LN _ = 3) (by omega)) (FTsgl (by decide +kernel)) (rngI (by decide : (Int32.ofInt 1).toInt = 1) (by omega) (by omega)) h12 h15 (by decide +kernel) (fun σ18 h19 h20 h21 h22 => ?_)
      refine En_Ps 1 (pc' := 33) (lv' := [(0, .ref 0), (1, .int a)]) (st' := [.int ((Int32.ofInt 0))]) rfl ?_
      refine En_top (by decide : (Int32.ofInt 0).toInt = 0) (fun z23 h24 => ?_)
      exact En_ret (v := some (.int z23)) rfl rfl rfl ⟨h19, h20, z23, rfl, (by omega)⟩
    · refine En_Ps 1 (pc' := 11) (lv' := [(0, .ref 0), (1, .int a)]) (st' := [.int (((Int8.ofInt (-2)).toInt32))]) rfl ?_
      refine En_top (by decide : ((Int8.ofInt (-2)).toInt32).toInt = -2) (fun z25 h26 => ?_)
      exact En_ret (v := some (.int z25)) rfl rfl rfl ⟨hσ0, hF0, z25, rfl, (by omega)⟩
/-- DoorSchool.row(III)I -/
abbrev P_165x (σ0 : SG) (a : Int32) (b : Int32) (c : Int32) (p : Nat) (sg : Int32) : PO := fun v σ => WT σ ∧ Fr [(33, 1), (33, 2), (33, 3), (34, 0)] σ0 σ ∧ ∃ ret : Int32, v = some (.int ret) ∧ -ret.toInt - 3 ≤ 0 ∧ ret.toInt ≤ 0 ∧ (-a.toInt ≤ 0 ∧ a.toInt - 3 ≤ 0 ∧ -b.toInt ≤ 0 ∧ b.toInt - 3 ≤ 0 ∧ c.toInt - 60 ≤ 0 ∧ -c.toInt ≤ 0 → ret.toInt ≤ 0 ∧ -ret.toInt ≤ 0) ∧ (-a.toInt ≤ 0 ∧ a.toInt - 3 ≤ 0 ∧ -b.toInt ≤ 0 ∧ b.toInt - 3 ≤ 0 ∧ c.toInt - 60 ≤ 0 ∧ c.toInt + 1 ≤ 0 → ret.toInt + 3 ≤ 0 ∧ -ret.toInt - 3 ≤ 0) ∧ (a.toInt + 1 ≤ 0 → ret.toInt + 2 ≤ 0 ∧ -ret.toInt - 2 ≤ 0) ∧ (-a.toInt + 4 ≤ 0 → ret.toInt + 2 ≤ 0 ∧ -ret.toInt - 2 ≤ 0) ∧ (b.toInt + 1 ≤ 0 → ret.toInt + 2 ≤ 0 ∧ -ret.toInt - 2 ≤ 0) ∧ (-b.toInt + 4 ≤ 0 → ret.toInt + 2 ≤ 0 ∧ -ret.toInt - 2 ≤ 0) ∧ (-c.toInt + 61 ≤ 0 → ret.toInt + 2 ≤ 0 ∧ -ret.toInt - 2 ≤ 0)
set_option maxRecDepth 10000 in
set_option maxHeartbeats 4000000 in
theorem c_165x (σ0 : SG) (hσ0 : WT σ0) (a : Int32) (b : Int32) (c : Int32) (p : Nat) (hp : TG p = 18) (h_p : (σ0 0)[9]? = some (.ref p)) (sg : Int32) (h_sg : (σ0 p)[1]? = some (.int sg)) (hp0 : -sg.toInt ≤ 0) : En 2 46 none mr_165 (P_165x σ0 a b c p sg) 0 [(0, .ref 0), (1, .int a), (2, .int b), (3, .int c)] [] σ0 := by
  obtain ⟨hl_sg, hu_sg⟩ := WT_int hσ0 (g := 18) hp (by decide +kernel) (l := (-1)) (u := 4) (by decide +kernel) h_sg
  have hF0 : Fr [(33, 1), (33, 2), (33, 3), (34, 0)] σ0 σ0 := Fr_rfl
  refine En_Ps 1 (pc' := 1) (lv' := [(0, .ref 0), (1, .int a), (2, .int b), (3, .int c)]) (st' := [.int a]) rfl ?_
  refine En_callS rfl rfl rfl rfl rfl rfl rfl rfl rfl (c_147 σ0 hσ0 a) (by decide) (by decide) (fun v2 σ3 h1 => ?_)
  obtain ⟨h4, h5, z7, rfl, h6⟩ := h1
  have h8 := Fr_trans hF0 h5 (by decide +kernel)
  refine En_iEq _ rfl rfl (fun h9 => ?_) (fun h9 => ?_)
  · refine En_Ps 1 (pc' := 24) (lv' := [(0, .ref 0), (1, .int a), (2, .int b), (3, .int c)]) (st' := [.int (((Int8.ofInt (-2)).toInt32))]) rfl ?_
    refine En_top (by decide : ((Int8.ofInt (-2)).toInt32).toInt = -2) (fun z10 h11 => ?_)
    exact En_ret (v := some (.int z10)) rfl rfl rfl ⟨h4, h8, z10, rfl, (by omega)⟩
  · refine En_Ps 1 (pc' := 8) (lv' := [(0, .ref 0), (1, .int a), (2, .int b), (3, .int c)]) (st' := [.int b]) rfl ?_
    refine En_iLt _ rfl rfl (fun h12 => ?_) (fun h12 => ?_)
    · refine En_Ps 1 (pc' := 24) (lv' := [(0, .ref 0), (1, .int a), (2, .int b), (3, .int c)]) (st' := [.int (((Int8.ofInt (-2)).toInt32))]) rfl ?_
      refine En_top (by decide : ((Int8.ofInt (-2)).toInt32).toInt = -2) (fun z13 h14 => ?_)
      exact En_ret (v := some (.int z13)) rfl rfl rfl ⟨h4, h8, z13, rfl, (by omega)⟩
    · refine En_Ps 2 (pc' := 13) (lv' := [(0, .ref 0), (1, .int a), (2, .int b), (3, .int c)]) (st' := [.int ((Int32.ofInt 4)), .int b]) rfl ?_
      refine En_icGe _ rfl (by decide : (Int32.ofInt 4).toInt = 4) rfl (fun h15 => ?_) (fun h15 => ?_)
      · refine En_Ps 1 (pc' := 24) (lv' := [(0, .ref 0), (1, .int a), (2, .int b), (3, .int c)]) (st' := [.int (((Int8.ofInt (-2)).toInt32))]) rfl ?_
        refine En_top (by decide : ((Int8.ofInt (-2)).toInt32).toInt = -2) (fun z16 h17 => ?_)
        exact En_ret (v := some (.int z16)) rfl rfl rfl ⟨h4, h8, z16, rfl, (by omega)⟩
      · refine En_Ps 2 (pc' := 19) (lv' := [(0, .ref 0), (1, .int a), (2, .int b), (3, .int c)]) (st' := [.int (((Int8.ofInt 60).toInt32)), .int c]) rfl ?_
        refine En_icLe _ rfl (by decide : ((Int8.ofInt 60).toInt32).toInt = 60) rfl (fun h18 => ?_) (fun h18 => ?_)
        · refine En_Ps 1 (pc' := 26) (lv' := [(0, .ref 0), (1, .int a), (2, .int b), (3, .int c)]) (st' := [.int c]) rfl ?_
          refine En_iGe _ rfl rfl (fun h19 => ?_) (fun h19 => ?_)
          · refine En_Ps 1 (pc' := 33) (lv' := [(0, .ref 0), (1, .int a), (2, .int b), (3, .int c)]) (st' := [.ref 0]) rfl ?_
            refine En_getU (j := 6) (u := 150) (g' := 32) (q := 0) rfl rfl rfl (by decide +kernel : TG 0 = 0) (by decide +kernel) h4 (by decide +kernel) (by decide +kernel) (fun h20 => ?_)
            refine En_Ps 1 (pc' := 37) (lv' := [(0, .ref 0), (1, .int a), (2, .int b), (3, .int c)]) (st' := [.int a, .ref 150]) rfl ?_
            refine En_aald (g' := 33) (u := 0) rfl rfl (by decide +kernel : TG 150 = 32) (by decide +kernel) h4 (by omega) (lnI (by decide +kernel : LN _ = 4) (by omega)) (FTsgl (by decide +kernel)) (fun a23 h22 ha23 => ?_)
            refine En_Ps 2 (pc' := 40) (lv' := [(0, .ref 0), (1, .int a), (2, .int b), (3, .int c)]) (st' := [.int c, .int b, .ref a23]) rfl ?_
            refine En_callV rfl rfl rfl rfl rfl rfl rfl rfl ha23 (by decide +kernel) rfl (c_84 σ3 h4 a23 ha23 b c (geI rfl (by omega)) (leI rfl (by omega)) (geI rfl (by omega)) (leI rfl (by omega))) (by decide) (by decide) (fun v25 σ26 h24 => ?_)
            obtain ⟨h27, h28, rfl, h29⟩ := h24
            have h30 := Fr_trans h8 h28 (by decide +kernel)
            refine En_Ps 1 (pc' := 44) (lv' := [(0, .ref 0), (1, .int a), (2, .int b), (3, .int c)]) (st' := [.int ((Int32.ofInt 0))]) rfl ?_
            refine En_top (by decide : (Int32.ofInt 0).toInt = 0) (fun z31 h32 => ?_)
            exact En_ret (v := some (.int z31)) rfl rfl rfl ⟨h27, h30, z31, rfl, (by omega)⟩
          · refine En_Ps 1 (pc' := 31) (lv' := [(0, .ref 0), (1, .int a), (2, .int b), (3, .int c)]) (st' := [.int (((Int8.ofInt (-3)).toInt32))]) rfl ?_
            refine En_top (by decide : ((Int8.ofInt (-3)).toInt32).toInt = -3) (fun z33 h34 => ?_)
            exact En_ret (v := some (.int z33)) rfl rfl rfl ⟨h4, h8, z33, rfl, (by omega)⟩
        · refine En_Ps 1 (pc' := 24) (lv' := [(0, .ref 0), (1, .int a), (2, .int b), (3, .int c)]) (st' := [.int (((Int8.ofInt (-2)).toInt32))]) rfl ?_
          refine En_top (by decide : ((Int8.ofInt (-2)).toInt32).toInt = -2) (fun z35 h36 => ?_)
          exact En_ret (v := some (.int z35)) rfl rfl rfl ⟨h4, h8, z35, rfl, (by omega)⟩
/-- DoorSchool.school()I -/
abbrev P_169x (σ0 : SG) (p : Nat) (sg : Int32) (p2 : Nat) : PO := fun v σ => WT σ ∧ Fr [(0, 9), (0, 10), (1, 1), (3, 1), (3, 2), (3, 3), (3, 4), (3, 5), (3, 6), (4, 0), (4, 1), (5, 0), (6, 0), (7, 0), (18, 0), (18, 1), (18, 2), (18, 3), (18, 6), (18, 7), (18, 8), (18, 11), (18, 14), (20, 2), (21, 0), (22, 0), (23, 0), (24, 0), (25, 0), (26, 0), (28, 1), (28, 2), (28, 3)] σ0 σ ∧ ∃ m1 : Int32, (σ 1)[1]? = some (.int m1) ∧ ∃ ret : Int32, v = some (.int ret) ∧ -ret.toInt - 4 ≤ 0 ∧ ret.toInt - 1601 ≤ 0 ∧ -m1.toInt ≤ 0 ∧ m1.toInt ≤ 0 ∧ -m1.toInt + sg.toInt - 4 ≤ 0 ∧ m1.toInt - sg.toInt ≤ 0 ∧ m1.toInt ≤ 0 ∧ -m1.toInt ≤ 0 ∧ INVc σ
set_option maxRecDepth 10000 in
set_option maxHeartbeats 4000000 in
theorem c_169x (σ0 : SG) (hσ0 : WT σ0) (p : Nat) (hp : TG p = 18) (h_p : (σ0 0)[9]? = some (.ref p)) (sg : Int32) (h_sg : (σ0 p)[1]? = some (.int sg)) (p2 : Nat) (hp2 : TG p2 = 18) (h_p2 : (σ0 0)[10]? = some (.ref p2)) (hp0 : -sg.toInt ≤ 0) (hne : p ≠ p2) : En 8 181 none mr_169 (P_169x σ0 p sg p2) 0 [(0, .ref 0)] [] σ0 := by
  obtain ⟨hl_sg, hu_sg⟩ := WT_int hσ0 (g := 18) hp (by decide +kernel) (l := (-1)) (u := 4) (by decide +kernel) h_sg
  have hF0 : Fr [(0, 9), (0, 10), (1, 1), (3, 1), (3, 2), (3, 3), (3, 4), (3, 5), (3, 6), (4, 0), (4, 1), (5, 0), (6, 0), (7, 0), (18, 0), (18, 1), (18, 2), (18, 3), (18, 6), (18, 7), (18, 8), (18, 11), (18, 14), (20, 2), (21, 0), (22, 0), (23, 0), (24, 0), (25, 0), (26, 0), (28, 1), (28, 2), (28, 3)] σ0 σ0 := Fr_rfl
  refine En_Ps 1 (pc' := 1) (lv' := [(0, .ref 0)]) (st' := [.ref 0]) rfl ?_
  refine En_getU (j := 1) (u := 3) (g' := 3) (q := 0) rfl rfl rfl (by decide +kernel : TG 0 = 0) (by decide +kernel) hσ0 (by decide +kernel) (by decide +kernel) (fun h1 => ?_)
  refine En_Ps 1 (pc' := 5) (lv' := [(0, .ref 0)]) (st' := [.ref 0, .ref 3]) rfl ?_
  refine En_getK (j := 10) h_p2 rfl rfl rfl (by decide +kernel : TG 0 = 0) (by decide +kernel) ?_
  refine En_callV rfl rfl rfl rfl rfl rfl rfl rfl (by decide +kernel : TG 3 = 3) (by decide +kernel) rfl (c_60x σ0 hσ0 p2 hp2) (by decide) (by decide) (fun v4 σ5 h3 => ?_)
  obtain ⟨h6, h7, z9, h10, z11, h12, rfl, h8⟩ := h3
  have h13 := h8.2.2.2.2.2
  have h14 := Fr_trans hF0 h7 (by decide +kernel)
  refine En_Ps 1 (pc' := 12) (lv' := [(0, .ref 0)]) (st' := [.ref 0]) rfl ?_
  refine En_getU (j := 0) (u := 1) (g' := 1) (q := 0) rfl rfl rfl (by decide +kernel : TG 0 = 0) (by decide +kernel) h6 (by decide +kernel) (by decide +kernel) (fun h15 => ?_)
  refine En_Ps 1 (pc' := 16) (lv' := [(0, .ref 0)]) (st' := [.int ((Int32.ofInt 0)), .ref 1]) rfl ?_
  refine En_put (j := 1) rfl rfl rfl (by decide +kernel : TG 1 = 1) (by decide +kernel) rfl (vI (l := 0) (u := 1600) (by decide +kernel) (by decide : (Int32.ofInt 0).toInt = 0) (by omega) (by omega)) h6 h14 (by decide +kernel) (fun σ17 h18 h19 h20 h21 => ?_)
  refine En_Ps 1 (pc' := 20) (lv' := [(0, .ref 0)]) (st' := [.ref 0]) rfl ?_
  refine En_getK (j := 1) ((h21 _ _ (Or.inl (neTG (by decide +kernel : TG 0 = 0) (by decide +kernel : TG 1 = 1) (by decide)))).trans ((h7 _ _ (inW (by decide +kernel : TG 0 = 0) (by decide +kernel))).trans h1)) rfl rfl rfl (by decide +kernel : TG 0 = 0) (by decide +kernel) ?_
  refine En_getK (j := 5) ((h21 _ _ (Or.inr (by decide))).trans h10) rfl rfl rfl (by decide +kernel : TG 3 = 3) (by decide +kernel) ?_
  refine En_iEq _ rfl rfl (fun h22 => ?_) (fun h22 => ?_)
  · refine En_Ps 1 (pc' := 33) (lv' := [(0, .ref 0)]) (st' := [.ref 0]) rfl ?_
    refine En_getK (j := 9) ((h21 _ _ (Or.inr (by decide))).trans ((h7 _ _ (inW (by decide +kernel : TG 0 = 0) (by decide +kernel))).trans h_p)) rfl rfl rfl (by decide +kernel : TG 0 = 0) (by decide +kernel) ?_
    refine En_Ps 3 (pc' := 39) (lv' := [(1, .ref p), (0, .ref 0)]) (st' := [.ref 0, .ref 0]) rfl ?_
    refine En_getK (j := 10) ((h21 _ _ (Or.inr (by decide))).trans ((h7 _ _ (inW (by decide +kernel : TG 0 = 0) (by decide +kernel))).trans h_p2)) rfl rfl rfl (by decide +kernel : TG 0 = 0) (by decide +kernel) ?_
    refine En_put (j := 9) rfl rfl rfl (by decide +kernel : TG 0 = 0) (by decide +kernel) rfl (vR (g' := 18) (u := 0) (by decide +kernel) hp2) h18 h19 (by decide +kernel) (fun σ23 h24 h25 h26 h27 => ?_)
    refine En_Ps 2 (pc' := 47) (lv' := [(1, .ref p), (0, .ref 0)]) (st' := [.ref p, .ref 0]) rfl ?_
    refine En_put (j := 10) rfl rfl rfl (by decide +kernel : TG 0 = 0) (by decide +kernel) rfl (vR (g' := 18) (u := 0) (by decide +kernel) hp) h24 h25 (by decide +kernel) (fun σ28 h29 h30 h31 h32 => ?_)
    refine En_Ps 1 (pc' := 51) (lv' := [(1, .ref p), (0, .ref 0)]) (st' := [.ref 0]) rfl ?_
    refine En_getU (j := 2) (u := 4) (g' := 4) (q := 0) rfl rfl rfl (by decide +kernel : TG 0 = 0) (by decide +kernel) h29 (by decide +kernel) (by decide +kernel) (fun h33 => ?_)
    refine En_Ps 1 (pc' := 55) (lv' := [(1, .ref p), (0, .ref 0)]) (st' := [.ref 0, .ref 4]) rfl ?_
    refine En_getK (j := 9) ((h32 _ _ (Or.inr (by decide))).trans h26) rfl rfl rfl (by decide +kernel : TG 0 = 0) (by decide +kernel) ?_
    refine En_getK (j := 1) ((h32 _ _ (Or.inr (by decide))).trans ((h27 _ _ (Or.inr (by decide))).trans ((h21 _ _ (Or.inl (neTG hp2 (by decide +kernel : TG 1 = 1) (by decide)))).trans h12))) rfl rfl rfl hp2 (by decide +kernel) ?_
    refine En_callV rfl rfl rfl rfl rfl rfl rfl rfl (by decide +kernel : TG 4 = 4) (by decide +kernel) rfl (c_82 σ28 h29 z11 (geI rfl (by omega)) (leI rfl (by omega))) (by decide) (by decide) (fun v36 σ37 h35 => ?_)
    obtain ⟨h38, h39, rfl, h40⟩ := h35
    have h41 := Fr_trans h30 h39 (by decide +kernel)
    refine En_Ps 1 (pc' := 65) (lv' := [(1, .ref p), (0, .ref 0)]) (st' := [.ref 0]) rfl ?_
    refine En_getK (j := 9) ((h39 _ _ (inW (by decide +kernel : TG 0 = 0) (by decide +kernel))).trans ((h32 _ _ (Or.inr (by decide))).trans h26)) rfl rfl rfl (by decide +kernel : TG 0 = 0) (by decide +kernel) ?_
    refine En_getI (j := 0) (l := 0) (u := 1601) rfl rfl rfl hp2 (by decide +kernel) h38 (by decide +kernel) (fun z43 h42 h44 h45 => ?_)
    have := (by decide : (Int32.ofInt 0).toInt = 0)
    exact En_ret (v := some (.int z43)) rfl rfl rfl ⟨h38, h41, (Int32.ofInt 0), ((h39 _ _ (inW (by decide +kernel : TG 1 = 1) (by decide +kernel))).trans ((h32 _ _ (Or.inr (by decide))).trans ((h27 _ _ (Or.inr (by decide))).trans h20))), z43, rfl, ⟨by omega, by omega, by omega, by omega, by omega, by omega, by omega, by omega, ⟨p2, p, z11, hp2, hp, ((h39 _ _ (inW (by decide +kernel : TG 0 = 0) (by decide +kernel))).trans ((h32 _ _ (Or.inr (by decide))).trans h26)), ((h39 _ _ (inW (by decide +kernel : TG 0 = 0) (by decide +kernel))).trans h31), (fun e => hne e.symm), ((h39 _ _ (inW hp2 (by decide +kernel))).trans ((h32 _ _ (Or.inr (by decide))).trans ((h27 _ _ (Or.inr (by decide))).trans ((h21 _ _ (Or.inl (neTG hp2 (by decide +kernel : TG 1 = 1) (by decide)))).trans h12)))), (by omega)⟩⟩⟩
  · refine En_Ps 1 (pc' := 31) (lv' := [(0, .ref 0)]) (st' := [.int (((Int8.ofInt (-4)).toInt32))]) rfl ?_
    have := (by decide : (Int32.ofInt 0).toInt = 0)
    refine En_top (by decide : ((Int8.ofInt (-4)).toInt32).toInt = -4) (fun z46 h47 => ?_)
    exact En_ret (v := some (.int z46)) rfl rfl rfl ⟨h18, h19, (Int32.ofInt 0), h20, z46, rfl, ⟨by omega, by omega, by omega, by omega, by omega, by omega, by omega, by omega, ⟨p, p2, sg, hp, hp2, ((h21 _ _ (Or.inr (by decide))).trans ((h7 _ _ (inW (by decide +kernel : TG 0 = 0) (by decide +kernel))).trans h_p)), ((h21 _ _ (Or.inr (by decide))).trans ((h7 _ _ (inW (by decide +kernel : TG 0 = 0) (by decide +kernel))).trans h_p2)), hne, ((h21 _ _ (Or.inl (neTG hp (by decide +kernel : TG 1 = 1) (by decide)))).trans (((h13 p hp hne)).trans h_sg)), (by omega)⟩⟩⟩
/-- DoorSchoolModel.end(I)I -/
abbrev P_221x (σ0 : SG) (a : Int32) (m : Int32) : PO := fun v σ => WT σ ∧ Fr [(35, 5)] σ0 σ ∧ ∃ m1 : Int32, (σ 159)[5]? = some (.int m1) ∧ ∃ ret : Int32, v = some (.int ret) ∧ -ret.toInt - 1 ≤ 0 ∧ ret.toInt - 1600 ≤ 0 ∧ -m1.toInt ≤ 0 ∧ m1.toInt - 1600 ≤ 0 ∧ -m1.toInt + m.toInt - 1600 ≤ 0 ∧ m1.toInt - m.toInt ≤ 0 ∧ (-a.toInt ≤ 0 ∧ a.toInt - m.toInt ≤ 0 → m1.toInt - a.toInt ≤ 0 ∧ -m1.toInt + a.toInt ≤ 0 ∧ ret.toInt - a.toInt ≤ 0 ∧ -ret.toInt + a.toInt ≤ 0) ∧ (a.toInt + 1 ≤ 0 → m1.toInt - m.toInt ≤ 0 ∧ -m1.toInt + m.toInt ≤ 0 ∧ ret.toInt + 1 ≤ 0 ∧ -ret.toInt - 1 ≤ 0) ∧ (m.toInt - a.toInt + 1 ≤ 0 → m1.toInt - m.toInt ≤ 0 ∧ -m1.toInt + m.toInt ≤ 0 ∧ ret.toInt + 1 ≤ 0 ∧ -ret.toInt - 1 ≤ 0)
set_option maxRecDepth 10000 in
set_option maxHeartbeats 4000000 in
theorem c_221x (σ0 : SG) (hσ0 : WT σ0) (a : Int32) (m : Int32) (h_m : (σ0 159)[5]? = some (.int m)) : En 1 25 none mr_221 (P_221x σ0 a m) 0 [(0, .ref 159), (1, .int a)] [] σ0 := by
  obtain ⟨hl_m, hu_m⟩ := WT_int hσ0 (g := 35) (by decide +kernel) (by decide +kernel) (l := 0) (u := 1600) (by decide +kernel) h_m
  have hF0 : Fr [(35, 5)] σ0 σ0 := Fr_rfl
  refine En_Ps 4 (pc' := 4) (lv' := [(0, .ref 159), (1, .int a)]) (st' := [.ref 159, .long ((Int64.ofNat 0)), .long a.toInt64]) rfl ?_
  refine En_getK (j := 5) h_m rfl rfl rfl (by decide +kernel : TG 159 = 35) (by decide +kernel) ?_
  refine En_Ps 1 (pc' := 8) (lv' := [(0, .ref 159), (1, .int a)]) (st' := [.long m.toInt64, .long ((Int64.ofNat 0)), .long a.toInt64]) rfl ?_
  have : a.toInt64.toInt = a.toInt := (i2lI rfl)
  have := (by decide : ((Int64.ofNat 0)).toInt = 0)
  have : m.toInt64.toInt = m.toInt := (i2lI rfl)
  refine En_callS rfl rfl rfl rfl rfl rfl rfl rfl rfl (c_249 σ0 hσ0 a.toInt64 ((Int64.ofNat 0)) m.toInt64) (by decide) (by decide) (fun v2 σ3 h1 => ?_)
  obtain ⟨h4, h5, z7, rfl, h6⟩ := h1
  have h8 := Fr_trans hF0 h5 (by decide +kernel)
  refine En_iNe _ rfl rfl (fun h9 => ?_) (fun h9 => ?_)
  · refine En_Ps 2 (pc' := 18) (lv' := [(0, .ref 159), (1, .int a)]) (st' := [.int a, .ref 159]) rfl ?_
    refine En_put (j := 5) rfl rfl rfl (by decide +kernel : TG 159 = 35) (by decide +kernel) rfl (vI (l := 0) (u := 1600) (by decide +kernel) rfl (by omega) (by omega)) h4 h8 (by decide +kernel) (fun σ10 h11 h12 h13 h14 => ?_)
    refine En_Ps 1 (pc' := 22) (lv' := [(0, .ref 159), (1, .int a)]) (st' := [.int a]) rfl ?_
    exact En_ret (v := some (.int a)) rfl rfl rfl ⟨h11, h12, a, h13, a, rfl, (by omega)⟩
  · refine En_Ps 1 (pc' := 15) (lv' := [(0, .ref 159), (1, .int a)]) (st' := [.int ((Int32.ofInt (-1)))]) rfl ?_
    refine En_top (by decide : (Int32.ofInt (-1)).toInt = -1) (fun z15 h16 => ?_)
    exact En_ret (v := some (.int z15)) rfl rfl rfl ⟨h4, h8, m, ((h5 _ _ (inW (by decide +kernel : TG 159 = 35) (by decide +kernel))).trans h_m), z15, rfl, (by omega)⟩
/-- DoorSchoolModel.feed(IIIII)I -/
abbrev P_226x (σ0 : SG) (a : Int32) (b : Int32) (c : Int32) (d : Int32) (e : Int32) (m : Int32) : PO := fun v σ => WT σ ∧ Fr [(35, 5), (39, 0), (40, 0)] σ0 σ ∧ ∃ m1 : Int32, (σ 159)[5]? = some (.int m1) ∧ ∃ ret : Int32, v = some (.int ret) ∧ -ret.toInt - 1 ≤ 0 ∧ ret.toInt - 1600 ≤ 0 ∧ -m1.toInt + 20 ≤ 0 ∧ m1.toInt - 1600 ≤ 0 ∧ -m1.toInt + m.toInt ≤ 0 ∧ m1.toInt - m.toInt - 20 ≤ 0 ∧ (m.toInt - 1580 ≤ 0 → m1.toInt - m.toInt - 20 ≤ 0 ∧ -m1.toInt + m.toInt + 20 ≤ 0 ∧ ret.toInt - m1.toInt ≤ 0 ∧ -ret.toInt + m1.toInt ≤ 0) ∧ (-m.toInt + 1581 ≤ 0 → m1.toInt - m.toInt ≤ 0 ∧ -m1.toInt + m.toInt ≤ 0 ∧ ret.toInt + 1 ≤ 0 ∧ -ret.toInt - 1 ≤ 0)
set_option maxRecDepth 10000 in
set_option maxHeartbeats 4000000 in
theorem c_226x (σ0 : SG) (hσ0 : WT σ0) (a : Int32) (b : Int32) (c : Int32) (d : Int32) (e : Int32) (m : Int32) (h_m : (σ0 159)[5]? = some (.int m)) : En 0 0 none mr_226 (P_226x σ0 a b c d e m) 0 [(0, .ref 159), (1, .int a), (2, .int b), (3, .int c), (4, .int d), (5, .int e)] [] σ0 := by
  obtain ⟨hl_m, hu_m⟩ := WT_int hσ0 (g := 35) (by decide +kernel) (by decide +kernel) (l := 0) (u := 1600) (by decide +kernel) h_m
  have hF0 : Fr [(35, 5), (39, 0), (40, 0)] σ0 σ0 := Fr_rfl
  refine En_Ps 1 (pc' := 1) (lv' := [(0, .ref 159), (1, .int a), (2, .int b), (3, .int c), (4, .int d), (5, .int e)]) (st' := [.ref 159]) rfl ?_
  refine En_getK (j := 5) h_m rfl rfl rfl (by decide +kernel : TG 159 = 35) (by decide +kernel) ?_
  refine En_Ps 2 (pc' := 7) (lv' := [(0, .ref 159), (1, .int a), (2, .int b), (3, .int c), (4, .int d), (5, .int e)]) (st' := [.int ((m + (((Int8.ofInt 20).toInt32))))]) rfl ?_
  refine En_top (addI rfl (by decide : ((Int8.ofInt 20).toInt32).toInt = 20) (by omega) (by omega)) (fun z1 h2 => ?_)
  refine En_Ps 1 (pc' := 10) (lv' := [(0, .ref 159), (1, .int a), (2, .int b), (3, .int c), (4, .int d), (5, .int e)]) (st' := [.int (((Int16.ofInt 1600).toInt32)), .int z1]) rfl ?_
  refine En_icLe _ rfl (by decide : ((Int16.ofInt 1600).toInt32).toInt = 1600) rfl (fun h3 => ?_) (fun h3 => ?_)
  · refine En_Ps 1 (pc' := 16) (lv' := [(0, .ref 159), (1, .int a), (2, .int b), (3, .int c), (4, .int d), (5, .int e)]) (st' := [.ref 159]) rfl ?_
    refine En_getU (j := 6) (u := 164) (g' := 40) (q := 0) rfl rfl rfl (by decide +kernel : TG 159 = 35) (by decide +kernel) hσ0 (by decide +kernel) (by decide +kernel) (fun h4 => ?_)
    refine En_Ps 2 (pc' := 21) (lv' := [(0, .ref 159), (1, .int a), (2, .int b), (3, .int c), (4, .int d), (5, .int e)]) (st' := [.int a, .int ((Int32.ofInt 0)), .ref 164]) rfl ?_
    refine En_iast (l := (-2147483648)) (u := 2147483647) rfl (by decide : (Int32.ofInt 0).toInt = 0) (by decide +kernel : TG 164 = 40) (by decide +kernel) (by omega) (lnI (by decide +kernel : LN _ = 5) (by omega)) (FTsgl (by decide +kernel)) (fullI _) hσ0 hF0 (by decide +kernel) (fun σ6 h7 h8 h9 h10 => ?_)
    refine En_Ps 1 (pc' := 23) (lv' := [(0, .ref 159), (1, .int a), (2, .int b), (3, .int c), (4, .int d), (5, .int e)]) (st' := [.ref 159]) rfl ?_
    refine En_getK (j := 6) ((h10 _ _ (Or.inl (neTG (by decide +kernel : TG 159 = 35) (by decide +kernel : TG 164 = 40) (by decide)))).trans h4) rfl rfl rfl (by decide +kernel : TG 159 = 35) (by decide +kernel) ?_
    refine En_Ps 2 (pc' := 28) (lv' := [(0, .ref 159), (1, .int a), (2, .int b), (3, .int c), (4, .int d), (5, .int e)]) (st' := [.int b, .int ((Int32.ofInt 1)), .ref 164]) rfl ?_
    refine En_iast (l := (-2147483648)) (u := 2147483647) rfl (by decide : (Int32.ofInt 1).toInt = 1) (by decide +kernel : TG 164 = 40) (by decide +kernel) (by omega) (lnI (by decide +kernel : LN _ = 5) (by omega)) (FTsgl (by decide +kernel)) (fullI _) h7 h8 (by decide +kernel) (fun σ11 h12 h13 h14 h15 => ?_)
    refine En_Ps 1 (pc' := 30) (lv' := [(0, .ref 159), (1, .int a), (2, .int b), (3, .int c), (4, .int d), (5, .int e)]) (st' := [.ref 159]) rfl ?_
    refine En_getK (j := 6) ((h15 _ _ (Or.inl (neTG (by decide +kernel : TG 159 = 35) (by decide +kernel : TG 164 = 40) (by decide)))).trans ((h10 _ _ (Or.inl (neTG (by decide +kernel : TG 159 = 35) (by decide +kernel : TG 164 = 40) (by decide)))).trans h4)) rfl rfl rfl (by decide +kernel : TG 159 = 35) (by decide +kernel) ?_
    refine En_Ps 2 (pc' := 35) (lv' := [(0, .ref 159), (1, .int a), (2, .int b), (3, .int c), (4, .int d), (5, .int e)]) (st' := [.int c, .int ((Int32.ofInt 2)), .ref 164]) rfl ?_
    refine En_iast (l := (-2147483648)) (u := 2147483647) rfl (by decide : (Int32.ofInt 2).toInt = 2) (by decide +kernel : TG 164 = 40) (by decide +kernel) (by omega) (lnI (by decide +kernel : LN _ = 5) (by omega)) (FTsgl (by decide +kernel)) (fullI _) h12 h13 (by decide +kernel) (fun σ16 h17 h18 h19 h20 => ?_)
    refine En_Ps 1 (pc' := 37) (lv' := [(0, .ref 159), (1, .int a), (2, .int b), (3, .int c), (4, .int d), (5, .int e)]) (st' := [.ref 159]) rfl ?_
    refine En_getK (j := 6) ((h20 _ _ (Or.inl (neTG (by decide +kernel : TG 159 = 35) (by decide +kernel : TG 164 = 40) (by decide)))).trans ((h15 _ _ (Or.inl (neTG (by decide +kernel : TG 159 = 35) (by decide +kernel : TG 164 = 40) (by decide)))).trans ((h10 _ _ (Or.inl (neTG (by decide +kernel : TG 159 = 35) (by decide +kernel : TG 164 = 40) (by decide)))).trans h4))) rfl rfl rfl (by decide +kernel : TG 159 = 35) (by decide +kernel) ?_
    refine En_Ps 2 (pc' := 43) (lv' := [(0, .ref 159), (1, .int a), (2, .int b), (3, .int c), (4, .int d), (5, .int e)]) (st' := [.int d, .int ((Int32.ofInt 3)), .ref 164]) rfl ?_
    refine En_iast (l := (-2147483648)) (u := 2147483647) rfl (by decide : (Int32.ofInt 3).toInt = 3) (by decide +kernel : TG 164 = 40) (by decide +kernel) (by omega) (lnI (by decide +kernel : LN _ = 5) (by omega)) (FTsgl (by decide +kernel)) (fullI _) h17 h18 (by decide +kernel) (fun σ21 h22 h23 h24 h25 => ?_)
    refine En_Ps 1 (pc' := 45) (lv' := [(0, .ref 159), (1, .int a), (2, .int b), (3, .int c), (4, .int d), (5, .int e)]) (st' := [.ref 159]) rfl ?_
    refine En_getK (j := 6) ((h25 _ _ (Or.inl (neTG (by decide +kernel : TG 159 = 35) (by decide +kernel : TG 164 = 40) (by decide)))).trans ((h20 _ _ (Or.inl (neTG (by decide +kernel : TG 159 = 35) (by decide +kernel : TG 164 = 40) (by decide)))).trans ((h15 _ _ (Or.inl (neTG (by decide +kernel : TG 159 = 35) (by decide +kernel : TG 164 = 40) (by decide)))).trans ((h10 _ _ (Or.inl (neTG (by decide +kernel : TG 159 = 35) (by decide +kernel : TG 164 = 40) (by decide)))).trans h4)))) rfl rfl rfl (by decide +kernel : TG 159 = 35) (by decide +kernel) ?_
    refine En_Ps 2 (pc' := 51) (lv' := [(0, .ref 159), (1, .int a), (2, .int b), (3, .int c), (4, .int d), (5, .int e)]) (st' := [.int e, .int ((Int32.ofInt 4)), .ref 164]) rfl ?_
    refine En_iast (l := (-2147483648)) (u := 2147483647) rfl (by decide : (Int32.ofInt 4).toInt = 4) (by decide +kernel : TG 164 = 40) (by decide +kernel) (by omega) (lnI (by decide +kernel : LN _ = 5) (by omega)) (FTsgl (by decide +kernel)) (fullI _) h22 h23 (by decide +kernel) (fun σ26 h27 h28 h29 h30 => ?_)
    refine En_Ps 2 (pc' := 55) (lv' := [(6, .int ((Int32.ofInt 0))), (0, .ref 159), (1, .int a), (2, .int b), (3, .int c), (4, .int d), (5, .int e)]) (st' := []) rfl ?_
    have key55 : ∀ (n55 : Nat) (σ32 : SG) (y31 : Int32), WT σ32 → Fr [(35, 5), (39, 0), (40, 0)] σ0 σ32 → (σ32 159)[5]? = some (.int m) → (σ32 159)[6]? = some (.ref 164) → 0 ≤ y31.toInt → y31.toInt ≤ 20 → -y31.toInt + 20 < (n55 : Int) → En 0 0 none mr_226 (P_226x σ0 a b c d e m) 55 [(0, .ref 159), (1, .int a), (2, .int b), (3, .int c), (4, .int d), (5, .int e), (6, .int y31)] [] σ32 := by
      intro n55
      induction n55 with
      | zero =>
        intro σ32 y31 h33 h34 h35 h36 h37 h38 h39
        exfalso; omega
      | succ n55 ih55 =>
        intro σ32 y31 h33 h34 h35 h36 h37 h38 h39
        refine En_Ps 2 (pc' := 59) (lv' := [(0, .ref 159), (1, .int a), (2, .int b), (3, .int c), (4, .int d), (5, .int e), (6, .int y31)]) (st' := [.int (((Int8.ofInt 20).toInt32)), .int y31]) rfl ?_
        refine En_icGe _ rfl (by decide : ((Int8.ofInt 20).toInt32).toInt = 20) rfl (fun h40 => ?_) (fun h40 => ?_)
        · refine En_Ps 2 (pc' := 103) (lv' := [(0, .ref 159), (1, .int a), (2, .int b), (3, .int c), (4, .int d), (5, .int e), (6, .int y31)]) (st' := [.ref 159, .ref 159]) rfl ?_
          refine En_getK (j := 5) h35 rfl rfl rfl (by decide +kernel : TG 159 = 35) (by decide +kernel) ?_
          refine En_Ps 2 (pc' := 109) (lv' := [(0, .ref 159), (1, .int a), (2, .int b), (3, .int c), (4, .int d), (5, .int e), (6, .int y31)]) (st' := [.int ((m + (((Int8.ofInt 20).toInt32)))), .ref 159]) rfl ?_
          refine En_top (addI rfl (by decide : ((Int8.ofInt 20).toInt32).toInt = 20) (by omega) (by omega)) (fun z41 h42 => ?_)
          refine En_put (j := 5) rfl rfl rfl (by decide +kernel : TG 159 = 35) (by decide +kernel) rfl (vI (l := 0) (u := 1600) (by decide +kernel) rfl (by omega) (by omega)) h33 h34 (by decide +kernel) (fun σ43 h44 h45 h46 h47 => ?_)
          refine En_Ps 1 (pc' := 113) (lv' := [(0, .ref 159), (1, .int a), (2, .int b), (3, .int c), (4, .int d), (5, .int e), (6, .int y31)]) (st' := [.ref 159]) rfl ?_
          refine En_getK (j := 5) h46 rfl rfl rfl (by decide +kernel : TG 159 = 35) (by decide +kernel) ?_
          exact En_ret (v := some (.int z41)) rfl rfl rfl ⟨h44, h45, z41, h46, z41, rfl, (by omega)⟩
        · refine En_Ps 1 (pc' := 63) (lv' := [(0, .ref 159), (1, .int a), (2, .int b), (3, .int c), (4, .int d), (5, .int e), (6, .int y31)]) (st' := [.ref 159]) rfl ?_
          refine En_getU (j := 4) (u := 163) (g' := 39) (q := 0) rfl rfl rfl (by decide +kernel : TG 159 = 35) (by decide +kernel) h33 (by decide +kernel) (by decide +kernel) (fun h48 => ?_)
          refine En_Ps 1 (pc' := 67) (lv' := [(0, .ref 159), (1, .int a), (2, .int b), (3, .int c), (4, .int d), (5, .int e), (6, .int y31)]) (st' := [.ref 159, .ref 163]) rfl ?_
          refine En_getK (j := 5) h35 rfl rfl rfl (by decide +kernel : TG 159 = 35) (by decide +kernel) ?_
          refine En_Ps 2 (pc' := 73) (lv' := [(0, .ref 159), (1, .int a), (2, .int b), (3, .int c), (4, .int d), (5, .int e), (6, .int y31)]) (st' := [.int ((m + y31)), .ref 163]) rfl ?_
          refine En_top (addI rfl rfl (by omega) (by omega)) (fun z50 h51 => ?_)
          refine En_Ps 1 (pc' := 74) (lv' := [(0, .ref 159), (1, .int a), (2, .int b), (3, .int c), (4, .int d), (5, .int e), (6, .int y31)]) (st' := [.ref 159, .int z50, .ref 163]) rfl ?_
          refine En_getK (j := 6) h36 rfl rfl rfl (by decide +kernel : TG 159 = 35) (by decide +kernel) ?_
          refine En_Ps 2 (pc' := 80) (lv' := [(0, .ref 159), (1, .int a), (2, .int b), (3, .int c), (4, .int d), (5, .int e), (6, .int y31)]) (st' := [.int ((Int32.ofInt 4)), .int y31, .ref 164, .int z50, .ref 163]) rfl ?_
          refine En_idiv (c := 4) rfl rfl (by decide : (Int32.ofInt 4).toInt = 4) (by omega) (by decide) (fun z52 h53 => ?_)
          refine En_iald (l := (-2147483648)) (u := 2147483647) rfl rfl (by decide +kernel : TG 164 = 40) (by decide +kernel) h33 (by omega) (lnI (by decide +kernel : LN _ = 5) (by omega)) (FTsgl (by decide +kernel)) (fun z55 h54 h56 h57 => ?_)
          refine En_Ps 4 (pc' := 89) (lv' := [(0, .ref 159), (1, .int a), (2, .int b), (3, .int c), (4, .int d), (5, .int e), (6, .int y31)]) (st' := [.int ((Int32.ofInt 4)), .int y31, .int (((Int8.ofInt 8).toInt32)), .int (((Int8.ofInt 24).toInt32)), .int z55, .int z50, .ref 163]) rfl ?_
          refine En_irem (c := 4) rfl rfl (by decide : (Int32.ofInt 4).toInt = 4) (by omega) (by decide) (fun z58 h59 => ?_)
          refine En_Ps 1 (pc' := 91) (lv' := [(0, .ref 159), (1, .int a), (2, .int b), (3, .int c), (4, .int d), (5, .int e), (6, .int y31)]) (st' := [.int (((((Int8.ofInt 8).toInt32)) * z58)), .int (((Int8.ofInt 24).toInt32)), .int z55, .int z50, .ref 163]) rfl ?_
          refine En_top (mulI (by decide : ((Int8.ofInt 8).toInt32).toInt = 8) rfl (Z := 8 * z58.toInt) (by omega) (by omega) (by omega)) (fun z60 h61 => ?_)
          refine En_Ps 1 (pc' := 92) (lv' := [(0, .ref 159), (1, .int a), (2, .int b), (3, .int c), (4, .int d), (5, .int e), (6, .int y31)]) (st' := [.int (((((Int8.ofInt 24).toInt32)) - z60)), .int z55, .int z50, .ref 163]) rfl ?_
          refine En_top (subI (by decide : ((Int8.ofInt 24).toInt32).toInt = 24) rfl (by omega) (by omega)) (fun z62 h63 => ?_)
          refine En_Ps 1 (pc' := 93) (lv' := [(0, .ref 159), (1, .int a), (2, .int b), (3, .int c), (4, .int d), (5, .int e), (6, .int y31)]) (st' := [.int ((z55 >>> (z62 &&& 31))), .int z50, .ref 163]) rfl ?_
          refine En_hav (fun z64 => ?_)
          refine En_Ps 1 (pc' := 94) (lv' := [(0, .ref 159), (1, .int a), (2, .int b), (3, .int c), (4, .int d), (5, .int e), (6, .int y31)]) (st' := [.int ((z64.toInt8.toInt32)), .int z50, .ref 163]) rfl ?_
          refine En_rng (l := -128) (u := 127) (i2b_rng _) (fun z65 h66 h67 => ?_)
          refine En_bast (l := (-128)) (u := 127) rfl rfl (by decide +kernel : TG 163 = 39) (by decide +kernel) (narB rfl (by omega) (by omega)) (by omega) (lnI (by decide +kernel : LN _ = 1600) (by omega)) (FTsgl (by decide +kernel)) (rngI rfl (by omega) (by omega)) h33 h34 (by decide +kernel) (fun σ68 h69 h70 h71 h72 => ?_)
          refine En_Ps 1 (pc' := 98) (lv' := [(6, .int ((y31 + Int32.ofInt 1))), (0, .ref 159), (1, .int a), (2, .int b), (3, .int c), (4, .int d), (5, .int e)]) (st' := []) rfl ?_
          refine En_lv1 (addI rfl (by decide : (Int32.ofInt 1).toInt = 1) (by omega) (by omega)) (fun z73 h74 => ?_)
          refine En_Ps 1 (pc' := 55) (lv' := [(6, .int z73), (0, .ref 159), (1, .int a), (2, .int b), (3, .int c), (4, .int d), (5, .int e)]) (st' := []) rfl ?_
          refine En_lv (lv := [(0, .ref 159), (1, .int a), (2, .int b), (3, .int c), (4, .int d), (5, .int e), (6, .int z73)]) ⟨rfl, rfl, rfl, rfl, rfl, rfl, rfl, trivial⟩ ?_
          exact ih55 σ68 z73 h69 h70 ((h72 _ _ (Or.inl (neTG (by decide +kernel : TG 159 = 35) (by decide +kernel : TG 163 = 39) (by decide)))).trans h35) ((h72 _ _ (Or.inl (neTG (by decide +kernel : TG 159 = 35) (by decide +kernel : TG 163 = 39) (by decide)))).trans h36) (by omega) (by omega) (by omega)
    have := (by decide : (Int32.ofInt 0).toInt = 0)
    refine En_lv (lv := [(0, .ref 159), (1, .int a), (2, .int b), (3, .int c), (4, .int d), (5, .int e), (6, .int ((Int32.ofInt 0)))]) ⟨rfl, rfl, rfl, rfl, rfl, rfl, rfl, trivial⟩ ?_
    exact key55 (Int.toNat (20) + 1) σ26 ((Int32.ofInt 0)) h27 h28 ((h30 _ _ (Or.inl (neTG (by decide +kernel : TG 159 = 35) (by decide +kernel : TG 164 = 40) (by decide)))).trans ((h25 _ _ (Or.inl (neTG (by decide +kernel : TG 159 = 35) (by decide +kernel : TG 164 = 40) (by decide)))).trans ((h20 _ _ (Or.inl (neTG (by decide +kernel : TG 159 = 35) (by decide +kernel : TG 164 = 40) (by decide)))).trans ((h15 _ _ (Or.inl (neTG (by decide +kernel : TG 159 = 35) (by decide +kernel : TG 164 = 40) (by decide)))).trans ((h10 _ _ (Or.inl (neTG (by decide +kernel : TG 159 = 35) (by decide +kernel : TG 164 = 40) (by decide)))).trans h_m))))) ((h30 _ _ (Or.inl (neTG (by decide +kernel : TG 159 = 35) (by decide +kernel : TG 164 = 40) (by decide)))).trans ((h25 _ _ (Or.inl (neTG (by decide +kernel : TG 159 = 35) (by decide +kernel : TG 164 = 40) (by decide)))).trans ((h20 _ _ (Or.inl (neTG (by decide +kernel : TG 159 = 35) (by decide +kernel : TG 164 = 40) (by decide)))).trans ((h15 _ _ (Or.inl (neTG (by decide +kernel : TG 159 = 35) (by decide +kernel : TG 164 = 40) (by decide)))).trans ((h10 _ _ (Or.inl (neTG (by decide +kernel : TG 159 = 35) (by decide +kernel : TG 164 = 40) (by decide)))).trans h4))))) (by omega) (by omega) (by omega)
  · refine En_Ps 1 (pc' := 14) (lv' := [(0, .ref 159), (1, .int a), (2, .int b), (3, .int c), (4, .int d), (5, .int e)]) (st' := [.int ((Int32.ofInt (-1)))]) rfl ?_
    refine En_top (by decide : (Int32.ofInt (-1)).toInt = -1) (fun z75 h76 => ?_)
    exact En_ret (v := some (.int z75)) rfl rfl rfl ⟨hσ0, hF0, m, h_m, z75, rfl, (by omega)⟩
/-- DoorSchoolModel.image(I)I -/
abbrev P_248x (σ0 : SG) (a : Int32) : PO := fun v σ => WT σ ∧ Fr [(37, 0), (38, 0)] σ0 σ ∧ ∃ ret : Int32, v = some (.int ret) ∧ -ret.toInt - 2 ≤ 0 ∧ ret.toInt ≤ 0 ∧ (-a.toInt ≤ 0 ∧ a.toInt - 2 ≤ 0 → ret.toInt ≤ 0 ∧ -ret.toInt ≤ 0) ∧ (a.toInt + 1 ≤ 0 → ret.toInt + 2 ≤ 0 ∧ -ret.toInt - 2 ≤ 0) ∧ (-a.toInt + 3 ≤ 0 → ret.toInt + 2 ≤ 0 ∧ -ret.toInt - 2 ≤ 0) ∧ WI σ
set_option maxRecDepth 10000 in
set_option maxHeartbeats 4000000 in
theorem c_248x (σ0 : SG) (hσ0 : WT σ0) (a : Int32) (hI : WI σ0) : En 1 25 none mr_248 (P_248x σ0 a) 0 [(0, .ref 159), (1, .int a)] [] σ0 := by
  have hF0 : Fr [(37, 0), (38, 0)] σ0 σ0 := Fr_rfl
  refine En_Ps 4 (pc' := 6) (lv' := [(0, .ref 159), (1, .int a)]) (st' := [.long ((2 : Int64)), .long ((Int64.ofNat 0)), .long a.toInt64]) rfl ?_
  have : a.toInt64.toInt = a.toInt := (i2lI rfl)
  have := (by decide : ((Int64.ofNat 0)).toInt = 0)
  have := (by decide : ((2 : Int64)).toInt = 2)
  refine En_callS rfl rfl rfl rfl rfl rfl rfl rfl rfl (c_249 σ0 hσ0 a.toInt64 ((Int64.ofNat 0)) ((2 : Int64))) (by decide) (by decide) (fun v2 σ3 h1 => ?_)
  obtain ⟨h4, h5, z7, rfl, h6⟩ := h1
  obtain rfl : σ0 = σ3 := Fr_nil h5
  refine En_iNe _ rfl rfl (fun h8 => ?_) (fun h8 => ?_)
  · refine En_Ps 2 (pc' := 17) (lv' := [(2, .int ((Int32.ofInt 0))), (0, .ref 159), (1, .int a)]) (st' := []) rfl ?_
    have key17 : ∀ (n17 : Nat) (σ10 : SG) (y9 : Int32), WT σ10 → Fr [(37, 0), (38, 0)] σ0 σ10 → 0 ≤ y9.toInt → y9.toInt ≤ 226 → -y9.toInt + 226 < (n17 : Int) → CPI σ0 σ10 a.toInt y9.toInt → En 1 25 none mr_248 (P_248x σ0 a) 17 [(0, .ref 159), (1, .int a), (2, .int y9)] [] σ10 := by
      intro n17
      induction n17 with
      | zero =>
        intro σ10 y9 h11 h12 h13 h14 h15 h16
        exfalso; omega
      | succ n17 ih17 =>
        intro σ10 y9 h11 h12 h13 h14 h15 h16
        refine En_Ps 2 (pc' := 21) (lv' := [(0, .ref 159), (1, .int a), (2, .int y9)]) (st' := [.int (((Int16.ofInt 226).toInt32)), .int y9]) rfl ?_
        refine En_icGe _ rfl (by decide : ((Int16.ofInt 226).toInt32).toInt = 226) rfl (fun h17 => ?_) (fun h17 => ?_)
        · refine En_Ps 1 (pc' := 49) (lv' := [(0, .ref 159), (1, .int a), (2, .int y9)]) (st' := [.ref 159]) rfl ?_
          refine En_getU (j := 3) (u := 162) (g' := 38) (q := 0) rfl rfl rfl (by decide +kernel : TG 159 = 35) (by decide +kernel) h11 (by decide +kernel) (by decide +kernel) (fun h18 => ?_)
          refine En_Ps 2 (pc' := 54) (lv' := [(0, .ref 159), (1, .int a), (2, .int y9)]) (st' := [.int ((Int32.ofInt 1)), .int a, .ref 162]) rfl ?_
          refine En_bast (l := 0) (u := 1) rfl rfl (by decide +kernel : TG 162 = 38) (by decide +kernel) (narZ (by decide : (Int32.ofInt 1).toInt = 1) (by omega) (by omega)) (by omega) (lnI (by decide +kernel : LN _ = 3) (by omega)) (FTsgl (by decide +kernel)) (rngI (by decide : (Int32.ofInt 1).toInt = 1) (by omega) (by omega)) h11 h12 (by decide +kernel) (fun σ20 h21 h22 h23 h24 => ?_)
          refine En_Ps 1 (pc' := 56) (lv' := [(0, .ref 159), (1, .int a), (2, .int y9)]) (st' := [.int ((Int32.ofInt 0))]) rfl ?_
          refine En_top (by decide : (Int32.ofInt 0).toInt = 0) (fun z25 h26 => ?_)
          exact En_ret (v := some (.int z25)) rfl rfl rfl ⟨h21, h22, z25, rfl, ⟨by omega, by omega, by omega, by omega, by omega, WI_nx h24 (by decide) (by decide) (CPI_x (W := []) h16 (by omega) (SWd_fr h12 (by decide +kernel)) (by omega) (by omega) hI)⟩⟩
        · refine En_Ps 1 (pc' := 25) (lv' := [(0, .ref 159), (1, .int a), (2, .int y9)]) (st' := [.ref 159]) rfl ?_
          refine En_getU (j := 2) (u := 161) (g' := 37) (q := 0) rfl rfl rfl (by decide +kernel : TG 159 = 35) (by decide +kernel) h11 (by decide +kernel) (by decide +kernel) (fun h27 => ?_)
          refine En_Ps 3 (pc' := 33) (lv' := [(0, .ref 159), (1, .int a), (2, .int y9)]) (st' := [.int (((((Int16.ofInt 226).toInt32)) * a)), .ref 161]) rfl ?_
          refine En_top (mulI (by decide : ((Int16.ofInt 226).toInt32).toInt = 226) rfl (Z := 226 * a.toInt) (by omega) (by omega) (by omega)) (fun z29 h30 => ?_)
          refine En_Ps 2 (pc' := 35) (lv' := [(0, .ref 159), (1, .int a), (2, .int y9)]) (st' := [.int ((z29 + y9)), .ref 161]) rfl ?_
          refine En_top (addI rfl rfl (by omega) (by omega)) (fun z31 h32 => ?_)
          refine En_Ps 1 (pc' := 36) (lv' := [(0, .ref 159), (1, .int a), (2, .int y9)]) (st' := [.ref 159, .int z31, .ref 161]) rfl ?_
          refine En_getU (j := 1) (u := 160) (g' := 36) (q := 0) rfl rfl rfl (by decide +kernel : TG 159 = 35) (by decide +kernel) h11 (by decide +kernel) (by decide +kernel) (fun h33 => ?_)
          refine En_Ps 1 (pc' := 40) (lv' := [(0, .ref 159), (1, .int a), (2, .int y9)]) (st' := [.int y9, .ref 160, .int z31, .ref 161]) rfl ?_
          refine En_ialdW (n := 226) rfl rfl (by decide +kernel : TG 160 = 36) (by decide +kernel) h11 (by omega) (by decide +kernel) (by omega) (by decide +kernel) (fun z35 h36 h37 => ?_)
          refine En_iastW (n := 678) rfl rfl (by decide +kernel : TG 161 = 37) (by decide +kernel) (by omega) (by decide +kernel) (by omega) (ft_wi h37 (by omega) (by omega) (k := a.toInt) (by omega) (by omega) (by omega)) h11 h12 (by decide +kernel) (fun σ38 h39 h40 h41 h42 => ?_)
          refine En_Ps 1 (pc' := 45) (lv' := [(2, .int ((y9 + Int32.ofInt 1))), (0, .ref 159), (1, .int a)]) (st' := []) rfl ?_
          refine En_lv1 (addI rfl (by decide : (Int32.ofInt 1).toInt = 1) (by omega) (by omega)) (fun z43 h44 => ?_)
          refine En_Ps 1 (pc' := 17) (lv' := [(2, .int z43), (0, .ref 159), (1, .int a)]) (st' := []) rfl ?_
          refine En_lv (lv := [(0, .ref 159), (1, .int a), (2, .int z43)]) ⟨rfl, rfl, rfl, trivial⟩ ?_
          exact ih17 σ38 z43 h39 h40 (by omega) (by omega) (by omega) (CPI_s h16 (SWd_fr h12 (by decide +kernel)) h36 h41 h42 (by omega) (by omega) (by omega) (by omega) (by omega))
    have := (by decide : (Int32.ofInt 0).toInt = 0)
    refine En_lv (lv := [(0, .ref 159), (1, .int a), (2, .int ((Int32.ofInt 0)))]) ⟨rfl, rfl, rfl, trivial⟩ ?_
    exact key17 (Int.toNat (226) + 1) σ0 ((Int32.ofInt 0)) hσ0 hF0 (by omega) (by omega) (by omega) (CPI_0 (by decide))
  · refine En_Ps 1 (pc' := 14) (lv' := [(0, .ref 159), (1, .int a)]) (st' := [.int (((Int8.ofInt (-2)).toInt32))]) rfl ?_
    refine En_top (by decide : ((Int8.ofInt (-2)).toInt32).toInt = -2) (fun z45 h46 => ?_)
    exact En_ret (v := some (.int z45)) rfl rfl rfl ⟨hσ0, hF0, z45, rfl, ⟨by omega, by omega, by omega, by omega, by omega, hI⟩⟩
/-- DoorSchoolModel.row(III)I -/
abbrev P_308x (σ0 : SG) (a : Int32) (b : Int32) (c : Int32) : PO := fun v σ => WT σ ∧ Fr [(53, 0), (54, 0), (55, 0)] σ0 σ ∧ ∃ ret : Int32, v = some (.int ret) ∧ -ret.toInt - 3 ≤ 0 ∧ ret.toInt ≤ 0 ∧ (-a.toInt ≤ 0 ∧ a.toInt - 3 ≤ 0 ∧ -b.toInt ≤ 0 ∧ b.toInt - 3 ≤ 0 ∧ c.toInt - 60 ≤ 0 ∧ -c.toInt ≤ 0 → ret.toInt ≤ 0 ∧ -ret.toInt ≤ 0) ∧ (-a.toInt ≤ 0 ∧ a.toInt - 3 ≤ 0 ∧ -b.toInt ≤ 0 ∧ b.toInt - 3 ≤ 0 ∧ c.toInt - 60 ≤ 0 ∧ c.toInt + 1 ≤ 0 → ret.toInt + 3 ≤ 0 ∧ -ret.toInt - 3 ≤ 0) ∧ (a.toInt + 1 ≤ 0 → ret.toInt + 2 ≤ 0 ∧ -ret.toInt - 2 ≤ 0) ∧ (-a.toInt + 4 ≤ 0 → ret.toInt + 2 ≤ 0 ∧ -ret.toInt - 2 ≤ 0) ∧ (b.toInt + 1 ≤ 0 → ret.toInt + 2 ≤ 0 ∧ -ret.toInt - 2 ≤ 0) ∧ (-b.toInt + 4 ≤ 0 → ret.toInt + 2 ≤ 0 ∧ -ret.toInt - 2 ≤ 0) ∧ (-c.toInt + 61 ≤ 0 → ret.toInt + 2 ≤ 0 ∧ -ret.toInt - 2 ≤ 0)
set_option maxRecDepth 10000 in
set_option maxHeartbeats 4000000 in
theorem c_308x (σ0 : SG) (hσ0 : WT σ0) (a : Int32) (b : Int32) (c : Int32) : En 2 45 none mr_308 (P_308x σ0 a b c) 0 [(0, .ref 159), (1, .int a), (2, .int b), (3, .int c)] [] σ0 := by
  have hF0 : Fr [(53, 0), (54, 0), (55, 0)] σ0 σ0 := Fr_rfl
  refine En_Ps 1 (pc' := 1) (lv' := [(0, .ref 159), (1, .int a), (2, .int b), (3, .int c)]) (st' := [.int a]) rfl ?_
  refine En_callS rfl rfl rfl rfl rfl rfl rfl rfl rfl (c_266 σ0 hσ0 a) (by decide) (by decide) (fun v2 σ3 h1 => ?_)
  obtain ⟨h4, h5, z7, rfl, h6⟩ := h1
  have h8 := Fr_trans hF0 h5 (by decide +kernel)
  refine En_iEq _ rfl rfl (fun h9 => ?_) (fun h9 => ?_)
  · refine En_Ps 1 (pc' := 27) (lv' := [(0, .ref 159), (1, .int a), (2, .int b), (3, .int c)]) (st' := [.int (((Int8.ofInt (-2)).toInt32))]) rfl ?_
    refine En_top (by decide : ((Int8.ofInt (-2)).toInt32).toInt = -2) (fun z10 h11 => ?_)
    exact En_ret (v := some (.int z10)) rfl rfl rfl ⟨h4, h8, z10, rfl, (by omega)⟩
  · refine En_Ps 4 (pc' := 13) (lv' := [(0, .ref 159), (1, .int a), (2, .int b), (3, .int c)]) (st' := [.long ((3 : Int64)), .long ((Int64.ofNat 0)), .long b.toInt64]) rfl ?_
    have : b.toInt64.toInt = b.toInt := (i2lI rfl)
    have := (by decide : ((Int64.ofNat 0)).toInt = 0)
    have := (by decide : ((3 : Int64)).toInt = 3)
    refine En_callS rfl rfl rfl rfl rfl rfl rfl rfl rfl (c_249 σ3 h4 b.toInt64 ((Int64.ofNat 0)) ((3 : Int64))) (by decide) (by decide) (fun v13 σ14 h12 => ?_)
    obtain ⟨h15, h16, z18, rfl, h17⟩ := h12
    have h19 := Fr_trans h8 h16 (by decide +kernel)
    refine En_iEq _ rfl rfl (fun h20 => ?_) (fun h20 => ?_)
    · refine En_Ps 1 (pc' := 27) (lv' := [(0, .ref 159), (1, .int a), (2, .int b), (3, .int c)]) (st' := [.int (((Int8.ofInt (-2)).toInt32))]) rfl ?_
      refine En_top (by decide : ((Int8.ofInt (-2)).toInt32).toInt = -2) (fun z21 h22 => ?_)
      exact En_ret (v := some (.int z21)) rfl rfl rfl ⟨h15, h19, z21, rfl, (by omega)⟩
    · refine En_Ps 2 (pc' := 22) (lv' := [(0, .ref 159), (1, .int a), (2, .int b), (3, .int c)]) (st' := [.int (((Int8.ofInt 60).toInt32)), .int c]) rfl ?_
      refine En_icLe _ rfl (by decide : ((Int8.ofInt 60).toInt32).toInt = 60) rfl (fun h23 => ?_) (fun h23 => ?_)
      · refine En_Ps 1 (pc' := 29) (lv' := [(0, .ref 159), (1, .int a), (2, .int b), (3, .int c)]) (st' := [.int c]) rfl ?_
        refine En_iGe _ rfl rfl (fun h24 => ?_) (fun h24 => ?_)
        · refine En_Ps 1 (pc' := 36) (lv' := [(0, .ref 159), (1, .int a), (2, .int b), (3, .int c)]) (st' := [.ref 159]) rfl ?_
          refine En_getU (j := 32) (u := 177) (g' := 53) (q := 0) rfl rfl rfl (by decide +kernel : TG 159 = 35) (by decide +kernel) h15 (by decide +kernel) (by decide +kernel) (fun h25 => ?_)
          refine En_Ps 2 (pc' := 41) (lv' := [(0, .ref 159), (1, .int a), (2, .int b), (3, .int c)]) (st' := [.int c, .int a, .ref 177]) rfl ?_
          refine En_iast (l := (-1)) (u := 60) rfl rfl (by decide +kernel : TG 177 = 53) (by decide +kernel) (by omega) (lnI (by decide +kernel : LN _ = 4) (by omega)) (FTsgl (by decide +kernel)) (rngI rfl (by omega) (by omega)) h15 h19 (by decide +kernel) (fun σ27 h28 h29 h30 h31 => ?_)
          refine En_Ps 1 (pc' := 43) (lv' := [(0, .ref 159), (1, .int a), (2, .int b), (3, .int c)]) (st' := [.ref 159]) rfl ?_
          refine En_getU (j := 33) (u := 178) (g' := 54) (q := 0) rfl rfl rfl (by decide +kernel : TG 159 = 35) (by decide +kernel) h28 (by decide +kernel) (by decide +kernel) (fun h32 => ?_)
          refine En_Ps 2 (pc' := 48) (lv' := [(0, .ref 159), (1, .int a), (2, .int b), (3, .int c)]) (st' := [.int b, .int a, .ref 178]) rfl ?_
          refine En_iast (l := 0) (u := 3) rfl rfl (by decide +kernel : TG 178 = 54) (by decide +kernel) (by omega) (lnI (by decide +kernel : LN _ = 4) (by omega)) (FTsgl (by decide +kernel)) (rngI rfl (by omega) (by omega)) h28 h29 (by decide +kernel) (fun σ34 h35 h36 h37 h38 => ?_)
          refine En_Ps 2 (pc' := 52) (lv' := [(4, .int ((Int32.ofInt 0))), (0, .ref 159), (1, .int a), (2, .int b), (3, .int c)]) (st' := []) rfl ?_
          have key52 : ∀ (n52 : Nat) (σ40 : SG) (y39 : Int32), WT σ40 → Fr [(53, 0), (54, 0), (55, 0)] σ0 σ40 → (σ40 159)[32]? = some (.ref 177) → (σ40 159)[33]? = some (.ref 178) → 0 ≤ y39.toInt → y39.toInt ≤ 60 → -y39.toInt + 60 < (n52 : Int) → En 2 45 none mr_308 (P_308x σ0 a b c) 52 [(0, .ref 159), (1, .int a), (2, .int b), (3, .int c), (4, .int y39)] [] σ40 := by
            intro n52
            induction n52 with
            | zero =>
              intro σ40 y39 h41 h42 h43 h44 h45 h46 h47
              exfalso; omega
            | succ n52 ih52 =>
              intro σ40 y39 h41 h42 h43 h44 h45 h46 h47
              refine En_Ps 2 (pc' := 56) (lv' := [(0, .ref 159), (1, .int a), (2, .int b), (3, .int c), (4, .int y39)]) (st' := [.int (((Int8.ofInt 60).toInt32)), .int y39]) rfl ?_
              refine En_icGe _ rfl (by decide : ((Int8.ofInt 60).toInt32).toInt = 60) rfl (fun h48 => ?_) (fun h48 => ?_)
              · refine En_Ps 1 (pc' := 79) (lv' := [(0, .ref 159), (1, .int a), (2, .int b), (3, .int c), (4, .int y39)]) (st' := [.int ((Int32.ofInt 0))]) rfl ?_
                refine En_top (by decide : (Int32.ofInt 0).toInt = 0) (fun z49 h50 => ?_)
                exact En_ret (v := some (.int z49)) rfl rfl rfl ⟨h41, h42, z49, rfl, (by omega)⟩
              · refine En_Ps 1 (pc' := 60) (lv' := [(0, .ref 159), (1, .int a), (2, .int b), (3, .int c), (4, .int y39)]) (st' := [.ref 159]) rfl ?_
                refine En_getU (j := 34) (u := 179) (g' := 55) (q := 0) rfl rfl rfl (by decide +kernel : TG 159 = 35) (by decide +kernel) h41 (by decide +kernel) (by decide +kernel) (fun h51 => ?_)
                refine En_Ps 3 (pc' := 67) (lv' := [(0, .ref 159), (1, .int a), (2, .int b), (3, .int c), (4, .int y39)]) (st' := [.int (((((Int8.ofInt 60).toInt32)) * a)), .ref 179]) rfl ?_
                refine En_top (mulI (by decide : ((Int8.ofInt 60).toInt32).toInt = 60) rfl (Z := 60 * a.toInt) (by omega) (by omega) (by omega)) (fun z53 h54 => ?_)
                refine En_Ps 2 (pc' := 70) (lv' := [(0, .ref 159), (1, .int a), (2, .int b), (3, .int c), (4, .int y39)]) (st' := [.int ((z53 + y39)), .ref 179]) rfl ?_
                refine En_top (addI rfl rfl (by omega) (by omega)) (fun z55 h56 => ?_)
                refine En_Ps 1 (pc' := 71) (lv' := [(0, .ref 159), (1, .int a), (2, .int b), (3, .int c), (4, .int y39)]) (st' := [.long ((Int64.ofNat 0)), .int z55, .ref 179]) rfl ?_
                refine En_last (l := (-9223372036854775808)) (u := 9223372036854775807) rfl rfl (by decide +kernel : TG 179 = 55) (by decide +kernel) (by omega) (lnI (by decide +kernel : LN _ = 240) (by omega)) (FTsgl (by decide +kernel)) (fullL _) h41 h42 (by decide +kernel) (fun σ57 h58 h59 h60 h61 => ?_)
                refine En_Ps 1 (pc' := 75) (lv' := [(4, .int ((y39 + Int32.ofInt 1))), (0, .ref 159), (1, .int a), (2, .int b), (3, .int c)]) (st' := []) rfl ?_
                refine En_lv1 (addI rfl (by decide : (Int32.ofInt 1).toInt = 1) (by omega) (by omega)) (fun z62 h63 => ?_)
                refine En_Ps 1 (pc' := 52) (lv' := [(4, .int z62), (0, .ref 159), (1, .int a), (2, .int b), (3, .int c)]) (st' := []) rfl ?_
                refine En_lv (lv := [(0, .ref 159), (1, .int a), (2, .int b), (3, .int c), (4, .int z62)]) ⟨rfl, rfl, rfl, rfl, rfl, trivial⟩ ?_
                exact ih52 σ57 z62 h58 h59 ((h61 _ _ (Or.inl (neTG (by decide +kernel : TG 159 = 35) (by decide +kernel : TG 179 = 55) (by decide)))).trans h43) ((h61 _ _ (Or.inl (neTG (by decide +kernel : TG 159 = 35) (by decide +kernel : TG 179 = 55) (by decide)))).trans h44) (by omega) (by omega) (by omega)
          have := (by decide : (Int32.ofInt 0).toInt = 0)
          refine En_lv (lv := [(0, .ref 159), (1, .int a), (2, .int b), (3, .int c), (4, .int ((Int32.ofInt 0)))]) ⟨rfl, rfl, rfl, rfl, rfl, trivial⟩ ?_
          exact key52 (Int.toNat (60) + 1) σ34 ((Int32.ofInt 0)) h35 h36 ((h38 _ _ (Or.inl (neTG (by decide +kernel : TG 159 = 35) (by decide +kernel : TG 178 = 54) (by decide)))).trans ((h31 _ _ (Or.inl (neTG (by decide +kernel : TG 159 = 35) (by decide +kernel : TG 177 = 53) (by decide)))).trans h25)) ((h38 _ _ (Or.inl (neTG (by decide +kernel : TG 159 = 35) (by decide +kernel : TG 178 = 54) (by decide)))).trans h32) (by omega) (by omega) (by omega)
        · refine En_Ps 1 (pc' := 34) (lv' := [(0, .ref 159), (1, .int a), (2, .int b), (3, .int c)]) (st' := [.int (((Int8.ofInt (-3)).toInt32))]) rfl ?_
          refine En_top (by decide : ((Int8.ofInt (-3)).toInt32).toInt = -3) (fun z64 h65 => ?_)
          exact En_ret (v := some (.int z64)) rfl rfl rfl ⟨h15, h19, z64, rfl, (by omega)⟩
      · refine En_Ps 1 (pc' := 27) (lv' := [(0, .ref 159), (1, .int a), (2, .int b), (3, .int c)]) (st' := [.int (((Int8.ofInt (-2)).toInt32))]) rfl ?_
        refine En_top (by decide : ((Int8.ofInt (-2)).toInt32).toInt = -2) (fun z66 h67 => ?_)
        exact En_ret (v := some (.int z66)) rfl rfl rfl ⟨h15, h19, z66, rfl, (by omega)⟩
/-- DoorSchoolModel.school()I -/
abbrev P_312x (σ0 : SG) : PO := fun v σ => WT σ ∧ Fr [(35, 5), (35, 7), (35, 8), (35, 9), (35, 10), (35, 11), (35, 12), (35, 13), (36, 0), (41, 0)] σ0 σ ∧ ∃ m1 : Int32, (σ 159)[5]? = some (.int m1) ∧ ∃ ret : Int32, v = some (.int ret) ∧ -ret.toInt - 4 ≤ 0 ∧ ret.toInt - 1600 ≤ 0 ∧ -m1.toInt ≤ 0 ∧ m1.toInt ≤ 0 ∧ m1.toInt ≤ 0 ∧ -m1.toInt ≤ 0 ∧ WI σ
set_option maxRecDepth 10000 in
set_option maxHeartbeats 4000000 in
theorem c_312x (σ0 : SG) (hσ0 : WT σ0) (hI : WI σ0) : En 11 243 none mr_312 (P_312x σ0) 0 [(0, .ref 159)] [] σ0 := by
  have hF0 : Fr [(35, 5), (35, 7), (35, 8), (35, 9), (35, 10), (35, 11), (35, 12), (35, 13), (36, 0), (41, 0)] σ0 σ0 := Fr_rfl
  refine En_Ps 2 (pc' := 2) (lv' := [(0, .ref 159)]) (st' := [.ref 159, .ref 159]) rfl ?_
  refine En_getI (j := 5) (l := 0) (u := 1600) rfl rfl rfl (by decide +kernel : TG 159 = 35) (by decide +kernel) hσ0 (by decide +kernel) (fun z2 h1 h3 h4 => ?_)
  refine En_put (j := 7) rfl rfl rfl (by decide +kernel : TG 159 = 35) (by decide +kernel) rfl (vI (l := 0) (u := 1600) (by decide +kernel) rfl (by omega) (by omega)) hσ0 hF0 (by decide +kernel) (fun σ5 h6 h7 h8 h9 => ?_)
  have h10 : SWd σ0 σ5 := SWd_tr (fun _ => rfl : SWd σ0 σ0) (fun i => ci_ne h9 (by decide) i)
  refine En_Ps 2 (pc' := 10) (lv' := [(0, .ref 159)]) (st' := [.int ((Int32.ofInt 0)), .ref 159]) rfl ?_
  refine En_put (j := 5) rfl rfl rfl (by decide +kernel : TG 159 = 35) (by decide +kernel) rfl (vI (l := 0) (u := 1600) (by decide +kernel) (by decide : (Int32.ofInt 0).toInt = 0) (by omega) (by omega)) h6 h7 (by decide +kernel) (fun σ11 h12 h13 h14 h15 => ?_)
  have h16 : SWd σ0 σ11 := SWd_tr h10 (fun i => ci_ne h15 (by decide) i)
  refine En_Ps 2 (pc' := 15) (lv' := [(0, .ref 159)]) (st' := [.int ((Int32.ofInt 0)), .ref 159]) rfl ?_
  refine En_put (j := 8) rfl rfl rfl (by decide +kernel : TG 159 = 35) (by decide +kernel) rfl (vI (l := 0) (u := 1600) (by decide +kernel) (by decide : (Int32.ofInt 0).toInt = 0) (by omega) (by omega)) h12 h13 (by decide +kernel) (fun σ17 h18 h19 h20 h21 => ?_)
  have h22 : SWd σ0 σ17 := SWd_tr h16 (fun i => ci_ne h21 (by decide) i)
  refine En_Ps 2 (pc' := 20) (lv' := [(0, .ref 159)]) (st' := [.int ((Int32.ofInt 0)), .ref 159]) rfl ?_
  refine En_put (j := 12) rfl rfl rfl (by decide +kernel : TG 159 = 35) (by decide +kernel) rfl (vI (l := 0) (u := 3) (by decide +kernel) (by decide : (Int32.ofInt 0).toInt = 0) (by omega) (by omega)) h18 h19 (by decide +kernel) (fun σ23 h24 h25 h26 h27 => ?_)
  have h28 : SWd σ0 σ23 := SWd_tr h22 (fun i => ci_ne h27 (by decide) i)
  refine En_Ps 2 (pc' := 25) (lv' := [(0, .ref 159)]) (st' := [.int ((Int32.ofInt (-1))), .ref 159]) rfl ?_
  refine En_put (j := 13) rfl rfl rfl (by decide +kernel : TG 159 = 35) (by decide +kernel) rfl (vI (l := (-1)) (u := 1600) (by decide +kernel) (by decide : (Int32.ofInt (-1)).toInt = -1) (by omega) (by omega)) h24 h25 (by decide +kernel) (fun σ29 h30 h31 h32 h33 => ?_)
  have h34 : SWd σ0 σ29 := SWd_tr h28 (fun i => ci_ne h33 (by decide) i)
  refine En_Ps 2 (pc' := 30) (lv' := [(1, .int ((Int32.ofInt 0))), (0, .ref 159)]) (st' := []) rfl ?_
  have key30 : ∀ (n30 : Nat) (σ36 : SG) (y35 : Int32), WT σ36 → Fr [(35, 5), (35, 7), (35, 8), (35, 9), (35, 10), (35, 11), (35, 12), (35, 13), (36, 0), (41, 0)] σ0 σ36 → (σ36 159)[7]? = some (.int z2) → (σ36 159)[5]? = some (.int ((Int32.ofInt 0))) → (σ36 159)[8]? = some (.int ((Int32.ofInt 0))) → (σ36 159)[12]? = some (.int ((Int32.ofInt 0))) → (σ36 159)[13]? = some (.int ((Int32.ofInt (-1)))) → 0 ≤ y35.toInt → y35.toInt ≤ 226 → -y35.toInt + 226 < (n30 : Int) → CLF σ36 y35.toInt → SWd σ0 σ36 → En 11 243 none mr_312 (P_312x σ0) 30 [(0, .ref 159), (1, .int y35)] [] σ36 := by
    intro n30
    induction n30 with
    | zero =>
      intro σ36 y35 h37 h38 h39 h40 h41 h42 h43 h44 h45 h46 h47 h48
      exfalso; omega
    | succ n30 ih30 =>
      intro σ36 y35 h37 h38 h39 h40 h41 h42 h43 h44 h45 h46 h47 h48
      refine En_Ps 2 (pc' := 34) (lv' := [(0, .ref 159), (1, .int y35)]) (st' := [.int (((Int16.ofInt 226).toInt32)), .int y35]) rfl ?_
      refine En_icGe _ rfl (by decide : ((Int16.ofInt 226).toInt32).toInt = 226) rfl (fun h49 => ?_) (fun h49 => ?_)
      · refine En_Ps 1 (pc' := 51) (lv' := [(0, .ref 159), (1, .int y35)]) (st' := [.ref 159]) rfl ?_
        refine En_callV rfl rfl rfl rfl rfl rfl rfl rfl (by decide +kernel : TG 159 = 35) (by decide +kernel) rfl (c_189 σ36 h37 ((Int32.ofInt 0)) h41) (by decide) (by decide) (fun v51 σ52 h50 => ?_)
        obtain ⟨h53, h54, z56, h57, z58, h59, rfl, h55⟩ := h50
        have h60 := Fr_trans h38 h54 (by decide +kernel)
        have h61 : SWd σ0 σ52 := SWd_tr h48 (SWd_fr h54 (by decide +kernel))
        have key54 : ∀ (n54 : Nat) (σ65 : SG) (y62 : Int32) (y63 : Int32) (y64 : Int32), WT σ65 → Fr [(35, 5), (35, 7), (35, 8), (35, 9), (35, 10), (35, 11), (35, 12), (35, 13), (36, 0), (41, 0)] σ0 σ65 → (σ65 159)[7]? = some (.int z2) → (σ65 159)[5]? = some (.int ((Int32.ofInt 0))) → (σ65 159)[12]? = some (.int y62) → (σ65 159)[8]? = some (.int y63) → (σ65 159)[10]? = some (.int y64) → 0 ≤ y62.toInt → y62.toInt ≤ 3 → 0 ≤ y63.toInt → y63.toInt ≤ 1600 → 0 ≤ y64.toInt → y64.toInt ≤ 4 → 5 * (1600 - y63.toInt) + y64.toInt + 9000 * (3 - y62.toInt) < (n54 : Int) → FI σ65 y62.toInt → (y62.toInt = 0 → y64.toInt ≠ 0 → ci σ65 165 7 + 1 ≤ y63.toInt) → SWd σ0 σ65 → En 11 243 none mr_312 (P_312x σ0) 54 [(0, .ref 159), (1, .int y35)] [] σ65 := by
          intro n54
          induction n54 with
          | zero =>
            intro σ65 y62 y63 y64 h66 h67 h68 h69 h70 h71 h72 h73 h74 h75 h76 h77 h78 h79 h80 h81 h82
            exfalso; omega
          | succ n54 ih54 =>
            intro σ65 y62 y63 y64 h66 h67 h68 h69 h70 h71 h72 h73 h74 h75 h76 h77 h78 h79 h80 h81 h82
            refine En_Ps 1 (pc' := 55) (lv' := [(0, .ref 159), (1, .int y35)]) (st' := [.ref 159]) rfl ?_
            refine En_callV rfl rfl rfl rfl rfl rfl rfl rfl (by decide +kernel : TG 159 = 35) (by decide +kernel) rfl (c_237 σ65 h66 y62 h70) (by decide) (by decide) (fun v84 σ85 h83 => ?_)
            obtain ⟨h86, h87, z89, rfl, h88⟩ := h83
            obtain rfl : σ65 = σ85 := Fr_nil h87
            refine En_iEq _ rfl rfl (fun h90 => ?_) (fun h90 => ?_)
            · refine En_Ps 1 (pc' := 76) (lv' := [(0, .ref 159), (1, .int y35)]) (st' := [.ref 159]) rfl ?_
              refine En_callV rfl rfl rfl rfl rfl rfl rfl rfl (by decide +kernel : TG 159 = 35) (by decide +kernel) rfl (c_237 σ65 h66 y62 h70) (by decide) (by decide) (fun v92 σ93 h91 => ?_)
              obtain ⟨h94, h95, z97, rfl, h96⟩ := h91
              obtain rfl : σ65 = σ93 := Fr_nil h95
              refine En_iNe _ rfl rfl (fun hx => by exfalso; omega) (fun h98 => ?_)
              refine En_Ps 1 (pc' := 84) (lv' := [(0, .ref 159), (1, .int y35)]) (st' := [.int (((Int8.ofInt (-4)).toInt32))]) rfl ?_
              have := (by decide : (Int32.ofInt 0).toInt = 0)
              refine En_top (by decide : ((Int8.ofInt (-4)).toInt32).toInt = -4) (fun z99 h100 => ?_)
              exact En_ret (v := some (.int z99)) rfl rfl rfl ⟨h66, h67, (Int32.ofInt 0), h69, z99, rfl, ⟨by omega, by omega, by omega, by omega, by omega, by omega, WI_sw h82 h67 (by decide +kernel) hI⟩⟩
            · refine En_Ps 1 (pc' := 62) (lv' := [(0, .ref 159), (1, .int y35)]) (st' := [.ref 159]) rfl ?_
              refine En_getK (j := 10) h72 rfl rfl rfl (by decide +kernel : TG 159 = 35) (by decide +kernel) ?_
              refine En_iEq _ rfl rfl (fun h101 => ?_) (fun h101 => ?_)
              · refine En_Ps 1 (pc' := 76) (lv' := [(0, .ref 159), (1, .int y35)]) (st' := [.ref 159]) rfl ?_
                refine En_callV rfl rfl rfl rfl rfl rfl rfl rfl (by decide +kernel : TG 159 = 35) (by decide +kernel) rfl (c_237 σ65 h66 y62 h70) (by decide) (by decide) (fun v103 σ104 h102 => ?_)
                obtain ⟨h105, h106, z108, rfl, h107⟩ := h102
                obtain rfl : σ65 = σ104 := Fr_nil h106
                refine En_iNe _ rfl rfl (fun h109 => ?_) (fun hx => by exfalso; omega)
                refine En_Ps 2 (pc' := 87) (lv' := [(1, .int ((Int32.ofInt 0))), (0, .ref 159)]) (st' := []) rfl ?_
                have key87 : ∀ (n87 : Nat) (σ111 : SG) (y110 : Int32), WT σ111 → Fr [(35, 5), (35, 7), (35, 8), (35, 9), (35, 10), (35, 11), (35, 12), (35, 13), (36, 0), (41, 0)] σ0 σ111 → (σ111 159)[7]? = some (.int z2) → (σ111 159)[5]? = some (.int ((Int32.ofInt 0))) → (σ111 159)[12]? = some (.int y62) → (σ111 159)[8]? = some (.int y63) → (σ111 159)[10]? = some (.int y64) → 0 ≤ y110.toInt → y110.toInt ≤ 226 → -y110.toInt + 226 < (n87 : Int) → CPY (ff σ111) (wf σ111) y110.toInt → FI σ111 0 → En 11 243 none mr_312 (P_312x σ0) 87 [(0, .ref 159), (1, .int y110)] [] σ111 := by
                  intro n87
                  induction n87 with
                  | zero =>
                    intro σ111 y110 h112 h113 h114 h115 h116 h117 h118 h119 h120 h121 h122 h123
                    exfalso; omega
                  | succ n87 ih87 =>
                    intro σ111 y110 h112 h113 h114 h115 h116 h117 h118 h119 h120 h121 h122 h123
                    refine En_Ps 2 (pc' := 91) (lv' := [(0, .ref 159), (1, .int y110)]) (st' := [.int (((Int16.ofInt 226).toInt32)), .int y110]) rfl ?_
                    refine En_icGe _ rfl (by decide : ((Int16.ofInt 226).toInt32).toInt = 226) rfl (fun h124 => ?_) (fun h124 => ?_)
                    · refine En_Ps 1 (pc' := 113) (lv' := [(0, .ref 159), (1, .int y110)]) (st' := [.ref 159]) rfl ?_
                      refine En_getU (j := 1) (u := 160) (g' := 36) (q := 0) rfl rfl rfl (by decide +kernel : TG 159 = 35) (by decide +kernel) h112 (by decide +kernel) (by decide +kernel) (fun h125 => ?_)
                      refine En_Ps 1 (pc' := 118) (lv' := [(0, .ref 159), (1, .int y110)]) (st' := [.int (((Int8.ofInt 7).toInt32)), .ref 160]) rfl ?_
                      refine En_iald (l := 0) (u := 1600) rfl (by decide : ((Int8.ofInt 7).toInt32).toInt = 7) (by decide +kernel : TG 160 = 36) (by decide +kernel) h112 (by omega) (lnI (by decide +kernel : LN _ = 226) (by omega)) (by decide +kernel) (fun z128 h127 h129 h130 => ?_)
                      have := (by decide : (Int32.ofInt 0).toInt = 0)
                      exact En_ret (v := some (.int z128)) rfl rfl rfl ⟨h112, h113, (Int32.ofInt 0), h115, z128, rfl, ⟨by omega, by omega, by omega, by omega, by omega, by omega, FI_x h112 h123 rfl h122 (by omega) h113 (by decide +kernel) hI⟩⟩
                    · refine En_Ps 1 (pc' := 95) (lv' := [(0, .ref 159), (1, .int y110)]) (st' := [.ref 159]) rfl ?_
                      refine En_getU (j := 1) (u := 160) (g' := 36) (q := 0) rfl rfl rfl (by decide +kernel : TG 159 = 35) (by decide +kernel) h112 (by decide +kernel) (by decide +kernel) (fun h131 => ?_)
                      refine En_Ps 2 (pc' := 100) (lv' := [(0, .ref 159), (1, .int y110)]) (st' := [.ref 159, .int y110, .ref 160]) rfl ?_
                      refine En_getU (j := 14) (u := 165) (g' := 41) (q := 0) rfl rfl rfl (by decide +kernel : TG 159 = 35) (by decide +kernel) h112 (by decide +kernel) (by decide +kernel) (fun h133 => ?_)
                      refine En_Ps 1 (pc' := 104) (lv' := [(0, .ref 159), (1, .int y110)]) (st' := [.int y110, .ref 165, .int y110, .ref 160]) rfl ?_
                      refine En_ialdW (n := 226) rfl rfl (by decide +kernel : TG 165 = 41) (by decide +kernel) h112 (by omega) (by decide +kernel) (by omega) (by decide +kernel) (fun z135 h136 h137 => ?_)
                      refine En_iastW (n := 226) rfl rfl (by decide +kernel : TG 160 = 36) (by decide +kernel) (by omega) (by decide +kernel) (by omega) (ft_fw h137 (by omega) (by omega) (by omega)) h112 h113 (by decide +kernel) (fun σ138 h139 h140 h141 h142 => ?_)
                      refine En_Ps 1 (pc' := 109) (lv' := [(1, .int ((y110 + Int32.ofInt 1))), (0, .ref 159)]) (st' := []) rfl ?_
                      refine En_lv1 (addI rfl (by decide : (Int32.ofInt 1).toInt = 1) (by omega) (by omega)) (fun z143 h144 => ?_)
                      refine En_Ps 1 (pc' := 87) (lv' := [(1, .int z143), (0, .ref 159)]) (st' := []) rfl ?_
                      refine En_lv (lv := [(0, .ref 159), (1, .int z143)]) ⟨rfl, rfl, trivial⟩ ?_
                      exact ih87 σ138 z143 h139 h140 ((h142 _ _ (Or.inl (neTG (by decide +kernel : TG 159 = 35) (by decide +kernel : TG 160 = 36) (by decide)))).trans h114) ((h142 _ _ (Or.inl (neTG (by decide +kernel : TG 159 = 35) (by decide +kernel : TG 160 = 36) (by decide)))).trans h115) ((h142 _ _ (Or.inl (neTG (by decide +kernel : TG 159 = 35) (by decide +kernel : TG 160 = 36) (by decide)))).trans h116) ((h142 _ _ (Or.inl (neTG (by decide +kernel : TG 159 = 35) (by decide +kernel : TG 160 = 36) (by decide)))).trans h117) ((h142 _ _ (Or.inl (neTG (by decide +kernel : TG 159 = 35) (by decide +kernel : TG 160 = 36) (by decide)))).trans h118) (by omega) (by omega) (by omega) (CPY_fw h122 h136 h141 h142 (by omega) (by omega)) (FI_ne h123 h142 (by decide))
                have := (by decide : (Int32.ofInt 0).toInt = 0)
                refine En_lv (lv := [(0, .ref 159), (1, .int ((Int32.ofInt 0)))]) ⟨rfl, rfl, trivial⟩ ?_
                exact key87 (Int.toNat (226) + 1) σ65 ((Int32.ofInt 0)) h66 h67 h68 h69 h70 h71 h72 (by omega) (by omega) (by omega) (CPY_0 (by decide)) (FI_z h80 (by omega))
              · refine En_Ps 1 (pc' := 69) (lv' := [(0, .ref 159), (1, .int y35)]) (st' := [.ref 159]) rfl ?_
                obtain ⟨z146, h145, h147, h148⟩ := WT_peekI h66 (by decide +kernel : TG 165 = 41) (by decide +kernel : FT 41 (7 : Int).toNat = (0, 0, 1600)) (by decide +kernel)
                have h149 := ci_at h145 (rfl : (7 : Int) = 7)
                have h150 := h81 (by omega) (by omega)
                refine En_callV rfl rfl rfl rfl rfl rfl rfl rfl (by decide +kernel : TG 159 = 35) (by decide +kernel) rfl (c_301 σ65 h66 y63 h71 y62 h70 z146 h145 (by omega) (by omega) h80) (by decide) (by decide) (fun v152 σ153 h151 => ?_)
                obtain ⟨h154, h155, z157, h158, z159, h160, z161, h162, z163, h164, rfl, h156⟩ := h151
                have h165 := h156.2.2.2.2.2.2.2.2.2.2.2.2.2.2.2.2.2.2.2.2.2.2.2.2.2.2.2.2.2.2.2.2.2.2.2.2
                have h166 := Fr_trans h67 h155 (by decide +kernel)
                have h167 : SWd σ0 σ153 := SWd_tr h82 (SWd_fr h155 (by decide +kernel))
                refine En_Ps 1 (pc' := 54) (lv' := [(0, .ref 159), (1, .int y35)]) (st' := []) rfl ?_
                have h168 := ci_at h164 (rfl : (7 : Int) = 7)
                exact ih54 σ153 z161 z157 z159 h154 h166 ((h155 _ _ (inW (by decide +kernel : TG 159 = 35) (by decide +kernel))).trans h68) ((h155 _ _ (inW (by decide +kernel : TG 159 = 35) (by decide +kernel))).trans h69) h162 h158 h160 (by omega) (by omega) (by omega) (by omega) (by omega) (by omega) (by omega) (h165 _ rfl) (fun _ _ => (by omega)) (h167)
        have := (by decide : (Int32.ofInt 0).toInt = 0)
        have h169 := FI_0 (k := (Int32.ofInt 0).toInt) (CLF_fr (CLF_226 h47 (by omega)) h54 (by decide +kernel))
        have h170 := CLF_fr (CLF_226 h47 (by omega)) h54 (by decide +kernel) 7 (by omega) (by omega)
        exact key54 (Int.toNat (5 * (1600 - z56.toInt) + z58.toInt + 9000 * (3 - 0)) + 1) σ52 ((Int32.ofInt 0)) z56 z58 h53 h60 ((h54 _ _ (inW (by decide +kernel : TG 159 = 35) (by decide +kernel))).trans h39) ((h54 _ _ (inW (by decide +kernel : TG 159 = 35) (by decide +kernel))).trans h40) ((h54 _ _ (inW (by decide +kernel : TG 159 = 35) (by decide +kernel))).trans h42) h57 h59 (by omega) (by omega) (by omega) (by omega) (by omega) (by omega) (by omega) (h169) (fun _ _ => (by omega)) (h61)
      · refine En_Ps 1 (pc' := 38) (lv' := [(0, .ref 159), (1, .int y35)]) (st' := [.ref 159]) rfl ?_
        refine En_getU (j := 14) (u := 165) (g' := 41) (q := 0) rfl rfl rfl (by decide +kernel : TG 159 = 35) (by decide +kernel) h37 (by decide +kernel) (by decide +kernel) (fun h171 => ?_)
        refine En_Ps 2 (pc' := 43) (lv' := [(0, .ref 159), (1, .int y35)]) (st' := [.int ((Int32.ofInt 0)), .int y35, .ref 165]) rfl ?_
        refine En_iastW (n := 226) rfl rfl (by decide +kernel : TG 165 = 41) (by decide +kernel) (by omega) (by decide +kernel) (by omega) (ft_zero (by omega) (by omega) (by decide)) h37 h38 (by decide +kernel) (fun σ173 h174 h175 h176 h177 => ?_)
        have h178 : SWd σ0 σ173 := SWd_tr h48 (fun i => ci_ne h177 (by decide) i)
        refine En_Ps 1 (pc' := 47) (lv' := [(1, .int ((y35 + Int32.ofInt 1))), (0, .ref 159)]) (st' := []) rfl ?_
        refine En_lv1 (addI rfl (by decide : (Int32.ofInt 1).toInt = 1) (by omega) (by omega)) (fun z179 h180 => ?_)
        refine En_Ps 1 (pc' := 30) (lv' := [(1, .int z179), (0, .ref 159)]) (st' := []) rfl ?_
        refine En_lv (lv := [(0, .ref 159), (1, .int z179)]) ⟨rfl, rfl, trivial⟩ ?_
        exact ih30 σ173 z179 h174 h175 ((h177 _ _ (Or.inl (neTG (by decide +kernel : TG 159 = 35) (by decide +kernel : TG 165 = 41) (by decide)))).trans h39) ((h177 _ _ (Or.inl (neTG (by decide +kernel : TG 159 = 35) (by decide +kernel : TG 165 = 41) (by decide)))).trans h40) ((h177 _ _ (Or.inl (neTG (by decide +kernel : TG 159 = 35) (by decide +kernel : TG 165 = 41) (by decide)))).trans h41) ((h177 _ _ (Or.inl (neTG (by decide +kernel : TG 159 = 35) (by decide +kernel : TG 165 = 41) (by decide)))).trans h42) ((h177 _ _ (Or.inl (neTG (by decide +kernel : TG 159 = 35) (by decide +kernel : TG 165 = 41) (by decide)))).trans h43) (by omega) (by omega) (by omega) (CLF_s h47 h176 h177 (by decide) (by omega) (by omega)) (h178)
  have := (by decide : (Int32.ofInt 0).toInt = 0)
  refine En_lv (lv := [(0, .ref 159), (1, .int ((Int32.ofInt 0)))]) ⟨rfl, rfl, trivial⟩ ?_
  exact key30 (Int.toNat (226) + 1) σ29 ((Int32.ofInt 0)) h30 h31 ((h33 _ _ (Or.inr (by decide))).trans ((h27 _ _ (Or.inr (by decide))).trans ((h21 _ _ (Or.inr (by decide))).trans ((h15 _ _ (Or.inr (by decide))).trans h8)))) ((h33 _ _ (Or.inr (by decide))).trans ((h27 _ _ (Or.inr (by decide))).trans ((h21 _ _ (Or.inr (by decide))).trans h14))) ((h33 _ _ (Or.inr (by decide))).trans ((h27 _ _ (Or.inr (by decide))).trans h20)) ((h33 _ _ (Or.inr (by decide))).trans h26) h32 (by omega) (by omega) (by omega) (CLF_0 (by decide)) (h34)
