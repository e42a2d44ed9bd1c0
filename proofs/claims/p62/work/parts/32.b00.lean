/-- DoorSchool$Plan.clear()V -/
abbrev P_42x (σ0 : SG) (s : Nat) : PO := fun v σ => WT σ ∧ Fr [(18, 0), (18, 1), (18, 2), (18, 3), (18, 6), (18, 7), (18, 8), (18, 11), (18, 14), (20, 2), (26, 0)] σ0 σ ∧ ∃ l0 : Int32, (σ s)[0]? = some (.int l0) ∧ ∃ g0 : Int32, (σ s)[1]? = some (.int g0) ∧ v = none ∧ -l0.toInt ≤ 0 ∧ l0.toInt ≤ 0 ∧ -g0.toInt ≤ 0 ∧ g0.toInt ≤ 0 ∧ l0.toInt ≤ 0 ∧ -l0.toInt ≤ 0 ∧ g0.toInt ≤ 0 ∧ -g0.toInt ≤ 0 ∧ OTH s σ0 σ
set_option maxRecDepth 10000 in
set_option maxHeartbeats 4000000 in
theorem c_42x (σ0 : SG) (hσ0 : WT σ0) (s : Nat) (hs : TG s = 18) : En 1 23 none mr_42 (P_42x σ0 s) 0 [(0, .ref s)] [] σ0 := by
  have hF0 : Fr [(18, 0), (18, 1), (18, 2), (18, 3), (18, 6), (18, 7), (18, 8), (18, 11), (18, 14), (20, 2), (26, 0)] σ0 σ0 := Fr_rfl
  refine En_Ps 2 (pc' := 2) (lv' := [(0, .ref s)]) (st' := [.int ((Int32.ofInt 0)), .ref s]) rfl ?_
  refine En_put (j := 0) rfl rfl rfl hs (by decide +kernel) rfl (vI (l := 0) (u := 1601) (by decide +kernel) (by decide : (Int32.ofInt 0).toInt = 0) (by omega) (by omega)) hσ0 hF0 (by decide +kernel) (fun σ1 h2 h3 h4 h5 => ?_)
  have h6 := OTH_pj (OTH_0 (a := s) (σ := σ0)) h5 (by decide)
  refine En_Ps 2 (pc' := 7) (lv' := [(0, .ref s)]) (st' := [.int ((Int32.ofInt 0)), .ref s]) rfl ?_
  refine En_put (j := 1) rfl rfl rfl hs (by decide +kernel) rfl (vI (l := (-1)) (u := 4) (by decide +kernel) (by decide : (Int32.ofInt 0).toInt = 0) (by omega) (by omega)) h2 h3 (by decide +kernel) (fun σ7 h8 h9 h10 h11 => ?_)
  have h12 := OTH_pt h6 h11
  refine En_Ps 2 (pc' := 12) (lv' := [(0, .ref s)]) (st' := [.int ((Int32.ofInt 0)), .ref s]) rfl ?_
  refine En_put (j := 2) rfl rfl rfl hs (by decide +kernel) rfl (vI (l := (-1)) (u := 3) (by decide +kernel) (by decide : (Int32.ofInt 0).toInt = 0) (by omega) (by omega)) h8 h9 (by decide +kernel) (fun σ13 h14 h15 h16 h17 => ?_)
  have h18 := OTH_pj h12 h17 (by decide)
  refine En_Ps 2 (pc' := 17) (lv' := [(0, .ref s)]) (st' := [.int ((Int32.ofInt 0)), .ref s]) rfl ?_
  refine En_put (j := 3) rfl rfl rfl hs (by decide +kernel) rfl (vI (l := 0) (u := 4) (by decide +kernel) (by decide : (Int32.ofInt 0).toInt = 0) (by omega) (by omega)) h14 h15 (by decide +kernel) (fun σ19 h20 h21 h22 h23 => ?_)
  have h24 := OTH_pj h18 h23 (by decide)
  refine En_Ps 1 (pc' := 21) (lv' := [(0, .ref s)]) (st' := [.ref s]) rfl ?_
  refine En_getR (j := 5) (g' := 20) (u := 0) rfl rfl rfl hs (by decide +kernel) h20 (by decide +kernel) (fun a26 h25 ha26 => ?_)
  refine En_Ps 1 (pc' := 25) (lv' := [(0, .ref s)]) (st' := [.int ((Int32.ofInt 0)), .ref a26]) rfl ?_
  refine En_put (j := 2) rfl rfl rfl ha26 (by decide +kernel) rfl (vI (l := 0) (u := 13) (by decide +kernel) (by decide : (Int32.ofInt 0).toInt = 0) (by omega) (by omega)) h20 h21 (by decide +kernel) (fun σ27 h28 h29 h30 h31 => ?_)
  have h32 := OTH_pn h24 h31 ha26 (by decide)
  refine En_Ps 2 (pc' := 30) (lv' := [(0, .ref s)]) (st' := [.int ((Int32.ofInt 0)), .ref s]) rfl ?_
  refine En_put (j := 6) rfl rfl rfl hs (by decide +kernel) rfl (vI (l := 0) (u := 15) (by decide +kernel) (by decide : (Int32.ofInt 0).toInt = 0) (by omega) (by omega)) h28 h29 (by decide +kernel) (fun σ33 h34 h35 h36 h37 => ?_)
  have h38 := OTH_pj h32 h37 (by decide)
  refine En_Ps 2 (pc' := 35) (lv' := [(0, .ref s)]) (st' := [.int ((Int32.ofInt 0)), .ref s]) rfl ?_
  refine En_put (j := 7) rfl rfl rfl hs (by decide +kernel) rfl (vI (l := 0) (u := 15) (by decide +kernel) (by decide : (Int32.ofInt 0).toInt = 0) (by omega) (by omega)) h34 h35 (by decide +kernel) (fun σ39 h40 h41 h42 h43 => ?_)
  have h44 := OTH_pj h38 h43 (by decide)
  refine En_Ps 2 (pc' := 40) (lv' := [(0, .ref s)]) (st' := [.int ((Int32.ofInt 0)), .ref s]) rfl ?_
  refine En_put (j := 8) rfl rfl rfl hs (by decide +kernel) rfl (vI (l := 0) (u := 4) (by decide +kernel) (by decide : (Int32.ofInt 0).toInt = 0) (by omega) (by omega)) h40 h41 (by decide +kernel) (fun σ45 h46 h47 h48 h49 => ?_)
  have h50 := OTH_pj h44 h49 (by decide)
  refine En_Ps 2 (pc' := 45) (lv' := [(0, .ref s)]) (st' := [.int ((Int32.ofInt 0)), .ref s]) rfl ?_
  refine En_put (j := 11) rfl rfl rfl hs (by decide +kernel) rfl (vI (l := 0) (u := 6) (by decide +kernel) (by decide : (Int32.ofInt 0).toInt = 0) (by omega) (by omega)) h46 h47 (by decide +kernel) (fun σ51 h52 h53 h54 h55 => ?_)
  have h56 := OTH_pj h50 h55 (by decide)
  refine En_Ps 1 (pc' := 49) (lv' := [(0, .ref s)]) (st' := [.ref s]) rfl ?_
  refine En_getR (j := 13) (g' := 26) (u := 0) rfl rfl rfl hs (by decide +kernel) h52 (by decide +kernel) (fun a58 h57 ha58 => ?_)
  refine En_Ps 1 (pc' := 53) (lv' := [(0, .ref s)]) (st' := [.int ((Int32.ofInt 0)), .ref a58]) rfl ?_
  have := (by decide : ((Int32.ofInt 0)).toInt = 0)
  refine En_callS rfl rfl rfl rfl rfl rfl rfl rfl rfl (c_8a σ51 h52 a58 ha58 ((Int32.ofInt 0)) (geI (by decide : (Int32.ofInt 0).toInt = 0) (by omega)) (leI (by decide : (Int32.ofInt 0).toInt = 0) (by omega))) (by decide) (by decide) (fun v60 σ61 h59 => ?_)
  obtain ⟨h62, h63, rfl, h64⟩ := h59
  have h65 := Fr_trans h53 h63 (by decide +kernel)
  have h66 := OTH_fr h56 h63 (by decide +kernel)
  refine En_Ps 2 (pc' := 58) (lv' := [(0, .ref s)]) (st' := [.int ((Int32.ofInt 0)), .ref s]) rfl ?_
  refine En_put (j := 14) rfl rfl rfl hs (by decide +kernel) rfl (vI (l := 0) (u := 60) (by decide +kernel) (by decide : (Int32.ofInt 0).toInt = 0) (by omega) (by omega)) h62 h65 (by decide +kernel) (fun σ67 h68 h69 h70 h71 => ?_)
  have h72 := OTH_pj h66 h71 (by decide)
  have := (by decide : (Int32.ofInt 0).toInt = 0)
  have := (by decide : (Int32.ofInt 0).toInt = 0)
  exact En_ret (v := none) rfl rfl rfl ⟨h68, h69, (Int32.ofInt 0), ((h71 _ _ (Or.inr (by decide))).trans ((h63 _ _ (inW hs (by decide +kernel))).trans ((h55 _ _ (Or.inr (by decide))).trans ((h49 _ _ (Or.inr (by decide))).trans ((h43 _ _ (Or.inr (by decide))).trans ((h37 _ _ (Or.inr (by decide))).trans ((h31 _ _ (Or.inr (by decide))).trans ((h23 _ _ (Or.inr (by decide))).trans ((h17 _ _ (Or.inr (by decide))).trans ((h11 _ _ (Or.inr (by decide))).trans h4)))))))))), (Int32.ofInt 0), ((h71 _ _ (Or.inr (by decide))).trans ((h63 _ _ (inW hs (by decide +kernel))).trans ((h55 _ _ (Or.inr (by decide))).trans ((h49 _ _ (Or.inr (by decide))).trans ((h43 _ _ (Or.inr (by decide))).trans ((h37 _ _ (Or.inr (by decide))).trans ((h31 _ _ (Or.inr (by decide))).trans ((h23 _ _ (Or.inr (by decide))).trans ((h17 _ _ (Or.inr (by decide))).trans h10))))))))), rfl, ⟨by omega, by omega, by omega, by omega, by omega, by omega, by omega, by omega, h72⟩⟩
/-- DoorSchool$Reader.readFirst(LDoorSchool$Plan;)V -/
abbrev P_65x (σ0 : SG) (a : Nat) (f : Int32) : PO := fun v σ => WT σ ∧ Fr [(3, 1), (3, 2), (3, 3), (3, 4), (3, 5), (3, 6), (18, 1), (18, 2)] σ0 σ ∧ ∃ f1 : Int32, (σ 3)[5]? = some (.int f1) ∧ ∃ sg1 : Int32, (σ a)[1]? = some (.int sg1) ∧ v = none ∧ -f1.toInt ≤ 0 ∧ f1.toInt - 3 ≤ 0 ∧ -f1.toInt + f.toInt ≤ 0 ∧ f1.toInt - f.toInt - 3 ≤ 0 ∧ -sg1.toInt - 1 ≤ 0 ∧ sg1.toInt - 4 ≤ 0 ∧ -sg1.toInt + f.toInt - 4 ≤ 0 ∧ sg1.toInt - f.toInt - 4 ≤ 0 ∧ f.toInt - f1.toInt ≤ 0 ∧ -sg1.toInt - f1.toInt ≤ 0 ∧ OTH a σ0 σ
set_option maxRecDepth 10000 in
set_option maxHeartbeats 4000000 in
theorem c_65x (σ0 : SG) (hσ0 : WT σ0) (a : Nat) (ha : TG a = 18) (f : Int32) (h_f : (σ0 3)[5]? = some (.int f)) : En 5 112 none mr_65 (P_65x σ0 a f) 0 [(0, .ref 3), (1, .ref a)] [] σ0 := by
  obtain ⟨hl_f, hu_f⟩ := WT_int hσ0 (g := 3) (by decide +kernel) (by decide +kernel) (l := 0) (u := 3) (by decide +kernel) h_f
  have hF0 : Fr [(3, 1), (3, 2), (3, 3), (3, 4), (3, 5), (3, 6), (18, 1), (18, 2)] σ0 σ0 := Fr_rfl
  refine En_Ps 2 (pc' := 2) (lv' := [(0, .ref 3), (1, .ref a)]) (st' := [.ref 3, .ref 3]) rfl ?_
  refine En_ldcS (i := 10) rfl rfl rfl ?_
  refine En_callV rfl rfl rfl rfl rfl rfl rfl rfl (by decide +kernel : TG 3 = 3) (by decide +kernel) rfl (c_71s10 σ0 hσ0) (by decide) (by decide) (fun v2 σ3 h1 => ?_)
  obtain ⟨h4, h5, z7, rfl, h6⟩ := h1
  have h8 := Fr_trans hF0 h5 (by decide +kernel)
  have h9 := OTH_fr (OTH_0 (a := a) (σ := σ0)) h5 (by decide +kernel)
  refine En_callV rfl rfl rfl rfl rfl rfl rfl rfl (by decide +kernel : TG 3 = 3) (by decide +kernel) rfl (c_59 σ3 h4 z7 (geI rfl (by omega)) (leI rfl (by omega)) f ((h5 _ _ (inW (by decide +kernel : TG 3 = 3) (by decide +kernel))).trans h_f)) (by decide) (by decide) (fun v11 σ12 h10 => ?_)
  obtain ⟨h13, h14, z16, h17, rfl, h15⟩ := h10
  have h18 := Fr_trans h8 h14 (by decide +kernel)
  have h19 := OTH_fr h9 h14 (by decide +kernel)
  refine En_Ps 2 (pc' := 12) (lv' := [(0, .ref 3), (1, .ref a)]) (st' := [.ref 3, .ref 3]) rfl ?_
  refine En_ldcS (i := 13) rfl rfl rfl ?_
  refine En_callV rfl rfl rfl rfl rfl rfl rfl rfl (by decide +kernel : TG 3 = 3) (by decide +kernel) rfl (c_71s13 σ12 h13) (by decide) (by decide) (fun v21 σ22 h20 => ?_)
  obtain ⟨h23, h24, z26, rfl, h25⟩ := h20
  have h27 := Fr_trans h18 h24 (by decide +kernel)
  have h28 := OTH_fr h19 h24 (by decide +kernel)
  refine En_callV rfl rfl rfl rfl rfl rfl rfl rfl (by decide +kernel : TG 3 = 3) (by decide +kernel) rfl (c_59 σ22 h23 z26 (geI rfl (by omega)) (leI rfl (by omega)) z16 ((h24 _ _ (inW (by decide +kernel : TG 3 = 3) (by decide +kernel))).trans h17)) (by decide) (by decide) (fun v30 σ31 h29 => ?_)
  obtain ⟨h32, h33, z35, h36, rfl, h34⟩ := h29
  have h37 := Fr_trans h27 h33 (by decide +kernel)
  have h38 := OTH_fr h28 h33 (by decide +kernel)
  refine En_Ps 4 (pc' := 24) (lv' := [(0, .ref 3), (1, .ref a)]) (st' := [.int ((Int32.ofInt 4)), .int ((Int32.ofInt 2)), .ref 3, .ref a]) rfl ?_
  have := (by decide : ((Int32.ofInt 2)).toInt = 2)
  have := (by decide : ((Int32.ofInt 4)).toInt = 4)
  refine En_callV rfl rfl rfl rfl rfl rfl rfl rfl (by decide +kernel : TG 3 = 3) (by decide +kernel) rfl (c_73 σ31 h32 ((Int32.ofInt 2)) ((Int32.ofInt 4)) z35 h36) (by decide) (by decide) (fun v40 σ41 h39 => ?_)
  obtain ⟨h42, h43, z45, h46, z47, rfl, h44⟩ := h39
  have h48 := Fr_trans h37 h43 (by decide +kernel)
  have h49 := OTH_fr h38 h43 (by decide +kernel)
  refine En_put (j := 1) rfl rfl rfl ha (by decide +kernel) rfl (vI (l := (-1)) (u := 4) (by decide +kernel) rfl (by omega) (by omega)) h42 h48 (by decide +kernel) (fun σ50 h51 h52 h53 h54 => ?_)
  have h55 := OTH_pt h49 h54
  refine En_Ps 2 (pc' := 32) (lv' := [(0, .ref 3), (1, .ref a)]) (st' := [.ref 3, .ref 3]) rfl ?_
  refine En_ldcS (i := 16) rfl rfl rfl ?_
  refine En_callV rfl rfl rfl rfl rfl rfl rfl rfl (by decide +kernel : TG 3 = 3) (by decide +kernel) rfl (c_71s16 σ50 h51) (by decide) (by decide) (fun v57 σ58 h56 => ?_)
  obtain ⟨h59, h60, z62, rfl, h61⟩ := h56
  have h63 := Fr_trans h52 h60 (by decide +kernel)
  have h64 := OTH_fr h55 h60 (by decide +kernel)
  refine En_callV rfl rfl rfl rfl rfl rfl rfl rfl (by decide +kernel : TG 3 = 3) (by decide +kernel) rfl (c_59 σ58 h59 z62 (geI rfl (by omega)) (leI rfl (by omega)) z45 ((h60 _ _ (inW (by decide +kernel : TG 3 = 3) (by decide +kernel))).trans ((h54 _ _ (Or.inr (by decide))).trans h46))) (by decide) (by decide) (fun v66 σ67 h65 => ?_)
  obtain ⟨h68, h69, z71, h72, rfl, h70⟩ := h65
  have h73 := Fr_trans h63 h69 (by decide +kernel)
  have h74 := OTH_fr h64 h69 (by decide +kernel)
  refine En_Ps 4 (pc' := 44) (lv' := [(0, .ref 3), (1, .ref a)]) (st' := [.int ((Int32.ofInt 3)), .int ((Int32.ofInt 1)), .ref 3, .ref a]) rfl ?_
  have := (by decide : ((Int32.ofInt 1)).toInt = 1)
  have := (by decide : ((Int32.ofInt 3)).toInt = 3)
  refine En_callV rfl rfl rfl rfl rfl rfl rfl rfl (by decide +kernel : TG 3 = 3) (by decide +kernel) rfl (c_73 σ67 h68 ((Int32.ofInt 1)) ((Int32.ofInt 3)) z71 h72) (by decide) (by decide) (fun v76 σ77 h75 => ?_)
  obtain ⟨h78, h79, z81, h82, z83, rfl, h80⟩ := h75
  have h84 := Fr_trans h73 h79 (by decide +kernel)
  have h85 := OTH_fr h74 h79 (by decide +kernel)
  refine En_put (j := 2) rfl rfl rfl ha (by decide +kernel) rfl (vI (l := (-1)) (u := 3) (by decide +kernel) rfl (by omega) (by omega)) h78 h84 (by decide +kernel) (fun σ86 h87 h88 h89 h90 => ?_)
  have h91 := OTH_pj h85 h90 (by decide)
  exact En_ret (v := none) rfl rfl rfl ⟨h87, h88, z81, ((h90 _ _ (Or.inr (by decide))).trans h82), z47, ((h90 _ _ (Or.inr (by decide))).trans ((h79 _ _ (inW ha (by decide +kernel))).trans ((h69 _ _ (inW ha (by decide +kernel))).trans ((h60 _ _ (inW ha (by decide +kernel))).trans h53)))), rfl, ⟨by omega, by omega, by omega, by omega, by omega, by omega, by omega, by omega, by omega, by omega, h91⟩⟩
/-- DoorSchool$Reader.read(LDoorSchool$Plan;)V -/
abbrev P_60x (σ0 : SG) (a : Nat) : PO := fun v σ => WT σ ∧ Fr [(3, 1), (3, 2), (3, 3), (3, 4), (3, 5), (3, 6), (18, 0), (18, 1), (18, 2), (18, 3), (18, 6), (18, 7), (18, 8), (18, 11), (18, 14), (20, 2), (21, 0), (22, 0), (23, 0), (24, 0), (25, 0), (26, 0), (28, 1), (28, 2), (28, 3)] σ0 σ ∧ ∃ f1 : Int32, (σ 3)[5]? = some (.int f1) ∧ ∃ sg1 : Int32, (σ a)[1]? = some (.int sg1) ∧ v = none ∧ -f1.toInt ≤ 0 ∧ f1.toInt - 3 ≤ 0 ∧ -sg1.toInt - 1 ≤ 0 ∧ sg1.toInt - 4 ≤ 0 ∧ -sg1.toInt - f1.toInt ≤ 0 ∧ OTH a σ0 σ
set_option maxRecDepth 10000 in
set_option maxHeartbeats 4000000 in
theorem c_60x (σ0 : SG) (hσ0 : WT σ0) (a : Nat) (ha : TG a = 18) : En 7 159 none mr_60 (P_60x σ0 a) 0 [(0, .ref 3), (1, .ref a)] [] σ0 := by
  have hF0 : Fr [(3, 1), (3, 2), (3, 3), (3, 4), (3, 5), (3, 6), (18, 0), (18, 1), (18, 2), (18, 3), (18, 6), (18, 7), (18, 8), (18, 11), (18, 14), (20, 2), (21, 0), (22, 0), (23, 0), (24, 0), (25, 0), (26, 0), (28, 1), (28, 2), (28, 3)] σ0 σ0 := Fr_rfl
  refine En_Ps 2 (pc' := 2) (lv' := [(0, .ref 3), (1, .ref a)]) (st' := [.int ((Int32.ofInt 0)), .ref 3]) rfl ?_
  refine En_put (j := 5) rfl rfl rfl (by decide +kernel : TG 3 = 3) (by decide +kernel) rfl (vI (l := 0) (u := 3) (by decide +kernel) (by decide : (Int32.ofInt 0).toInt = 0) (by omega) (by omega)) hσ0 hF0 (by decide +kernel) (fun σ1 h2 h3 h4 h5 => ?_)
  have h6 := OTH_pn (OTH_0 (a := a) (σ := σ0)) h5 (by decide +kernel : TG 3 = 3) (by decide)
  refine En_Ps 2 (pc' := 7) (lv' := [(0, .ref 3), (1, .ref a)]) (st' := [.int ((Int32.ofInt (-1))), .ref 3]) rfl ?_
  refine En_put (j := 6) rfl rfl rfl (by decide +kernel : TG 3 = 3) (by decide +kernel) rfl (vI (l := (-1)) (u := 1600) (by decide +kernel) (by decide : (Int32.ofInt (-1)).toInt = -1) (by omega) (by omega)) h2 h3 (by decide +kernel) (fun σ7 h8 h9 h10 h11 => ?_)
  have h12 := OTH_pn h6 h11 (by decide +kernel : TG 3 = 3) (by decide)
  refine En_Ps 2 (pc' := 12) (lv' := [(0, .ref 3), (1, .ref a)]) (st' := [.int ((Int32.ofInt 0)), .ref 3]) rfl ?_
  refine En_put (j := 3) rfl rfl rfl (by decide +kernel : TG 3 = 3) (by decide +kernel) rfl (vI (l := 0) (u := 1600) (by decide +kernel) (by decide : (Int32.ofInt 0).toInt = 0) (by omega) (by omega)) h8 h9 (by decide +kernel) (fun σ13 h14 h15 h16 h17 => ?_)
  have h18 := OTH_pn h12 h17 (by decide +kernel : TG 3 = 3) (by decide)
  refine En_Ps 1 (pc' := 16) (lv' := [(0, .ref 3), (1, .ref a)]) (st' := [.ref a]) rfl ?_
  refine En_callV rfl rfl rfl rfl rfl rfl rfl rfl ha (by decide +kernel) rfl (c_42x σ13 h14 a ha) (by decide) (by decide) (fun v20 σ21 h19 => ?_)
  obtain ⟨h22, h23, z25, h26, z27, h28, rfl, h24⟩ := h19
  have h29 := h24.2.2.2.2.2.2.2.2
  have h30 := Fr_trans h15 h23 (by decide +kernel)
  have h31 := OTH_tr h18 h29
  refine En_Ps 1 (pc' := 20) (lv' := [(0, .ref 3), (1, .ref a)]) (st' := [.ref 3]) rfl ?_
  refine En_callV rfl rfl rfl rfl rfl rfl rfl rfl (by decide +kernel : TG 3 = 3) (by decide +kernel) rfl (c_72 σ21 h22) (by decide) (by decide) (fun v33 σ34 h32 => ?_)
  obtain ⟨h35, h36, rfl, h37⟩ := h32
  have h38 := Fr_trans h30 h36 (by decide +kernel)
  have h39 := OTH_fr h31 h36 (by decide +kernel)
  refine En_Ps 2 (pc' := 25) (lv' := [(2, .int ((Int32.ofInt 0))), (0, .ref 3), (1, .ref a)]) (st' := []) rfl ?_
  have key25 : ∀ (n25 : Nat) (σ44 : SG) (y40 : Int32) (y41 : Int32) (y42 : Int32) (y43 : Int32), WT σ44 → Fr [(3, 1), (3, 2), (3, 3), (3, 4), (3, 5), (3, 6), (18, 0), (18, 1), (18, 2), (18, 3), (18, 6), (18, 7), (18, 8), (18, 11), (18, 14), (20, 2), (21, 0), (22, 0), (23, 0), (24, 0), (25, 0), (26, 0), (28, 1), (28, 2), (28, 3)] σ0 σ44 → (σ44 3)[5]? = some (.int y41) → (σ44 a)[0]? = some (.int y42) → (σ44 a)[1]? = some (.int y43) → 0 ≤ y40.toInt → y40.toInt ≤ 1601 → 0 ≤ y41.toInt → y41.toInt ≤ 3 → 0 ≤ y42.toInt → y42.toInt ≤ 1601 → (-1) ≤ y43.toInt → y43.toInt ≤ 4 → -y43.toInt - y41.toInt ≤ 0 → -y43.toInt - y42.toInt ≤ 0 → y40.toInt - y42.toInt + z25.toInt ≤ 0 → -z25.toInt - y40.toInt + y42.toInt ≤ 0 → -y40.toInt + 1601 < (n25 : Int) → OTH a σ0 σ44 → En 7 159 none mr_60 (P_60x σ0 a) 25 [(0, .ref 3), (1, .ref a), (2, .int y40)] [] σ44 := by
    intro n25
    induction n25 with
    | zero =>
      intro σ44 y40 y41 y42 y43 h45 h46 h47 h48 h49 h50 h51 h52 h53 h54 h55 h56 h57 h58 h59 h60 h61 h62 h63
      exfalso; omega
    | succ n25 ih25 =>
      intro σ44 y40 y41 y42 y43 h45 h46 h47 h48 h49 h50 h51 h52 h53 h54 h55 h56 h57 h58 h59 h60 h61 h62 h63
      refine En_Ps 2 (pc' := 29) (lv' := [(0, .ref 3), (1, .ref a), (2, .int y40)]) (st' := [.int (((Int16.ofInt 1600).toInt32)), .int y40]) rfl ?_
      refine En_icGt _ rfl (by decide : ((Int16.ofInt 1600).toInt32).toInt = 1600) rfl (fun h64 => ?_) (fun h64 => ?_)
      · exact En_ret (v := none) rfl rfl rfl ⟨h45, h46, y41, h47, y43, h49, rfl, ⟨by omega, by omega, by omega, by omega, by omega, h63⟩⟩
      · refine En_Ps 1 (pc' := 33) (lv' := [(0, .ref 3), (1, .ref a), (2, .int y40)]) (st' := [.ref 3]) rfl ?_
        refine En_getI (j := 1) (l := 0) (u := 4) rfl rfl rfl (by decide +kernel : TG 3 = 3) (by decide +kernel) h45 (by decide +kernel) (fun z66 h65 h67 h68 => ?_)
        refine En_iEq _ rfl rfl (fun h69 => ?_) (fun h69 => ?_)
        · exact En_ret (v := none) rfl rfl rfl ⟨h45, h46, y41, h47, y43, h49, rfl, ⟨by omega, by omega, by omega, by omega, by omega, h63⟩⟩
        · refine En_Ps 1 (pc' := 40) (lv' := [(0, .ref 3), (1, .ref a), (2, .int y40)]) (st' := [.ref 3]) rfl ?_
          refine En_getK (j := 5) h47 rfl rfl rfl (by decide +kernel : TG 3 = 3) (by decide +kernel) ?_
          refine En_iNe _ rfl rfl (fun h70 => ?_) (fun h70 => ?_)
          · exact En_ret (v := none) rfl rfl rfl ⟨h45, h46, y41, h47, y43, h49, rfl, ⟨by omega, by omega, by omega, by omega, by omega, h63⟩⟩
          · refine En_Ps 1 (pc' := 47) (lv' := [(0, .ref 3), (1, .ref a), (2, .int y40)]) (st' := [.int y40]) rfl ?_
            refine En_iNe _ rfl rfl (fun h71 => ?_) (fun h71 => ?_)
            · refine En_Ps 1 (pc' := 59) (lv' := [(0, .ref 3), (1, .ref a), (2, .int y40)]) (st' := [.ref 3]) rfl ?_
              refine En_ldcS (i := 2) rfl rfl rfl ?_
              refine En_callV rfl rfl rfl rfl rfl rfl rfl rfl (by decide +kernel : TG 3 = 3) (by decide +kernel) rfl (c_71s2 σ44 h45) (by decide) (by decide) (fun v73 σ74 h72 => ?_)
              obtain ⟨h75, h76, z78, rfl, h77⟩ := h72
              have h79 := Fr_trans h46 h76 (by decide +kernel)
              have h80 := OTH_fr h63 h76 (by decide +kernel)
              refine En_iEq _ rfl rfl (fun h81 => ?_) (fun h81 => ?_)
              · refine En_Ps 1 (pc' := 76) (lv' := [(0, .ref 3), (1, .ref a), (2, .int y40)]) (st' := [.ref 3]) rfl ?_
                refine En_ldcS (i := 6) rfl rfl rfl ?_
                refine En_callV rfl rfl rfl rfl rfl rfl rfl rfl (by decide +kernel : TG 3 = 3) (by decide +kernel) rfl (c_71s6 σ74 h75) (by decide) (by decide) (fun v83 σ84 h82 => ?_)
                obtain ⟨h85, h86, z88, rfl, h87⟩ := h82
                have h89 := Fr_trans h79 h86 (by decide +kernel)
                have h90 := OTH_fr h80 h86 (by decide +kernel)
                refine En_iEq _ rfl rfl (fun h91 => ?_) (fun h91 => ?_)
                · refine En_Ps 1 (pc' := 93) (lv' := [(0, .ref 3), (1, .ref a), (2, .int y40)]) (st' := [.ref 3]) rfl ?_
                  refine En_ldcS (i := 3) rfl rfl rfl ?_
                  refine En_callV rfl rfl rfl rfl rfl rfl rfl rfl (by decide +kernel : TG 3 = 3) (by decide +kernel) rfl (c_71s3 σ84 h85) (by decide) (by decide) (fun v93 σ94 h92 => ?_)
                  obtain ⟨h95, h96, z98, rfl, h97⟩ := h92
                  have h99 := Fr_trans h89 h96 (by decide +kernel)
                  have h100 := OTH_fr h90 h96 (by decide +kernel)
                  refine En_iEq _ rfl rfl (fun h101 => ?_) (fun h101 => ?_)
                  · refine En_Ps 1 (pc' := 110) (lv' := [(0, .ref 3), (1, .ref a), (2, .int y40)]) (st' := [.ref 3]) rfl ?_
                    refine En_ldcS (i := 17) rfl rfl rfl ?_
                    refine En_callV rfl rfl rfl rfl rfl rfl rfl rfl (by decide +kernel : TG 3 = 3) (by decide +kernel) rfl (c_71s17 σ94 h95) (by decide) (by decide) (fun v103 σ104 h102 => ?_)
                    obtain ⟨h105, h106, z108, rfl, h107⟩ := h102
                    have h109 := Fr_trans h99 h106 (by decide +kernel)
                    have h110 := OTH_fr h100 h106 (by decide +kernel)
                    refine En_iEq _ rfl rfl (fun h111 => ?_) (fun h111 => ?_)
                    · refine En_Ps 1 (pc' := 127) (lv' := [(0, .ref 3), (1, .ref a), (2, .int y40)]) (st' := [.ref 3]) rfl ?_
                      refine En_ldcS (i := 9) rfl rfl rfl ?_
                      refine En_callV rfl rfl rfl rfl rfl rfl rfl rfl (by decide +kernel : TG 3 = 3) (by decide +kernel) rfl (c_71s9 σ104 h105) (by decide) (by decide) (fun v113 σ114 h112 => ?_)
                      obtain ⟨h115, h116, z118, rfl, h117⟩ := h112
                      have h119 := Fr_trans h109 h116 (by decide +kernel)
                      have h120 := OTH_fr h110 h116 (by decide +kernel)
                      refine En_iEq _ rfl rfl (fun h121 => ?_) (fun h121 => ?_)
                      · refine En_Ps 1 (pc' := 144) (lv' := [(0, .ref 3), (1, .ref a), (2, .int y40)]) (st' := [.ref 3]) rfl ?_
                        refine En_ldcS (i := 5) rfl rfl rfl ?_
                        refine En_callV rfl rfl rfl rfl rfl rfl rfl rfl (by decide +kernel : TG 3 = 3) (by decide +kernel) rfl (c_71s5 σ114 h115) (by decide) (by decide) (fun v123 σ124 h122 => ?_)
                        obtain ⟨h125, h126, z128, rfl, h127⟩ := h122
                        have h129 := Fr_trans h119 h126 (by decide +kernel)
                        have h130 := OTH_fr h120 h126 (by decide +kernel)
                        refine En_iEq _ rfl rfl (fun h131 => ?_) (fun h131 => ?_)
                        · refine En_Ps 1 (pc' := 161) (lv' := [(0, .ref 3), (1, .ref a), (2, .int y40)]) (st' := [.ref 3]) rfl ?_
                          refine En_ldcS (i := 1) rfl rfl rfl ?_
                          refine En_callV rfl rfl rfl rfl rfl rfl rfl rfl (by decide +kernel : TG 3 = 3) (by decide +kernel) rfl (c_71s1 σ124 h125) (by decide) (by decide) (fun v133 σ134 h132 => ?_)
                          obtain ⟨h135, h136, z138, rfl, h137⟩ := h132
                          have h139 := Fr_trans h129 h136 (by decide +kernel)
                          have h140 := OTH_fr h130 h136 (by decide +kernel)
                          refine En_iEq _ rfl rfl (fun h141 => ?_) (fun h141 => ?_)
                          · refine En_Ps 1 (pc' := 178) (lv' := [(0, .ref 3), (1, .ref a), (2, .int y40)]) (st' := [.ref 3]) rfl ?_
                            refine En_ldcS (i := 0) rfl rfl rfl ?_
                            refine En_callV rfl rfl rfl rfl rfl rfl rfl rfl (by decide +kernel : TG 3 = 3) (by decide +kernel) rfl (c_71s0 σ134 h135) (by decide) (by decide) (fun v143 σ144 h142 => ?_)
                            obtain ⟨h145, h146, z148, rfl, h147⟩ := h142
                            have h149 := Fr_trans h139 h146 (by decide +kernel)
                            have h150 := OTH_fr h140 h146 (by decide +kernel)
                            refine En_iEq _ rfl rfl (fun h151 => ?_) (fun h151 => ?_)
                            · refine En_Ps 2 (pc' := 196) (lv' := [(0, .ref 3), (1, .ref a), (2, .int y40)]) (st' := [.int ((Int32.ofInt 1)), .ref 3]) rfl ?_
                              have := (by decide : ((Int32.ofInt 1)).toInt = 1)
                              refine En_callV rfl rfl rfl rfl rfl rfl rfl rfl (by decide +kernel : TG 3 = 3) (by decide +kernel) rfl (c_54 σ144 h145 ((Int32.ofInt 1)) (geI (by decide : (Int32.ofInt 1).toInt = 1) (by omega)) (leI (by decide : (Int32.ofInt 1).toInt = 1) (by omega)) y41 ((h146 _ _ (inW (by decide +kernel : TG 3 = 3) (by decide +kernel))).trans ((h136 _ _ (inW (by decide +kernel : TG 3 = 3) (by decide +kernel))).trans ((h126 _ _ (inW (by decide +kernel : TG 3 = 3) (by decide +kernel))).trans ((h116 _ _ (inW (by decide +kernel : TG 3 = 3) (by decide +kernel))).trans ((h106 _ _ (inW (by decide +kernel : TG 3 = 3) (by decide +kernel))).trans ((h96 _ _ (inW (by decide +kernel : TG 3 = 3) (by decide +kernel))).trans ((h86 _ _ (inW (by decide +kernel : TG 3 = 3) (by decide +kernel))).trans ((h76 _ _ (inW (by decide +kernel : TG 3 = 3) (by decide +kernel))).trans h47))))))))) (by decide) (by decide) (fun v153 σ154 h152 => ?_)
                              obtain ⟨h155, h156, z158, h159, rfl, h157⟩ := h152
                              have h160 := Fr_trans h149 h156 (by decide +kernel)
                              have h161 := OTH_fr h150 h156 (by decide +kernel)
                              refine En_Ps 2 (pc' := 201) (lv' := [(0, .ref 3), (1, .ref a), (2, .int y40)]) (st' := [.ref 3, .ref 3]) rfl ?_
                              refine En_getK (j := 1) ((h156 _ _ (inW (by decide +kernel : TG 3 = 3) (by decide +kernel))).trans ((h146 _ _ (inW (by decide +kernel : TG 3 = 3) (by decide +kernel))).trans ((h136 _ _ (inW (by decide +kernel : TG 3 = 3) (by decide +kernel))).trans ((h126 _ _ (inW (by decide +kernel : TG 3 = 3) (by decide +kernel))).trans ((h116 _ _ (inW (by decide +kernel : TG 3 = 3) (by decide +kernel))).trans ((h106 _ _ (inW (by decide +kernel : TG 3 = 3) (by decide +kernel))).trans ((h96 _ _ (inW (by decide +kernel : TG 3 = 3) (by decide +kernel))).trans ((h86 _ _ (inW (by decide +kernel : TG 3 = 3) (by decide +kernel))).trans ((h76 _ _ (inW (by decide +kernel : TG 3 = 3) (by decide +kernel))).trans h65))))))))) rfl rfl rfl (by decide +kernel : TG 3 = 3) (by decide +kernel) ?_
                              refine En_Ps 1 (pc' := 205) (lv' := [(0, .ref 3), (1, .ref a), (2, .int y40)]) (st' := [.int ((Int32.ofInt 3)), .int z66, .ref 3]) rfl ?_
                              refine En_icNe _ rfl (by decide : (Int32.ofInt 3).toInt = 3) rfl (fun h162 => ?_) (fun h162 => ?_)
                              · refine En_Ps 1 (pc' := 213) (lv' := [(0, .ref 3), (1, .ref a), (2, .int y40)]) (st' := [.int ((Int32.ofInt 0)), .ref 3]) rfl ?_
                                have := (by decide : ((Int32.ofInt 0)).toInt = 0)
                                refine En_callV rfl rfl rfl rfl rfl rfl rfl rfl (by decide +kernel : TG 3 = 3) (by decide +kernel) rfl (c_59 σ154 h155 ((Int32.ofInt 0)) (geI (by decide : (Int32.ofInt 0).toInt = 0) (by omega)) (leI (by decide : (Int32.ofInt 0).toInt = 0) (by omega)) z158 h159) (by decide) (by decide) (fun v164 σ165 h163 => ?_)
                                obtain ⟨h166, h167, z169, h170, rfl, h168⟩ := h163
                                have h171 := Fr_trans h160 h167 (by decide +kernel)
                                have h172 := OTH_fr h161 h167 (by decide +kernel)
                                refine En_Ps 2 (pc' := 218) (lv' := [(0, .ref 3), (1, .ref a), (2, .int y40)]) (st' := [.ref a, .ref a]) rfl ?_
                                refine En_getK (j := 0) ((h167 _ _ (inW ha (by decide +kernel))).trans ((h156 _ _ (inW ha (by decide +kernel))).trans ((h146 _ _ (inW ha (by decide +kernel))).trans ((h136 _ _ (inW ha (by decide +kernel))).trans ((h126 _ _ (inW ha (by decide +kernel))).trans ((h116 _ _ (inW ha (by decide +kernel))).trans ((h106 _ _ (inW ha (by decide +kernel))).trans ((h96 _ _ (inW ha (by decide +kernel))).trans ((h86 _ _ (inW ha (by decide +kernel))).trans ((h76 _ _ (inW ha (by decide +kernel))).trans h48)))))))))) rfl rfl rfl ha (by decide +kernel) ?_
                                refine En_Ps 2 (pc' := 223) (lv' := [(0, .ref 3), (1, .ref a), (2, .int y40)]) (st' := [.int ((y42 + ((Int32.ofInt 1)))), .ref a]) rfl ?_
                                refine En_top (addI rfl (by decide : (Int32.ofInt 1).toInt = 1) (by omega) (by omega)) (fun z173 h174 => ?_)
                                refine En_put (j := 0) rfl rfl rfl ha (by decide +kernel) rfl (vI (l := 0) (u := 1601) (by decide +kernel) rfl (by omega) (by omega)) h166 h171 (by decide +kernel) (fun σ175 h176 h177 h178 h179 => ?_)
                                have h180 := OTH_pj h172 h179 (by decide)
                                refine En_Ps 1 (pc' := 229) (lv' := [(2, .int ((y40 + Int32.ofInt 1))), (0, .ref 3), (1, .ref a)]) (st' := []) rfl ?_
                                refine En_lv1 (addI rfl (by decide : (Int32.ofInt 1).toInt = 1) (by omega) (by omega)) (fun z181 h182 => ?_)
                                refine En_Ps 1 (pc' := 25) (lv' := [(2, .int z181), (0, .ref 3), (1, .ref a)]) (st' := []) rfl ?_
                                refine En_lv (lv := [(0, .ref 3), (1, .ref a), (2, .int z181)]) ⟨rfl, rfl, rfl, trivial⟩ ?_
                                exact ih25 σ175 z181 z169 z173 y43 h176 h177 ((h179 _ _ (Or.inr (by decide))).trans h170) h178 ((h179 _ _ (Or.inr (by decide))).trans ((h167 _ _ (inW ha (by decide +kernel))).trans ((h156 _ _ (inW ha (by decide +kernel))).trans ((h146 _ _ (inW ha (by decide +kernel))).trans ((h136 _ _ (inW ha (by decide +kernel))).trans ((h126 _ _ (inW ha (by decide +kernel))).trans ((h116 _ _ (inW ha (by decide +kernel))).trans ((h106 _ _ (inW ha (by decide +kernel))).trans ((h96 _ _ (inW ha (by decide +kernel))).trans ((h86 _ _ (inW ha (by decide +kernel))).trans ((h76 _ _ (inW ha (by decide +kernel))).trans h49))))))))))) (by omega) (by omega) (by omega) (by omega) (by omega) (by omega) (by omega) (by omega) (by omega) (by omega) (by omega) (by omega) (by omega) (h180)
                              · refine En_Ps 2 (pc' := 213) (lv' := [(0, .ref 3), (1, .ref a), (2, .int y40)]) (st' := [.int ((Int32.ofInt 1)), .ref 3]) rfl ?_
                                have := (by decide : ((Int32.ofInt 1)).toInt = 1)
                                refine En_callV rfl rfl rfl rfl rfl rfl rfl rfl (by decide +kernel : TG 3 = 3) (by decide +kernel) rfl (c_59 σ154 h155 ((Int32.ofInt 1)) (geI (by decide : (Int32.ofInt 1).toInt = 1) (by omega)) (leI (by decide : (Int32.ofInt 1).toInt = 1) (by omega)) z158 h159) (by decide) (by decide) (fun v184 σ185 h183 => ?_)
                                obtain ⟨h186, h187, z189, h190, rfl, h188⟩ := h183
                                have h191 := Fr_trans h160 h187 (by decide +kernel)
                                have h192 := OTH_fr h161 h187 (by decide +kernel)
                                refine En_Ps 2 (pc' := 218) (lv' := [(0, .ref 3), (1, .ref a), (2, .int y40)]) (st' := [.ref a, .ref a]) rfl ?_
                                refine En_getK (j := 0) ((h187 _ _ (inW ha (by decide +kernel))).trans ((h156 _ _ (inW ha (by decide +kernel))).trans ((h146 _ _ (inW ha (by decide +kernel))).trans ((h136 _ _ (inW ha (by decide +kernel))).trans ((h126 _ _ (inW ha (by decide +kernel))).trans ((h116 _ _ (inW ha (by decide +kernel))).trans ((h106 _ _ (inW ha (by decide +kernel))).trans ((h96 _ _ (inW ha (by decide +kernel))).trans ((h86 _ _ (inW ha (by decide +kernel))).trans ((h76 _ _ (inW ha (by decide +kernel))).trans h48)))))))))) rfl rfl rfl ha (by decide +kernel) ?_
                                refine En_Ps 2 (pc' := 223) (lv' := [(0, .ref 3), (1, .ref a), (2, .int y40)]) (st' := [.int ((y42 + ((Int32.ofInt 1)))), .ref a]) rfl ?_
                                refine En_top (addI rfl (by decide : (Int32.ofInt 1).toInt = 1) (by omega) (by omega)) (fun z193 h194 => ?_)
                                refine En_put (j := 0) rfl rfl rfl ha (by decide +kernel) rfl (vI (l := 0) (u := 1601) (by decide +kernel) rfl (by omega) (by omega)) h186 h191 (by decide +kernel) (fun σ195 h196 h197 h198 h199 => ?_)
                                have h200 := OTH_pj h192 h199 (by decide)
                                refine En_Ps 1 (pc' := 229) (lv' := [(2, .int ((y40 + Int32.ofInt 1))), (0, .ref 3), (1, .ref a)]) (st' := []) rfl ?_
                                refine En_lv1 (addI rfl (by decide : (Int32.ofInt 1).toInt = 1) (by omega) (by omega)) (fun z201 h202 => ?_)
                                refine En_Ps 1 (pc' := 25) (lv' := [(2, .int z201), (0, .ref 3), (1, .ref a)]) (st' := []) rfl ?_
                                refine En_lv (lv := [(0, .ref 3), (1, .ref a), (2, .int z201)]) ⟨rfl, rfl, rfl, trivial⟩ ?_
                                exact ih25 σ195 z201 z189 z193 y43 h196 h197 ((h199 _ _ (Or.inr (by decide))).trans h190) h198 ((h199 _ _ (Or.inr (by decide))).trans ((h187 _ _ (inW ha (by decide +kernel))).trans ((h156 _ _ (inW ha (by decide +kernel))).trans ((h146 _ _ (inW ha (by decide +kernel))).trans ((h136 _ _ (inW ha (by decide +kernel))).trans ((h126 _ _ (inW ha (by decide +kernel))).trans ((h116 _ _ (inW ha (by decide +kernel))).trans ((h106 _ _ (inW ha (by decide +kernel))).trans ((h96 _ _ (inW ha (by decide +kernel))).trans ((h86 _ _ (inW ha (by decide +kernel))).trans ((h76 _ _ (inW ha (by decide +kernel))).trans h49))))))))))) (by omega) (by omega) (by omega) (by omega) (by omega) (by omega) (by omega) (by omega) (by omega) (by omega) (by omega) (by omega) (by omega) (h200)
                            · refine En_Ps 2 (pc' := 188) (lv' := [(0, .ref 3), (1, .ref a), (2, .int y40)]) (st' := [.ref a, .ref 3]) rfl ?_
                              refine En_callV rfl rfl rfl rfl rfl rfl rfl rfl (by decide +kernel : TG 3 = 3) (by decide +kernel) rfl (c_61 σ144 h145 a ha y41 ((h146 _ _ (inW (by decide +kernel : TG 3 = 3) (by decide +kernel))).trans ((h136 _ _ (inW (by decide +kernel : TG 3 = 3) (by decide +kernel))).trans ((h126 _ _ (inW (by decide +kernel : TG 3 = 3) (by decide +kernel))).trans ((h116 _ _ (inW (by decide +kernel : TG 3 = 3) (by decide +kernel))).trans ((h106 _ _ (inW (by decide +kernel : TG 3 = 3) (by decide +kernel))).trans ((h96 _ _ (inW (by decide +kernel : TG 3 = 3) (by decide +kernel))).trans ((h86 _ _ (inW (by decide +kernel : TG 3 = 3) (by decide +kernel))).trans ((h76 _ _ (inW (by decide +kernel : TG 3 = 3) (by decide +kernel))).trans h47)))))))) y43 ((h146 _ _ (inW ha (by decide +kernel))).trans ((h136 _ _ (inW ha (by decide +kernel))).trans ((h126 _ _ (inW ha (by decide +kernel))).trans ((h116 _ _ (inW ha (by decide +kernel))).trans ((h106 _ _ (inW ha (by decide +kernel))).trans ((h96 _ _ (inW ha (by decide +kernel))).trans ((h86 _ _ (inW ha (by decide +kernel))).trans ((h76 _ _ (inW ha (by decide +kernel))).trans h49)))))))) (by omega)) (by decide) (by decide) (fun v204 σ205 h203 => ?_)
                              obtain ⟨h206, h207, z209, h210, rfl, h208⟩ := h203
                              have h211 := Fr_trans h149 h207 (by decide +kernel)
                              have h212 := OTH_fr h150 h207 (by decide +kernel)
                              refine En_Ps 3 (pc' := 201) (lv' := [(0, .ref 3), (1, .ref a), (2, .int y40)]) (st' := [.ref 3, .ref 3]) rfl ?_
                              refine En_getI (j := 1) (l := 0) (u := 4) rfl rfl rfl (by decide +kernel : TG 3 = 3) (by decide +kernel) h206 (by decide +kernel) (fun z214 h213 h215 h216 => ?_)
                              refine En_Ps 1 (pc' := 205) (lv' := [(0, .ref 3), (1, .ref a), (2, .int y40)]) (st' := [.int ((Int32.ofInt 3)), .int z214, .ref 3]) rfl ?_
                              refine En_icNe _ rfl (by decide : (Int32.ofInt 3).toInt = 3) rfl (fun h217 => ?_) (fun h217 => ?_)
                              · refine En_Ps 1 (pc' := 213) (lv' := [(0, .ref 3), (1, .ref a), (2, .int y40)]) (st' := [.int ((Int32.ofInt 0)), .ref 3]) rfl ?_
                                have := (by decide : ((Int32.ofInt 0)).toInt = 0)
                                refine En_callV rfl rfl rfl rfl rfl rfl rfl rfl (by decide +kernel : TG 3 = 3) (by decide +kernel) rfl (c_59 σ205 h206 ((Int32.ofInt 0)) (geI (by decide : (Int32.ofInt 0).toInt = 0) (by omega)) (leI (by decide : (Int32.ofInt 0).toInt = 0) (by omega)) z209 h210) (by decide) (by decide) (fun v219 σ220 h218 => ?_)
                                obtain ⟨h221, h222, z224, h225, rfl, h223⟩ := h218
                                have h226 := Fr_trans h211 h222 (by decide +kernel)
                                have h227 := OTH_fr h212 h222 (by decide +kernel)
                                refine En_Ps 2 (pc' := 218) (lv' := [(0, .ref 3), (1, .ref a), (2, .int y40)]) (st' := [.ref a, .ref a]) rfl ?_
                                refine En_getK (j := 0) ((h222 _ _ (inW ha (by decide +kernel))).trans ((h207 _ _ (inW ha (by decide +kernel))).trans ((h146 _ _ (inW ha (by decide +kernel))).trans ((h136 _ _ (inW ha (by decide +kernel))).trans ((h126 _ _ (inW ha (by decide +kernel))).trans ((h116 _ _ (inW ha (by decide +kernel))).trans ((h106 _ _ (inW ha (by decide +kernel))).trans ((h96 _ _ (inW ha (by decide +kernel))).trans ((h86 _ _ (inW ha (by decide +kernel))).trans ((h76 _ _ (inW ha (by decide +kernel))).trans h48)))))))))) rfl rfl rfl ha (by decide +kernel) ?_
                                refine En_Ps 2 (pc' := 223) (lv' := [(0, .ref 3), (1, .ref a), (2, .int y40)]) (st' := [.int ((y42 + ((Int32.ofInt 1)))), .ref a]) rfl ?_
                                refine En_top (addI rfl (by decide : (Int32.ofInt 1).toInt = 1) (by omega) (by omega)) (fun z228 h229 => ?_)
                                refine En_put (j := 0) rfl rfl rfl ha (by decide +kernel) rfl (vI (l := 0) (u := 1601) (by decide +kernel) rfl (by omega) (by omega)) h221 h226 (by decide +kernel) (fun σ230 h231 h232 h233 h234 => ?_)
                                have h235 := OTH_pj h227 h234 (by decide)
                                refine En_Ps 1 (pc' := 229) (lv' := [(2, .int ((y40 + Int32.ofInt 1))), (0, .ref 3), (1, .ref a)]) (st' := []) rfl ?_
                                refine En_lv1 (addI rfl (by decide : (Int32.ofInt 1).toInt = 1) (by omega) (by omega)) (fun z236 h237 => ?_)
                                refine En_Ps 1 (pc' := 25) (lv' := [(2, .int z236), (0, .ref 3), (1, .ref a)]) (st' := []) rfl ?_
                                refine En_lv (lv := [(0, .ref 3), (1, .ref a), (2, .int z236)]) ⟨rfl, rfl, rfl, trivial⟩ ?_
                                exact ih25 σ230 z236 z224 z228 y43 h231 h232 ((h234 _ _ (Or.inr (by decide))).trans h225) h233 ((h234 _ _ (Or.inr (by decide))).trans ((h222 _ _ (inW ha (by decide +kernel))).trans ((h207 _ _ (inW ha (by decide +kernel))).trans ((h146 _ _ (inW ha (by decide +kernel))).trans ((h136 _ _ (inW ha (by decide +kernel))).trans ((h126 _ _ (inW ha (by decide +kernel))).trans ((h116 _ _ (inW ha (by decide +kernel))).trans ((h106 _ _ (inW ha (by decide +kernel))).trans ((h96 _ _ (inW ha (by decide +kernel))).trans ((h86 _ _ (inW ha (by decide +kernel))).trans ((h76 _ _ (inW ha (by decide +kernel))).trans h49))))))))))) (by omega) (by omega) (by omega) (by omega) (by omega) (by omega) (by omega) (by omega) (by omega) (by omega) (by omega) (by omega) (by omega) (h235)
                              · refine En_Ps 2 (pc' := 213) (lv' := [(0, .ref 3), (1, .ref a), (2, .int y40)]) (st' := [.int ((Int32.ofInt 1)), .ref 3]) rfl ?_
                                have := (by decide : ((Int32.ofInt 1)).toInt = 1)
                                refine En_callV rfl rfl rfl rfl rfl rfl rfl rfl (by decide +kernel : TG 3 = 3) (by decide +kernel) rfl (c_59 σ205 h206 ((Int32.ofInt 1)) (geI (by decide : (Int32.ofInt 1).toInt = 1) (by omega)) (leI (by decide : (Int32.ofInt 1).toInt = 1) (by omega)) z209 h210) (by decide) (by decide) (fun v239 σ240 h238 => ?_)
                                obtain ⟨h241, h242, z244, h245, rfl, h243⟩ := h238
                                have h246 := Fr_trans h211 h242 (by decide +kernel)
                                have h247 := OTH_fr h212 h242 (by decide +kernel)
                                refine En_Ps 2 (pc' := 218) (lv' := [(0, .ref 3), (1, .ref a), (2, .int y40)]) (st' := [.ref a, .ref a]) rfl ?_
                                refine En_getK (j := 0) ((h242 _ _ (inW ha (by decide +kernel))).trans ((h207 _ _ (inW ha (by decide +kernel))).trans ((h146 _ _ (inW ha (by decide +kernel))).trans ((h136 _ _ (inW ha (by decide +kernel))).trans ((h126 _ _ (inW ha (by decide +kernel))).trans ((h116 _ _ (inW ha (by decide +kernel))).trans ((h106 _ _ (inW ha (by decide +kernel))).trans ((h96 _ _ (inW ha (by decide +kernel))).trans ((h86 _ _ (inW ha (by decide +kernel))).trans ((h76 _ _ (inW ha (by decide +kernel))).trans h48)))))))))) rfl rfl rfl ha (by decide +kernel) ?_
                                refine En_Ps 2 (pc' := 223) (lv' := [(0, .ref 3), (1, .ref a), (2, .int y40)]) (st' := [.int ((y42 + ((Int32.ofInt 1)))), .ref a]) rfl ?_
                                refine En_top (addI rfl (by decide : (Int32.ofInt 1).toInt = 1) (by omega) (by omega)) (fun z248 h249 => ?_)
                                refine En_put (j := 0) rfl rfl rfl ha (by decide +kernel) rfl (vI (l := 0) (u := 1601) (by decide +kernel) rfl (by omega) (by omega)) h241 h246 (by decide +kernel) (fun σ250 h251 h252 h253 h254 => ?_)
                                have h255 := OTH_pj h247 h254 (by decide)
                                refine En_Ps 1 (pc' := 229) (lv' := [(2, .int ((y40 + Int32.ofInt 1))), (0, .ref 3), (1, .ref a)]) (st' := []) rfl ?_
                                refine En_lv1 (addI rfl (by decide : (Int32.ofInt 1).toInt = 1) (by omega) (by omega)) (fun z256 h257 => ?_)
                                refine En_Ps 1 (pc' := 25) (lv' := [(2, .int z256), (0, .ref 3), (1, .ref a)]) (st' := []) rfl ?_
                                refine En_lv (lv := [(0, .ref 3), (1, .ref a), (2, .int z256)]) ⟨rfl, rfl, rfl, trivial⟩ ?_
                                exact ih25 σ250 z256 z244 z248 y43 h251 h252 ((h254 _ _ (Or.inr (by decide))).trans h245) h253 ((h254 _ _ (Or.inr (by decide))).trans ((h242 _ _ (inW ha (by decide +kernel))).trans ((h207 _ _ (inW ha (by decide +kernel))).trans ((h146 _ _ (inW ha (by decide +kernel))).trans ((h136 _ _ (inW ha (by decide +kernel))).trans ((h126 _ _ (inW ha (by decide +kernel))).trans ((h116 _ _ (inW ha (by decide +kernel))).trans ((h106 _ _ (inW ha (by decide +kernel))).trans ((h96 _ _ (inW ha (by decide +kernel))).trans ((h86 _ _ (inW ha (by decide +kernel))).trans ((h76 _ _ (inW ha (by decide +kernel))).trans h49))))))))))) (by omega) (by omega) (by omega) (by omega) (by omega) (by omega) (by omega) (by omega) (by omega) (by omega) (by omega) (by omega) (by omega) (h255)
                          · refine En_Ps 2 (pc' := 171) (lv' := [(0, .ref 3), (1, .ref a), (2, .int y40)]) (st' := [.ref a, .ref 3]) rfl ?_
                            refine En_callV rfl rfl rfl rfl rfl rfl rfl rfl (by decide +kernel : TG 3 = 3) (by decide +kernel) rfl (c_62 σ134 h135 a ha y41 ((h136 _ _ (inW (by decide +kernel : TG 3 = 3) (by decide +kernel))).trans ((h126 _ _ (inW (by decide +kernel : TG 3 = 3) (by decide +kernel))).trans ((h116 _ _ (inW (by decide +kernel : TG 3 = 3) (by decide +kernel))).trans ((h106 _ _ (inW (by decide +kernel : TG 3 = 3) (by decide +kernel))).trans ((h96 _ _ (inW (by decide +kernel : TG 3 = 3) (by decide +kernel))).trans ((h86 _ _ (inW (by decide +kernel : TG 3 = 3) (by decide +kernel))).trans ((h76 _ _ (inW (by decide +kernel : TG 3 = 3) (by decide +kernel))).trans h47))))))) y43 ((h136 _ _ (inW ha (by decide +kernel))).trans ((h126 _ _ (inW ha (by decide +kernel))).trans ((h116 _ _ (inW ha (by decide +kernel))).trans ((h106 _ _ (inW ha (by decide +kernel))).trans ((h96 _ _ (inW ha (by decide +kernel))).trans ((h86 _ _ (inW ha (by decide +kernel))).trans ((h76 _ _ (inW ha (by decide +kernel))).trans h49))))))) (by omega)) (by decide) (by decide) (fun v259 σ260 h258 => ?_)
                            obtain ⟨h261, h262, z264, h265, rfl, h263⟩ := h258
                            have h266 := Fr_trans h139 h262 (by decide +kernel)
                            have h267 := OTH_fr h140 h262 (by decide +kernel)
                            refine En_Ps 3 (pc' := 201) (lv' := [(0, .ref 3), (1, .ref a), (2, .int y40)]) (st' := [.ref 3, .ref 3]) rfl ?_
                            refine En_getI (j := 1) (l := 0) (u := 4) rfl rfl rfl (by decide +kernel : TG 3 = 3) (by decide +kernel) h261 (by decide +kernel) (fun z269 h268 h270 h271 => ?_)
                            refine En_Ps 1 (pc' := 205) (lv' := [(0, .ref 3), (1, .ref a), (2, .int y40)]) (st' := [.int ((Int32.ofInt 3)), .int z269, .ref 3]) rfl ?_
                            refine En_icNe _ rfl (by decide : (Int32.ofInt 3).toInt = 3) rfl (fun h272 => ?_) (fun h272 => ?_)
                            · refine En_Ps 1 (pc' := 213) (lv' := [(0, .ref 3), (1, .ref a), (2, .int y40)]) (st' := [.int ((Int32.ofInt 0)), .ref 3]) rfl ?_
                              have := (by decide : ((Int32.ofInt 0)).toInt = 0)
                              refine En_callV rfl rfl rfl rfl rfl rfl rfl rfl (by decide +kernel : TG 3 = 3) (by decide +kernel) rfl (c_59 σ260 h261 ((Int32.ofInt 0)) (geI (by decide : (Int32.ofInt 0).toInt = 0) (by omega)) (leI (by decide : (Int32.ofInt 0).toInt = 0) (by omega)) z264 h265) (by decide) (by decide) (fun v274 σ275 h273 => ?_)
                              obtain ⟨h276, h277, z279, h280, rfl, h278⟩ := h273
                              have h281 := Fr_trans h266 h277 (by decide +kernel)
                              have h282 := OTH_fr h267 h277 (by decide +kernel)
                              refine En_Ps 2 (pc' := 218) (lv' := [(0, .ref 3), (1, .ref a), (2, .int y40)]) (st' := [.ref a, .ref a]) rfl ?_
                              refine En_getK (j := 0) ((h277 _ _ (inW ha (by decide +kernel))).trans ((h262 _ _ (inW ha (by decide +kernel))).trans ((h136 _ _ (inW ha (by decide +kernel))).trans ((h126 _ _ (inW ha (by decide +kernel))).trans ((h116 _ _ (inW ha (by decide +kernel))).trans ((h106 _ _ (inW ha (by decide +kernel))).trans ((h96 _ _ (inW ha (by decide +kernel))).trans ((h86 _ _ (inW ha (by decide +kernel))).trans ((h76 _ _ (inW ha (by decide +kernel))).trans h48))))))))) rfl rfl rfl ha (by decide +kernel) ?_
                              refine En_Ps 2 (pc' := 223) (lv' := [(0, .ref 3), (1, .ref a), (2, .int y40)]) (st' := [.int ((y42 + ((Int32.ofInt 1)))), .ref a]) rfl ?_
                              refine En_top (addI rfl (by decide : (Int32.ofInt 1).toInt = 1) (by omega) (by omega)) (fun z283 h284 => ?_)
                              refine En_put (j := 0) rfl rfl rfl ha (by decide +kernel) rfl (vI (l := 0) (u := 1601) (by decide +kernel) rfl (by omega) (by omega)) h276 h281 (by decide +kernel) (fun σ285 h286 h287 h288 h289 => ?_)
                              have h290 := OTH_pj h282 h289 (by decide)
                              refine En_Ps 1 (pc' := 229) (lv' := [(2, .int ((y40 + Int32.ofInt 1))), (0, .ref 3), (1, .ref a)]) (st' := []) rfl ?_
                              refine En_lv1 (addI rfl (by decide : (Int32.ofInt 1).toInt = 1) (by omega) (by omega)) (fun z291 h292 => ?_)
                              refine En_Ps 1 (pc' := 25) (lv' := [(2, .int z291), (0, .ref 3), (1, .ref a)]) (st' := []) rfl ?_
                              refine En_lv (lv := [(0, .ref 3), (1, .ref a), (2, .int z291)]) ⟨rfl, rfl, rfl, trivial⟩ ?_
                              exact ih25 σ285 z291 z279 z283 y43 h286 h287 ((h289 _ _ (Or.inr (by decide))).trans h280) h288 ((h289 _ _ (Or.inr (by decide))).trans ((h277 _ _ (inW ha (by decide +kernel))).trans ((h262 _ _ (inW ha (by decide +kernel))).trans ((h136 _ _ (inW ha (by decide +kernel))).trans ((h126 _ _ (inW ha (by decide +kernel))).trans ((h116 _ _ (inW ha (by decide +kernel))).trans ((h106 _ _ (inW ha (by decide +kernel))).trans ((h96 _ _ (inW ha (by decide +kernel))).trans ((h86 _ _ (inW ha (by decide +kernel))).trans ((h76 _ _ (inW ha (by decide +kernel))).trans h49)))))))))) (by omega) (by omega) (by omega) (by omega) (by omega) (by omega) (by omega) (by omega) (by omega) (by omega) (by omega) (by omega) (by omega) (h290)
                            · refine En_Ps 2 (pc' := 213) (lv' := [(0, .ref 3), (1, .ref a), (2, .int y40)]) (st' := [.int ((Int32.ofInt 1)), .ref 3]) rfl ?_
                              have := (by decide : ((Int32.ofInt 1)).toInt = 1)
                              refine En_callV rfl rfl rfl rfl rfl rfl rfl rfl (by decide +kernel : TG 3 = 3) (by decide +kernel) rfl (c_59 σ260 h261 ((Int32.ofInt 1)) (geI (by decide : (Int32.ofInt 1).toInt = 1) (by omega)) (leI (by decide : (Int32.ofInt 1).toInt = 1) (by omega)) z264 h265) (by decide) (by decide) (fun v294 σ295 h293 => ?_)
                              obtain ⟨h296, h297, z299, h300, rfl, h298⟩ := h293
                              have h301 := Fr_trans h266 h297 (by decide +kernel)
                              have h302 := OTH_fr h267 h297 (by decide +kernel)
                              refine En_Ps 2 (pc' := 218) (lv' := [(0, .ref 3), (1, .ref a), (2, .int y40)]) (st' := [.ref a, .ref a]) rfl ?_
                              refine En_getK (j := 0) ((h297 _ _ (inW ha (by decide +kernel))).trans ((h262 _ _ (inW ha (by decide +kernel))).trans ((h136 _ _ (inW ha (by decide +kernel))).trans ((h126 _ _ (inW ha (by decide +kernel))).trans ((h116 _ _ (inW ha (by decide +kernel))).trans ((h106 _ _ (inW ha (by decide +kernel))).trans ((h96 _ _ (inW ha (by decide +kernel))).trans ((h86 _ _ (inW ha (by decide +kernel))).trans ((h76 _ _ (inW ha (by decide +kernel))).trans h48))))))))) rfl rfl rfl ha (by decide +kernel) ?_
                              refine En_Ps 2 (pc' := 223) (lv' := [(0, .ref 3), (1, .ref a), (2, .int y40)]) (st' := [.int ((y42 + ((Int32.ofInt 1)))), .ref a]) rfl ?_
                              refine En_top (addI rfl (by decide : (Int32.ofInt 1).toInt = 1) (by omega) (by omega)) (fun z303 h304 => ?_)
                              refine En_put (j := 0) rfl rfl rfl ha (by decide +kernel) rfl (vI (l := 0) (u := 1601) (by decide +kernel) rfl (by omega) (by omega)) h296 h301 (by decide +kernel) (fun σ305 h306 h307 h308 h309 => ?_)
                              have h310 := OTH_pj h302 h309 (by decide)
                              refine En_Ps 1 (pc' := 229) (lv' := [(2, .int ((y40 + Int32.ofInt 1))), (0, .ref 3), (1, .ref a)]) (st' := []) rfl ?_
                              refine En_lv1 (addI rfl (by decide : (Int32.ofInt 1).toInt = 1) (by omega) (by omega)) (fun z311 h312 => ?_)
                              refine En_Ps 1 (pc' := 25) (lv' := [(2, .int z311), (0, .ref 3), (1, .ref a)]) (st' := []) rfl ?_
                              refine En_lv (lv := [(0, .ref 3), (1, .ref a), (2, .int z311)]) ⟨rfl, rfl, rfl, trivial⟩ ?_
                              exact ih25 σ305 z311 z299 z303 y43 h306 h307 ((h309 _ _ (Or.inr (by decide))).trans h300) h308 ((h309 _ _ (Or.inr (by decide))).trans ((h297 _ _ (inW ha (by decide +kernel))).trans ((h262 _ _ (inW ha (by decide +kernel))).trans ((h136 _ _ (inW ha (by decide +kernel))).trans ((h126 _ _ (inW ha (by decide +kernel))).trans ((h116 _ _ (inW ha (by decide +kernel))).trans ((h106 _ _ (inW ha (by decide +kernel))).trans ((h96 _ _ (inW ha (by decide +kernel))).trans ((h86 _ _ (inW ha (by decide +kernel))).trans ((h76 _ _ (inW ha (by decide +kernel))).trans h49)))))))))) (by omega) (by omega) (by omega) (by omega) (by omega) (by omega) (by omega) (by omega) (by omega) (by omega) (by omega) (by omega) (by omega) (h310)
                        · refine En_Ps 2 (pc' := 154) (lv' := [(0, .ref 3), (1, .ref a), (2, .int y40)]) (st' := [.ref a, .ref 3]) rfl ?_
                          refine En_callV rfl rfl rfl rfl rfl rfl rfl rfl (by decide +kernel : TG 3 = 3) (by decide +kernel) rfl (c_66 σ124 h125 a ha y41 ((h126 _ _ (inW (by decide +kernel : TG 3 = 3) (by decide +kernel))).trans ((h116 _ _ (inW (by decide +kernel : TG 3 = 3) (by decide +kernel))).trans ((h106 _ _ (inW (by decide +kernel : TG 3 = 3) (by decide +kernel))).trans ((h96 _ _ (inW (by decide +kernel : TG 3 = 3) (by decide +kernel))).trans ((h86 _ _ (inW (by decide +kernel : TG 3 = 3) (by decide +kernel))).trans ((h76 _ _ (inW (by decide +kernel : TG 3 = 3) (by decide +kernel))).trans h47)))))) y43 ((h126 _ _ (inW ha (by decide +kernel))).trans ((h116 _ _ (inW ha (by decide +kernel))).trans ((h106 _ _ (inW ha (by decide +kernel))).trans ((h96 _ _ (inW ha (by decide +kernel))).trans ((h86 _ _ (inW ha (by decide +kernel))).trans ((h76 _ _ (inW ha (by decide +kernel))).trans h49)))))) (by omega)) (by decide) (by decide) (fun v314 σ315 h313 => ?_)
                          obtain ⟨h316, h317, z319, h320, rfl, h318⟩ := h313
                          have h321 := Fr_trans h129 h317 (by decide +kernel)
                          have h322 := OTH_fr h130 h317 (by decide +kernel)
                          refine En_Ps 3 (pc' := 201) (lv' := [(0, .ref 3), (1, .ref a), (2, .int y40)]) (st' := [.ref 3, .ref 3]) rfl ?_
                          refine En_getI (j := 1) (l := 0) (u := 4) rfl rfl rfl (by decide +kernel : TG 3 = 3) (by decide +kernel) h316 (by decide +kernel) (fun z324 h323 h325 h326 => ?_)
                          refine En_Ps 1 (pc' := 205) (lv' := [(0, .ref 3), (1, .ref a), (2, .int y40)]) (st' := [.int ((Int32.ofInt 3)), .int z324, .ref 3]) rfl ?_
                          refine En_icNe _ rfl (by decide : (Int32.ofInt 3).toInt = 3) rfl (fun h327 => ?_) (fun h327 => ?_)
                          · refine En_Ps 1 (pc' := 213) (lv' := [(0, .ref 3), (1, .ref a), (2, .int y40)]) (st' := [.int ((Int32.ofInt 0)), .ref 3]) rfl ?_
                            have := (by decide : ((Int32.ofInt 0)).toInt = 0)
                            refine En_callV rfl rfl rfl rfl rfl rfl rfl rfl (by decide +kernel : TG 3 = 3) (by decide +kernel) rfl (c_59 σ315 h316 ((Int32.ofInt 0)) (geI (by decide : (Int32.ofInt 0).toInt = 0) (by omega)) (leI (by decide : (Int32.ofInt 0).toInt = 0) (by omega)) z319 h320) (by decide) (by decide) (fun v329 σ330 h328 => ?_)
                            obtain ⟨h331, h332, z334, h335, rfl, h333⟩ := h328
                            have h336 := Fr_trans h321 h332 (by decide +kernel)
                            have h337 := OTH_fr h322 h332 (by decide +kernel)
                            refine En_Ps 2 (pc' := 218) (lv' := [(0, .ref 3), (1, .ref a), (2, .int y40)]) (st' := [.ref a, .ref a]) rfl ?_
                            refine En_getK (j := 0) ((h332 _ _ (inW ha (by decide +kernel))).trans ((h317 _ _ (inW ha (by decide +kernel))).trans ((h126 _ _ (inW ha (by decide +kernel))).trans ((h116 _ _ (inW ha (by decide +kernel))).trans ((h106 _ _ (inW ha (by decide +kernel))).trans ((h96 _ _ (inW ha (by decide +kernel))).trans ((h86 _ _ (inW ha (by decide +kernel))).trans ((h76 _ _ (inW ha (by decide +kernel))).trans h48)))))))) rfl rfl rfl ha (by decide +kernel) ?_
                            refine En_Ps 2 (pc' := 223) (lv' := [(0, .ref 3), (1, .ref a), (2, .int y40)]) (st' := [.int ((y42 + ((Int32.ofInt 1)))), .ref a]) rfl ?_
                            refine En_top (addI rfl (by decide : (Int32.ofInt 1).toInt = 1) (by omega) (by omega)) (fun z338 h339 => ?_)
                            refine En_put (j := 0) rfl rfl rfl ha (by decide +kernel) rfl (vI (l := 0) (u := 1601) (by decide +kernel) rfl (by omega) (by omega)) h331 h336 (by decide +kernel) (fun σ340 h341 h342 h343 h344 => ?_)
                            have h345 := OTH_pj h337 h344 (by decide)
                            refine En_Ps 1 (pc' := 229) (lv' := [(2, .int ((y40 + Int32.ofInt 1))), (0, .ref 3), (1, .ref a)]) (st' := []) rfl ?_
                            refine En_lv1 (addI rfl (by decide : (Int32.ofInt 1).toInt = 1) (by omega) (by omega)) (fun z346 h347 => ?_)
                            refine En_Ps 1 (pc' := 25) (lv' := [(2, .int z346), (0, .ref 3), (1, .ref a)]) (st' := []) rfl ?_
                            refine En_lv (lv := [(0, .ref 3), (1, .ref a), (2, .int z346)]) ⟨rfl, rfl, rfl, trivial⟩ ?_
                            exact ih25 σ340 z346 z334 z338 y43 h341 h342 ((h344 _ _ (Or.inr (by decide))).trans h335) h343 ((h344 _ _ (Or.inr (by decide))).trans ((h332 _ _ (inW ha (by decide +kernel))).trans ((h317 _ _ (inW ha (by decide +kernel))).trans ((h126 _ _ (inW ha (by decide +kernel))).trans ((h116 _ _ (inW ha (by decide +kernel))).trans ((h106 _ _ (inW ha (by decide +kernel))).trans ((h96 _ _ (inW ha (by decide +kernel))).trans ((h86 _ _ (inW ha (by decide +kernel))).trans ((h76 _ _ (inW ha (by decide +kernel))).trans h49))))))))) (by omega) (by omega) (by omega) (by omega) (by omega) (by omega) (by omega) (by omega) (by omega) (by omega) (by omega) (by omega) (by omega) (h345)
                          · refine En_Ps 2 (pc' := 213) (lv' := [(0, .ref 3), (1, .ref a), (2, .int y40)]) (st' := [.int ((Int32.ofInt 1)), .ref 3]) rfl ?_
                            have := (by decide : ((Int32.ofInt 1)).toInt = 1)
                            refine En_callV rfl rfl rfl rfl rfl rfl rfl rfl (by decide +kernel : TG 3 = 3) (by decide +kernel) rfl (c_59 σ315 h316 ((Int32.ofInt 1)) (geI (by decide : (Int32.ofInt 1).toInt = 1) (by omega)) (leI (by decide : (Int32.ofInt 1).toInt = 1) (by omega)) z319 h320) (by decide) (by decide) (fun v349 σ350 h348 => ?_)
                            obtain ⟨h351, h352, z354, h355, rfl, h353⟩ := h348
                            have h356 := Fr_trans h321 h352 (by decide +kernel)
                            have h357 := OTH_fr h322 h352 (by decide +kernel)
                            refine En_Ps 2 (pc' := 218) (lv' := [(0, .ref 3), (1, .ref a), (2, .int y40)]) (st' := [.ref a, .ref a]) rfl ?_
                            refine En_getK (j := 0) ((h352 _ _ (inW ha (by decide +kernel))).trans ((h317 _ _ (inW ha (by decide +kernel))).trans ((h126 _ _ (inW ha (by decide +kernel))).trans ((h116 _ _ (inW ha (by decide +kernel))).trans ((h106 _ _ (inW ha (by decide +kernel))).trans ((h96 _ _ (inW ha (by decide +kernel))).trans ((h86 _ _ (inW ha (by decide +kernel))).trans ((h76 _ _ (inW ha (by decide +kernel))).trans h48)))))))) rfl rfl rfl ha (by decide +kernel) ?_
                            refine En_Ps 2 (pc' := 223) (lv' := [(0, .ref 3), (1, .ref a), (2, .int y40)]) (st' := [.int ((y42 + ((Int32.ofInt 1)))), .ref a]) rfl ?_
                            refine En_top (addI rfl (by decide : (Int32.ofInt 1).toInt = 1) (by omega) (by omega)) (fun z358 h359 => ?_)
                            refine En_put (j := 0) rfl rfl rfl ha (by decide +kernel) rfl (vI (l := 0) (u := 1601) (by decide +kernel) rfl (by omega) (by omega)) h351 h356 (by decide +kernel) (fun σ360 h361 h362 h363 h364 => ?_)
                            have h365 := OTH_pj h357 h364 (by decide)
                            refine En_Ps 1 (pc' := 229) (lv' := [(2, .int ((y40 + Int32.ofInt 1))), (0, .ref 3), (1, .ref a)]) (st' := []) rfl ?_
                            refine En_lv1 (addI rfl (by decide : (Int32.ofInt 1).toInt = 1) (by omega) (by omega)) (fun z366 h367 => ?_)
                            refine En_Ps 1 (pc' := 25) (lv' := [(2, .int z366), (0, .ref 3), (1, .ref a)]) (st' := []) rfl ?_
                            refine En_lv (lv := [(0, .ref 3), (1, .ref a), (2, .int z366)]) ⟨rfl, rfl, rfl, trivial⟩ ?_
                            exact ih25 σ360 z366 z354 z358 y43 h361 h362 ((h364 _ _ (Or.inr (by decide))).trans h355) h363 ((h364 _ _ (Or.inr (by decide))).trans ((h352 _ _ (inW ha (by decide +kernel))).trans ((h317 _ _ (inW ha (by decide +kernel))).trans ((h126 _ _ (inW ha (by decide +kernel))).trans ((h116 _ _ (inW ha (by decide +kernel))).trans ((h106 _ _ (inW ha (by decide +kernel))).trans ((h96 _ _ (inW ha (by decide +kernel))).trans ((h86 _ _ (inW ha (by decide +kernel))).trans ((h76 _ _ (inW ha (by decide +kernel))).trans h49))))))))) (by omega) (by omega) (by omega) (by omega) (by omega) (by omega) (by omega) (by omega) (by omega) (by omega) (by omega) (by omega) (by omega) (h365)
                      · refine En_Ps 2 (pc' := 137) (lv' := [(0, .ref 3), (1, .ref a), (2, .int y40)]) (st' := [.ref a, .ref 3]) rfl ?_
                        refine En_callV rfl rfl rfl rfl rfl rfl rfl rfl (by decide +kernel : TG 3 = 3) (by decide +kernel) rfl (c_68 σ114 h115 a ha y41 ((h116 _ _ (inW (by decide +kernel : TG 3 = 3) (by decide +kernel))).trans ((h106 _ _ (inW (by decide +kernel : TG 3 = 3) (by decide +kernel))).trans ((h96 _ _ (inW (by decide +kernel : TG 3 = 3) (by decide +kernel))).trans ((h86 _ _ (inW (by decide +kernel : TG 3 = 3) (by decide +kernel))).trans ((h76 _ _ (inW (by decide +kernel : TG 3 = 3) (by decide +kernel))).trans h47))))) y43 ((h116 _ _ (inW ha (by decide +kernel))).trans ((h106 _ _ (inW ha (by decide +kernel))).trans ((h96 _ _ (inW ha (by decide +kernel))).trans ((h86 _ _ (inW ha (by decide +kernel))).trans ((h76 _ _ (inW ha (by decide +kernel))).trans h49))))) (by omega)) (by decide) (by decide) (fun v369 σ370 h368 => ?_)
                        obtain ⟨h371, h372, z374, h375, rfl, h373⟩ := h368
                        have h376 := Fr_trans h119 h372 (by decide +kernel)
                        have h377 := OTH_fr h120 h372 (by decide +kernel)
                        refine En_Ps 3 (pc' := 201) (lv' := [(0, .ref 3), (1, .ref a), (2, .int y40)]) (st' := [.ref 3, .ref 3]) rfl ?_
                        refine En_getI (j := 1) (l := 0) (u := 4) rfl rfl rfl (by decide +kernel : TG 3 = 3) (by decide +kernel) h371 (by decide +kernel) (fun z379 h378 h380 h381 => ?_)
                        refine En_Ps 1 (pc' := 205) (lv' := [(0, .ref 3), (1, .ref a), (2, .int y40)]) (st' := [.int ((Int32.ofInt 3)), .int z379, .ref 3]) rfl ?_
                        refine En_icNe _ rfl (by decide : (Int32.ofInt 3).toInt = 3) rfl (fun h382 => ?_) (fun h382 => ?_)
                        · refine En_Ps 1 (pc' := 213) (lv' := [(0, .ref 3), (1, .ref a), (2, .int y40)]) (st' := [.int ((Int32.ofInt 0)), .ref 3]) rfl ?_
                          have := (by decide : ((Int32.ofInt 0)).toInt = 0)
                          refine En_callV rfl rfl rfl rfl rfl rfl rfl rfl (by decide +kernel : TG 3 = 3) (by decide +kernel) rfl (c_59 σ370 h371 ((Int32.ofInt 0)) (geI (by decide : (Int32.ofInt 0).toInt = 0) (by omega)) (leI (by decide : (Int32.ofInt 0).toInt = 0) (by omega)) z374 h375) (by decide) (by decide) (fun v384 σ385 h383 => ?_)
                          obtain ⟨h386, h387, z389, h390, rfl, h388⟩ := h383
                          have h391 := Fr_trans h376 h387 (by decide +kernel)
                          have h392 := OTH_fr h377 h387 (by decide +kernel)
                          refine En_Ps 2 (pc' := 218) (lv' := [(0, .ref 3), (1, .ref a), (2, .int y40)]) (st' := [.ref a, .ref a]) rfl ?_
                          refine En_getK (j := 0) ((h387 _ _ (inW ha (by decide +kernel))).trans ((h372 _ _ (inW ha (by decide +kernel))).trans ((h116 _ _ (inW ha (by decide +kernel))).trans ((h106 _ _ (inW ha (by decide +kernel))).trans ((h96 _ _ (inW ha (by decide +kernel))).trans ((h86 _ _ (inW ha (by decide +kernel))).trans ((h76 _ _ (inW ha (by decide +kernel))).trans h48))))))) rfl rfl rfl ha (by decide +kernel) ?_
                          refine En_Ps 2 (pc' := 223) (lv' := [(0, .ref 3), (1, .ref a), (2, .int y40)]) (st' := [.int ((y42 + ((Int32.ofInt 1)))), .ref a]) rfl ?_
                          refine En_top (addI rfl (by decide : (Int32.ofInt 1).toInt = 1) (by omega) (by omega)) (fun z393 h394 => ?_)
                          refine En_put (j := 0) rfl rfl rfl ha (by decide +kernel) rfl (vI (l := 0) (u := 1601) (by decide +kernel) rfl (by omega) (by omega)) h386 h391 (by decide +kernel) (fun σ395 h396 h397 h398 h399 => ?_)
                          have h400 := OTH_pj h392 h399 (by decide)
                          refine En_Ps 1 (pc' := 229) (lv' := [(2, .int ((y40 + Int32.ofInt 1))), (0, .ref 3), (1, .ref a)]) (st' := []) rfl ?_
                          refine En_lv1 (addI rfl (by decide : (Int32.ofInt 1).toInt = 1) (by omega) (by omega)) (fun z401 h402 => ?_)
                          refine En_Ps 1 (pc' := 25) (lv' := [(2, .int z401), (0, .ref 3), (1, .ref a)]) (st' := []) rfl ?_
                          refine En_lv (lv := [(0, .ref 3), (1, .ref a), (2, .int z401)]) ⟨rfl, rfl, rfl, trivial⟩ ?_
                          exact ih25 σ395 z401 z389 z393 y43 h396 h397 ((h399 _ _ (Or.inr (by decide))).trans h390) h398 ((h399 _ _ (Or.inr (by decide))).trans ((h387 _ _ (inW ha (by decide +kernel))).trans ((h372 _ _ (inW ha (by decide +kernel))).trans ((h116 _ _ (inW ha (by decide +kernel))).trans ((h106 _ _ (inW ha (by decide +kernel))).trans ((h96 _ _ (inW ha (by decide +kernel))).trans ((h86 _ _ (inW ha (by decide +kernel))).trans ((h76 _ _ (inW ha (by decide +kernel))).trans h49)))))))) (by omega) (by omega) (by omega) (by omega) (by omega) (by omega) (by omega) (by omega) (by omega) (by omega) (by omega) (by omega) (by omega) (h400)
                        · refine En_Ps 2 (pc' := 213) (lv' := [(0, .ref 3), (1, .ref a), (2, .int y40)]) (st' := [.int ((Int32.ofInt 1)), .ref 3]) rfl ?_
                          have := (by decide : ((Int32.ofInt 1)).toInt = 1)
                          refine En_callV rfl rfl rfl rfl rfl rfl rfl rfl (by decide +kernel : TG 3 = 3) (by decide +kernel) rfl (c_59 σ370 h371 ((Int32.ofInt 1)) (geI (by decide : (Int32.ofInt 1).toInt = 1) (by omega)) (leI (by decide : (Int32.ofInt 1).toInt = 1) (by omega)) z374 h375) (by decide) (by decide) (fun v404 σ405 h403 => ?_)
                          obtain ⟨h406, h407, z409, h410, rfl, h408⟩ := h403
                          have h411 := Fr_trans h376 h407 (by decide +kernel)
                          have h412 := OTH_fr h377 h407 (by decide +kernel)
                          refine En_Ps 2 (pc' := 218) (lv' := [(0, .ref 3), (1, .ref a), (2, .int y40)]) (st' := [.ref a, .ref a]) rfl ?_
                          refine En_getK (j := 0) ((h407 _ _ (inW ha (by decide +kernel))).trans ((h372 _ _ (inW ha (by decide +kernel))).trans ((h116 _ _ (inW ha (by decide +kernel))).trans ((h106 _ _ (inW ha (by decide +kernel))).trans ((h96 _ _ (inW ha (by decide +kernel))).trans ((h86 _ _ (inW ha (by decide +kernel))).trans ((h76 _ _ (inW ha (by decide +kernel))).trans h48))))))) rfl rfl rfl ha (by decide +kernel) ?_
                          refine En_Ps 2 (pc' := 223) (lv' := [(0, .ref 3), (1, .ref a), (2, .int y40)]) (st' := [.int ((y42 + ((Int32.ofInt 1)))), .ref a]) rfl ?_
                          refine En_top (addI rfl (by decide : (Int32.ofInt 1).toInt = 1) (by omega) (by omega)) (fun z413 h414 => ?_)
                          refine En_put (j := 0) rfl rfl rfl ha (by decide +kernel) rfl (vI (l := 0) (u := 1601) (by decide +kernel) rfl (by omega) (by omega)) h406 h411 (by decide +kernel) (fun σ415 h416 h417 h418 h419 => ?_)
                          have h420 := OTH_pj h412 h419 (by decide)
                          refine En_Ps 1 (pc' := 229) (lv' := [(2, .int ((y40 + Int32.ofInt 1))), (0, .ref 3), (1, .ref a)]) (st' := []) rfl ?_
                          refine En_lv1 (addI rfl (by decide : (Int32.ofInt 1).toInt = 1) (by omega) (by omega)) (fun z421 h422 => ?_)
                          refine En_Ps 1 (pc' := 25) (lv' := [(2, .int z421), (0, .ref 3), (1, .ref a)]) (st' := []) rfl ?_
                          refine En_lv (lv := [(0, .ref 3), (1, .ref a), (2, .int z421)]) ⟨rfl, rfl, rfl, trivial⟩ ?_
                          exact ih25 σ415 z421 z409 z413 y43 h416 h417 ((h419 _ _ (Or.inr (by decide))).trans h410) h418 ((h419 _ _ (Or.inr (by decide))).trans ((h407 _ _ (inW ha (by decide +kernel))).trans ((h372 _ _ (inW ha (by decide +kernel))).trans ((h116 _ _ (inW ha (by decide +kernel))).trans ((h106 _ _ (inW ha (by decide +kernel))).trans ((h96 _ _ (inW ha (by decide +kernel))).trans ((h86 _ _ (inW ha (by decide +kernel))).trans ((h76 _ _ (inW ha (by decide +kernel))).trans h49)))))))) (by omega) (by omega) (by omega) (by omega) (by omega) (by omega) (by omega) (by omega) (by omega) (by omega) (by omega) (by omega) (by omega) (h420)
                    · refine En_Ps 2 (pc' := 120) (lv' := [(0, .ref 3), (1, .ref a), (2, .int y40)]) (st' := [.ref a, .ref 3]) rfl ?_
                      refine En_callV rfl rfl rfl rfl rfl rfl rfl rfl (by decide +kernel : TG 3 = 3) (by decide +kernel) rfl (c_70 σ104 h105 a ha y41 ((h106 _ _ (inW (by decide +kernel : TG 3 = 3) (by decide +kernel))).trans ((h96 _ _ (inW (by decide +kernel : TG 3 = 3) (by decide +kernel))).trans ((h86 _ _ (inW (by decide +kernel : TG 3 = 3) (by decide +kernel))).trans ((h76 _ _ (inW (by decide +kernel : TG 3 = 3) (by decide +kernel))).trans h47)))) y43 ((h106 _ _ (inW ha (by decide +kernel))).trans ((h96 _ _ (inW ha (by decide +kernel))).trans ((h86 _ _ (inW ha (by decide +kernel))).trans ((h76 _ _ (inW ha (by decide +kernel))).trans h49)))) (by omega)) (by decide) (by decide) (fun v424 σ425 h423 => ?_)
                      obtain ⟨h426, h427, z429, h430, rfl, h428⟩ := h423
                      have h431 := Fr_trans h109 h427 (by decide +kernel)
                      have h432 := OTH_fr h110 h427 (by decide +kernel)
                      refine En_Ps 3 (pc' := 201) (lv' := [(0, .ref 3), (1, .ref a), (2, .int y40)]) (st' := [.ref 3, .ref 3]) rfl ?_
                      refine En_getI (j := 1) (l := 0) (u := 4) rfl rfl rfl (by decide +kernel : TG 3 = 3) (by decide +kernel) h426 (by decide +kernel) (fun z434 h433 h435 h436 => ?_)
                      refine En_Ps 1 (pc' := 205) (lv' := [(0, .ref 3), (1, .ref a), (2, .int y40)]) (st' := [.int ((Int32.ofInt 3)), .int z434, .ref 3]) rfl ?_
                      refine En_icNe _ rfl (by decide : (Int32.ofInt 3).toInt = 3) rfl (fun h437 => ?_) (fun h437 => ?_)
                      · refine En_Ps 1 (pc' := 213) (lv' := [(0, .ref 3), (1, .ref a), (2, .int y40)]) (st' := [.int ((Int32.ofInt 0)), .ref 3]) rfl ?_
                        have := (by decide : ((Int32.ofInt 0)).toInt = 0)
                        refine En_callV rfl rfl rfl rfl rfl rfl rfl rfl (by decide +kernel : TG 3 = 3) (by decide +kernel) rfl (c_59 σ425 h426 ((Int32.ofInt 0)) (geI (by decide : (Int32.ofInt 0).toInt = 0) (by omega)) (leI (by decide : (Int32.ofInt 0).toInt = 0) (by omega)) z429 h430) (by decide) (by decide) (fun v439 σ440 h438 => ?_)
                        obtain ⟨h441, h442, z444, h445, rfl, h443⟩ := h438
                        have h446 := Fr_trans h431 h442 (by decide +kernel)
                        have h447 := OTH_fr h432 h442 (by decide +kernel)
                        refine En_Ps 2 (pc' := 218) (lv' := [(0, .ref 3), (1, .ref a), (2, .int y40)]) (st' := [.ref a, .ref a]) rfl ?_
                        refine En_getK (j := 0) ((h442 _ _ (inW ha (by decide +kernel))).trans ((h427 _ _ (inW ha (by decide +kernel))).trans ((h106 _ _ (inW ha (by decide +kernel))).trans ((h96 _ _ (inW ha (by decide +kernel))).trans ((h86 _ _ (inW ha (by decide +kernel))).trans ((h76 _ _ (inW ha (by decide +kernel))).trans h48)))))) rfl rfl rfl ha (by decide +kernel) ?_
                        refine En_Ps 2 (pc' := 223) (lv' := [(0, .ref 3), (1, .ref a), (2, .int y40)]) (st' := [.int ((y42 + ((Int32.ofInt 1)))), .ref a]) rfl ?_
                        refine En_top (addI rfl (by decide : (Int32.ofInt 1).toInt = 1) (by omega) (by omega)) (fun z448 h449 => ?_)
                        refine En_put (j := 0) rfl rfl rfl ha (by decide +kernel) rfl (vI (l := 0) (u := 1601) (by decide +kernel) rfl (by omega) (by omega)) h441 h446 (by decide +kernel) (fun σ450 h451 h452 h453 h454 => ?_)
                        have h455 := OTH_pj h447 h454 (by decide)
                        refine En_Ps 1 (pc' := 229) (lv' := [(2, .int ((y40 + Int32.ofInt 1))), (0, .ref 3), (1, .ref a)]) (st' := []) rfl ?_
                        refine En_lv1 (addI rfl (by decide : (Int32.ofInt 1).toInt = 1) (by omega) (by omega)) (fun z456 h457 => ?_)
                        refine En_Ps 1 (pc' := 25) (lv' := [(2, .int z456), (0, .ref 3), (1, .ref a)]) (st' := []) rfl ?_
                        refine En_lv (lv := [(0, .ref 3), (1, .ref a), (2, .int z456)]) ⟨rfl, rfl, rfl, trivial⟩ ?_
                        exact ih25 σ450 z456 z444 z448 y43 h451 h452 ((h454 _ _ (Or.inr (by decide))).trans h445) h453 ((h454 _ _ (Or.inr (by decide))).trans ((h442 _ _ (inW ha (by decide +kernel))).trans ((h427 _ _ (inW ha (by decide +kernel))).trans ((h106 _ _ (inW ha (by decide +kernel))).trans ((h96 _ _ (inW ha (by decide +kernel))).trans ((h86 _ _ (inW ha (by decide +kernel))).trans ((h76 _ _ (inW ha (by decide +kernel))).trans h49))))))) (by omega) (by omega) (by omega) (by omega) (by omega) (by omega) (by omega) (by omega) (by omega) (by omega) (by omega) (by omega) (by omega) (h455)
                      · refine En_Ps 2 (pc' := 213) (lv' := [(0, .ref 3), (1, .ref a), (2, .int y40)]) (st' := [.int ((Int32.ofInt 1)), .ref 3]) rfl ?_
                        have := (by decide : ((Int32.ofInt 1)).toInt = 1)
                        refine En_callV rfl rfl rfl rfl rfl rfl rfl rfl (by decide +kernel : TG 3 = 3) (by decide +kernel) rfl (c_59 σ425 h426 ((Int32.ofInt 1)) (geI (by decide : (Int32.ofInt 1).toInt = 1) (by omega)) (leI (by decide : (Int32.ofInt 1).toInt = 1) (by omega)) z429 h430) (by decide) (by decide) (fun v459 σ460 h458 => ?_)
                        obtain ⟨h461, h462, z464, h465, rfl, h463⟩ := h458
                        have h466 := Fr_trans h431 h462 (by decide +kernel)
                        have h467 := OTH_fr h432 h462 (by decide +kernel)
                        refine En_Ps 2 (pc' := 218) (lv' := [(0, .ref 3), (1, .ref a), (2, .int y40)]) (st' := [.ref a, .ref a]) rfl ?_
                        refine En_getK (j := 0) ((h462 _ _ (inW ha (by decide +kernel))).trans ((h427 _ _ (inW ha (by decide +kernel))).trans ((h106 _ _ (inW ha (by decide +kernel))).trans ((h96 _ _ (inW ha (by decide +kernel))).trans ((h86 _ _ (inW ha (by decide +kernel))).trans ((h76 _ _ (inW ha (by decide +kernel))).trans h48)))))) rfl rfl rfl ha (by decide +kernel) ?_
                        refine En_Ps 2 (pc' := 223) (lv' := [(0, .ref 3), (1, .ref a), (2, .int y40)]) (st' := [.int ((y42 + ((Int32.ofInt 1)))), .ref a]) rfl ?_
                        refine En_top (addI rfl (by decide : (Int32.ofInt 1).toInt = 1) (by omega) (by omega)) (fun z468 h469 => ?_)
                        refine En_put (j := 0) rfl rfl rfl ha (by decide +kernel) rfl (vI (l := 0) (u := 1601) (by decide +kernel) rfl (by omega) (by omega)) h461 h466 (by decide +kernel) (fun σ470 h471 h472 h473 h474 => ?_)
                        have h475 := OTH_pj h467 h474 (by decide)
                        refine En_Ps 1 (pc' := 229) (lv' := [(2, .int ((y40 + Int32.ofInt 1))), (0, .ref 3), (1, .ref a)]) (st' := []) rfl ?_
                        refine En_lv1 (addI rfl (by decide : (Int32.ofInt 1).toInt = 1) (by omega) (by omega)) (fun z476 h477 => ?_)
                        refine En_Ps 1 (pc' := 25) (lv' := [(2, .int z476), (0, .ref 3), (1, .ref a)]) (st' := []) rfl ?_
                        refine En_lv (lv := [(0, .ref 3), (1, .ref a), (2, .int z476)]) ⟨rfl, rfl, rfl, trivial⟩ ?_
                        exact ih25 σ470 z476 z464 z468 y43 h471 h472 ((h474 _ _ (Or.inr (by decide))).trans h465) h473 ((h474 _ _ (Or.inr (by decide))).trans ((h462 _ _ (inW ha (by decide +kernel))).trans ((h427 _ _ (inW ha (by decide +kernel))).trans ((h106 _ _ (inW ha (by decide +kernel))).trans ((h96 _ _ (inW ha (by decide +kernel))).trans ((h86 _ _ (inW ha (by decide +kernel))).trans ((h76 _ _ (inW ha (by decide +kernel))).trans h49))))))) (by omega) (by omega) (by omega) (by omega) (by omega) (by omega) (by omega) (by omega) (by omega) (by omega) (by omega) (by omega) (by omega) (h475)
                  · refine En_Ps 2 (pc' := 103) (lv' := [(0, .ref 3), (1, .ref a), (2, .int y40)]) (st' := [.ref a, .ref 3]) rfl ?_
                    refine En_callV rfl rfl rfl rfl rfl rfl rfl rfl (by decide +kernel : TG 3 = 3) (by decide +kernel) rfl (c_64 σ94 h95 a ha y41 ((h96 _ _ (inW (by decide +kernel : TG 3 = 3) (by decide +kernel))).trans ((h86 _ _ (inW (by decide +kernel : TG 3 = 3) (by decide +kernel))).trans ((h76 _ _ (inW (by decide +kernel : TG 3 = 3) (by decide +kernel))).trans h47))) y43 ((h96 _ _ (inW ha (by decide +kernel))).trans ((h86 _ _ (inW ha (by decide +kernel))).trans ((h76 _ _ (inW ha (by decide +kernel))).trans h49))) (by omega)) (by decide) (by decide) (fun v479 σ480 h478 => ?_)
                    obtain ⟨h481, h482, z484, h485, rfl, h483⟩ := h478
                    have h486 := Fr_trans h99 h482 (by decide +kernel)
                    have h487 := OTH_fr h100 h482 (by decide +kernel)
                    refine En_Ps 3 (pc' := 201) (lv' := [(0, .ref 3), (1, .ref a), (2, .int y40)]) (st' := [.ref 3, .ref 3]) rfl ?_
                    refine En_getI (j := 1) (l := 0) (u := 4) rfl rfl rfl (by decide +kernel : TG 3 = 3) (by decide +kernel) h481 (by decide +kernel) (fun z489 h488 h490 h491 => ?_)
                    refine En_Ps 1 (pc' := 205) (lv' := [(0, .ref 3), (1, .ref a), (2, .int y40)]) (st' := [.int ((Int32.ofInt 3)), .int z489, .ref 3]) rfl ?_
                    refine En_icNe _ rfl (by decide : (Int32.ofInt 3).toInt = 3) rfl (fun h492 => ?_) (fun h492 => ?_)
                    · refine En_Ps 1 (pc' := 213) (lv' := [(0, .ref 3), (1, .ref a), (2, .int y40)]) (st' := [.int ((Int32.ofInt 0)), .ref 3]) rfl ?_
                      have := (by decide : ((Int32.ofInt 0)).toInt = 0)
                      refine En_callV rfl rfl rfl rfl rfl rfl rfl rfl (by decide +kernel : TG 3 = 3) (by decide +kernel) rfl (c_59 σ480 h481 ((Int32.ofInt 0)) (geI (by decide : (Int32.ofInt 0).toInt = 0) (by omega)) (leI (by decide : (Int32.ofInt 0).toInt = 0) (by omega)) z484 h485) (by decide) (by decide) (fun v494 σ495 h493 => ?_)
                      obtain ⟨h496, h497, z499, h500, rfl, h498⟩ := h493
                      have h501 := Fr_trans h486 h497 (by decide +kernel)
                      have h502 := OTH_fr h487 h497 (by decide +kernel)
                      refine En_Ps 2 (pc' := 218) (lv' := [(0, .ref 3), (1, .ref a), (2, .int y40)]) (st' := [.ref a, .ref a]) rfl ?_
                      refine En_getK (j := 0) ((h497 _ _ (inW ha (by decide +kernel))).trans ((h482 _ _ (inW ha (by decide +kernel))).trans ((h96 _ _ (inW ha (by decide +kernel))).trans ((h86 _ _ (inW ha (by decide +kernel))).trans ((h76 _ _ (inW ha (by decide +kernel))).trans h48))))) rfl rfl rfl ha (by decide +kernel) ?_
                      refine En_Ps 2 (pc' := 223) (lv' := [(0, .ref 3), (1, .ref a), (2, .int y40)]) (st' := [.int ((y42 + ((Int32.ofInt 1)))), .ref a]) rfl ?_
                      refine En_top (addI rfl (by decide : (Int32.ofInt 1).toInt = 1) (by omega) (by omega)) (fun z503 h504 => ?_)
                      refine En_put (j := 0) rfl rfl rfl ha (by decide +kernel) rfl (vI (l := 0) (u := 1601) (by decide +kernel) rfl (by omega) (by omega)) h496 h501 (by decide +kernel) (fun σ505 h506 h507 h508 h509 => ?_)
                      have h510 := OTH_pj h502 h509 (by decide)
                      refine En_Ps 1 (pc' := 229) (lv' := [(2, .int ((y40 + Int32.ofInt 1))), (0, .ref 3), (1, .ref a)]) (st' := []) rfl ?_
                      refine En_lv1 (addI rfl (by decide : (Int32.ofInt 1).toInt = 1) (by omega) (by omega)) (fun z511 h512 => ?_)
                      refine En_Ps 1 (pc' := 25) (lv' := [(2, .int z511), (0, .ref 3), (1, .ref a)]) (st' := []) rfl ?_
                      refine En_lv (lv := [(0, .ref 3), (1, .ref a), (2, .int z511)]) ⟨rfl, rfl, rfl, trivial⟩ ?_
                      exact ih25 σ505 z511 z499 z503 y43 h506 h507 ((h509 _ _ (Or.inr (by decide))).trans h500) h508 ((h509 _ _ (Or.inr (by decide))).trans ((h497 _ _ (inW ha (by decide +kernel))).trans ((h482 _ _ (inW ha (by decide +kernel))).trans ((h96 _ _ (inW ha (by decide +kernel))).trans ((h86 _ _ (inW ha (by decide +kernel))).trans ((h76 _ _ (inW ha (by decide +kernel))).trans h49)))))) (by omega) (by omega) (by omega) (by omega) (by omega) (by omega) (by omega) (by omega) (by omega) (by omega) (by omega) (by omega) (by omega) (h510)
                    · refine En_Ps 2 (pc' := 213) (lv' := [(0, .ref 3), (1, .ref a), (2, .int y40)]) (st' := [.int ((Int32.ofInt 1)), .ref 3]) rfl ?_
                      have := (by decide : ((Int32.ofInt 1)).toInt = 1)
                      refine En_callV rfl rfl rfl rfl rfl rfl rfl rfl (by decide +kernel : TG 3 = 3) (by decide +kernel) rfl (c_59 σ480 h481 ((Int32.ofInt 1)) (geI (by decide : (Int32.ofInt 1).toInt = 1) (by omega)) (leI (by decide : (Int32.ofInt 1).toInt = 1) (by omega)) z484 h485) (by decide) (by decide) (fun v514 σ515 h513 => ?_)
                      obtain ⟨h516, h517, z519, h520, rfl, h518⟩ := h513
                      have h521 := Fr_trans h486 h517 (by decide +kernel)
                      have h522 := OTH_fr h487 h517 (by decide +kernel)
                      refine En_Ps 2 (pc' := 218) (lv' := [(0, .ref 3), (1, .ref a), (2, .int y40)]) (st' := [.ref a, .ref a]) rfl ?_
                      refine En_getK (j := 0) ((h517 _ _ (inW ha (by decide +kernel))).trans ((h482 _ _ (inW ha (by decide +kernel))).trans ((h96 _ _ (inW ha (by decide +kernel))).trans ((h86 _ _ (inW ha (by decide +kernel))).trans ((h76 _ _ (inW ha (by decide +kernel))).trans h48))))) rfl rfl rfl ha (by decide +kernel) ?_
                      refine En_Ps 2 (pc' := 223) (lv' := [(0, .ref 3), (1, .ref a), (2, .int y40)]) (st' := [.int ((y42 + ((Int32.ofInt 1)))), .ref a]) rfl ?_
                      refine En_top (addI rfl (by decide : (Int32.ofInt 1).toInt = 1) (by omega) (by omega)) (fun z523 h524 => ?_)
                      refine En_put (j := 0) rfl rfl rfl ha (by decide +kernel) rfl (vI (l := 0) (u := 1601) (by decide +kernel) rfl (by omega) (by omega)) h516 h521 (by decide +kernel) (fun σ525 h526 h527 h528 h529 => ?_)
                      have h530 := OTH_pj h522 h529 (by decide)
                      refine En_Ps 1 (pc' := 229) (lv' := [(2, .int ((y40 + Int32.ofInt 1))), (0, .ref 3), (1, .ref a)]) (st' := []) rfl ?_
                      refine En_lv1 (addI rfl (by decide : (Int32.ofInt 1).toInt = 1) (by omega) (by omega)) (fun z531 h532 => ?_)
                      refine En_Ps 1 (pc' := 25) (lv' := [(2, .int z531), (0, .ref 3), (1, .ref a)]) (st' := []) rfl ?_
                      refine En_lv (lv := [(0, .ref 3), (1, .ref a), (2, .int z531)]) ⟨rfl, rfl, rfl, trivial⟩ ?_
                      exact ih25 σ525 z531 z519 z523 y43 h526 h527 ((h529 _ _ (Or.inr (by decide))).trans h520) h528 ((h529 _ _ (Or.inr (by decide))).trans ((h517 _ _ (inW ha (by decide +kernel))).trans ((h482 _ _ (inW ha (by decide +kernel))).trans ((h96 _ _ (inW ha (by decide +kernel))).trans ((h86 _ _ (inW ha (by decide +kernel))).trans ((h76 _ _ (inW ha (by decide +kernel))).trans h49)))))) (by omega) (by omega) (by omega) (by omega) (by omega) (by omega) (by omega) (by omega) (by omega) (by omega) (by omega) (by omega) (by omega) (h530)
                · refine En_Ps 2 (pc' := 86) (lv' := [(0, .ref 3), (1, .ref a), (2, .int y40)]) (st' := [.ref a, .ref 3]) rfl ?_
                  refine En_callV rfl rfl rfl rfl rfl rfl rfl rfl (by decide +kernel : TG 3 = 3) (by decide +kernel) rfl (c_67 σ84 h85 a ha y41 ((h86 _ _ (inW (by decide +kernel : TG 3 = 3) (by decide +kernel))).trans ((h76 _ _ (inW (by decide +kernel : TG 3 = 3) (by decide +kernel))).trans h47)) y43 ((h86 _ _ (inW ha (by decide +kernel))).trans ((h76 _ _ (inW ha (by decide +kernel))).trans h49)) (by omega)) (by decide) (by decide) (fun v534 σ535 h533 => ?_)
                  obtain ⟨h536, h537, z539, h540, rfl, h538⟩ := h533
                  have h541 := Fr_trans h89 h537 (by decide +kernel)
                  have h542 := OTH_fr h90 h537 (by decide +kernel)
                  refine En_Ps 3 (pc' := 201) (lv' := [(0, .ref 3), (1, .ref a), (2, .int y40)]) (st' := [.ref 3, .ref 3]) rfl ?_
                  refine En_getI (j := 1) (l := 0) (u := 4) rfl rfl rfl (by decide +kernel : TG 3 = 3) (by decide +kernel) h536 (by decide +kernel) (fun z544 h543 h545 h546 => ?_)
                  refine En_Ps 1 (pc' := 205) (lv' := [(0, .ref 3), (1, .ref a), (2, .int y40)]) (st' := [.int ((Int32.ofInt 3)), .int z544, .ref 3]) rfl ?_
                  refine En_icNe _ rfl (by decide : (Int32.ofInt 3).toInt = 3) rfl (fun h547 => ?_) (fun h547 => ?_)
                  · refine En_Ps 1 (pc' := 213) (lv' := [(0, .ref 3), (1, .ref a), (2, .int y40)]) (st' := [.int ((Int32.ofInt 0)), .ref 3]) rfl ?_
                    have := (by decide : ((Int32.ofInt 0)).toInt = 0)
                    refine En_callV rfl rfl rfl rfl rfl rfl rfl rfl (by decide +kernel : TG 3 = 3) (by decide +kernel) rfl (c_59 σ535 h536 ((Int32.ofInt 0)) (geI (by decide : (Int32.ofInt 0).toInt = 0) (by omega)) (leI (by decide : (Int32.ofInt 0).toInt = 0) (by omega)) z539 h540) (by decide) (by decide) (fun v549 σ550 h548 => ?_)
                    obtain ⟨h551, h552, z554, h555, rfl, h553⟩ := h548
                    have h556 := Fr_trans h541 h552 (by decide +kernel)
                    have h557 := OTH_fr h542 h552 (by decide +kernel)
                    refine En_Ps 2 (pc' := 218) (lv' := [(0, .ref 3), (1, .ref a), (2, .int y40)]) (st' := [.ref a, .ref a]) rfl ?_
                    refine En_getK (j := 0) ((h552 _ _ (inW ha (by decide +kernel))).trans ((h537 _ _ (inW ha (by decide +kernel))).trans ((h86 _ _ (inW ha (by decide +kernel))).trans ((h76 _ _ (inW ha (by decide +kernel))).trans h48)))) rfl rfl rfl ha (by decide +kernel) ?_
                    refine En_Ps 2 (pc' := 223) (lv' := [(0, .ref 3), (1, .ref a), (2, .int y40)]) (st' := [.int ((y42 + ((Int32.ofInt 1)))), .ref a]) rfl ?_
                    refine En_top (addI rfl (by decide : (Int32.ofInt 1).toInt = 1) (by omega) (by omega)) (fun z558 h559 => ?_)
                    refine En_put (j := 0) rfl rfl rfl ha (by decide +kernel) rfl (vI (l := 0) (u := 1601) (by decide +kernel) rfl (by omega) (by omega)) h551 h556 (by decide +kernel) (fun σ560 h561 h562 h563 h564 => ?_)
                    have h565 := OTH_pj h557 h564 (by decide)
                    refine En_Ps 1 (pc' := 229) (lv' := [(2, .int ((y40 + Int32.ofInt 1))), (0, .ref 3), (1, .ref a)]) (st' := []) rfl ?_
                    refine En_lv1 (addI rfl (by decide : (Int32.ofInt 1).toInt = 1) (by omega) (by omega)) (fun z566 h567 => ?_)
                    refine En_Ps 1 (pc' := 25) (lv' := [(2, .int z566), (0, .ref 3), (1, .ref a)]) (st' := []) rfl ?_
                    refine En_lv (lv := [(0, .ref 3), (1, .ref a), (2, .int z566)]) ⟨rfl, rfl, rfl, trivial⟩ ?_
                    exact ih25 σ560 z566 z554 z558 y43 h561 h562 ((h564 _ _ (Or.inr (by decide))).trans h555) h563 ((h564 _ _ (Or.inr (by decide))).trans ((h552 _ _ (inW ha (by decide +kernel))).trans ((h537 _ _ (inW ha (by decide +kernel))).trans ((h86 _ _ (inW ha (by decide +kernel))).trans ((h76 _ _ (inW ha (by decide +kernel))).trans h49))))) (by omega) (by omega) (by omega) (by omega) (by omega) (by omega) (by omega) (by omega) (by omega) (by omega) (by omega) (by omega) (by omega) (h565)
                  · refine En_Ps 2 (pc' := 213) (lv' := [(0, .ref 3), (1, .ref a), (2, .int y40)]) (st' := [.int ((Int32.ofInt 1)), .ref 3]) rfl ?_
                    have := (by decide : ((Int32.ofInt 1)).toInt = 1)
                    refine En_callV rfl rfl rfl rfl rfl rfl rfl rfl (by decide +kernel : TG 3 = 3) (by decide +kernel) rfl (c_59 σ535 h536 ((Int32.ofInt 1)) (geI (by decide : (Int32.ofInt 1).toInt = 1) (by omega)) (leI (by decide : (Int32.ofInt 1).toInt = 1) (by omega)) z539 h540) (by decide) (by decide) (fun v569 σ570 h568 => ?_)
                    obtain ⟨h571, h572, z574, h575, rfl, h573⟩ := h568
                    have h576 := Fr_trans h541 h572 (by decide +kernel)
                    have h577 := OTH_fr h542 h572 (by decide +kernel)
                    refine En_Ps 2 (pc' := 218) (lv' := [(0, .ref 3), (1, .ref a), (2, .int y40)]) (st' := [.ref a, .ref a]) rfl ?_
                    refine En_getK (j := 0) ((h572 _ _ (inW ha (by decide +kernel))).trans ((h537 _ _ (inW ha (by decide +kernel))).trans ((h86 _ _ (inW ha (by decide +kernel))).trans ((h76 _ _ (inW ha (by decide +kernel))).trans h48)))) rfl rfl rfl ha (by decide +kernel) ?_
                    refine En_Ps 2 (pc' := 223) (lv' := [(0, .ref 3), (1, .ref a), (2, .int y40)]) (st' := [.int ((y42 + ((Int32.ofInt 1)))), .ref a]) rfl ?_
                    refine En_top (addI rfl (by decide : (Int32.ofInt 1).toInt = 1) (by omega) (by omega)) (fun z578 h579 => ?_)
                    refine En_put (j := 0) rfl rfl rfl ha (by decide +kernel) rfl (vI (l := 0) (u := 1601) (by decide +kernel) rfl (by omega) (by omega)) h571 h576 (by decide +kernel) (fun σ580 h581 h582 h583 h584 => ?_)
                    have h585 := OTH_pj h577 h584 (by decide)
                    refine En_Ps 1 (pc' := 229) (lv' := [(2, .int ((y40 + Int32.ofInt 1))), (0, .ref 3), (1, .ref a)]) (st' := []) rfl ?_
                    refine En_lv1 (addI rfl (by decide : (Int32.ofInt 1).toInt = 1) (by omega) (by omega)) (fun z586 h587 => ?_)
                    refine En_Ps 1 (pc' := 25) (lv' := [(2, .int z586), (0, .ref 3), (1, .ref a)]) (st' := []) rfl ?_
                    refine En_lv (lv := [(0, .ref 3), (1, .ref a), (2, .int z586)]) ⟨rfl, rfl, rfl, trivial⟩ ?_
                    exact ih25 σ580 z586 z574 z578 y43 h581 h582 ((h584 _ _ (Or.inr (by decide))).trans h575) h583 ((h584 _ _ (Or.inr (by decide))).trans ((h572 _ _ (inW ha (by decide +kernel))).trans ((h537 _ _ (inW ha (by decide +kernel))).trans ((h86 _ _ (inW ha (by decide +kernel))).trans ((h76 _ _ (inW ha (by decide +kernel))).trans h49))))) (by omega) (by omega) (by omega) (by omega) (by omega) (by omega) (by omega) (by omega) (by omega) (by omega) (by omega) (by omega) (by omega) (h585)
              · refine En_Ps 2 (pc' := 69) (lv' := [(0, .ref 3), (1, .ref a), (2, .int y40)]) (st' := [.ref a, .ref 3]) rfl ?_
                refine En_callV rfl rfl rfl rfl rfl rfl rfl rfl (by decide +kernel : TG 3 = 3) (by decide +kernel) rfl (c_63 σ74 h75 a ha y41 ((h76 _ _ (inW (by decide +kernel : TG 3 = 3) (by decide +kernel))).trans h47) y43 ((h76 _ _ (inW ha (by decide +kernel))).trans h49) (by omega)) (by decide) (by decide) (fun v589 σ590 h588 => ?_)
                obtain ⟨h591, h592, z594, h595, rfl, h593⟩ := h588
                have h596 := Fr_trans h79 h592 (by decide +kernel)
                have h597 := OTH_fr h80 h592 (by decide +kernel)
                refine En_Ps 3 (pc' := 201) (lv' := [(0, .ref 3), (1, .ref a), (2, .int y40)]) (st' := [.ref 3, .ref 3]) rfl ?_
                refine En_getI (j := 1) (l := 0) (u := 4) rfl rfl rfl (by decide +kernel : TG 3 = 3) (by decide +kernel) h591 (by decide +kernel) (fun z599 h598 h600 h601 => ?_)
                refine En_Ps 1 (pc' := 205) (lv' := [(0, .ref 3), (1, .ref a), (2, .int y40)]) (st' := [.int ((Int32.ofInt 3)), .int z599, .ref 3]) rfl ?_
                refine En_icNe _ rfl (by decide : (Int32.ofInt 3).toInt = 3) rfl (fun h602 => ?_) (fun h602 => ?_)
                · refine En_Ps 1 (pc' := 213) (lv' := [(0, .ref 3), (1, .ref a), (2, .int y40)]) (st' := [.int ((Int32.ofInt 0)), .ref 3]) rfl ?_
                  have := (by decide : ((Int32.ofInt 0)).toInt = 0)
                  refine En_callV rfl rfl rfl rfl rfl rfl rfl rfl (by decide +kernel : TG 3 = 3) (by decide +kernel) rfl (c_59 σ590 h591 ((Int32.ofInt 0)) (geI (by decide : (Int32.ofInt 0).toInt = 0) (by omega)) (leI (by decide : (Int32.ofInt 0).toInt = 0) (by omega)) z594 h595) (by decide) (by decide) (fun v604 σ605 h603 => ?_)
                  obtain ⟨h606, h607, z609, h610, rfl, h608⟩ := h603
                  have h611 := Fr_trans h596 h607 (by decide +kernel)
                  have h612 := OTH_fr h597 h607 (by decide +kernel)
                  refine En_Ps 2 (pc' := 218) (lv' := [(0, .ref 3), (1, .ref a), (2, .int y40)]) (st' := [.ref a, .ref a]) rfl ?_
                  refine En_getK (j := 0) ((h607 _ _ (inW ha (by decide +kernel))).trans ((h592 _ _ (inW ha (by decide +kernel))).trans ((h76 _ _ (inW ha (by decide +kernel))).trans h48))) rfl rfl rfl ha (by decide +kernel) ?_
                  refine En_Ps 2 (pc' := 223) (lv' := [(0, .ref 3), (1, .ref a), (2, .int y40)]) (st' := [.int ((y42 + ((Int32.ofInt 1)))), .ref a]) rfl ?_
                  refine En_top (addI rfl (by decide : (Int32.ofInt 1).toInt = 1) (by omega) (by omega)) (fun z613 h614 => ?_)
                  refine En_put (j := 0) rfl rfl rfl ha (by decide +kernel) rfl (vI (l := 0) (u := 1601) (by decide +kernel) rfl (by omega) (by omega)) h606 h611 (by decide +kernel) (fun σ615 h616 h617 h618 h619 => ?_)
                  have h620 := OTH_pj h612 h619 (by decide)
                  refine En_Ps 1 (pc' := 229) (lv' := [(2, .int ((y40 + Int32.ofInt 1))), (0, .ref 3), (1, .ref a)]) (st' := []) rfl ?_
                  refine En_lv1 (addI rfl (by decide : (Int32.ofInt 1).toInt = 1) (by omega) (by omega)) (fun z621 h622 => ?_)
                  refine En_Ps 1 (pc' := 25) (lv' := [(2, .int z621), (0, .ref 3), (1, .ref a)]) (st' := []) rfl ?_
                  refine En_lv (lv := [(0, .ref 3), (1, .ref a), (2, .int z621)]) ⟨rfl, rfl, rfl, trivial⟩ ?_
                  exact ih25 σ615 z621 z609 z613 y43 h616 h617 ((h619 _ _ (Or.inr (by decide))).trans h610) h618 ((h619 _ _ (Or.inr (by decide))).trans ((h607 _ _ (inW ha (by decide +kernel))).trans ((h592 _ _ (inW ha (by decide +kernel))).trans ((h76 _ _ (inW ha (by decide +kernel))).trans h49)))) (by omega) (by omega) (by omega) (by omega) (by omega) (by omega) (by omega) (by omega) (by omega) (by omega) (by omega) (by omega) (by omega) (h620)
                · refine En_Ps 2 (pc' := 213) (lv' := [(0, .ref 3), (1, .ref a), (2, .int y40)]) (st' := [.int ((Int32.ofInt 1)), .ref 3]) rfl ?_
                  have := (by decide : ((Int32.ofInt 1)).toInt = 1)
                  refine En_callV rfl rfl rfl rfl rfl rfl rfl rfl (by decide +kernel : TG 3 = 3) (by decide +kernel) rfl (c_59 σ590 h591 ((Int32.ofInt 1)) (geI (by decide : (Int32.ofInt 1).toInt = 1) (by omega)) (leI (by decide : (Int32.ofInt 1).toInt = 1) (by omega)) z594 h595) (by decide) (by decide) (fun v624 σ625 h623 => ?_)
                  obtain ⟨h626, h627, z629, h630, rfl, h628⟩ := h623
                  have h631 := Fr_trans h596 h627 (by decide +kernel)
                  have h632 := OTH_fr h597 h627 (by decide +kernel)
                  refine En_Ps 2 (pc' := 218) (lv' := [(0, .ref 3), (1, .ref a), (2, .int y40)]) (st' := [.ref a, .ref a]) rfl ?_
                  refine En_getK (j := 0) ((h627 _ _ (inW ha (by decide +kernel))).trans ((h592 _ _ (inW ha (by decide +kernel))).trans ((h76 _ _ (inW ha (by decide +kernel))).trans h48))) rfl rfl rfl ha (by decide +kernel) ?_
                  refine En_Ps 2 (pc' := 223) (lv' := [(0, .ref 3), (1, .ref a), (2, .int y40)]) (st' := [.int ((y42 + ((Int32.ofInt 1)))), .ref a]) rfl ?_
                  refine En_top (addI rfl (by decide : (Int32.ofInt 1).toInt = 1) (by omega) (by omega)) (fun z633 h634 => ?_)
                  refine En_put (j := 0) rfl rfl rfl ha (by decide +kernel) rfl (vI (l := 0) (u := 1601) (by decide +kernel) rfl (by omega) (by omega)) h626 h631 (by decide +kernel) (fun σ635 h636 h637 h638 h639 => ?_)
                  have h640 := OTH_pj h632 h639 (by decide)
                  refine En_Ps 1 (pc' := 229) (lv' := [(2, .int ((y40 + Int32.ofInt 1))), (0, .ref 3), (1, .ref a)]) (st' := []) rfl ?_
                  refine En_lv1 (addI rfl (by decide : (Int32.ofInt 1).toInt = 1) (by omega) (by omega)) (fun z641 h642 => ?_)
                  refine En_Ps 1 (pc' := 25) (lv' := [(2, .int z641), (0, .ref 3), (1, .ref a)]) (st' := []) rfl ?_
                  refine En_lv (lv := [(0, .ref 3), (1, .ref a), (2, .int z641)]) ⟨rfl, rfl, rfl, trivial⟩ ?_
                  exact ih25 σ635 z641 z629 z633 y43 h636 h637 ((h639 _ _ (Or.inr (by decide))).trans h630) h638 ((h639 _ _ (Or.inr (by decide))).trans ((h627 _ _ (inW ha (by decide +kernel))).trans ((h592 _ _ (inW ha (by decide +kernel))).trans ((h76 _ _ (inW ha (by decide +kernel))).trans h49)))) (by omega) (by omega) (by omega) (by omega) (by omega) (by omega) (by omega) (by omega) (by omega) (by omega) (by omega) (by omega) (by omega) (h640)
            · refine En_Ps 2 (pc' := 52) (lv' := [(0, .ref 3), (1, .ref a), (2, .int y40)]) (st' := [.ref a, .ref 3]) rfl ?_
              refine En_callV rfl rfl rfl rfl rfl rfl rfl rfl (by decide +kernel : TG 3 = 3) (by decide +kernel) rfl (c_65x σ44 h45 a ha y41 h47) (by decide) (by decide) (fun v644 σ645 h643 => ?_)
              obtain ⟨h646, h647, z649, h650, z651, h652, rfl, h648⟩ := h643
              have h653 := h648.2.2.2.2.2.2.2.2.2.2
              have h654 := Fr_trans h46 h647 (by decide +kernel)
              have h655 := OTH_tr h63 h653
              refine En_Ps 3 (pc' := 201) (lv' := [(0, .ref 3), (1, .ref a), (2, .int y40)]) (st' := [.ref 3, .ref 3]) rfl ?_
              refine En_getI (j := 1) (l := 0) (u := 4) rfl rfl rfl (by decide +kernel : TG 3 = 3) (by decide +kernel) h646 (by decide +kernel) (fun z657 h656 h658 h659 => ?_)
              refine En_Ps 1 (pc' := 205) (lv' := [(0, .ref 3), (1, .ref a), (2, .int y40)]) (st' := [.int ((Int32.ofInt 3)), .int z657, .ref 3]) rfl ?_
              refine En_icNe _ rfl (by decide : (Int32.ofInt 3).toInt = 3) rfl (fun h660 => ?_) (fun h660 => ?_)
              · refine En_Ps 1 (pc' := 213) (lv' := [(0, .ref 3), (1, .ref a), (2, .int y40)]) (st' := [.int ((Int32.ofInt 0)), .ref 3]) rfl ?_
                have := (by decide : ((Int32.ofInt 0)).toInt = 0)
                refine En_callV rfl rfl rfl rfl rfl rfl rfl rfl (by decide +kernel : TG 3 = 3) (by decide +kernel) rfl (c_59 σ645 h646 ((Int32.ofInt 0)) (geI (by decide : (Int32.ofInt 0).toInt = 0) (by omega)) (leI (by decide : (Int32.ofInt 0).toInt = 0) (by omega)) z649 h650) (by decide) (by decide) (fun v662 σ663 h661 => ?_)
                obtain ⟨h664, h665, z667, h668, rfl, h666⟩ := h661
                have h669 := Fr_trans h654 h665 (by decide +kernel)
                have h670 := OTH_fr h655 h665 (by decide +kernel)
                refine En_Ps 2 (pc' := 218) (lv' := [(0, .ref 3), (1, .ref a), (2, .int y40)]) (st' := [.ref a, .ref a]) rfl ?_
                refine En_getK (j := 0) ((h665 _ _ (inW ha (by decide +kernel))).trans ((h647 _ _ (inW ha (by decide +kernel))).trans h48)) rfl rfl rfl ha (by decide +kernel) ?_
                refine En_Ps 2 (pc' := 223) (lv' := [(0, .ref 3), (1, .ref a), (2, .int y40)]) (st' := [.int ((y42 + ((Int32.ofInt 1)))), .ref a]) rfl ?_
                refine En_top (addI rfl (by decide : (Int32.ofInt 1).toInt = 1) (by omega) (by omega)) (fun z671 h672 => ?_)
                refine En_put (j := 0) rfl rfl rfl ha (by decide +kernel) rfl (vI (l := 0) (u := 1601) (by decide +kernel) rfl (by omega) (by omega)) h664 h669 (by decide +kernel) (fun σ673 h674 h675 h676 h677 => ?_)
                have h678 := OTH_pj h670 h677 (by decide)
                refine En_Ps 1 (pc' := 229) (lv' := [(2, .int ((y40 + Int32.ofInt 1))), (0, .ref 3), (1, .ref a)]) (st' := []) rfl ?_
                refine En_lv1 (addI rfl (by decide : (Int32.ofInt 1).toInt = 1) (by omega) (by omega)) (fun z679 h680 => ?_)
                refine En_Ps 1 (pc' := 25) (lv' := [(2, .int z679), (0, .ref 3), (1, .ref a)]) (st' := []) rfl ?_
                refine En_lv (lv := [(0, .ref 3), (1, .ref a), (2, .int z679)]) ⟨rfl, rfl, rfl, trivial⟩ ?_
                exact ih25 σ673 z679 z667 z671 z651 h674 h675 ((h677 _ _ (Or.inr (by decide))).trans h668) h676 ((h677 _ _ (Or.inr (by decide))).trans ((h665 _ _ (inW ha (by decide +kernel))).trans h652)) (by omega) (by omega) (by omega) (by omega) (by omega) (by omega) (by omega) (by omega) (by omega) (by omega) (by omega) (by omega) (by omega) (h678)
              · refine En_Ps 2 (pc' := 213) (lv' := [(0, .ref 3), (1, .ref a), (2, .int y40)]) (st' := [.int ((Int32.ofInt 1)), .ref 3]) rfl ?_
                have := (by decide : ((Int32.ofInt 1)).toInt = 1)
                refine En_callV rfl rfl rfl rfl rfl rfl rfl rfl (by decide +kernel : TG 3 = 3) (by decide +kernel) rfl (c_59 σ645 h646 ((Int32.ofInt 1)) (geI (by decide : (Int32.ofInt 1).toInt = 1) (by omega)) (leI (by decide : (Int32.ofInt 1).toInt = 1) (by omega)) z649 h650) (by decide) (by decide) (fun v682 σ683 h681 => ?_)
                obtain ⟨h684, h685, z687, h688, rfl, h686⟩ := h681
                have h689 := Fr_trans h654 h685 (by decide +kernel)
                have h690 := OTH_fr h655 h685 (by decide +kernel)
                refine En_Ps 2 (pc' := 218) (lv' := [(0, .ref 3), (1, .ref a), (2, .int y40)]) (st' := [.ref a, .ref a]) rfl ?_
                refine En_getK (j := 0) ((h685 _ _ (inW ha (by decide +kernel))).trans ((h647 _ _ (inW ha (by decide +kernel))).trans h48)) rfl rfl rfl ha (by decide +kernel) ?_
                refine En_Ps 2 (pc' := 223) (lv' := [(0, .ref 3), (1, .ref a), (2, .int y40)]) (st' := [.int ((y42 + ((Int32.ofInt 1)))), .ref a]) rfl ?_
                refine En_top (addI rfl (by decide : (Int32.ofInt 1).toInt = 1) (by omega) (by omega)) (fun z691 h692 => ?_)
                refine En_put (j := 0) rfl rfl rfl ha (by decide +kernel) rfl (vI (l := 0) (u := 1601) (by decide +kernel) rfl (by omega) (by omega)) h684 h689 (by decide +kernel) (fun σ693 h694 h695 h696 h697 => ?_)
                have h698 := OTH_pj h690 h697 (by decide)
                refine En_Ps 1 (pc' := 229) (lv' := [(2, .int ((y40 + Int32.ofInt 1))), (0, .ref 3), (1, .ref a)]) (st' := []) rfl ?_
                refine En_lv1 (addI rfl (by decide : (Int32.ofInt 1).toInt = 1) (by omega) (by omega)) (fun z699 h700 => ?_)
                refine En_Ps 1 (pc' := 25) (lv' := [(2, .int z699), (0, .ref 3), (1, .ref a)]) (st' := []) rfl ?_
                refine En_lv (lv := [(0, .ref 3), (1, .ref a), (2, .int z699)]) ⟨rfl, rfl, rfl, trivial⟩ ?_
                exact ih25 σ693 z699 z687 z691 z651 h694 h695 ((h697 _ _ (Or.inr (by decide))).trans h688) h696 ((h697 _ _ (Or.inr (by decide))).trans ((h685 _ _ (inW ha (by decide +kernel))).trans h652)) (by omega) (by omega) (by omega) (by omega) (by omega) (by omega) (by omega) (by omega) (by omega) (by omega) (by omega) (by omega) (by omega) (h698)
  have := (by decide : (Int32.ofInt 0).toInt = 0)
  have := (by decide : (Int32.ofInt 0).toInt = 0)
  refine En_lv (lv := [(0, .ref 3), (1, .ref a), (2, .int ((Int32.ofInt 0)))]) ⟨rfl, rfl, rfl, trivial⟩ ?_
  exact key25 (Int.toNat (1601) + 1) σ34 ((Int32.ofInt 0)) ((Int32.ofInt 0)) z25 z27 h35 h38 ((h36 _ _ (inW (by decide +kernel : TG 3 = 3) (by decide +kernel))).trans ((h23 _ _ (inW (by decide +kernel : TG 3 = 3) (by decide +kernel))).trans ((h17 _ _ (Or.inr (by decide))).trans ((h11 _ _ (Or.inr (by decide))).trans h4)))) ((h36 _ _ (inW ha (by decide +kernel))).trans h26) ((h36 _ _ (inW ha (by decide +kernel))).trans h28) (by omega) (by omega) (by omega) (by omega) (by omega) (by omega) (by omega) (by omega) (by omega) (by omega) (by omega) (by omega) (by omega) (h39)
/-- DoorSchool.back(I)I -/
abbrev P_105x (σ0 : SG) (a : Int32) (p : Nat) (sg : Int32) (p2 : Nat) : PO := fun v σ => WT σ ∧ Fr [(4, 0), (4, 1), (5, 0), (6, 0), (7, 0), (18, 0), (18, 1), (18, 2), (18, 3), (18, 6), (18, 7), (18, 8), (18, 11), (18, 14), (20, 2), (21, 0), (22, 0), (23, 0), (24, 0), (25, 0), (26, 0), (27, 0), (28, 1), (28, 2), (28, 3)] σ0 σ ∧ ∃ ret : Int32, v = some (.int ret) ∧ -ret.toInt - 6 ≤ 0 ∧ ret.toInt ≤ 0 ∧ (INVc σ ∧ BCK (ci σ0 71 a.toInt) a.toInt ret.toInt)
set_option maxRecDepth 10000 in
set_option maxHeartbeats 4000000 in
theorem c_105x (σ0 : SG) (hσ0 : WT σ0) (a : Int32) (p : Nat) (hp : TG p = 18) (h_p : (σ0 0)[9]? = some (.ref p)) (sg : Int32) (h_sg : (σ0 p)[1]? = some (.int sg)) (p2 : Nat) (hp2 : TG p2 = 18) (h_p2 : (σ0 0)[10]? = some (.ref p2)) (hp0 : -sg.toInt ≤ 0) (hne : p ≠ p2) : En 4 124 none mr_105 (P_105x σ0 a p sg p2) 0 [(0, .ref 0), (1, .int a)] [] σ0 := by
  obtain ⟨hl_sg, hu_sg⟩ := WT_int hσ0 (g := 18) hp (by decide +kernel) (l := (-1)) (u := 4) (by decide +kernel) h_sg
  have hF0 : Fr [(4, 0), (4, 1), (5, 0), (6, 0), (7, 0), (18, 0), (18, 1), (18, 2), (18, 3), (18, 6), (18, 7), (18, 8), (18, 11), (18, 14), (20, 2), (21, 0), (22, 0), (23, 0), (24, 0), (25, 0), (26, 0), (27, 0), (28, 1), (28, 2), (28, 3)] σ0 σ0 := Fr_rfl
  refine En_Ps 1 (pc' := 1) (lv' := [(0, .ref 0), (1, .int a)]) (st' := [.int a]) rfl ?_
  refine En_iLt _ rfl rfl (fun h1 => ?_) (fun h1 => ?_)
  · refine En_Ps 1 (pc' := 11) (lv' := [(0, .ref 0), (1, .int a)]) (st' := [.int (((Int8.ofInt (-2)).toInt32))]) rfl ?_
    refine En_top (by decide : ((Int8.ofInt (-2)).toInt32).toInt = -2) (fun z2 h3 => ?_)
    exact En_ret (v := some (.int z2)) rfl rfl rfl ⟨hσ0, hF0, z2, rfl, ⟨by omega, by omega, ⟨⟨p, p2, sg, hp, hp2, h_p, h_p2, hne, h_sg, (by omega)⟩, BCK_2 (by omega) (by omega)⟩⟩⟩
  · refine En_Ps 2 (pc' := 6) (lv' := [(0, .ref 0), (1, .int a)]) (st' := [.int ((Int32.ofInt 3)), .int a]) rfl ?_
    refine En_icLt _ rfl (by decide : (Int32.ofInt 3).toInt = 3) rfl (fun h4 => ?_) (fun h4 => ?_)
    · refine En_Ps 1 (pc' := 13) (lv' := [(0, .ref 0), (1, .int a)]) (st' := [.ref 0]) rfl ?_
      refine En_getU (j := 8) (u := 71) (g' := 30) (q := 0) rfl rfl rfl (by decide +kernel : TG 0 = 0) (by decide +kernel) hσ0 (by decide +kernel) (by decide +kernel) (fun h5 => ?_)
      refine En_Ps 1 (pc' := 17) (lv' := [(0, .ref 0), (1, .int a)]) (st' := [.int a, .ref 71]) rfl ?_
      refine En_bald (l := 0) (u := 1) rfl rfl (by decide +kernel : TG 71 = 30) (by decide +kernel) hσ0 (by omega) (lnI (by decide +kernel : LN _ = 3) (by omega)) (FTsgl (by decide +kernel)) (fun z8 h7 h9 h10 => ?_)
      have h11 := ci_at h7 (rfl : a.toInt = a.toInt)
      refine En_iNe _ rfl rfl (fun h12 => ?_) (fun h12 => ?_)
      · refine En_Ps 1 (pc' := 25) (lv' := [(0, .ref 0), (1, .int a)]) (st' := [.ref 0]) rfl ?_
        refine En_getK (j := 9) h_p rfl rfl rfl (by decide +kernel : TG 0 = 0) (by decide +kernel) ?_
        refine En_Ps 1 (pc' := 29) (lv' := [(0, .ref 0), (1, .int a)]) (st' := [.ref 0, .ref p]) rfl ?_
        refine En_getU (j := 7) (u := 70) (g' := 29) (q := 0) rfl rfl rfl (by decide +kernel : TG 0 = 0) (by decide +kernel) hσ0 (by decide +kernel) (by decide +kernel) (fun h13 => ?_)
        refine En_Ps 1 (pc' := 33) (lv' := [(0, .ref 0), (1, .int a)]) (st' := [.int a, .ref 70, .ref p]) rfl ?_
        refine En_aald (g' := 31) (u := 0) rfl rfl (by decide +kernel : TG 70 = 29) (by decide +kernel) hσ0 (by omega) (lnI (by decide +kernel : LN _ = 3) (by omega)) (FTsgl (by decide +kernel)) (fun a16 h15 ha16 => ?_)
        refine En_callV rfl rfl rfl rfl rfl rfl rfl rfl hp (by decide +kernel) rfl (c_53b σ0 hσ0 p hp a16 ha16) (by decide) (by decide) (fun v18 σ19 h17 => ?_)
        obtain ⟨h20, h21, z23, h24, rfl, h22⟩ := h17
        have h25 := Fr_trans hF0 h21 (by decide +kernel)
        refine En_Ps 1 (pc' := 38) (lv' := [(0, .ref 0), (1, .int a)]) (st' := [.ref 0]) rfl ?_
        refine En_getU (j := 2) (u := 4) (g' := 4) (q := 0) rfl rfl rfl (by decide +kernel : TG 0 = 0) (by decide +kernel) h20 (by decide +kernel) (by decide +kernel) (fun h26 => ?_)
        refine En_Ps 1 (pc' := 42) (lv' := [(0, .ref 0), (1, .int a)]) (st' := [.ref 0, .ref 4]) rfl ?_
        refine En_getK (j := 9) ((h21 _ _ (inW (by decide +kernel : TG 0 = 0) (by decide +kernel))).trans h_p) rfl rfl rfl (by decide +kernel : TG 0 = 0) (by decide +kernel) ?_
        refine En_getK (j := 1) h24 rfl rfl rfl hp (by decide +kernel) ?_
        refine En_callV rfl rfl rfl rfl rfl rfl rfl rfl (by decide +kernel : TG 4 = 4) (by decide +kernel) rfl (c_82 σ19 h20 z23 (geI rfl (by omega)) (leI rfl (by omega))) (by decide) (by decide) (fun v29 σ30 h28 => ?_)
        obtain ⟨h31, h32, rfl, h33⟩ := h28
        have h34 := Fr_trans h25 h32 (by decide +kernel)
        refine En_Ps 1 (pc' := 52) (lv' := [(0, .ref 0), (1, .int a)]) (st' := [.int ((Int32.ofInt 0))]) rfl ?_
        refine En_top (by decide : (Int32.ofInt 0).toInt = 0) (fun z35 h36 => ?_)
        exact En_ret (v := some (.int z35)) rfl rfl rfl ⟨h31, h34, z35, rfl, ⟨by omega, by omega, ⟨⟨p, p2, z23, hp, hp2, ((h32 _ _ (inW (by decide +kernel : TG 0 = 0) (by decide +kernel))).trans ((h21 _ _ (inW (by decide +kernel : TG 0 = 0) (by decide +kernel))).trans h_p)), ((h32 _ _ (inW (by decide +kernel : TG 0 = 0) (by decide +kernel))).trans ((h21 _ _ (inW (by decide +kernel : TG 0 = 0) (by decide +kernel))).trans h_p2)), hne, ((h32 _ _ (inW hp (by decide +kernel))).trans h24), (by omega)⟩, BCK_0 (by omega) (by omega) (by omega) (by omega)⟩⟩⟩
      · refine En_Ps 1 (pc' := 23) (lv' := [(0, .ref 0), (1, .int a)]) (st' := [.int (((Int8.ofInt (-6)).toInt32))]) rfl ?_
        refine En_top (by decide : ((Int8.ofInt (-6)).toInt32).toInt = -6) (fun z37 h38 => ?_)
        exact En_ret (v := some (.int z37)) rfl rfl rfl ⟨hσ0, hF0, z37, rfl, ⟨by omega, by omega, ⟨⟨p, p2, sg, hp, hp2, h_p, h_p2, hne, h_sg, (by omega)⟩, BCK_6 (by omega) (by omega) (by omega) (by omega)⟩⟩⟩
    · refine En_Ps 1 (pc' := 11) (lv' := [(0, .ref 0), (1, .int a)]) (st' := [.int (((Int8.ofInt (-2)).toInt32))]) rfl ?_
      refine En_top (by decide : ((Int8.ofInt (-2)).toInt32).toInt = -2) (fun z39 h40 => ?_)
      exact En_ret (v := some (.int z39)) rfl rfl rfl ⟨hσ0, hF0, z39, rfl, ⟨by omega, by omega, ⟨⟨p, p2, sg, hp, hp2, h_p, h_p2, hne, h_sg, (by omega)⟩, BCK_2 (by omega) (by omega)⟩⟩⟩
/-- DoorSchool.image(I)I -/
abbrev P_142x (σ0 : SG) (a : Int32) (p : Nat) (sg : Int32) : PO := fun v σ => WT σ ∧ Fr [(20, 2), (21, 0), (22, 0), (23, 0), (24, 0), (25, 0), (26, 0), (27, 0), (28, 1), (28, 2), (28, 3), (30, 0), (31, 0), (31, 1), (31, 2), (31, 3), (31, 6), (31, 7), (31, 8), (31, 11), (31, 14)] σ0 σ ∧ ∃ ret : Int32, v = some (.int ret) ∧ -ret.toInt - 2 ≤ 0 ∧ ret.toInt ≤ 0 ∧ (-a.toInt ≤ 0 ∧ a.toInt - 2 ≤ 0 → ret.toInt ≤ 0 ∧ -ret.toInt ≤ 0) ∧ (a.toInt + 1 ≤ 0 → ret.toInt + 2 ≤ 0 ∧ -ret.toInt - 2 ≤ 0) ∧ (-a.toInt + 3 ≤ 0 → ret.toInt + 2 ≤ 0 ∧ -ret.toInt - 2 ≤ 0) ∧ BSET σ0 σ 71 a.toInt
set_option maxRecDepth 10000 in
set_option maxHeartbeats 4000000 in
theorem c_142x (σ0 : SG) (hσ0 : WT σ0) (a : Int32) (p : Nat) (hp : TG p = 18) (h_p : (σ0 0)[9]? = some (.ref p)) (sg : Int32) (h_sg : (σ0 p)[1]? = some (.int sg)) (hp0 : -sg.toInt ≤ 0) : En 4 124 none mr_142 (P_142x σ0 a p sg) 0 [(0, .ref 0), (1, .int a)] [] σ0 := by
  obtain ⟨hl_sg, hu_sg⟩ := WT_int hσ0 (g := 18) hp (by decide +kernel) (l := (-1)) (u := 4) (by decide +kernel) h_sg
  have hF0 : Fr [(20, 2), (21, 0), (22, 0), (23, 0), (24, 0), (25, 0), (26, 0), (27, 0), (28, 1), (28, 2), (28, 3), (30, 0), (31, 0), (31, 1), (31, 2), (31, 3), (31, 6), (31, 7), (31, 8), (31, 11), (31, 14)] σ0 σ0 := Fr_rfl
  refine En_Ps 1 (pc' := 1) (lv' := [(0, .ref 0), (1, .int a)]) (st' := [.int a]) rfl ?_
  refine En_iLt _ rfl rfl (fun h1 => ?_) (fun h1 => ?_)
  · refine En_Ps 1 (pc' := 11) (lv' := [(0, .ref 0), (1, .int a)]) (st' := [.int (((Int8.ofInt (-2)).toInt32))]) rfl ?_
    refine En_top (by decide : ((Int8.ofInt (-2)).toInt32).toInt = -2) (fun z2 h3 => ?_)
    exact En_ret (v := some (.int z2)) rfl rfl rfl ⟨hσ0, hF0, z2, rfl, ⟨by omega, by omega, by omega, by omega, by omega, BSET_no SAMr_0 (by omega)⟩⟩
  · refine En_Ps 2 (pc' := 6) (lv' := [(0, .ref 0), (1, .int a)]) (st' := [.int ((Int32.ofInt 3)), .int a]) rfl ?_
    refine En_icLt _ rfl (by decide : (Int32.ofInt 3).toInt = 3) rfl (fun h4 => ?_) (fun h4 => ?_)
    · refine En_Ps 1 (pc' := 13) (lv' := [(0, .ref 0), (1, .int a)]) (st' := [.ref 0]) rfl ?_
      refine En_getU (j := 7) (u := 70) (g' := 29) (q := 0) rfl rfl rfl (by decide +kernel : TG 0 = 0) (by decide +kernel) hσ0 (by decide +kernel) (by decide +kernel) (fun h5 => ?_)
      refine En_Ps 1 (pc' := 17) (lv' := [(0, .ref 0), (1, .int a)]) (st' := [.int a, .ref 70]) rfl ?_
      refine En_aald (g' := 31) (u := 0) rfl rfl (by decide +kernel : TG 70 = 29) (by decide +kernel) hσ0 (by omega) (lnI (by decide +kernel : LN _ = 3) (by omega)) (FTsgl (by decide +kernel)) (fun a8 h7 ha8 => ?_)
      refine En_Ps 1 (pc' := 19) (lv' := [(0, .ref 0), (1, .int a)]) (st' := [.ref 0, .ref a8]) rfl ?_
      refine En_getK (j := 9) h_p rfl rfl rfl (by decide +kernel : TG 0 = 0) (by decide +kernel) ?_
      refine En_callV rfl rfl rfl rfl rfl rfl rfl rfl ha8 (by decide +kernel) rfl (c_53a σ0 hσ0 a8 ha8 p hp sg h_sg (by omega)) (by decide) (by decide) (fun v10 σ11 h9 => ?_)
      obtain ⟨h12, h13, rfl, h14⟩ := h9
      have h15 := Fr_trans hF0 h13 (by decide +kernel)
      have h16 := SAMr_fr (SAMr_0 (σ := σ0) (r := 71)) h13 (by decide +kernel : TG 71 = 30) (by decide +kernel)
      refine En_Ps 1 (pc' := 26) (lv' := [(0, .ref 0), (1, .int a)]) (st' := [.ref 0]) rfl ?_
      refine En_getU (j := 8) (u := 71) (g' := 30) (q := 0) rfl rfl rfl (by decide +kernel : TG 0 = 0) (by decide +kernel) h12 (by decide +kernel) (by decide +kernel) (fun h17 => ?_)
      refine En_Ps 2 (pc' := 31) (lv' := [(0, .ref 0), (1, .int a)]) (st' := [.int ((Int32.ofInt 1)), .int a, .ref 71]) rfl ?_
      refine En_bast (l := 0) (u := 1) rfl rfl (by decide +kernel : TG 71 = 30) (by decide +kernel) (narZ (by decide : (Int32.ofInt 1).toInt = 1) (by omega) (by omega)) (by omega) (lnI (by decide +kernel : LN _ = 3) (by omega)) (FTsgl (by decide +kernel)) (rngI (by decide : (Int32.ofInt 1).toInt = 1) (by omega) (by omega)) h12 h15 (by decide +kernel) (fun σ19 h20 h21 h22 h23 => ?_)
      refine En_Ps 1 (pc' := 33) (lv' := [(0, .ref 0), (1, .int a)]) (st' := [.int ((Int32.ofInt 0))]) rfl ?_
      refine En_top (by decide : (Int32.ofInt 0).toInt = 0) (fun z24 h25 => ?_)
      exact En_ret (v := some (.int z24)) rfl rfl rfl ⟨h20, h21, z24, rfl, ⟨by omega, by omega, by omega, by omega, by omega, BSET_st h16 h22 h23 (by decide) (by omega)⟩⟩
    · refine En_Ps 1 (pc' := 11) (lv' := [(0, .ref 0), (1, .int a)]) (st' := [.int (((Int8.ofInt (-2)).toInt32))]) rfl ?_
      refine En_top (by decide : ((Int8.ofInt (-2)).toInt32).toInt = -2) (fun z26 h27 => ?_)
      exact En_ret (v := some (.int z26)) rfl rfl rfl ⟨hσ0, hF0, z26, rfl, ⟨by omega, by omega, by omega, by omega, by omega, BSET_no SAMr_0 (by omega)⟩⟩
/-- DoorSchool.school()I -/
abbrev P_169x (σ0 : SG) (p : Nat) (sg : Int32) (p2 : Nat) : PO := fun v σ => WT σ ∧ Fr [(0, 9), (0, 10), (1, 1), (3, 1), (3, 2), (3, 3), (3, 4), (3, 5), (3, 6), (4, 0), (4, 1), (5, 0), (6, 0), (7, 0), (18, 0), (18, 1), (18, 2), (18, 3), (18, 6), (18, 7), (18, 8), (18, 11), (18, 14), (20, 2), (21, 0), (22, 0), (23, 0), (24, 0), (25, 0), (26, 0), (28, 1), (28, 2), (28, 3)] σ0 σ ∧ ∃ m1 : Int32, (σ 1)[1]? = some (.int m1) ∧ ∃ ret : Int32, v = some (.int ret) ∧ -ret.toInt - 4 ≤ 0 ∧ ret.toInt - 1601 ≤ 0 ∧ -m1.toInt ≤ 0 ∧ m1.toInt ≤ 0 ∧ -m1.toInt + sg.toInt - 4 ≤ 0 ∧ m1.toInt - sg.toInt ≤ 0 ∧ m1.toInt ≤ 0 ∧ -m1.toInt ≤ 0 ∧ INVc σ
set_option maxRecDepth 10000 in
set_option maxHeartbeats 4000000 in
theorem c_169x (σ0 : SG) (hσ0 : WT σ0) (p : Nat) (hp : TG p = 18) (h_p : (σ0 0)[9]? = some (.ref p)) (sg : Int32) (h_sg : (σ0 p)[1]? = some (.int sg)) (p2 : Nat) (hp2 : TG p2 = 18) (h_p2 : (σ0 0)[10]? = some (.ref p2)) (hp0 : -sg.toInt ≤ 0) (hne : p ≠ p2) : En 8 181 none mr_169 (P_169x σ0 p sg p2) 0 [(0, .ref 0)] [] σ0 := by
  obtain ⟨hl_sg, hu_sg⟩ := WT_int hσ0 (g := 18) hp (by decide +kernel) (l := (-1)) (u := 4) (by decide +kernel) h_sg
  have hF0 : Fr [(0, 9), (0, 10), (1, 1), (3, 1), (3, 2), (3, 3), (3, 4), (3, 5), (3, 6), (4, 0), (4, 1), (5, 0), (6, 0), (7, 0), (18, 0), (18, 1), (18, 2), (18, 3), (18, 6), (18, 7), (18, 8), (18, 11), (18, 14), (20, 2), (21, 0), (22, 0), (23, 0), (24, 0), (25, 0), (26, 0), (28, 1), (28, 2), (28, 3)] σ0 σ0 := Fr_rfl
  refine En_Ps 1 (pc' := 1) (lv' := [(0, .ref 0)]) (st' := [.ref 0]) rfl ?_
  refine En_getU (j := 1) (u := 3) (g' := 3) (q := 0) rfl rfl rfl (by decide +kernel : TG 0 = 0) (by decide +kernel) hσ0 (by decide +kernel) (by decide +kernel) (fun h1 => ?_)
  refine En_Ps 1 (pc' := 5) (lv' := [(0, .ref 0)]) (st' := [.ref 0, .ref 3]) rfl ?_
  refine En_getK (j := 10) h_p2 rfl rfl rfl (by decide +kernel : TG 0 = 0) (by decide +kernel) ?_
  refine En_callV rfl rfl rfl rfl rfl rfl rfl rfl (by decide +kernel : TG 3 = 3) (by decide +kernel) rfl (c_60x σ0 hσ0 p2 hp2) (by decide) (by decide) (fun v4 σ5 h3 => ?_)
  obtain ⟨h6, h7, z9, h10, z11, h12, rfl, h8⟩ := h3
  have h13 := h8.2.2.2.2.2
  have h14 := Fr_trans hF0 h7 (by decide +kernel)
  refine En_Ps 1 (pc' := 12) (lv' := [(0, .ref 0)]) (st' := [.ref 0]) rfl ?_
  refine En_getU (j := 0) (u := 1) (g' := 1) (q := 0) rfl rfl rfl (by decide +kernel : TG 0 = 0) (by decide +kernel) h6 (by decide +kernel) (by decide +kernel) (fun h15 => ?_)
  refine En_Ps 1 (pc' := 16) (lv' := [(0, .ref 0)]) (st' := [.int ((Int32.ofInt 0)), .ref 1]) rfl ?_
  refine En_put (j := 1) rfl rfl rfl (by decide +kernel : TG 1 = 1) (by decide +kernel) rfl (vI (l := 0) (u := 1600) (by decide +kernel) (by decide : (Int32.ofInt 0).toInt = 0) (by omega) (by omega)) h6 h14 (by decide +kernel) (fun σ17 h18 h19 h20 h21 => ?_)
  refine En_Ps 1 (pc' := 20) (lv' := [(0, .ref 0)]) (st' := [.ref 0]) rfl ?_
  refine En_getK (j := 1) ((h21 _ _ (Or.inl (neTG (by decide +kernel : TG 0 = 0) (by decide +kernel : TG 1 = 1) (by decide)))).trans ((h7 _ _ (inW (by decide +kernel : TG 0 = 0) (by decide +kernel))).trans h1)) rfl rfl rfl (by decide +kernel : TG 0 = 0) (by decide +kernel) ?_
  refine En_getK (j := 5) ((h21 _ _ (Or.inr (by decide))).trans h10) rfl rfl rfl (by decide +kernel : TG 3 = 3) (by decide +kernel) ?_
  refine En_iEq _ rfl rfl (fun h22 => ?_) (fun h22 => ?_)
  · refine En_Ps 1 (pc' := 33) (lv' := [(0, .ref 0)]) (st' := [.ref 0]) rfl ?_
    refine En_getK (j := 9) ((h21 _ _ (Or.inr (by decide))).trans ((h7 _ _ (inW (by decide +kernel : TG 0 = 0) (by decide +kernel))).trans h_p)) rfl rfl rfl (by decide +kernel : TG 0 = 0) (by decide +kernel) ?_
    refine En_Ps 3 (pc' := 39) (lv' := [(1, .ref p), (0, .ref 0)]) (st' := [.ref 0, .ref 0]) rfl ?_
    refine En_getK (j := 10) ((h21 _ _ (Or.inr (by decide))).trans ((h7 _ _ (inW (by decide +kernel : TG 0 = 0) (by decide +kernel))).trans h_p2)) rfl rfl rfl (by decide +kernel : TG 0 = 0) (by decide +kernel) ?_
    refine En_put (j := 9) rfl rfl rfl (by decide +kernel : TG 0 = 0) (by decide +kernel) rfl (vR (g' := 18) (u := 0) (by decide +kernel) hp2) h18 h19 (by decide +kernel) (fun σ23 h24 h25 h26 h27 => ?_)
    refine En_Ps 2 (pc' := 47) (lv' := [(1, .ref p), (0, .ref 0)]) (st' := [.ref p, .ref 0]) rfl ?_
    refine En_put (j := 10) rfl rfl rfl (by decide +kernel : TG 0 = 0) (by decide +kernel) rfl (vR (g' := 18) (u := 0) (by decide +kernel) hp) h24 h25 (by decide +kernel) (fun σ28 h29 h30 h31 h32 => ?_)
    refine En_Ps 1 (pc' := 51) (lv' := [(1, .ref p), (0, .ref 0)]) (st' := [.ref 0]) rfl ?_
    refine En_getU (j := 2) (u := 4) (g' := 4) (q := 0) rfl rfl rfl (by decide +kernel : TG 0 = 0) (by decide +kernel) h29 (by decide +kernel) (by decide +kernel) (fun h33 => ?_)
    refine En_Ps 1 (pc' := 55) (lv' := [(1, .ref p), (0, .ref 0)]) (st' := [.ref 0, .ref 4]) rfl ?_
    refine En_getK (j := 9) ((h32 _ _ (Or.inr (by decide))).trans h26) rfl rfl rfl (by decide +kernel : TG 0 = 0) (by decide +kernel) ?_
    refine En_getK (j := 1) ((h32 _ _ (Or.inr (by decide))).trans ((h27 _ _ (Or.inr (by decide))).trans ((h21 _ _ (Or.inl (neTG hp2 (by decide +kernel : TG 1 = 1) (by decide)))).trans h12))) rfl rfl rfl hp2 (by decide +kernel) ?_
    refine En_callV rfl rfl rfl rfl rfl rfl rfl rfl (by decide +kernel : TG 4 = 4) (by decide +kernel) rfl (c_82 σ28 h29 z11 (geI rfl (by omega)) (leI rfl (by omega))) (by decide) (by decide) (fun v36 σ37 h35 => ?_)
    obtain ⟨h38, h39, rfl, h40⟩ := h35
    have h41 := Fr_trans h30 h39 (by decide +kernel)
    refine En_Ps 1 (pc' := 65) (lv' := [(1, .ref p), (0, .ref 0)]) (st' := [.ref 0]) rfl ?_
    refine En_getK (j := 9) ((h39 _ _ (inW (by decide +kernel : TG 0 = 0) (by decide +kernel))).trans ((h32 _ _ (Or.inr (by decide))).trans h26)) rfl rfl rfl (by decide +kernel : TG 0 = 0) (by decide +kernel) ?_
    refine En_getI (j := 0) (l := 0) (u := 1601) rfl rfl rfl hp2 (by decide +kernel) h38 (by decide +kernel) (fun z43 h42 h44 h45 => ?_)
    have := (by decide : (Int32.ofInt 0).toInt = 0)
    exact En_ret (v := some (.int z43)) rfl rfl rfl ⟨h38, h41, (Int32.ofInt 0), ((h39 _ _ (inW (by decide +kernel : TG 1 = 1) (by decide +kernel))).trans ((h32 _ _ (Or.inr (by decide))).trans ((h27 _ _ (Or.inr (by decide))).trans h20))), z43, rfl, ⟨by omega, by omega, by omega, by omega, by omega, by omega, by omega, by omega, ⟨p2, p, z11, hp2, hp, ((h39 _ _ (inW (by decide +kernel : TG 0 = 0) (by decide +kernel))).trans ((h32 _ _ (Or.inr (by decide))).trans h26)), ((h39 _ _ (inW (by decide +kernel : TG 0 = 0) (by decide +kernel))).trans h31), (fun e => hne e.symm), ((h39 _ _ (inW hp2 (by decide +kernel))).trans ((h32 _ _ (Or.inr (by decide))).trans ((h27 _ _ (Or.inr (by decide))).trans ((h21 _ _ (Or.inl (neTG hp2 (by decide +kernel : TG 1 = 1) (by decide)))).trans h12)))), (by omega)⟩⟩⟩
  · refine En_Ps 1 (pc' := 31) (lv' := [(0, .ref 0)]) (st' := [.int (((Int8.ofInt (-4)).toInt32))]) rfl ?_
    have := (by decide : (Int32.ofInt 0).toInt = 0)
    refine En_top (by decide : ((Int8.ofInt (-4)).toInt32).toInt = -4) (fun z46 h47 => ?_)
    exact En_ret (v := some (.int z46)) rfl rfl rfl ⟨h18, h19, (Int32.ofInt 0), h20, z46, rfl, ⟨by omega, by omega, by omega, by omega, by omega, by omega, by omega, by omega, ⟨p, p2, sg, hp, hp2, ((h21 _ _ (Or.inr (by decide))).trans ((h7 _ _ (inW (by decide +kernel : TG 0 = 0) (by decide +kernel))).trans h_p)), ((h21 _ _ (Or.inr (by decide))).trans ((h7 _ _ (inW (by decide +kernel : TG 0 = 0) (by decide +kernel))).trans h_p2)), hne, ((h21 _ _ (Or.inl (neTG hp (by decide +kernel : TG 1 = 1) (by decide)))).trans (((h13 p hp hne)).trans h_sg)), (by omega)⟩⟩⟩
/-- DoorSchoolModel.back(I)I -/
abbrev P_199x (σ0 : SG) (a : Int32) : PO := fun v σ => WT σ ∧ Fr [(36, 0)] σ0 σ ∧ ∃ ret : Int32, v = some (.int ret) ∧ -ret.toInt - 6 ≤ 0 ∧ ret.toInt ≤ 0 ∧ (WI σ ∧ BCK (ci σ0 162 a.toInt) a.toInt ret.toInt)
set_option maxRecDepth 10000 in
set_option maxHeartbeats 4000000 in
theorem c_199x (σ0 : SG) (hσ0 : WT σ0) (a : Int32) (hI : WI σ0) : En 1 25 none mr_199 (P_199x σ0 a) 0 [(0, .ref 159), (1, .int a)] [] σ0 := by
  have hF0 : Fr [(36, 0)] σ0 σ0 := Fr_rfl
  refine En_Ps 4 (pc' := 6) (lv' := [(0, .ref 159), (1, .int a)]) (st' := [.long ((2 : Int64)), .long ((Int64.ofNat 0)), .long a.toInt64]) rfl ?_
  have : a.toInt64.toInt = a.toInt := (i2lI rfl)
  have := (by decide : ((Int64.ofNat 0)).toInt = 0)
  have := (by decide : ((2 : Int64)).toInt = 2)
  refine En_callS rfl rfl rfl rfl rfl rfl rfl rfl rfl (c_249 σ0 hσ0 a.toInt64 ((Int64.ofNat 0)) ((2 : Int64))) (by decide) (by decide) (fun v2 σ3 h1 => ?_)
  obtain ⟨h4, h5, z7, rfl, h6⟩ := h1
  obtain rfl : σ0 = σ3 := Fr_nil h5
  refine En_iNe _ rfl rfl (fun h8 => ?_) (fun h8 => ?_)
  · refine En_Ps 1 (pc' := 16) (lv' := [(0, .ref 159), (1, .int a)]) (st' := [.ref 159]) rfl ?_
    refine En_getU (j := 3) (u := 162) (g' := 38) (q := 0) rfl rfl rfl (by decide +kernel : TG 159 = 35) (by decide +kernel) hσ0 (by decide +kernel) (by decide +kernel) (fun h9 => ?_)
    refine En_Ps 1 (pc' := 20) (lv' := [(0, .ref 159), (1, .int a)]) (st' := [.int a, .ref 162]) rfl ?_
    refine En_bald (l := 0) (u := 1) rfl rfl (by decide +kernel : TG 162 = 38) (by decide +kernel) hσ0 (by omega) (lnI (by decide +kernel : LN _ = 3) (by omega)) (FTsgl (by decide +kernel)) (fun z12 h11 h13 h14 => ?_)
    have h15 := ci_at h11 (rfl : a.toInt = a.toInt)
    refine En_iNe _ rfl rfl (fun h16 => ?_) (fun h16 => ?_)
    · refine En_Ps 2 (pc' := 29) (lv' := [(2, .int ((Int32.ofInt 0))), (0, .ref 159), (1, .int a)]) (st' := []) rfl ?_
      have key29 : ∀ (n29 : Nat) (σ18 : SG) (y17 : Int32), WT σ18 → Fr [(36, 0)] σ0 σ18 → (σ18 159)[3]? = some (.ref 162) → (σ18 162)[(a.toInt).toNat]? = some (.int z12) → 0 ≤ y17.toInt → y17.toInt ≤ 226 → -y17.toInt + 226 < (n29 : Int) → CPB σ0 σ18 a.toInt y17.toInt → En 1 25 none mr_199 (P_199x σ0 a) 29 [(0, .ref 159), (1, .int a), (2, .int y17)] [] σ18 := by
        intro n29
        induction n29 with
        | zero =>
          intro σ18 y17 h19 h20 h21 h22 h23 h24 h25 h26
          exfalso; omega
        | succ n29 ih29 =>
          intro σ18 y17 h19 h20 h21 h22 h23 h24 h25 h26
          refine En_Ps 2 (pc' := 33) (lv' := [(0, .ref 159), (1, .int a), (2, .int y17)]) (st' := [.int (((Int16.ofInt 226).toInt32)), .int y17]) rfl ?_
          refine En_icGe _ rfl (by decide : ((Int16.ofInt 226).toInt32).toInt = 226) rfl (fun h27 => ?_) (fun h27 => ?_)
          · refine En_Ps 1 (pc' := 61) (lv' := [(0, .ref 159), (1, .int a), (2, .int y17)]) (st' := [.int ((Int32.ofInt 0))]) rfl ?_
            refine En_top (by decide : (Int32.ofInt 0).toInt = 0) (fun z28 h29 => ?_)
            exact En_ret (v := some (.int z28)) rfl rfl rfl ⟨h19, h20, z28, rfl, ⟨by omega, by omega, ⟨CPB_x h26 (by omega) h20 (by decide +kernel) (by omega) (by omega) hI, BCK_0 (by omega) (by omega) (by omega) (by omega)⟩⟩⟩
          · refine En_Ps 1 (pc' := 37) (lv' := [(0, .ref 159), (1, .int a), (2, .int y17)]) (st' := [.ref 159]) rfl ?_
            refine En_getU (j := 1) (u := 160) (g' := 36) (q := 0) rfl rfl rfl (by decide +kernel : TG 159 = 35) (by decide +kernel) h19 (by decide +kernel) (by decide +kernel) (fun h30 => ?_)
            refine En_Ps 2 (pc' := 42) (lv' := [(0, .ref 159), (1, .int a), (2, .int y17)]) (st' := [.ref 159, .int y17, .ref 160]) rfl ?_
            refine En_getU (j := 2) (u := 161) (g' := 37) (q := 0) rfl rfl rfl (by decide +kernel : TG 159 = 35) (by decide +kernel) h19 (by decide +kernel) (by decide +kernel) (fun h32 => ?_)
            refine En_Ps 3 (pc' := 50) (lv' := [(0, .ref 159), (1, .int a), (2, .int y17)]) (st' := [.int (((((Int16.ofInt 226).toInt32)) * a)), .ref 161, .int y17, .ref 160]) rfl ?_
            refine En_top (mulI (by decide : ((Int16.ofInt 226).toInt32).toInt = 226) rfl (Z := 226 * a.toInt) (by omega) (by omega) (by omega)) (fun z34 h35 => ?_)
            refine En_Ps 2 (pc' := 52) (lv' := [(0, .ref 159), (1, .int a), (2, .int y17)]) (st' := [.int ((z34 + y17)), .ref 161, .int y17, .ref 160]) rfl ?_
            refine En_top (addI rfl rfl (by omega) (by omega)) (fun z36 h37 => ?_)
            refine En_ialdW (n := 678) rfl rfl (by decide +kernel : TG 161 = 37) (by decide +kernel) h19 (by omega) (by decide +kernel) (by omega) (by decide +kernel) (fun z38 h39 h40 => ?_)
            refine En_iastW (n := 226) rfl rfl (by decide +kernel : TG 160 = 36) (by decide +kernel) (by omega) (by decide +kernel) (by omega) (ft_iw h40 (by omega) (by omega) (k := a.toInt) (by omega) (by omega) (by omega)) h19 h20 (by decide +kernel) (fun σ41 h42 h43 h44 h45 => ?_)
            refine En_Ps 1 (pc' := 57) (lv' := [(2, .int ((y17 + Int32.ofInt 1))), (0, .ref 159), (1, .int a)]) (st' := []) rfl ?_
            refine En_lv1 (addI rfl (by decide : (Int32.ofInt 1).toInt = 1) (by omega) (by omega)) (fun z46 h47 => ?_)
            refine En_Ps 1 (pc' := 29) (lv' := [(2, .int z46), (0, .ref 159), (1, .int a)]) (st' := []) rfl ?_
            refine En_lv (lv := [(0, .ref 159), (1, .int a), (2, .int z46)]) ⟨rfl, rfl, rfl, trivial⟩ ?_
            exact ih29 σ41 z46 h42 h43 ((h45 _ _ (Or.inl (neTG (by decide +kernel : TG 159 = 35) (by decide +kernel : TG 160 = 36) (by decide)))).trans h21) ((h45 _ _ (Or.inl (neTG (by decide +kernel : TG 162 = 38) (by decide +kernel : TG 160 = 36) (by decide)))).trans h22) (by omega) (by omega) (by omega) (CPB_s h26 h20 (by decide +kernel) h39 h44 h45 (by omega) (by omega) (by omega))
      have := (by decide : (Int32.ofInt 0).toInt = 0)
      refine En_lv (lv := [(0, .ref 159), (1, .int a), (2, .int ((Int32.ofInt 0)))]) ⟨rfl, rfl, rfl, trivial⟩ ?_
      exact key29 (Int.toNat (226) + 1) σ0 ((Int32.ofInt 0)) hσ0 hF0 h9 h11 (by omega) (by omega) (by omega) (CPB_0 (by decide))
    · refine En_Ps 1 (pc' := 26) (lv' := [(0, .ref 159), (1, .int a)]) (st' := [.int (((Int8.ofInt (-6)).toInt32))]) rfl ?_
      refine En_top (by decide : ((Int8.ofInt (-6)).toInt32).toInt = -6) (fun z48 h49 => ?_)
      exact En_ret (v := some (.int z48)) rfl rfl rfl ⟨hσ0, hF0, z48, rfl, ⟨by omega, by omega, ⟨hI, BCK_6 (by omega) (by omega) (by omega) (by omega)⟩⟩⟩
  · refine En_Ps 1 (pc' := 14) (lv' := [(0, .ref 159), (1, .int a)]) (st' := [.int (((Int8.ofInt (-2)).toInt32))]) rfl ?_
    refine En_top (by decide : ((Int8.ofInt (-2)).toInt32).toInt = -2) (fun z50 h51 => ?_)
    exact En_ret (v := some (.int z50)) rfl rfl rfl ⟨hσ0, hF0, z50, rfl, ⟨by omega, by omega, ⟨hI, BCK_2 (by omega) (by omega)⟩⟩⟩
/-- DoorSchoolModel.image(I)I -/
abbrev P_248x (σ0 : SG) (a : Int32) : PO := fun v σ => WT σ ∧ Fr [(37, 0), (38, 0)] σ0 σ ∧ ∃ ret : Int32, v = some (.int ret) ∧ -ret.toInt - 2 ≤ 0 ∧ ret.toInt ≤ 0 ∧ (-a.toInt ≤ 0 ∧ a.toInt - 2 ≤ 0 → ret.toInt ≤ 0 ∧ -ret.toInt ≤ 0) ∧ (a.toInt + 1 ≤ 0 → ret.toInt + 2 ≤ 0 ∧ -ret.toInt - 2 ≤ 0) ∧ (-a.toInt + 3 ≤ 0 → ret.toInt + 2 ≤ 0 ∧ -ret.toInt - 2 ≤ 0) ∧ (WI σ ∧ BSET σ0 σ 162 a.toInt)
set_option maxRecDepth 10000 in
set_option maxHeartbeats 4000000 in
theorem c_248x (σ0 : SG) (hσ0 : WT σ0) (a : Int32) (hI : WI σ0) : En 1 25 none mr_248 (P_248x σ0 a) 0 [(0, .ref 159), (1, .int a)] [] σ0 := by
  have hF0 : Fr [(37, 0), (38, 0)] σ0 σ0 := Fr_rfl
  refine En_Ps 4 (pc' := 6) (lv' := [(0, .ref 159), (1, .int a)]) (st' := [.long ((2 : Int64)), .long ((Int64.ofNat 0)), .long a.toInt64]) rfl ?_
  have : a.toInt64.toInt = a.toInt := (i2lI rfl)
  have := (by decide : ((Int64.ofNat 0)).toInt = 0)
  have := (by decide : ((2 : Int64)).toInt = 2)
  refine En_callS rfl rfl rfl rfl rfl rfl rfl rfl rfl (c_249 σ0 hσ0 a.toInt64 ((Int64.ofNat 0)) ((2 : Int64))) (by decide) (by decide) (fun v2 σ3 h1 => ?_)
  obtain ⟨h4, h5, z7, rfl, h6⟩ := h1
  obtain rfl : σ0 = σ3 := Fr_nil h5
  refine En_iNe _ rfl rfl (fun h8 => ?_) (fun h8 => ?_)
  · refine En_Ps 2 (pc' := 17) (lv' := [(2, .int ((Int32.ofInt 0))), (0, .ref 159), (1, .int a)]) (st' := []) rfl ?_
    have key17 : ∀ (n17 : Nat) (σ10 : SG) (y9 : Int32), WT σ10 → Fr [(37, 0), (38, 0)] σ0 σ10 → 0 ≤ y9.toInt → y9.toInt ≤ 226 → -y9.toInt + 226 < (n17 : Int) → CPI σ0 σ10 a.toInt y9.toInt → SAMr σ0 σ10 162 → En 1 25 none mr_248 (P_248x σ0 a) 17 [(0, .ref 159), (1, .int a), (2, .int y9)] [] σ10 := by
      intro n17
      induction n17 with
      | zero =>
        intro σ10 y9 h11 h12 h13 h14 h15 h16 h17
        exfalso; omega
      | succ n17 ih17 =>
        intro σ10 y9 h11 h12 h13 h14 h15 h16 h17
        refine En_Ps 2 (pc' := 21) (lv' := [(0, .ref 159), (1, .int a), (2, .int y9)]) (st' := [.int (((Int16.ofInt 226).toInt32)), .int y9]) rfl ?_
        refine En_icGe _ rfl (by decide : ((Int16.ofInt 226).toInt32).toInt = 226) rfl (fun h18 => ?_) (fun h18 => ?_)
        · refine En_Ps 1 (pc' := 49) (lv' := [(0, .ref 159), (1, .int a), (2, .int y9)]) (st' := [.ref 159]) rfl ?_
          refine En_getU (j := 3) (u := 162) (g' := 38) (q := 0) rfl rfl rfl (by decide +kernel : TG 159 = 35) (by decide +kernel) h11 (by decide +kernel) (by decide +kernel) (fun h19 => ?_)
          refine En_Ps 2 (pc' := 54) (lv' := [(0, .ref 159), (1, .int a), (2, .int y9)]) (st' := [.int ((Int32.ofInt 1)), .int a, .ref 162]) rfl ?_
          refine En_bast (l := 0) (u := 1) rfl rfl (by decide +kernel : TG 162 = 38) (by decide +kernel) (narZ (by decide : (Int32.ofInt 1).toInt = 1) (by omega) (by omega)) (by omega) (lnI (by decide +kernel : LN _ = 3) (by omega)) (FTsgl (by decide +kernel)) (rngI (by decide : (Int32.ofInt 1).toInt = 1) (by omega) (by omega)) h11 h12 (by decide +kernel) (fun σ21 h22 h23 h24 h25 => ?_)
          refine En_Ps 1 (pc' := 56) (lv' := [(0, .ref 159), (1, .int a), (2, .int y9)]) (st' := [.int ((Int32.ofInt 0))]) rfl ?_
          refine En_top (by decide : (Int32.ofInt 0).toInt = 0) (fun z26 h27 => ?_)
          exact En_ret (v := some (.int z26)) rfl rfl rfl ⟨h22, h23, z26, rfl, ⟨by omega, by omega, by omega, by omega, by omega, ⟨WI_nx h25 (by decide) (by decide) (CPI_x (W := []) h16 (by omega) (SWd_fr h12 (by decide +kernel)) (by omega) (by omega) hI), BSET_st h17 h24 h25 (by decide) (by omega)⟩⟩⟩
        · refine En_Ps 1 (pc' := 25) (lv' := [(0, .ref 159), (1, .int a), (2, .int y9)]) (st' := [.ref 159]) rfl ?_
          refine En_getU (j := 2) (u := 161) (g' := 37) (q := 0) rfl rfl rfl (by decide +kernel : TG 159 = 35) (by decide +kernel) h11 (by decide +kernel) (by decide +kernel) (fun h28 => ?_)
          refine En_Ps 3 (pc' := 33) (lv' := [(0, .ref 159), (1, .int a), (2, .int y9)]) (st' := [.int (((((Int16.ofInt 226).toInt32)) * a)), .ref 161]) rfl ?_
          refine En_top (mulI (by decide : ((Int16.ofInt 226).toInt32).toInt = 226) rfl (Z := 226 * a.toInt) (by omega) (by omega) (by omega)) (fun z30 h31 => ?_)
          refine En_Ps 2 (pc' := 35) (lv' := [(0, .ref 159), (1, .int a), (2, .int y9)]) (st' := [.int ((z30 + y9)), .ref 161]) rfl ?_
          refine En_top (addI rfl rfl (by omega) (by omega)) (fun z32 h33 => ?_)
          refine En_Ps 1 (pc' := 36) (lv' := [(0, .ref 159), (1, .int a), (2, .int y9)]) (st' := [.ref 159, .int z32, .ref 161]) rfl ?_
          refine En_getU (j := 1) (u := 160) (g' := 36) (q := 0) rfl rfl rfl (by decide +kernel : TG 159 = 35) (by decide +kernel) h11 (by decide +kernel) (by decide +kernel) (fun h34 => ?_)
          refine En_Ps 1 (pc' := 40) (lv' := [(0, .ref 159), (1, .int a), (2, .int y9)]) (st' := [.int y9, .ref 160, .int z32, .ref 161]) rfl ?_
          refine En_ialdW (n := 226) rfl rfl (by decide +kernel : TG 160 = 36) (by decide +kernel) h11 (by omega) (by decide +kernel) (by omega) (by decide +kernel) (fun z36 h37 h38 => ?_)
          refine En_iastW (n := 678) rfl rfl (by decide +kernel : TG 161 = 37) (by decide +kernel) (by omega) (by decide +kernel) (by omega) (ft_wi h38 (by omega) (by omega) (k := a.toInt) (by omega) (by omega) (by omega)) h11 h12 (by decide +kernel) (fun σ39 h40 h41 h42 h43 => ?_)
          refine En_Ps 1 (pc' := 45) (lv' := [(2, .int ((y9 + Int32.ofInt 1))), (0, .ref 159), (1, .int a)]) (st' := []) rfl ?_
          refine En_lv1 (addI rfl (by decide : (Int32.ofInt 1).toInt = 1) (by omega) (by omega)) (fun z44 h45 => ?_)
          refine En_Ps 1 (pc' := 17) (lv' := [(2, .int z44), (0, .ref 159), (1, .int a)]) (st' := []) rfl ?_
          refine En_lv (lv := [(0, .ref 159), (1, .int a), (2, .int z44)]) ⟨rfl, rfl, rfl, trivial⟩ ?_
          exact ih17 σ39 z44 h40 h41 (by omega) (by omega) (by omega) (CPI_s h16 (SWd_fr h12 (by decide +kernel)) h37 h42 h43 (by omega) (by omega) (by omega) (by omega) (by omega)) (SAMr_st h17 h43 (by decide))
    have := (by decide : (Int32.ofInt 0).toInt = 0)
    refine En_lv (lv := [(0, .ref 159), (1, .int a), (2, .int ((Int32.ofInt 0)))]) ⟨rfl, rfl, rfl, trivial⟩ ?_
    exact key17 (Int.toNat (226) + 1) σ0 ((Int32.ofInt 0)) hσ0 hF0 (by omega) (by omega) (by omega) (CPI_0 (by decide)) (SAMr_0)
  · refine En_Ps 1 (pc' := 14) (lv' := [(0, .ref 159), (1, .int a)]) (st' := [.int (((Int8.ofInt (-2)).toInt32))]) rfl ?_
    refine En_top (by decide : ((Int8.ofInt (-2)).toInt32).toInt = -2) (fun z46 h47 => ?_)
    exact En_ret (v := some (.int z46)) rfl rfl rfl ⟨hσ0, hF0, z46, rfl, ⟨by omega, by omega, by omega, by omega, by omega, ⟨hI, BSET_no SAMr_0 (by omega)⟩⟩⟩
