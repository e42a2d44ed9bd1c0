/-! 32.ly.m16 -/
section
/-- DoorSchoolModel.rest(I)I -/
abbrev P_306 (σ0 : SG) (a : Int32) : PO := fun v σ => WT σ ∧ Fr [(35, 18), (35, 21), (42, 0), (43, 0), (44, 0), (45, 0), (46, 0)] σ0 σ ∧ ∃ ret : Int32, v = some (Value.int ret) ∧ -ret.toInt - 2 ≤ 0 ∧ ret.toInt - 215 ≤ 0
set_option maxRecDepth 10000 in
set_option maxHeartbeats 4000000 in
theorem c_306 (σ0 : SG) (hσ0 : WT σ0) (a : Int32) : En 6 138 none mr_306 (P_306 σ0 a) 0 [(0, .ref 159), (1, .int a)] [] σ0 := by
  have hF0 : Fr [(35, 18), (35, 21), (42, 0), (43, 0), (44, 0), (45, 0), (46, 0)] σ0 σ0 := Fr_rfl
  refine En_Ps 2 (pc' := 2) (lv' := [(0, .ref 159), (1, .int a)]) (st' := [.int a, .ref 159]) rfl ?_
  obtain ⟨z2, h1, h3, h4⟩ := WT_peekI hσ0 tgz_160 (by decide +kernel : FT 36 (2 : Int).toNat = (0, 0, 4)) (by decide +kernel)
  refine En_callV rfl rfl rfl rfl rfl rfl rfl rfl tgz_159 (by decide +kernel) rfl (c_254 σ0 hσ0 a z2 h1) (by decide) (by decide) (fun v6 σ7 h5 => ?_)
  obtain ⟨h8, h9, z11, rfl, h10⟩ := h5
  have h12 := Fr_trans hF0 h9 (by decide +kernel)
  refine En_iNe _ rfl rfl (fun h13 => ?_) (fun h13 => ?_)
  · refine En_Ps 2 (pc' := 13) (lv' := [(2, .int ((Int32.ofInt 0))), (0, .ref 159), (1, .int a)]) (st' := []) rfl ?_
    have key13 : ∀ (n13 : Nat) (σ15 : SG) (y14 : Int32), WT σ15 → Fr [(35, 18), (35, 21), (42, 0), (43, 0), (44, 0), (45, 0), (46, 0)] σ0 σ15 → (σ15 160)[(2 : Int).toNat]? = some (Value.int z2) → 0 ≤ y14.toInt → y14.toInt ≤ 3 → -y14.toInt + 3 < (n13 : Int) → En 6 138 none mr_306 (P_306 σ0 a) 13 [(0, .ref 159), (1, .int a), (2, .int y14)] [] σ15 := by
      intro n13
      induction n13 with
      | zero =>
        intro σ15 y14 h16 h17 h18 h19 h20 h21
        first | exact (q_9f1e7068c9 h21 h20).elim | (exfalso; omega)
      | succ n13 ih13 =>
        intro σ15 y14 h16 h17 h18 h19 h20 h21
        refine En_Ps 2 (pc' := 15) (lv' := [(0, .ref 159), (1, .int a), (2, .int y14)]) (st' := [.int ((Int32.ofInt 3)), .int y14]) rfl ?_
        refine En_icGe _ rfl (by decide : (Int32.ofInt 3).toInt = 3) rfl (fun h22 => ?_) (fun h22 => ?_)
        · refine En_Ps 1 (pc' := 66) (lv' := [(0, .ref 159), (1, .int a), (2, .int y14)]) (st' := [.int ((Int32.ofInt (-1)))]) rfl ?_
          refine En_top (by decide : (Int32.ofInt (-1)).toInt = -1) (fun z23 h24 => ?_)
          exact En_ret (v := some (Value.int z23)) rfl rfl rfl ⟨h16, h17, z23, rfl, ⟨by first | exact q_e1de8c7867 h24 | omega, by first | exact q_bfbda685e5 h24 | omega⟩⟩
        · refine En_Ps 2 (pc' := 20) (lv' := [(3, .int ((Int32.ofInt 0))), (0, .ref 159), (1, .int a), (2, .int y14)]) (st' := []) rfl ?_
          have key20 : ∀ (n20 : Nat) (σ26 : SG) (y25 : Int32), WT σ26 → Fr [(35, 18), (35, 21), (42, 0), (43, 0), (44, 0), (45, 0), (46, 0)] σ0 σ26 → (σ26 160)[(2 : Int).toNat]? = some (Value.int z2) → 0 ≤ y25.toInt → y25.toInt ≤ 16 → -y25.toInt + 16 < (n20 : Int) → En 6 138 none mr_306 (P_306 σ0 a) 20 [(0, .ref 159), (1, .int a), (2, .int y14), (3, .int y25)] [] σ26 := by
            intro n20
            induction n20 with
            | zero =>
              intro σ26 y25 h27 h28 h29 h30 h31 h32
              first | exact (q_511f6d33ac h32 h31).elim | (exfalso; omega)
            | succ n20 ih20 =>
              intro σ26 y25 h27 h28 h29 h30 h31 h32
              refine En_Ps 2 (pc' := 22) (lv' := [(0, .ref 159), (1, .int a), (2, .int y14), (3, .int y25)]) (st' := [.ref 159, .int y25]) rfl ?_
              obtain ⟨z34, h33, h35, h36⟩ := WT_peekI h27 tgz_160 (by decide +kernel : FT 36 (0 : Int).toNat = (0, 0, 4)) (by decide +kernel)
              obtain ⟨z38, h37, h39, h40⟩ := WT_peekI h27 tgz_160 (by decide +kernel : FT 36 (7 : Int).toNat = (0, 0, 1600)) (by decide +kernel)
              refine En_callV rfl rfl rfl rfl rfl rfl rfl rfl tgz_159 (by decide +kernel) rfl (c_269 σ26 h27 z34 h33 z38 h37) (by decide) (by decide) (fun v42 σ43 h41 => ?_)
              obtain ⟨h44, h45, z47, rfl, h46⟩ := h41
              have h48 := h46.2.2
              have h49 := Fr_trans h28 h45 (by decide +kernel)
              refine En_icGe _ rfl rfl rfl (fun h50 => ?_) (fun h50 => ?_)
              · refine En_Ps 1 (pc' := 62) (lv' := [(2, .int ((y14 + Int32.ofInt 1))), (0, .ref 159), (1, .int a), (3, .int y25)]) (st' := []) rfl ?_
                refine En_lv1 (addI rfl (by decide : (Int32.ofInt 1).toInt = 1) (by first | exact q_465ab79ac1 h19 | omega) (by first | exact q_6ae830b01d h22 | omega)) (fun z51 h52 => ?_)
                refine En_Ps 1 (pc' := 13) (lv' := [(2, .int z51), (0, .ref 159), (1, .int a), (3, .int y25)]) (st' := []) rfl ?_
                refine En_lv (lv := [(0, .ref 159), (1, .int a), (2, .int z51)]) ⟨rfl, rfl, rfl, trivial⟩ ?_
                exact ih13 σ43 z51 h44 h49 ((h45 _ _ (inWa tgz_160 (by decide +kernel))).trans h29) (by first | exact q_35104ce9d3 h52 h19 | omega) (by first | exact q_84805d5d8e h52 h22 | omega) (by first | exact q_6272716eb4 h52 h21 | omega)
              · refine En_Ps 2 (pc' := 30) (lv' := [(0, .ref 159), (1, .int a), (2, .int y14), (3, .int y25)]) (st' := [.int y25, .ref 159]) rfl ?_
                refine En_callV rfl rfl rfl rfl rfl rfl rfl rfl tgz_159 (by decide +kernel) rfl (c_267 σ43 h44 y25) (by decide) (by decide) (fun v54 σ55 h53 => ?_)
                obtain ⟨h56, h57, z59, rfl, h58⟩ := h53
                have h60 := Fr_trans h49 h57 (by decide +kernel)
                refine En_iEq _ rfl rfl (fun h61 => ?_) (fun h61 => ?_)
                · refine En_Ps 1 (pc' := 56) (lv' := [(3, .int ((y25 + Int32.ofInt 1))), (0, .ref 159), (1, .int a), (2, .int y14)]) (st' := []) rfl ?_
                  refine En_lv1 (addI rfl (by decide : (Int32.ofInt 1).toInt = 1) (by first | exact q_465ab79ac1 h30 | omega) (by first | exact q_f3f8e04381 h31 | omega)) (fun z62 h63 => ?_)
                  refine En_Ps 1 (pc' := 20) (lv' := [(3, .int z62), (0, .ref 159), (1, .int a), (2, .int y14)]) (st' := []) rfl ?_
                  refine En_lv (lv := [(0, .ref 159), (1, .int a), (2, .int y14), (3, .int z62)]) ⟨rfl, rfl, rfl, rfl, trivial⟩ ?_
                  exact ih20 σ55 z62 h56 h60 ((h57 _ _ (inWa tgz_160 (by decide +kernel))).trans ((h45 _ _ (inWa tgz_160 (by decide +kernel))).trans h29)) (by first | exact q_35104ce9d3 h63 h30 | omega) (by first | exact q_34dc714687 h63 h50 h46.2.1 | omega) (by first | exact q_c5d740bdff h63 h32 | omega)
                · refine En_Ps 4 (pc' := 40) (lv' := [(0, .ref 159), (1, .int a), (2, .int y14), (3, .int y25)]) (st' := [.int y25, .int y14, .int a, .ref 159]) rfl ?_
                  refine En_callV rfl rfl rfl rfl rfl rfl rfl rfl tgz_159 (by decide +kernel) rfl (c_261 σ55 h56 a y14 y25 (geI rfl (by (first | exact q_bf8258001b h10.2.2.1 h13 h10.1 | omega))) (leI rfl (by (first | exact q_88b0c3c731 h10.2.2.1 h13 h10.1 h4 | omega))) (geI rfl (by first | exact q_58e6e51dcc h19 | omega)) (leI rfl (by first | exact q_f1519f12c0 h22 | omega)) (geI rfl (by first | exact q_58e6e51dcc h30 | omega)) (leI rfl (by first | exact q_c15b485600 h50 h46.2.1 | omega))) (by decide) (by decide) (fun v65 σ66 h64 => ?_)
                  obtain ⟨h67, h68, z70, rfl, h69⟩ := h64
                  have h71 := Fr_trans h60 h68 (by decide +kernel)
                  refine En_iEq _ rfl rfl (fun h72 => ?_) (fun h72 => ?_)
                  · refine En_Ps 1 (pc' := 56) (lv' := [(3, .int ((y25 + Int32.ofInt 1))), (0, .ref 159), (1, .int a), (2, .int y14)]) (st' := []) rfl ?_
                    refine En_lv1 (addI rfl (by decide : (Int32.ofInt 1).toInt = 1) (by first | exact q_465ab79ac1 h30 | omega) (by first | exact q_f3f8e04381 h31 | omega)) (fun z73 h74 => ?_)
                    refine En_Ps 1 (pc' := 20) (lv' := [(3, .int z73), (0, .ref 159), (1, .int a), (2, .int y14)]) (st' := []) rfl ?_
                    refine En_lv (lv := [(0, .ref 159), (1, .int a), (2, .int y14), (3, .int z73)]) ⟨rfl, rfl, rfl, rfl, trivial⟩ ?_
                    exact ih20 σ66 z73 h67 h71 ((h68 _ _ (inWa tgz_160 (by decide +kernel))).trans ((h57 _ _ (inWa tgz_160 (by decide +kernel))).trans ((h45 _ _ (inWa tgz_160 (by decide +kernel))).trans h29))) (by first | exact q_35104ce9d3 h74 h30 | omega) (by first | exact q_34dc714687 h74 h50 h46.2.1 | omega) (by first | exact q_c5d740bdff h74 h32 | omega)
                  · refine En_Ps 3 (pc' := 50) (lv' := [(0, .ref 159), (1, .int a), (2, .int y14), (3, .int y25)]) (st' := [.int (((((Int8.ofInt 100).toInt32)) * y14))]) rfl ?_
                    refine En_top (mulI (by decide : ((Int8.ofInt 100).toInt32).toInt = 100) rfl (Z := 100 * y14.toInt) (by first | exact q_ec6b471118 | omega) (by first | exact q_c2dc73a4d1 h19 | omega) (by first | exact q_4849263c2c h22 | omega)) (fun z75 h76 => ?_)
                    refine En_Ps 2 (pc' := 52) (lv' := [(0, .ref 159), (1, .int a), (2, .int y14), (3, .int y25)]) (st' := [.int ((z75 + y25))]) rfl ?_
                    refine En_top (addI rfl rfl (by first | exact q_5f97f9cf0f h30 h76 h19 | omega) (by first | exact q_969932ee8b h50 h76 h22 h46.2.1 | omega)) (fun z77 h78 => ?_)
                    exact En_ret (v := some (Value.int z77)) rfl rfl rfl ⟨h67, h71, z77, rfl, ⟨by first | exact q_89fb32ea47 h78 h30 h76 h19 | omega, by first | exact q_f0f33d7539 h78 h50 h76 h22 h46.2.1 | omega⟩⟩
          have := (by decide : (Int32.ofInt 0).toInt = 0)
          refine En_lv (lv := [(0, .ref 159), (1, .int a), (2, .int y14), (3, .int ((Int32.ofInt 0)))]) ⟨rfl, rfl, rfl, rfl, trivial⟩ ?_
          exact key20 (Int.toNat (16) + 1) σ15 ((Int32.ofInt 0)) h16 h17 h18 (by decide) (by decide) (by first | exact toN_lt _ | omega)
    have := (by decide : (Int32.ofInt 0).toInt = 0)
    refine En_lv (lv := [(0, .ref 159), (1, .int a), (2, .int ((Int32.ofInt 0)))]) ⟨rfl, rfl, rfl, trivial⟩ ?_
    exact key13 (Int.toNat (3) + 1) σ7 ((Int32.ofInt 0)) h8 h12 ((h9 _ _ (inWa tgz_160 (by decide +kernel))).trans h1) (by decide) (by decide) (by first | exact toN_lt _ | omega)
  · refine En_Ps 1 (pc' := 10) (lv' := [(0, .ref 159), (1, .int a)]) (st' := [.int (((Int8.ofInt (-2)).toInt32))]) rfl ?_
    refine En_top (by decide : ((Int8.ofInt (-2)).toInt32).toInt = -2) (fun z79 h80 => ?_)
    exact En_ret (v := some (Value.int z79)) rfl rfl rfl ⟨h8, h12, z79, rfl, ⟨by first | exact q_f35c5d346c h80 | omega, by first | exact q_45d2ac33e5 h80 | omega⟩⟩
/-- DoorSchoolModel.rests(I)I -/
abbrev P_307 (σ0 : SG) (a : Int32) : PO := fun v σ => WT σ ∧ Fr [(35, 18), (35, 21), (42, 0), (43, 0), (44, 0), (45, 0), (46, 0)] σ0 σ ∧ ∃ ret : Int32, v = some (Value.int ret) ∧ True
set_option maxRecDepth 10000 in
set_option maxHeartbeats 4000000 in
theorem c_307 (σ0 : SG) (hσ0 : WT σ0) (a : Int32) : En 6 138 none mr_307 (P_307 σ0 a) 0 [(0, .ref 159), (1, .int a)] [] σ0 := by
  have hF0 : Fr [(35, 18), (35, 21), (42, 0), (43, 0), (44, 0), (45, 0), (46, 0)] σ0 σ0 := Fr_rfl
  refine En_Ps 2 (pc' := 2) (lv' := [(0, .ref 159), (1, .int a)]) (st' := [.int a, .ref 159]) rfl ?_
  obtain ⟨z2, h1, h3, h4⟩ := WT_peekI hσ0 tgz_160 (by decide +kernel : FT 36 (2 : Int).toNat = (0, 0, 4)) (by decide +kernel)
  refine En_callV rfl rfl rfl rfl rfl rfl rfl rfl tgz_159 (by decide +kernel) rfl (c_254 σ0 hσ0 a z2 h1) (by decide) (by decide) (fun v6 σ7 h5 => ?_)
  obtain ⟨h8, h9, z11, rfl, h10⟩ := h5
  have h12 := Fr_trans hF0 h9 (by decide +kernel)
  refine En_iNe _ rfl rfl (fun h13 => ?_) (fun h13 => ?_)
  · refine En_Ps 4 (pc' := 15) (lv' := [(3, .int ((Int32.ofInt 0))), (2, .int ((Int32.ofInt 0))), (0, .ref 159), (1, .int a)]) (st' := []) rfl ?_
    have key15 : ∀ (n15 : Nat) (σ16 : SG) (y14 : Int32) (y15 : Int32), WT σ16 → Fr [(35, 18), (35, 21), (42, 0), (43, 0), (44, 0), (45, 0), (46, 0)] σ0 σ16 → (σ16 160)[(2 : Int).toNat]? = some (Value.int z2) → 0 ≤ y15.toInt → y15.toInt ≤ 3 → -y15.toInt + 3 < (n15 : Int) → En 6 138 none mr_307 (P_307 σ0 a) 15 [(0, .ref 159), (1, .int a), (2, .int y14), (3, .int y15)] [] σ16 := by
      intro n15
      induction n15 with
      | zero =>
        intro σ16 y14 y15 h17 h18 h19 h20 h21 h22
        first | exact (q_9f1e7068c9 h22 h21).elim | (exfalso; omega)
      | succ n15 ih15 =>
        intro σ16 y14 y15 h17 h18 h19 h20 h21 h22
        refine En_Ps 2 (pc' := 17) (lv' := [(0, .ref 159), (1, .int a), (2, .int y14), (3, .int y15)]) (st' := [.int ((Int32.ofInt 3)), .int y15]) rfl ?_
        refine En_icGe _ rfl (by decide : (Int32.ofInt 3).toInt = 3) rfl (fun h23 => ?_) (fun h23 => ?_)
        · refine En_Ps 1 (pc' := 73) (lv' := [(0, .ref 159), (1, .int a), (2, .int y14), (3, .int y15)]) (st' := [.int y14]) rfl ?_
          exact En_ret (v := some (Value.int y14)) rfl rfl rfl ⟨h17, h18, y14, rfl, trivial⟩
        · refine En_Ps 2 (pc' := 23) (lv' := [(4, .int ((Int32.ofInt 0))), (0, .ref 159), (1, .int a), (2, .int y14), (3, .int y15)]) (st' := []) rfl ?_
          have key23 : ∀ (n23 : Nat) (σ26 : SG) (y24 : Int32) (y25 : Int32), WT σ26 → Fr [(35, 18), (35, 21), (42, 0), (43, 0), (44, 0), (45, 0), (46, 0)] σ0 σ26 → (σ26 160)[(2 : Int).toNat]? = some (Value.int z2) → 0 ≤ y25.toInt → y25.toInt ≤ 16 → -y25.toInt + 16 < (n23 : Int) → En 6 138 none mr_307 (P_307 σ0 a) 23 [(0, .ref 159), (1, .int a), (2, .int y24), (3, .int y15), (4, .int y25)] [] σ26 := by
            intro n23
            induction n23 with
            | zero =>
              intro σ26 y24 y25 h27 h28 h29 h30 h31 h32
              first | exact (q_511f6d33ac h32 h31).elim | (exfalso; omega)
            | succ n23 ih23 =>
              intro σ26 y24 y25 h27 h28 h29 h30 h31 h32
              refine En_Ps 2 (pc' := 26) (lv' := [(0, .ref 159), (1, .int a), (2, .int y24), (3, .int y15), (4, .int y25)]) (st' := [.ref 159, .int y25]) rfl ?_
              obtain ⟨z34, h33, h35, h36⟩ := WT_peekI h27 tgz_160 (by decide +kernel : FT 36 (0 : Int).toNat = (0, 0, 4)) (by decide +kernel)
              obtain ⟨z38, h37, h39, h40⟩ := WT_peekI h27 tgz_160 (by decide +kernel : FT 36 (7 : Int).toNat = (0, 0, 1600)) (by decide +kernel)
              refine En_callV rfl rfl rfl rfl rfl rfl rfl rfl tgz_159 (by decide +kernel) rfl (c_269 σ26 h27 z34 h33 z38 h37) (by decide) (by decide) (fun v42 σ43 h41 => ?_)
              obtain ⟨h44, h45, z47, rfl, h46⟩ := h41
              have h48 := h46.2.2
              have h49 := Fr_trans h28 h45 (by decide +kernel)
              refine En_icGe _ rfl rfl rfl (fun h50 => ?_) (fun h50 => ?_)
              · refine En_Ps 1 (pc' := 69) (lv' := [(3, .int ((y15 + Int32.ofInt 1))), (0, .ref 159), (1, .int a), (2, .int y24), (4, .int y25)]) (st' := []) rfl ?_
                refine En_lv1 (addI rfl (by decide : (Int32.ofInt 1).toInt = 1) (by first | exact q_465ab79ac1 h20 | omega) (by first | exact q_6ae830b01d h23 | omega)) (fun z51 h52 => ?_)
                refine En_Ps 1 (pc' := 15) (lv' := [(3, .int z51), (0, .ref 159), (1, .int a), (2, .int y24), (4, .int y25)]) (st' := []) rfl ?_
                refine En_lv (lv := [(0, .ref 159), (1, .int a), (2, .int y24), (3, .int z51)]) ⟨rfl, rfl, rfl, rfl, trivial⟩ ?_
                exact ih15 σ43 y24 z51 h44 h49 ((h45 _ _ (inWa tgz_160 (by decide +kernel))).trans h29) (by first | exact q_35104ce9d3 h52 h20 | omega) (by first | exact q_84805d5d8e h52 h23 | omega) (by first | exact q_6272716eb4 h52 h22 | omega)
              · refine En_Ps 3 (pc' := 36) (lv' := [(0, .ref 159), (1, .int a), (2, .int y24), (3, .int y15), (4, .int y25)]) (st' := [.int y25, .ref 159, .int y24]) rfl ?_
                refine En_callV rfl rfl rfl rfl rfl rfl rfl rfl tgz_159 (by decide +kernel) rfl (c_267 σ43 h44 y25) (by decide) (by decide) (fun v54 σ55 h53 => ?_)
                obtain ⟨h56, h57, z59, rfl, h58⟩ := h53
                have h60 := Fr_trans h49 h57 (by decide +kernel)
                refine En_iEq _ rfl rfl (fun h61 => ?_) (fun h61 => ?_)
                · refine En_Ps 2 (pc' := 59) (lv' := [(0, .ref 159), (1, .int a), (2, .int y24), (3, .int y15), (4, .int y25)]) (st' := [.int ((y24 + ((Int32.ofInt 0))))]) rfl ?_
                  refine En_hav (fun z62 => ?_)
                  refine En_Ps 2 (pc' := 63) (lv' := [(4, .int ((y25 + Int32.ofInt 1))), (2, .int z62), (0, .ref 159), (1, .int a), (3, .int y15)]) (st' := []) rfl ?_
                  refine En_lv1 (addI rfl (by decide : (Int32.ofInt 1).toInt = 1) (by first | exact q_465ab79ac1 h30 | omega) (by first | exact q_f3f8e04381 h31 | omega)) (fun z63 h64 => ?_)
                  refine En_Ps 1 (pc' := 23) (lv' := [(4, .int z63), (2, .int z62), (0, .ref 159), (1, .int a), (3, .int y15)]) (st' := []) rfl ?_
                  refine En_lv (lv := [(0, .ref 159), (1, .int a), (2, .int z62), (3, .int y15), (4, .int z63)]) ⟨rfl, rfl, rfl, rfl, rfl, trivial⟩ ?_
                  exact ih23 σ55 z62 z63 h56 h60 ((h57 _ _ (inWa tgz_160 (by decide +kernel))).trans ((h45 _ _ (inWa tgz_160 (by decide +kernel))).trans h29)) (by first | exact q_35104ce9d3 h64 h30 | omega) (by first | exact q_34dc714687 h64 h50 h46.2.1 | omega) (by first | exact q_c5d740bdff h64 h32 | omega)
                · refine En_Ps 4 (pc' := 47) (lv' := [(0, .ref 159), (1, .int a), (2, .int y24), (3, .int y15), (4, .int y25)]) (st' := [.int y25, .int y15, .int a, .ref 159, .int y24]) rfl ?_
                  refine En_callV rfl rfl rfl rfl rfl rfl rfl rfl tgz_159 (by decide +kernel) rfl (c_261 σ55 h56 a y15 y25 (geI rfl (by (first | exact q_bf8258001b h10.2.2.1 h13 h10.1 | omega))) (leI rfl (by (first | exact q_88b0c3c731 h10.2.2.1 h13 h10.1 h4 | omega))) (geI rfl (by first | exact q_58e6e51dcc h20 | omega)) (leI rfl (by first | exact q_f1519f12c0 h23 | omega)) (geI rfl (by first | exact q_58e6e51dcc h30 | omega)) (leI rfl (by first | exact q_c15b485600 h50 h46.2.1 | omega))) (by decide) (by decide) (fun v66 σ67 h65 => ?_)
                  obtain ⟨h68, h69, z71, rfl, h70⟩ := h65
                  have h72 := Fr_trans h60 h69 (by decide +kernel)
                  refine En_iEq _ rfl rfl (fun h73 => ?_) (fun h73 => ?_)
                  · refine En_Ps 2 (pc' := 59) (lv' := [(0, .ref 159), (1, .int a), (2, .int y24), (3, .int y15), (4, .int y25)]) (st' := [.int ((y24 + ((Int32.ofInt 0))))]) rfl ?_
                    refine En_hav (fun z74 => ?_)
                    refine En_Ps 2 (pc' := 63) (lv' := [(4, .int ((y25 + Int32.ofInt 1))), (2, .int z74), (0, .ref 159), (1, .int a), (3, .int y15)]) (st' := []) rfl ?_
                    refine En_lv1 (addI rfl (by decide : (Int32.ofInt 1).toInt = 1) (by first | exact q_465ab79ac1 h30 | omega) (by first | exact q_f3f8e04381 h31 | omega)) (fun z75 h76 => ?_)
                    refine En_Ps 1 (pc' := 23) (lv' := [(4, .int z75), (2, .int z74), (0, .ref 159), (1, .int a), (3, .int y15)]) (st' := []) rfl ?_
                    refine En_lv (lv := [(0, .ref 159), (1, .int a), (2, .int z74), (3, .int y15), (4, .int z75)]) ⟨rfl, rfl, rfl, rfl, rfl, trivial⟩ ?_
                    exact ih23 σ67 z74 z75 h68 h72 ((h69 _ _ (inWa tgz_160 (by decide +kernel))).trans ((h57 _ _ (inWa tgz_160 (by decide +kernel))).trans ((h45 _ _ (inWa tgz_160 (by decide +kernel))).trans h29))) (by first | exact q_35104ce9d3 h76 h30 | omega) (by first | exact q_34dc714687 h76 h50 h46.2.1 | omega) (by first | exact q_c5d740bdff h76 h32 | omega)
                  · refine En_Ps 3 (pc' := 59) (lv' := [(0, .ref 159), (1, .int a), (2, .int y24), (3, .int y15), (4, .int y25)]) (st' := [.int ((y24 + ((Int32.ofInt 1))))]) rfl ?_
                    refine En_hav (fun z77 => ?_)
                    refine En_Ps 2 (pc' := 63) (lv' := [(4, .int ((y25 + Int32.ofInt 1))), (2, .int z77), (0, .ref 159), (1, .int a), (3, .int y15)]) (st' := []) rfl ?_
                    refine En_lv1 (addI rfl (by decide : (Int32.ofInt 1).toInt = 1) (by first | exact q_465ab79ac1 h30 | omega) (by first | exact q_f3f8e04381 h31 | omega)) (fun z78 h79 => ?_)
                    refine En_Ps 1 (pc' := 23) (lv' := [(4, .int z78), (2, .int z77), (0, .ref 159), (1, .int a), (3, .int y15)]) (st' := []) rfl ?_
                    refine En_lv (lv := [(0, .ref 159), (1, .int a), (2, .int z77), (3, .int y15), (4, .int z78)]) ⟨rfl, rfl, rfl, rfl, rfl, trivial⟩ ?_
                    exact ih23 σ67 z77 z78 h68 h72 ((h69 _ _ (inWa tgz_160 (by decide +kernel))).trans ((h57 _ _ (inWa tgz_160 (by decide +kernel))).trans ((h45 _ _ (inWa tgz_160 (by decide +kernel))).trans h29))) (by first | exact q_35104ce9d3 h79 h30 | omega) (by first | exact q_34dc714687 h79 h50 h46.2.1 | omega) (by first | exact q_c5d740bdff h79 h32 | omega)
          have := (by decide : (Int32.ofInt 0).toInt = 0)
          refine En_lv (lv := [(0, .ref 159), (1, .int a), (2, .int y14), (3, .int y15), (4, .int ((Int32.ofInt 0)))]) ⟨rfl, rfl, rfl, rfl, rfl, trivial⟩ ?_
          exact key23 (Int.toNat (16) + 1) σ16 y14 ((Int32.ofInt 0)) h17 h18 h19 (by decide) (by decide) (by first | exact toN_lt _ | omega)
    have := (by decide : (Int32.ofInt 0).toInt = 0)
    have := (by decide : (Int32.ofInt 0).toInt = 0)
    refine En_lv (lv := [(0, .ref 159), (1, .int a), (2, .int ((Int32.ofInt 0))), (3, .int ((Int32.ofInt 0)))]) ⟨rfl, rfl, rfl, rfl, trivial⟩ ?_
    exact key15 (Int.toNat (3) + 1) σ7 ((Int32.ofInt 0)) ((Int32.ofInt 0)) h8 h12 ((h9 _ _ (inWa tgz_160 (by decide +kernel))).trans h1) (by decide) (by decide) (by first | exact toN_lt _ | omega)
  · refine En_Ps 1 (pc' := 10) (lv' := [(0, .ref 159), (1, .int a)]) (st' := [.int (((Int8.ofInt (-2)).toInt32))]) rfl ?_
    refine En_top (by decide : ((Int8.ofInt (-2)).toInt32).toInt = -2) (fun z80 h81 => ?_)
    exact En_ret (v := some (Value.int z80)) rfl rfl rfl ⟨h8, h12, z80, rfl, trivial⟩
/-- DoorSchoolModel.rule(II)I -/
abbrev P_309 (σ0 : SG) (a : Int32) (b : Int32) : PO := fun v σ => WT σ ∧ Fr [(35, 18), (35, 21), (42, 0), (43, 0), (44, 0), (45, 0), (46, 0)] σ0 σ ∧ ∃ ret : Int32, v = some (Value.int ret) ∧ -ret.toInt - 2 ≤ 0 ∧ ret.toInt - 80 ≤ 0
set_option maxRecDepth 10000 in
set_option maxHeartbeats 4000000 in
theorem c_309 (σ0 : SG) (hσ0 : WT σ0) (a : Int32) (b : Int32) : En 4 87 none mr_309 (P_309 σ0 a b) 0 [(0, .ref 159), (1, .int a), (2, .int b)] [] σ0 := by
  have hF0 : Fr [(35, 18), (35, 21), (42, 0), (43, 0), (44, 0), (45, 0), (46, 0)] σ0 σ0 := Fr_rfl
  refine En_Ps 2 (pc' := 2) (lv' := [(0, .ref 159), (1, .int a), (2, .int b)]) (st' := [.int a, .ref 159]) rfl ?_
  obtain ⟨z2, h1, h3, h4⟩ := WT_peekI hσ0 tgz_160 (by decide +kernel : FT 36 (2 : Int).toNat = (0, 0, 4)) (by decide +kernel)
  refine En_callV rfl rfl rfl rfl rfl rfl rfl rfl tgz_159 (by decide +kernel) rfl (c_254 σ0 hσ0 a z2 h1) (by decide) (by decide) (fun v6 σ7 h5 => ?_)
  obtain ⟨h8, h9, z11, rfl, h10⟩ := h5
  have h12 := Fr_trans hF0 h9 (by decide +kernel)
  refine En_iEq _ rfl rfl (fun h13 => ?_) (fun h13 => ?_)
  · refine En_Ps 1 (pc' := 22) (lv' := [(0, .ref 159), (1, .int a), (2, .int b)]) (st' := [.int (((Int8.ofInt (-2)).toInt32))]) rfl ?_
    refine En_top (by decide : ((Int8.ofInt (-2)).toInt32).toInt = -2) (fun z14 h15 => ?_)
    exact En_ret (v := some (Value.int z14)) rfl rfl rfl ⟨h8, h12, z14, rfl, ⟨by first | exact q_f35c5d346c h15 | omega, by first | exact q_e35b2e457c h15 | omega⟩⟩
  · refine En_Ps 4 (pc' := 14) (lv' := [(0, .ref 159), (1, .int a), (2, .int b)]) (st' := [.long ((2 : Int64)), .long ((Int64.ofNat 0)), .long b.toInt64]) rfl ?_
    have : b.toInt64.toInt = b.toInt := (i2lI rfl)
    have := (by decide : ((Int64.ofNat 0)).toInt = 0)
    have := (by decide : ((2 : Int64)).toInt = 2)
    refine En_callS rfl rfl rfl rfl rfl rfl rfl rfl rfl (c_249 σ7 h8 b.toInt64 ((Int64.ofNat 0)) ((2 : Int64))) (by decide) (by decide) (fun v17 σ18 h16 => ?_)
    obtain ⟨h19, h20, z22, rfl, h21⟩ := h16
    have h23 := Fr_trans h12 h20 (by decide +kernel)
    refine En_iNe _ rfl rfl (fun h24 => ?_) (fun h24 => ?_)
    · refine En_Ps 1 (pc' := 24) (lv' := [(0, .ref 159), (1, .int a), (2, .int b)]) (st' := [.ref 159]) rfl ?_
      obtain ⟨z26, h25, h27, h28⟩ := WT_peekI h19 tgz_160 (by decide +kernel : FT 36 (0 : Int).toNat = (0, 0, 4)) (by decide +kernel)
      obtain ⟨z30, h29, h31, h32⟩ := WT_peekI h19 tgz_160 (by decide +kernel : FT 36 (7 : Int).toNat = (0, 0, 1600)) (by decide +kernel)
      refine En_callV rfl rfl rfl rfl rfl rfl rfl rfl tgz_159 (by decide +kernel) rfl (c_272 σ18 h19 z26 h25 z30 h29) (by decide) (by decide) (fun v34 σ35 h33 => ?_)
      obtain ⟨h36, h37, rfl, h38⟩ := h33
      have h39 := Fr_trans h23 h37 (by decide +kernel)
      refine En_Ps 2 (pc' := 29) (lv' := [(0, .ref 159), (1, .int a), (2, .int b)]) (st' := [.int a, .ref 159]) rfl ?_
      refine En_callV rfl rfl rfl rfl rfl rfl rfl rfl tgz_159 (by decide +kernel) rfl (c_271 σ35 h36 a (geI rfl (by (first | exact q_bf8258001b h10.2.2.1 h13 h10.1 | omega))) (leI rfl (by (first | exact q_88b0c3c731 h10.2.2.1 h13 h10.1 h4 | omega)))) (by decide) (by decide) (fun v41 σ42 h40 => ?_)
      obtain ⟨h43, h44, z46, h47, rfl, h45⟩ := h40
      have h48 := Fr_trans h39 h44 (by decide +kernel)
      refine En_Ps 1 (pc' := 33) (lv' := [(0, .ref 159), (1, .int a), (2, .int b)]) (st' := [.ref 159]) rfl ?_
      refine En_callV rfl rfl rfl rfl rfl rfl rfl rfl tgz_159 (by decide +kernel) rfl (c_229 σ42 h43) (by decide) (by decide) (fun v50 σ51 h49 => ?_)
      obtain ⟨h52, h53, z55, rfl, h54⟩ := h49
      have h56 := Fr_trans h48 h53 (by decide +kernel)
      refine En_Ps 3 (pc' := 39) (lv' := [(3, .int z55), (0, .ref 159), (1, .int a), (2, .int b)]) (st' := [.int ((Int32.ofInt (-1))), .int z55]) rfl ?_
      refine En_icEq _ rfl (by decide : (Int32.ofInt (-1)).toInt = -1) rfl (fun h57 => ?_) (fun h57 => ?_)
      · refine En_Ps 2 (pc' := 70) (lv' := [(3, .int z55), (0, .ref 159), (1, .int a), (2, .int b)]) (st' := [.int z55]) rfl ?_
        exact En_ret (v := some (Value.int z55)) rfl rfl rfl ⟨h52, h56, z55, rfl, ⟨by first | exact q_108dc72d76 h54.1 | omega, by first | exact q_ed1bd306dd h57 | omega⟩⟩
      · refine En_Ps 2 (pc' := 44) (lv' := [(3, .int z55), (0, .ref 159), (1, .int a), (2, .int b)]) (st' := [.int ((Int32.ofInt 2)), .int b]) rfl ?_
        refine En_icNe _ rfl (by decide : (Int32.ofInt 2).toInt = 2) rfl (fun h58 => ?_) (fun h58 => ?_)
        · refine En_Ps 1 (pc' := 52) (lv' := [(3, .int z55), (0, .ref 159), (1, .int a), (2, .int b)]) (st' := [.int b]) rfl ?_
          refine En_iNe _ rfl rfl (fun h59 => ?_) (fun h59 => ?_)
          · refine En_Ps 1 (pc' := 65) (lv' := [(3, .int z55), (0, .ref 159), (1, .int a), (2, .int b)]) (st' := [.ref 159]) rfl ?_
            refine En_getU (j := 16) (u := 167) (g' := 43) (q := 0) rfl rfl rfl tgz_159 (by decide +kernel) h52 (by decide +kernel) un_43_167 (fun h60 => ?_)
            refine En_Ps 1 (pc' := 69) (lv' := [(3, .int z55), (0, .ref 159), (1, .int a), (2, .int b)]) (st' := [.int z55, .ref 167]) rfl ?_
            refine En_iald (l := 0) (u := 15) rfl rfl tgz_167 (by decide +kernel) h52 (by first | exact q_b1cade0df5 h57 h54.1 | omega) (lnI (by decide +kernel : LN _ = 81) (by first | exact q_3ac9ed8367 h54.2 | omega)) (FTsgl (by decide +kernel)) (fun z63 h62 h64 h65 => ?_)
            exact En_ret (v := some (Value.int z63)) rfl rfl rfl ⟨h52, h56, z63, rfl, ⟨by first | exact q_ea7f0ffdb1 h64 | omega, by first | exact q_8ed889c819 h65 | omega⟩⟩
          · refine En_Ps 1 (pc' := 56) (lv' := [(3, .int z55), (0, .ref 159), (1, .int a), (2, .int b)]) (st' := [.ref 159]) rfl ?_
            refine En_getU (j := 15) (u := 166) (g' := 42) (q := 0) rfl rfl rfl tgz_159 (by decide +kernel) h52 (by decide +kernel) un_42_166 (fun h66 => ?_)
            refine En_Ps 1 (pc' := 60) (lv' := [(3, .int z55), (0, .ref 159), (1, .int a), (2, .int b)]) (st' := [.int z55, .ref 166]) rfl ?_
            refine En_iald (l := 0) (u := 15) rfl rfl tgz_166 (by decide +kernel) h52 (by first | exact q_b1cade0df5 h57 h54.1 | omega) (lnI (by decide +kernel : LN _ = 81) (by first | exact q_3ac9ed8367 h54.2 | omega)) (FTsgl (by decide +kernel)) (fun z69 h68 h70 h71 => ?_)
            refine En_Ps 1 (pc' := 70) (lv' := [(3, .int z55), (0, .ref 159), (1, .int a), (2, .int b)]) (st' := [.int z69]) rfl ?_
            exact En_ret (v := some (Value.int z69)) rfl rfl rfl ⟨h52, h56, z69, rfl, ⟨by first | exact q_ea7f0ffdb1 h70 | omega, by first | exact q_8ed889c819 h71 | omega⟩⟩
        · refine En_Ps 2 (pc' := 70) (lv' := [(3, .int z55), (0, .ref 159), (1, .int a), (2, .int b)]) (st' := [.int z55]) rfl ?_
          exact En_ret (v := some (Value.int z55)) rfl rfl rfl ⟨h52, h56, z55, rfl, ⟨by first | exact q_3d8d12402f h57 h54.1 | omega, by first | exact q_370493a97e h54.2 | omega⟩⟩
    · refine En_Ps 1 (pc' := 22) (lv' := [(0, .ref 159), (1, .int a), (2, .int b)]) (st' := [.int (((Int8.ofInt (-2)).toInt32))]) rfl ?_
      refine En_top (by decide : ((Int8.ofInt (-2)).toInt32).toInt = -2) (fun z72 h73 => ?_)
      exact En_ret (v := some (Value.int z72)) rfl rfl rfl ⟨h19, h23, z72, rfl, ⟨by first | exact q_f35c5d346c h73 | omega, by first | exact q_e35b2e457c h73 | omega⟩⟩
/-- DoorSchoolModel.rules(I)I -/
abbrev P_310 (σ0 : SG) (a : Int32) : PO := fun v σ => WT σ ∧ Fr [(35, 18), (35, 21), (42, 0), (43, 0), (44, 0), (45, 0), (46, 0)] σ0 σ ∧ ∃ ret : Int32, v = some (Value.int ret) ∧ -ret.toInt - 2 ≤ 0 ∧ ret.toInt - 81 ≤ 0
set_option maxRecDepth 10000 in
set_option maxHeartbeats 4000000 in
theorem c_310 (σ0 : SG) (hσ0 : WT σ0) (a : Int32) : En 4 87 none mr_310 (P_310 σ0 a) 0 [(0, .ref 159), (1, .int a)] [] σ0 := by
  have hF0 : Fr [(35, 18), (35, 21), (42, 0), (43, 0), (44, 0), (45, 0), (46, 0)] σ0 σ0 := Fr_rfl
  refine En_Ps 2 (pc' := 2) (lv' := [(0, .ref 159), (1, .int a)]) (st' := [.int a, .ref 159]) rfl ?_
  obtain ⟨z2, h1, h3, h4⟩ := WT_peekI hσ0 tgz_160 (by decide +kernel : FT 36 (2 : Int).toNat = (0, 0, 4)) (by decide +kernel)
  refine En_callV rfl rfl rfl rfl rfl rfl rfl rfl tgz_159 (by decide +kernel) rfl (c_254 σ0 hσ0 a z2 h1) (by decide) (by decide) (fun v6 σ7 h5 => ?_)
  obtain ⟨h8, h9, z11, rfl, h10⟩ := h5
  have h12 := Fr_trans hF0 h9 (by decide +kernel)
  refine En_iNe _ rfl rfl (fun h13 => ?_) (fun h13 => ?_)
  · refine En_Ps 1 (pc' := 12) (lv' := [(0, .ref 159), (1, .int a)]) (st' := [.ref 159]) rfl ?_
    obtain ⟨z15, h14, h16, h17⟩ := WT_peekI h8 tgz_160 (by decide +kernel : FT 36 (0 : Int).toNat = (0, 0, 4)) (by decide +kernel)
    obtain ⟨z19, h18, h20, h21⟩ := WT_peekI h8 tgz_160 (by decide +kernel : FT 36 (7 : Int).toNat = (0, 0, 1600)) (by decide +kernel)
    refine En_callV rfl rfl rfl rfl rfl rfl rfl rfl tgz_159 (by decide +kernel) rfl (c_272 σ7 h8 z15 h14 z19 h18) (by decide) (by decide) (fun v23 σ24 h22 => ?_)
    obtain ⟨h25, h26, rfl, h27⟩ := h22
    have h28 := Fr_trans h12 h26 (by decide +kernel)
    refine En_Ps 2 (pc' := 17) (lv' := [(0, .ref 159), (1, .int a)]) (st' := [.int a, .ref 159]) rfl ?_
    refine En_callV rfl rfl rfl rfl rfl rfl rfl rfl tgz_159 (by decide +kernel) rfl (c_271 σ24 h25 a (geI rfl (by (first | exact q_bf8258001b h10.2.2.1 h13 h10.1 | omega))) (leI rfl (by (first | exact q_88b0c3c731 h10.2.2.1 h13 h10.1 h4 | omega)))) (by decide) (by decide) (fun v30 σ31 h29 => ?_)
    obtain ⟨h32, h33, z35, h36, rfl, h34⟩ := h29
    have h37 := Fr_trans h28 h33 (by decide +kernel)
    refine En_Ps 4 (pc' := 24) (lv' := [(3, .int ((Int32.ofInt 0))), (2, .int ((Int32.ofInt 0))), (0, .ref 159), (1, .int a)]) (st' := []) rfl ?_
    have key24 : ∀ (n24 : Nat) (σ40 : SG) (y38 : Int32) (y39 : Int32), WT σ40 → Fr [(35, 18), (35, 21), (42, 0), (43, 0), (44, 0), (45, 0), (46, 0)] σ0 σ40 → (σ40 160)[(2 : Int).toNat]? = some (Value.int z2) → (σ40 160)[(0 : Int).toNat]? = some (Value.int z15) → (σ40 160)[(7 : Int).toNat]? = some (Value.int z19) → (σ40 159)[21]? = some (Value.int z35) → 0 ≤ y38.toInt → y38.toInt ≤ 81 → 0 ≤ y39.toInt → y39.toInt ≤ 81 → y38.toInt - y39.toInt ≤ 0 → -y39.toInt + 81 < (n24 : Int) → En 4 87 none mr_310 (P_310 σ0 a) 24 [(0, .ref 159), (1, .int a), (2, .int y38), (3, .int y39)] [] σ40 := by
      intro n24
      induction n24 with
      | zero =>
        intro σ40 y38 y39 h41 h42 h43 h44 h45 h46 h47 h48 h49 h50 h51 h52
        first | exact (q_ffef14d449 h52 h50).elim | (exfalso; omega)
      | succ n24 ih24 =>
        intro σ40 y38 y39 h41 h42 h43 h44 h45 h46 h47 h48 h49 h50 h51 h52
        refine En_Ps 2 (pc' := 26) (lv' := [(0, .ref 159), (1, .int a), (2, .int y38), (3, .int y39)]) (st' := [.ref 159, .int y39]) rfl ?_
        refine En_getI (j := 18) (l := 0) (u := 81) rfl rfl rfl tgz_159 (by decide +kernel) h41 (by decide +kernel) (fun z54 h53 h55 h56 => ?_)
        refine En_icGe _ rfl rfl rfl (fun h57 => ?_) (fun h57 => ?_)
        · refine En_Ps 1 (pc' := 60) (lv' := [(0, .ref 159), (1, .int a), (2, .int y38), (3, .int y39)]) (st' := [.int y38]) rfl ?_
          exact En_ret (v := some (Value.int y38)) rfl rfl rfl ⟨h41, h42, y38, rfl, ⟨by first | exact q_ea7f0ffdb1 h47 | omega, by first | exact q_96a57adcaf h48 | omega⟩⟩
        · refine En_Ps 3 (pc' := 35) (lv' := [(0, .ref 159), (1, .int a), (2, .int y38), (3, .int y39)]) (st' := [.ref 159, .ref 159, .int y38]) rfl ?_
          refine En_getU (j := 17) (u := 168) (g' := 44) (q := 0) rfl rfl rfl tgz_159 (by decide +kernel) h41 (by decide +kernel) un_44_168 (fun h58 => ?_)
          refine En_Ps 1 (pc' := 39) (lv' := [(0, .ref 159), (1, .int a), (2, .int y38), (3, .int y39)]) (st' := [.int y39, .ref 168, .ref 159, .int y38]) rfl ?_
          refine En_iald (l := (-2147483648)) (u := 2147483647) rfl rfl tgz_168 (by decide +kernel) h41 (by first | exact q_58e6e51dcc h49 | omega) (lnI (by decide +kernel : LN _ = 81) (by first | exact q_a0e855914a h57 h56 | omega)) (FTsgl (by decide +kernel)) (fun z61 h60 h62 h63 => ?_)
          refine En_callV rfl rfl rfl rfl rfl rfl rfl rfl tgz_159 (by decide +kernel) rfl (c_252 σ40 h41 z61) (by decide) (by decide) (fun v65 σ66 h64 => ?_)
          obtain ⟨h67, h68, z70, rfl, h69⟩ := h64
          have h71 := Fr_trans h42 h68 (by decide +kernel)
          refine En_iEq _ rfl rfl (fun h72 => ?_) (fun h72 => ?_)
          · refine En_Ps 2 (pc' := 52) (lv' := [(0, .ref 159), (1, .int a), (2, .int y38), (3, .int y39)]) (st' := [.int ((y38 + ((Int32.ofInt 0))))]) rfl ?_
            refine En_top (addI rfl (by decide : (Int32.ofInt 0).toInt = 0) (by first | exact q_2f569dfca1 h47 | omega) (by first | exact q_a21129f50f h48 | omega)) (fun z73 h74 => ?_)
            refine En_Ps 2 (pc' := 56) (lv' := [(3, .int ((y39 + Int32.ofInt 1))), (2, .int z73), (0, .ref 159), (1, .int a)]) (st' := []) rfl ?_
            refine En_lv1 (addI rfl (by decide : (Int32.ofInt 1).toInt = 1) (by first | exact q_465ab79ac1 h49 | omega) (by first | exact q_d778ff18c8 h50 | omega)) (fun z75 h76 => ?_)
            refine En_Ps 1 (pc' := 24) (lv' := [(3, .int z75), (2, .int z73), (0, .ref 159), (1, .int a)]) (st' := []) rfl ?_
            refine En_lv (lv := [(0, .ref 159), (1, .int a), (2, .int z73), (3, .int z75)]) ⟨rfl, rfl, rfl, rfl, trivial⟩ ?_
            exact ih24 σ66 z73 z75 h67 h71 ((h68 _ _ (inWa tgz_160 (by decide +kernel))).trans h43) ((h68 _ _ (inWa tgz_160 (by decide +kernel))).trans h44) ((h68 _ _ (inWa tgz_160 (by decide +kernel))).trans h45) ((h68 _ _ (inW tgz_159 (by decide +kernel))).trans h46) (by first | exact q_771c4e5138 h74 h47 | omega) (by first | exact q_18b5268c76 h74 h48 | omega) (by first | exact q_35104ce9d3 h76 h49 | omega) (by first | exact q_798b104d48 h76 h57 h56 | omega) (by first | exact q_969c4fd5e6 h74 h76 h51 | omega) (by first | exact q_4ff790945b h76 h52 | omega)
          · refine En_Ps 3 (pc' := 52) (lv' := [(0, .ref 159), (1, .int a), (2, .int y38), (3, .int y39)]) (st' := [.int ((y38 + ((Int32.ofInt 1))))]) rfl ?_
            refine En_top (addI rfl (by decide : (Int32.ofInt 1).toInt = 1) (by first | exact q_465ab79ac1 h47 | omega) (by first | exact q_d778ff18c8 h48 | omega)) (fun z77 h78 => ?_)
            refine En_Ps 2 (pc' := 56) (lv' := [(3, .int ((y39 + Int32.ofInt 1))), (2, .int z77), (0, .ref 159), (1, .int a)]) (st' := []) rfl ?_
            refine En_lv1 (addI rfl (by decide : (Int32.ofInt 1).toInt = 1) (by first | exact q_465ab79ac1 h49 | omega) (by first | exact q_d778ff18c8 h50 | omega)) (fun z79 h80 => ?_)
            refine En_Ps 1 (pc' := 24) (lv' := [(3, .int z79), (2, .int z77), (0, .ref 159), (1, .int a)]) (st' := []) rfl ?_
            refine En_lv (lv := [(0, .ref 159), (1, .int a), (2, .int z77), (3, .int z79)]) ⟨rfl, rfl, rfl, rfl, trivial⟩ ?_
            exact ih24 σ66 z77 z79 h67 h71 ((h68 _ _ (inWa tgz_160 (by decide +kernel))).trans h43) ((h68 _ _ (inWa tgz_160 (by decide +kernel))).trans h44) ((h68 _ _ (inWa tgz_160 (by decide +kernel))).trans h45) ((h68 _ _ (inW tgz_159 (by decide +kernel))).trans h46) (by first | exact q_35104ce9d3 h78 h47 | omega) (by first | exact q_d53ed2728c h78 h51 h57 h56 | omega) (by first | exact q_35104ce9d3 h80 h49 | omega) (by first | exact q_798b104d48 h80 h57 h56 | omega) (by first | exact q_1ff421e7a2 h78 h80 h51 | omega) (by first | exact q_4ff790945b h80 h52 | omega)
    have := (by decide : (Int32.ofInt 0).toInt = 0)
    have := (by decide : (Int32.ofInt 0).toInt = 0)
    refine En_lv (lv := [(0, .ref 159), (1, .int a), (2, .int ((Int32.ofInt 0))), (3, .int ((Int32.ofInt 0)))]) ⟨rfl, rfl, rfl, rfl, trivial⟩ ?_
    exact key24 (Int.toNat (81) + 1) σ31 ((Int32.ofInt 0)) ((Int32.ofInt 0)) h32 h37 ((h33 _ _ (inWa tgz_160 (by decide +kernel))).trans ((h26 _ _ (inWa tgz_160 (by decide +kernel))).trans ((h9 _ _ (inWa tgz_160 (by decide +kernel))).trans h1))) ((h33 _ _ (inWa tgz_160 (by decide +kernel))).trans ((h26 _ _ (inWa tgz_160 (by decide +kernel))).trans h14)) ((h33 _ _ (inWa tgz_160 (by decide +kernel))).trans ((h26 _ _ (inWa tgz_160 (by decide +kernel))).trans h18)) h36 (by decide) (by decide) (by decide) (by decide) (by (first | exact q_1bb76abeaf | omega)) (by first | exact toN_lt _ | omega)
  · refine En_Ps 1 (pc' := 10) (lv' := [(0, .ref 159), (1, .int a)]) (st' := [.int (((Int8.ofInt (-2)).toInt32))]) rfl ?_
    refine En_top (by decide : ((Int8.ofInt (-2)).toInt32).toInt = -2) (fun z81 h82 => ?_)
    exact En_ret (v := some (Value.int z81)) rfl rfl rfl ⟨h8, h12, z81, rfl, ⟨by first | exact q_f35c5d346c h82 | omega, by first | exact q_a224a6b9a0 h82 | omega⟩⟩
/-- DoorSchoolModel.same(I)I -/
abbrev P_311 (σ0 : SG) (a : Int32) : PO := fun v σ => WT σ ∧ Fr [(35, 18), (35, 21), (42, 0), (43, 0), (44, 0), (45, 0), (46, 0)] σ0 σ ∧ ∃ ret : Int32, v = some (Value.int ret) ∧ -ret.toInt - 6 ≤ 0 ∧ ret.toInt - 15 ≤ 0
set_option maxRecDepth 10000 in
set_option maxHeartbeats 4000000 in
theorem c_311 (σ0 : SG) (hσ0 : WT σ0) (a : Int32) : En 5 112 none mr_311 (P_311 σ0 a) 0 [(0, .ref 159), (1, .int a)] [] σ0 := by
  have hF0 : Fr [(35, 18), (35, 21), (42, 0), (43, 0), (44, 0), (45, 0), (46, 0)] σ0 σ0 := Fr_rfl
  refine En_Ps 3 (pc' := 3) (lv' := [(0, .ref 159), (1, .int a)]) (st' := [.int ((Int32.ofInt 1)), .int a, .ref 159]) rfl ?_
  have := (by decide : ((Int32.ofInt 1)).toInt = 1)
  refine En_callV rfl rfl rfl rfl rfl rfl rfl rfl tgz_159 (by decide +kernel) rfl (c_198 σ0 hσ0 a ((Int32.ofInt 1)) (geI (by decide : (Int32.ofInt 1).toInt = 1) (by decide)) (leI (by decide : (Int32.ofInt 1).toInt = 1) (by decide))) (by decide) (by decide) (fun v2 σ3 h1 => ?_)
  obtain ⟨h4, h5, z7, rfl, h6⟩ := h1
  have h8 := Fr_trans hF0 h5 (by decide +kernel)
  refine En_Ps 2 (pc' := 8) (lv' := [(2, .int z7), (0, .ref 159), (1, .int a)]) (st' := [.int z7]) rfl ?_
  refine En_iGe _ rfl rfl (fun h9 => ?_) (fun h9 => ?_)
  · refine En_Ps 4 (pc' := 18) (lv' := [(4, .int ((Int32.ofInt 0))), (3, .int ((Int32.ofInt 0))), (2, .int z7), (0, .ref 159), (1, .int a)]) (st' := []) rfl ?_
    have key18 : ∀ (n18 : Nat) (σ12 : SG) (y10 : Int32) (y11 : Int32), WT σ12 → Fr [(35, 18), (35, 21), (42, 0), (43, 0), (44, 0), (45, 0), (46, 0)] σ0 σ12 → 0 ≤ y10.toInt → y10.toInt ≤ 15 → 0 ≤ y11.toInt → y11.toInt ≤ 4 → -y11.toInt + 4 < (n18 : Int) → En 5 112 none mr_311 (P_311 σ0 a) 18 [(0, .ref 159), (1, .int a), (2, .int z7), (3, .int y10), (4, .int y11)] [] σ12 := by
      intro n18
      induction n18 with
      | zero =>
        intro σ12 y10 y11 h13 h14 h15 h16 h17 h18 h19
        first | exact (q_20d6385c6f h19 h18).elim | (exfalso; omega)
      | succ n18 ih18 =>
        intro σ12 y10 y11 h13 h14 h15 h16 h17 h18 h19
        refine En_Ps 2 (pc' := 21) (lv' := [(0, .ref 159), (1, .int a), (2, .int z7), (3, .int y10), (4, .int y11)]) (st' := [.ref 159, .int y11]) rfl ?_
        refine En_getU (j := 1) (u := 160) (g' := 36) (q := 0) rfl rfl rfl tgz_159 (by decide +kernel) h13 (by decide +kernel) un_36_160 (fun h20 => ?_)
        refine En_Ps 1 (pc' := 25) (lv' := [(0, .ref 159), (1, .int a), (2, .int z7), (3, .int y10), (4, .int y11)]) (st' := [.int ((Int32.ofInt 2)), .ref 160, .int y11]) rfl ?_
        refine En_iald (l := 0) (u := 4) rfl (by decide : (Int32.ofInt 2).toInt = 2) tgz_160 (by decide +kernel) h13 (by decide) (lnI (by decide +kernel : LN _ = 226) (by decide)) (by decide +kernel) (fun z23 h22 h24 h25 => ?_)
        refine En_icGe _ rfl rfl rfl (fun h26 => ?_) (fun h26 => ?_)
        · refine En_Ps 1 (pc' := 61) (lv' := [(0, .ref 159), (1, .int a), (2, .int z7), (3, .int y10), (4, .int y11)]) (st' := [.int y10]) rfl ?_
          exact En_ret (v := some (Value.int y10)) rfl rfl rfl ⟨h13, h14, y10, rfl, ⟨by first | exact q_7430e21245 h15 | omega, by first | exact q_867a9ac627 h16 | omega⟩⟩
        · refine En_Ps 5 (pc' := 35) (lv' := [(0, .ref 159), (1, .int a), (2, .int z7), (3, .int y10), (4, .int y11)]) (st' := [.int y11, .ref 159, .int a, .ref 159, .int y10]) rfl ?_
          refine En_callV rfl rfl rfl rfl rfl rfl rfl rfl tgz_159 (by decide +kernel) rfl (c_213 σ12 h13 y11 (geI rfl (by first | exact q_58e6e51dcc h17 | omega)) (leI rfl (by first | exact q_5ab2e90ecc h26 h25 | omega))) (by decide) (by decide) (fun v28 σ29 h27 => ?_)
          obtain ⟨h30, h31, z33, h34, z35, rfl, h32⟩ := h27
          have h36 := Fr_trans h14 h31 (by decide +kernel)
          refine En_callV rfl rfl rfl rfl rfl rfl rfl rfl tgz_159 (by decide +kernel) rfl (c_218 σ29 h30 a z35 (geI rfl (by (first | exact q_b875be19a0 h6.2.2 h9 | omega))) (leI rfl (by (first | exact q_91631f135a h6.2.2 h9 | omega)))) (by decide) (by decide) (fun v38 σ39 h37 => ?_)
          obtain ⟨h40, h41, z43, rfl, h42⟩ := h37
          have h44 := Fr_trans h36 h41 (by decide +kernel)
          refine En_iEq _ rfl rfl (fun h45 => ?_) (fun h45 => ?_)
          · refine En_Ps 2 (pc' := 53) (lv' := [(0, .ref 159), (1, .int a), (2, .int z7), (3, .int y10), (4, .int y11)]) (st' := [.int ((y10 ||| ((Int32.ofInt 0))))]) rfl ?_
            refine En_rng (l := 0) (u := 15) (or_rng 4 rfl (by decide : (Int32.ofInt 0).toInt = 0) (by (first | exact q_58e6e51dcc h15 | omega)) (by omega) (by (first | decide | omega)) (by omega) (by decide)) (fun z46 h47 h48 => ?_)
            refine En_Ps 2 (pc' := 57) (lv' := [(4, .int ((y11 + Int32.ofInt 1))), (3, .int z46), (0, .ref 159), (1, .int a), (2, .int z7)]) (st' := []) rfl ?_
            refine En_lv1 (addI rfl (by decide : (Int32.ofInt 1).toInt = 1) (by first | exact q_465ab79ac1 h17 | omega) (by first | exact q_f7282962fd h18 | omega)) (fun z49 h50 => ?_)
            refine En_Ps 1 (pc' := 18) (lv' := [(4, .int z49), (3, .int z46), (0, .ref 159), (1, .int a), (2, .int z7)]) (st' := []) rfl ?_
            refine En_lv (lv := [(0, .ref 159), (1, .int a), (2, .int z7), (3, .int z46), (4, .int z49)]) ⟨rfl, rfl, rfl, rfl, rfl, trivial⟩ ?_
            exact ih18 σ39 z46 z49 h40 h44 (by first | exact q_58e6e51dcc h47 | omega) (by first | exact q_5a4d8a7e08 h48 | omega) (by first | exact q_35104ce9d3 h50 h17 | omega) (by first | exact q_de42116b63 h50 h26 h25 | omega) (by first | exact q_3d8d70ace2 h50 h19 | omega)
          · refine En_Ps 3 (pc' := 48) (lv' := [(0, .ref 159), (1, .int a), (2, .int z7), (3, .int y10), (4, .int y11)]) (st' := [.int ((((Int32.ofInt 1)) <<< (y11 &&& 31))), .int y10]) rfl ?_
            refine En_rng (shl1_p 3 rfl (by (first | exact q_58e6e51dcc h17 | omega)) (by (first | exact q_4f3c14e175 h26 h25 | omega)) (by decide)) (fun z51 h52 h53 => ?_)
            refine En_Ps 2 (pc' := 53) (lv' := [(0, .ref 159), (1, .int a), (2, .int z7), (3, .int y10), (4, .int y11)]) (st' := [.int ((y10 ||| z51))]) rfl ?_
            refine En_rng (l := 0) (u := 15) (or_rng 4 rfl rfl (by (first | exact q_58e6e51dcc h15 | omega)) (by omega) (by (first | exact q_337a85e294 h52 | omega)) (by omega) (by decide)) (fun z54 h55 h56 => ?_)
            refine En_Ps 2 (pc' := 57) (lv' := [(4, .int ((y11 + Int32.ofInt 1))), (3, .int z54), (0, .ref 159), (1, .int a), (2, .int z7)]) (st' := []) rfl ?_
            refine En_lv1 (addI rfl (by decide : (Int32.ofInt 1).toInt = 1) (by first | exact q_465ab79ac1 h17 | omega) (by first | exact q_f7282962fd h18 | omega)) (fun z57 h58 => ?_)
            refine En_Ps 1 (pc' := 18) (lv' := [(4, .int z57), (3, .int z54), (0, .ref 159), (1, .int a), (2, .int z7)]) (st' := []) rfl ?_
            refine En_lv (lv := [(0, .ref 159), (1, .int a), (2, .int z7), (3, .int z54), (4, .int z57)]) ⟨rfl, rfl, rfl, rfl, rfl, trivial⟩ ?_
            exact ih18 σ39 z54 z57 h40 h44 (by first | exact q_58e6e51dcc h55 | omega) (by first | exact q_5a4d8a7e08 h56 | omega) (by first | exact q_35104ce9d3 h58 h17 | omega) (by first | exact q_de42116b63 h58 h26 h25 | omega) (by first | exact q_3d8d70ace2 h58 h19 | omega)
    have := (by decide : (Int32.ofInt 0).toInt = 0)
    have := (by decide : (Int32.ofInt 0).toInt = 0)
    refine En_lv (lv := [(0, .ref 159), (1, .int a), (2, .int z7), (3, .int ((Int32.ofInt 0))), (4, .int ((Int32.ofInt 0)))]) ⟨rfl, rfl, rfl, rfl, rfl, trivial⟩ ?_
    exact key18 (Int.toNat (4) + 1) σ3 ((Int32.ofInt 0)) ((Int32.ofInt 0)) h4 h8 (by decide) (by decide) (by decide) (by decide) (by first | exact toN_lt _ | omega)
  · refine En_Ps 1 (pc' := 12) (lv' := [(2, .int z7), (0, .ref 159), (1, .int a)]) (st' := [.int z7]) rfl ?_
    exact En_ret (v := some (Value.int z7)) rfl rfl rfl ⟨h4, h8, z7, rfl, ⟨by first | exact q_629d629181 h6.1 | omega, by first | exact q_ee93ba13c8 h9 | omega⟩⟩
end
/-! 32.ly.m17 -/
section
/-- DoorSchoolModel.sets(III)I -/
abbrev P_314 (σ0 : SG) (a : Int32) (b : Int32) (c : Int32) : PO := fun v σ => WT σ ∧ Fr [(35, 18), (35, 21), (42, 0), (43, 0), (44, 0), (45, 0), (46, 0)] σ0 σ ∧ ∃ ret : Int32, v = some (Value.int ret) ∧ -ret.toInt - 2 ≤ 0 ∧ ret.toInt - 65536 ≤ 0
set_option maxRecDepth 10000 in
set_option maxHeartbeats 4000000 in
theorem c_314 (σ0 : SG) (hσ0 : WT σ0) (a : Int32) (b : Int32) (c : Int32) : En 5 115 none mr_314 (P_314 σ0 a b c) 0 [(0, .ref 159), (1, .int a), (2, .int b), (3, .int c)] [] σ0 := by
  have hF0 : Fr [(35, 18), (35, 21), (42, 0), (43, 0), (44, 0), (45, 0), (46, 0)] σ0 σ0 := Fr_rfl
  refine En_Ps 1 (pc' := 1) (lv' := [(0, .ref 159), (1, .int a), (2, .int b), (3, .int c)]) (st' := [.int a]) rfl ?_
  refine En_callS rfl rfl rfl rfl rfl rfl rfl rfl rfl (c_268 σ0 hσ0 a) (by decide) (by decide) (fun v2 σ3 h1 => ?_)
  obtain ⟨h4, h5, z7, rfl, h6⟩ := h1
  have h8 := Fr_trans hF0 h5 (by decide +kernel)
  refine En_iEq _ rfl rfl (fun h9 => ?_) (fun h9 => ?_)
  · refine En_Ps 1 (pc' := 29) (lv' := [(0, .ref 159), (1, .int a), (2, .int b), (3, .int c)]) (st' := [.int (((Int8.ofInt (-2)).toInt32))]) rfl ?_
    refine En_top (by decide : ((Int8.ofInt (-2)).toInt32).toInt = -2) (fun z10 h11 => ?_)
    exact En_ret (v := some (Value.int z10)) rfl rfl rfl ⟨h4, h8, z10, rfl, ⟨by first | exact q_f35c5d346c h11 | omega, by first | exact q_2eeef1728f h11 | omega⟩⟩
  · refine En_Ps 2 (pc' := 9) (lv' := [(0, .ref 159), (1, .int a), (2, .int b), (3, .int c)]) (st' := [.int b, .ref 159]) rfl ?_
    refine En_callV rfl rfl rfl rfl rfl rfl rfl rfl tgz_159 (by decide +kernel) rfl (c_195 σ3 h4 b) (by decide) (by decide) (fun v13 σ14 h12 => ?_)
    obtain ⟨h15, h16, z18, rfl, h17⟩ := h12
    have h19 := Fr_trans h8 h16 (by decide +kernel)
    refine En_iEq _ rfl rfl (fun h20 => ?_) (fun h20 => ?_)
    · refine En_Ps 1 (pc' := 29) (lv' := [(0, .ref 159), (1, .int a), (2, .int b), (3, .int c)]) (st' := [.int (((Int8.ofInt (-2)).toInt32))]) rfl ?_
      refine En_top (by decide : ((Int8.ofInt (-2)).toInt32).toInt = -2) (fun z21 h22 => ?_)
      exact En_ret (v := some (Value.int z21)) rfl rfl rfl ⟨h15, h19, z21, rfl, ⟨by first | exact q_f35c5d346c h22 | omega, by first | exact q_2eeef1728f h22 | omega⟩⟩
    · refine En_Ps 4 (pc' := 21) (lv' := [(0, .ref 159), (1, .int a), (2, .int b), (3, .int c)]) (st' := [.long ((16 : Int64)), .long ((Int64.ofNat 0)), .long c.toInt64]) rfl ?_
      have : c.toInt64.toInt = c.toInt := (i2lI rfl)
      have := (by decide : ((Int64.ofNat 0)).toInt = 0)
      have := (by decide : ((16 : Int64)).toInt = 16)
      refine En_callS rfl rfl rfl rfl rfl rfl rfl rfl rfl (c_249 σ14 h15 c.toInt64 ((Int64.ofNat 0)) ((16 : Int64))) (by decide) (by decide) (fun v24 σ25 h23 => ?_)
      obtain ⟨h26, h27, z29, rfl, h28⟩ := h23
      have h30 := Fr_trans h19 h27 (by decide +kernel)
      refine En_iNe _ rfl rfl (fun h31 => ?_) (fun h31 => ?_)
      · refine En_Ps 1 (pc' := 31) (lv' := [(0, .ref 159), (1, .int a), (2, .int b), (3, .int c)]) (st' := [.ref 159]) rfl ?_
        obtain ⟨z33, h32, h34, h35⟩ := WT_peekI h26 tgz_160 (by decide +kernel : FT 36 (0 : Int).toNat = (0, 0, 4)) (by decide +kernel)
        obtain ⟨z37, h36, h38, h39⟩ := WT_peekI h26 tgz_160 (by decide +kernel : FT 36 (7 : Int).toNat = (0, 0, 1600)) (by decide +kernel)
        refine En_callV rfl rfl rfl rfl rfl rfl rfl rfl tgz_159 (by decide +kernel) rfl (c_272 σ25 h26 z33 h32 z37 h36) (by decide) (by decide) (fun v41 σ42 h40 => ?_)
        obtain ⟨h43, h44, rfl, h45⟩ := h40
        have h46 := Fr_trans h30 h44 (by decide +kernel)
        refine En_Ps 4 (pc' := 40) (lv' := [(5, .int ((Int32.ofInt 0))), (4, .int ((Int32.ofInt 0))), (0, .ref 159), (1, .int a), (2, .int b), (3, .int c)]) (st' := []) rfl ?_
        have key40 : ∀ (n40 : Nat) (σ49 : SG) (y47 : Int32) (y48 : Int32), WT σ49 → Fr [(35, 18), (35, 21), (42, 0), (43, 0), (44, 0), (45, 0), (46, 0)] σ0 σ49 → (σ49 160)[(0 : Int).toNat]? = some (Value.int z33) → (σ49 160)[(7 : Int).toNat]? = some (Value.int z37) → 0 ≤ y47.toInt → y47.toInt ≤ 65536 → 0 ≤ y48.toInt → y48.toInt ≤ 65536 → y47.toInt - y48.toInt ≤ 0 → -y48.toInt + 65536 < (n40 : Int) → En 5 115 none mr_314 (P_314 σ0 a b c) 40 [(0, .ref 159), (1, .int a), (2, .int b), (3, .int c), (4, .int y47), (5, .int y48)] [] σ49 := by
          intro n40
          induction n40 with
          | zero =>
            intro σ49 y47 y48 h50 h51 h52 h53 h54 h55 h56 h57 h58 h59
            first | exact (q_ec59fb8a68 h59 h57).elim | (exfalso; omega)
          | succ n40 ih40 =>
            intro σ49 y47 y48 h50 h51 h52 h53 h54 h55 h56 h57 h58 h59
            refine En_Ps 2 (pc' := 43) (lv' := [(0, .ref 159), (1, .int a), (2, .int b), (3, .int c), (4, .int y47), (5, .int y48)]) (st' := [.ref 159, .int y48]) rfl ?_
            refine En_callV rfl rfl rfl rfl rfl rfl rfl rfl tgz_159 (by decide +kernel) rfl (c_192 σ49 h50) (by decide) (by decide) (fun v61 σ62 h60 => ?_)
            obtain ⟨h63, h64, z66, rfl, h65⟩ := h60
            have h67 := Fr_trans h51 h64 (by decide +kernel)
            refine En_icGt _ rfl rfl rfl (fun h68 => ?_) (fun h68 => ?_)
            · refine En_Ps 1 (pc' := 87) (lv' := [(0, .ref 159), (1, .int a), (2, .int b), (3, .int c), (4, .int y47), (5, .int y48)]) (st' := [.int y47]) rfl ?_
              exact En_ret (v := some (Value.int y47)) rfl rfl rfl ⟨h63, h67, y47, rfl, ⟨by first | exact q_ea7f0ffdb1 h54 | omega, by first | exact q_9e830a46d8 h55 | omega⟩⟩
            · refine En_Ps 2 (pc' := 53) (lv' := [(0, .ref 159), (1, .int a), (2, .int b), (3, .int c), (4, .int y47), (5, .int y48)]) (st' := [.int y48, .int y47]) rfl ?_
              refine En_callS rfl rfl rfl rfl rfl rfl rfl rfl rfl (c_203b σ62 h63 y48) (by decide) (by decide) (fun v70 σ71 h69 => ?_)
              obtain ⟨h72, h73, z75, rfl, h74⟩ := h69
              have h76 := Fr_trans h67 h73 (by decide +kernel)
              refine En_Ps 1 (pc' := 57) (lv' := [(0, .ref 159), (1, .int a), (2, .int b), (3, .int c), (4, .int y47), (5, .int y48)]) (st' := [.int c, .int z75, .int y47]) rfl ?_
              refine En_icNe _ rfl rfl rfl (fun h77 => ?_) (fun h77 => ?_)
              · refine En_Ps 2 (pc' := 77) (lv' := [(0, .ref 159), (1, .int a), (2, .int b), (3, .int c), (4, .int y47), (5, .int y48)]) (st' := [.int ((y47 + ((Int32.ofInt 0))))]) rfl ?_
                refine En_top (addI rfl (by decide : (Int32.ofInt 0).toInt = 0) (by first | exact q_2f569dfca1 h54 | omega) (by first | exact q_0c61af2615 h55 | omega)) (fun z78 h79 => ?_)
                refine En_Ps 2 (pc' := 82) (lv' := [(5, .int ((y48 + Int32.ofInt 1))), (4, .int z78), (0, .ref 159), (1, .int a), (2, .int b), (3, .int c)]) (st' := []) rfl ?_
                refine En_lv1 (addI rfl (by decide : (Int32.ofInt 1).toInt = 1) (by first | exact q_465ab79ac1 h56 | omega) (by first | exact q_1d2cffc2f0 h57 | omega)) (fun z80 h81 => ?_)
                refine En_Ps 1 (pc' := 40) (lv' := [(5, .int z80), (4, .int z78), (0, .ref 159), (1, .int a), (2, .int b), (3, .int c)]) (st' := []) rfl ?_
                refine En_lv (lv := [(0, .ref 159), (1, .int a), (2, .int b), (3, .int c), (4, .int z78), (5, .int z80)]) ⟨rfl, rfl, rfl, rfl, rfl, rfl, trivial⟩ ?_
                exact ih40 σ71 z78 z80 h72 h76 ((h73 _ _ (inWa tgz_160 (by decide +kernel))).trans ((h64 _ _ (inWa tgz_160 (by decide +kernel))).trans h52)) ((h73 _ _ (inWa tgz_160 (by decide +kernel))).trans ((h64 _ _ (inWa tgz_160 (by decide +kernel))).trans h53)) (by first | exact q_771c4e5138 h79 h54 | omega) (by first | exact q_a524223eca h79 h55 | omega) (by first | exact q_35104ce9d3 h81 h56 | omega) (by first | exact q_14f3993466 h81 h68 h65.2 | omega) (by first | exact q_969c4fd5e6 h79 h81 h58 | omega) (by first | exact q_baf82f6f45 h81 h59 | omega)
              · refine En_Ps 4 (pc' := 65) (lv' := [(0, .ref 159), (1, .int a), (2, .int b), (3, .int c), (4, .int y47), (5, .int y48)]) (st' := [.int b, .int y48, .int a, .ref 159, .int y47]) rfl ?_
                refine En_callV rfl rfl rfl rfl rfl rfl rfl rfl tgz_159 (by decide +kernel) rfl (c_275 σ71 h72 a y48 b) (by decide) (by decide) (fun v83 σ84 h82 => ?_)
                obtain ⟨h85, h86, z88, rfl, h87⟩ := h82
                have h89 := Fr_trans h76 h86 (by decide +kernel)
                refine En_iEq _ rfl rfl (fun h90 => ?_) (fun h90 => ?_)
                · refine En_Ps 2 (pc' := 77) (lv' := [(0, .ref 159), (1, .int a), (2, .int b), (3, .int c), (4, .int y47), (5, .int y48)]) (st' := [.int ((y47 + ((Int32.ofInt 0))))]) rfl ?_
                  refine En_top (addI rfl (by decide : (Int32.ofInt 0).toInt = 0) (by first | exact q_2f569dfca1 h54 | omega) (by first | exact q_0c61af2615 h55 | omega)) (fun z91 h92 => ?_)
                  refine En_Ps 2 (pc' := 82) (lv' := [(5, .int ((y48 + Int32.ofInt 1))), (4, .int z91), (0, .ref 159), (1, .int a), (2, .int b), (3, .int c)]) (st' := []) rfl ?_
                  refine En_lv1 (addI rfl (by decide : (Int32.ofInt 1).toInt = 1) (by first | exact q_465ab79ac1 h56 | omega) (by first | exact q_1d2cffc2f0 h57 | omega)) (fun z93 h94 => ?_)
                  refine En_Ps 1 (pc' := 40) (lv' := [(5, .int z93), (4, .int z91), (0, .ref 159), (1, .int a), (2, .int b), (3, .int c)]) (st' := []) rfl ?_
                  refine En_lv (lv := [(0, .ref 159), (1, .int a), (2, .int b), (3, .int c), (4, .int z91), (5, .int z93)]) ⟨rfl, rfl, rfl, rfl, rfl, rfl, trivial⟩ ?_
                  exact ih40 σ84 z91 z93 h85 h89 ((h86 _ _ (inWa tgz_160 (by decide +kernel))).trans ((h73 _ _ (inWa tgz_160 (by decide +kernel))).trans ((h64 _ _ (inWa tgz_160 (by decide +kernel))).trans h52))) ((h86 _ _ (inWa tgz_160 (by decide +kernel))).trans ((h73 _ _ (inWa tgz_160 (by decide +kernel))).trans ((h64 _ _ (inWa tgz_160 (by decide +kernel))).trans h53))) (by first | exact q_771c4e5138 h92 h54 | omega) (by first | exact q_a524223eca h92 h55 | omega) (by first | exact q_35104ce9d3 h94 h56 | omega) (by first | exact q_14f3993466 h94 h68 h65.2 | omega) (by first | exact q_969c4fd5e6 h92 h94 h58 | omega) (by first | exact q_baf82f6f45 h94 h59 | omega)
                · refine En_Ps 3 (pc' := 77) (lv' := [(0, .ref 159), (1, .int a), (2, .int b), (3, .int c), (4, .int y47), (5, .int y48)]) (st' := [.int ((y47 + ((Int32.ofInt 1))))]) rfl ?_
                  refine En_top (addI rfl (by decide : (Int32.ofInt 1).toInt = 1) (by first | exact q_465ab79ac1 h54 | omega) (by first | exact q_1d2cffc2f0 h55 | omega)) (fun z95 h96 => ?_)
                  refine En_Ps 2 (pc' := 82) (lv' := [(5, .int ((y48 + Int32.ofInt 1))), (4, .int z95), (0, .ref 159), (1, .int a), (2, .int b), (3, .int c)]) (st' := []) rfl ?_
                  refine En_lv1 (addI rfl (by decide : (Int32.ofInt 1).toInt = 1) (by first | exact q_465ab79ac1 h56 | omega) (by first | exact q_1d2cffc2f0 h57 | omega)) (fun z97 h98 => ?_)
                  refine En_Ps 1 (pc' := 40) (lv' := [(5, .int z97), (4, .int z95), (0, .ref 159), (1, .int a), (2, .int b), (3, .int c)]) (st' := []) rfl ?_
                  refine En_lv (lv := [(0, .ref 159), (1, .int a), (2, .int b), (3, .int c), (4, .int z95), (5, .int z97)]) ⟨rfl, rfl, rfl, rfl, rfl, rfl, trivial⟩ ?_
                  exact ih40 σ84 z95 z97 h85 h89 ((h86 _ _ (inWa tgz_160 (by decide +kernel))).trans ((h73 _ _ (inWa tgz_160 (by decide +kernel))).trans ((h64 _ _ (inWa tgz_160 (by decide +kernel))).trans h52))) ((h86 _ _ (inWa tgz_160 (by decide +kernel))).trans ((h73 _ _ (inWa tgz_160 (by decide +kernel))).trans ((h64 _ _ (inWa tgz_160 (by decide +kernel))).trans h53))) (by first | exact q_35104ce9d3 h96 h54 | omega) (by first | exact q_9fadb21f72 h96 h58 h68 h65.2 | omega) (by first | exact q_35104ce9d3 h98 h56 | omega) (by first | exact q_14f3993466 h98 h68 h65.2 | omega) (by first | exact q_1ff421e7a2 h96 h98 h58 | omega) (by first | exact q_baf82f6f45 h98 h59 | omega)
        have := (by decide : (Int32.ofInt 0).toInt = 0)
        have := (by decide : (Int32.ofInt 0).toInt = 0)
        refine En_lv (lv := [(0, .ref 159), (1, .int a), (2, .int b), (3, .int c), (4, .int ((Int32.ofInt 0))), (5, .int ((Int32.ofInt 0)))]) ⟨rfl, rfl, rfl, rfl, rfl, rfl, trivial⟩ ?_
        exact key40 (Int.toNat (65536) + 1) σ42 ((Int32.ofInt 0)) ((Int32.ofInt 0)) h43 h46 ((h44 _ _ (inWa tgz_160 (by decide +kernel))).trans h32) ((h44 _ _ (inWa tgz_160 (by decide +kernel))).trans h36) (by decide) (by decide) (by decide) (by decide) (by (first | exact q_1bb76abeaf | omega)) (by first | exact toN_lt _ | omega)
      · refine En_Ps 1 (pc' := 29) (lv' := [(0, .ref 159), (1, .int a), (2, .int b), (3, .int c)]) (st' := [.int (((Int8.ofInt (-2)).toInt32))]) rfl ?_
        refine En_top (by decide : ((Int8.ofInt (-2)).toInt32).toInt = -2) (fun z99 h100 => ?_)
        exact En_ret (v := some (Value.int z99)) rfl rfl rfl ⟨h26, h30, z99, rfl, ⟨by first | exact q_f35c5d346c h100 | omega, by first | exact q_2eeef1728f h100 | omega⟩⟩
/-- DoorSchoolModel.stormed(JI)I -/
abbrev P_316 (σ0 : SG) (a : Int64) (b : Int32) : PO := fun v σ => WT σ ∧ Fr [(35, 18), (35, 21), (35, 31), (42, 0), (43, 0), (44, 0), (45, 0), (46, 0)] σ0 σ ∧ ∃ ret : Int32, v = some (Value.int ret) ∧ True
set_option maxRecDepth 10000 in
set_option maxHeartbeats 4000000 in
theorem c_316 (σ0 : SG) (hσ0 : WT σ0) (a : Int64) (b : Int32) (hl_b : 0 ≤ b.toInt) (hu_b : b.toInt ≤ 3) (hp0 : -a.toInt ≤ 0) (hp1 : a.toInt - 2147483647 ≤ 0) : En 5 112 none mr_316 (P_316 σ0 a b) 0 [(0, .ref 159), (1, .long a), (3, .int b)] [] σ0 := by
  have hF0 : Fr [(35, 18), (35, 21), (35, 31), (42, 0), (43, 0), (44, 0), (45, 0), (46, 0)] σ0 σ0 := Fr_rfl
  refine En_Ps 4 (pc' := 5) (lv' := [(4, .long a), (0, .ref 159), (1, .long a), (3, .int b)]) (st' := [.int ((Int32.ofInt 0)), .ref 159]) rfl ?_
  refine En_put (j := 31) rfl rfl rfl tgz_159 (by decide +kernel) rfl (vF (by decide +kernel)) hσ0 hF0 (by decide +kernel) (fun σ1 h2 h3 h4 h5 => ?_)
  refine En_Ps 2 (pc' := 10) (lv' := [(4, .long a), (0, .ref 159), (1, .long a), (3, .int b)]) (st' := [.int b, .ref 159]) rfl ?_
  refine En_callV rfl rfl rfl rfl rfl rfl rfl rfl tgz_159 (by decide +kernel) rfl (c_213 σ1 h2 b (geI rfl (by first | exact q_58e6e51dcc hl_b | omega)) (leI rfl (by first | exact q_da5e9b976f hu_b | omega))) (by decide) (by decide) (fun v7 σ8 h6 => ?_)
  obtain ⟨h9, h10, z12, h13, z14, rfl, h11⟩ := h6
  have h15 := Fr_trans h3 h10 (by decide +kernel)
  refine En_Ps 3 (pc' := 18) (lv' := [(7, .int ((Int32.ofInt 0))), (6, .int z14), (4, .long a), (0, .ref 159), (1, .long a), (3, .int b)]) (st' := []) rfl ?_
  have key18 : ∀ (n18 : Nat) (σ20 : SG) (y16 : Int64) (y17 : Int32) (y18 : Int32) (y19 : Int32), WT σ20 → Fr [(35, 18), (35, 21), (35, 31), (42, 0), (43, 0), (44, 0), (45, 0), (46, 0)] σ0 σ20 → (σ20 159)[21]? = some (Value.int z12) → (σ20 159)[31]? = some (Value.int y19) → 0 ≤ y16.toInt → y16.toInt ≤ 2147483647 → 0 ≤ y18.toInt → y18.toInt ≤ 16 → 0 ≤ y19.toInt → y19.toInt ≤ 16 → y19.toInt - y18.toInt ≤ 0 → -y18.toInt + 16 < (n18 : Int) → En 5 112 none mr_316 (P_316 σ0 a b) 18 [(0, .ref 159), (1, .long a), (3, .int b), (4, .long y16), (6, .int y17), (7, .int y18)] [] σ20 := by
    intro n18
    induction n18 with
    | zero =>
      intro σ20 y16 y17 y18 y19 h21 h22 h23 h24 h25 h26 h27 h28 h29 h30 h31 h32
      first | exact (q_511f6d33ac h32 h28).elim | (exfalso; omega)
    | succ n18 ih18 =>
      intro σ20 y16 y17 y18 y19 h21 h22 h23 h24 h25 h26 h27 h28 h29 h30 h31 h32
      refine En_Ps 2 (pc' := 21) (lv' := [(0, .ref 159), (1, .long a), (3, .int b), (4, .long y16), (6, .int y17), (7, .int y18)]) (st' := [.ref 159, .int y18]) rfl ?_
      obtain ⟨z34, h33, h35, h36⟩ := WT_peekI h21 tgz_160 (by decide +kernel : FT 36 (0 : Int).toNat = (0, 0, 4)) (by decide +kernel)
      obtain ⟨z38, h37, h39, h40⟩ := WT_peekI h21 tgz_160 (by decide +kernel : FT 36 (7 : Int).toNat = (0, 0, 1600)) (by decide +kernel)
      refine En_callV rfl rfl rfl rfl rfl rfl rfl rfl tgz_159 (by decide +kernel) rfl (c_269 σ20 h21 z34 h33 z38 h37) (by decide) (by decide) (fun v42 σ43 h41 => ?_)
      obtain ⟨h44, h45, z47, rfl, h46⟩ := h41
      have h48 := h46.2.2
      have h49 := Fr_trans h22 h45 (by decide +kernel)
      refine En_icGe _ rfl rfl rfl (fun h50 => ?_) (fun h50 => ?_)
      · refine En_Ps 1 (pc' := 94) (lv' := [(0, .ref 159), (1, .long a), (3, .int b), (4, .long y16), (6, .int y17), (7, .int y18)]) (st' := [.int y17]) rfl ?_
        exact En_ret (v := some (Value.int y17)) rfl rfl rfl ⟨h44, h49, y17, rfl, trivial⟩
      · refine En_Ps 3 (pc' := 33) (lv' := [(0, .ref 159), (1, .long a), (3, .int b), (4, .long y16), (6, .int y17), (7, .int y18)]) (st' := [.long ((((1103515245 : Int64)) * y16))]) rfl ?_
        refine En_topL (mulL (by decide : (1103515245 : Int64).toInt = 1103515245) rfl (Z := 1103515245 * y16.toInt) (by first | exact q_3838339b47 | omega) (by omega) (by omega)) (fun z51 h52 => ?_)
        refine En_Ps 2 (pc' := 37) (lv' := [(0, .ref 159), (1, .long a), (3, .int b), (4, .long y16), (6, .int y17), (7, .int y18)]) (st' := [.long ((z51 + ((12345 : Int64))))]) rfl ?_
        refine En_topL (addL rfl (by decide : (12345 : Int64).toInt = 12345) (by omega) (by omega)) (fun z53 h54 => ?_)
        refine En_Ps 1 (pc' := 40) (lv' := [(0, .ref 159), (1, .long a), (3, .int b), (4, .long y16), (6, .int y17), (7, .int y18)]) (st' := [.long ((2147483648 : Int64)), .long z53]) rfl ?_
        refine En_lrem (c := 2147483648) rfl rfl (by decide : (2147483648 : Int64).toInt = 2147483648) (by omega) (by decide) (fun z55 h56 => ?_)
        refine En_Ps 3 (pc' := 48) (lv' := [(4, .long z55), (0, .ref 159), (1, .long a), (3, .int b), (6, .int y17), (7, .int y18)]) (st' := [.long ((65536 : Int64)), .long z55]) rfl ?_
        refine En_ldiv (c := 65536) rfl rfl (by decide : (65536 : Int64).toInt = 65536) (by omega) (by decide) (fun z57 h58 => ?_)
        refine En_Ps 1 (pc' := 52) (lv' := [(4, .long z55), (0, .ref 159), (1, .long a), (3, .int b), (6, .int y17), (7, .int y18)]) (st' := [.long ((100 : Int64)), .long z57]) rfl ?_
        refine En_lrem (c := 100) rfl rfl (by decide : (100 : Int64).toInt = 100) (by omega) (by decide) (fun z59 h60 => ?_)
        refine En_Ps 3 (pc' := 56) (lv' := [(4, .long z55), (0, .ref 159), (1, .long a), (3, .int b), (6, .int y17), (7, .int y18)]) (st' := [.int ((Int32.ofInt 1)), .int b, .ref 159, .long z59]) rfl ?_
        have := (by decide : ((Int32.ofInt 1)).toInt = 1)
        obtain ⟨z61, h62, h63, h64⟩ := WT_peekJ (J := (4 * b.toInt + ((Int32.ofInt 1)).toInt + 10)) (l := 0) (u := 50) h44 tgz_160 (by decide +kernel) (by (first | exact q_cd423776c0 this hl_b | omega)) (lnI (by decide +kernel : LN _ = 226) (by (first | exact q_f35804b63c this hu_b | omega))) (FTrow 36 11 4 4 (by decide +kernel) (by (first | exact q_96b314d640 this hl_b | omega)) (by (first | exact q_c5e57a1fc6 this hu_b | omega)) (by omega))
        have := (by decide : ((Int32.ofInt 1)).toInt = 1)
        refine En_callV rfl rfl rfl rfl rfl rfl rfl rfl tgz_159 (by decide +kernel) rfl (c_290b σ43 h44 b ((Int32.ofInt 1)) (geI rfl (by first | exact q_58e6e51dcc hl_b | omega)) (leI rfl (by first | exact q_da5e9b976f hu_b | omega)) (geI (by decide : (Int32.ofInt 1).toInt = 1) (by decide)) (leI (by decide : (Int32.ofInt 1).toInt = 1) (by decide)) z61 h62) (by decide) (by decide) (fun v66 σ67 h65 => ?_)
        obtain ⟨h68, h69, z71, rfl, h70⟩ := h65
        have h72 := Fr_trans h49 h69 (by decide +kernel)
        refine En_Ps 2 (pc' := 61) (lv' := [(4, .long z55), (0, .ref 159), (1, .long a), (3, .int b), (6, .int y17), (7, .int y18)]) (st' := [.int (lg_cmp z59 z71.toInt64)]) rfl ?_
        refine En_lgLt _ rfl (i2lI rfl) rfl (fun h73 => ?_) (fun h73 => ?_)
        · refine En_Ps 4 (pc' := 73) (lv' := [(4, .long z55), (0, .ref 159), (1, .long a), (3, .int b), (6, .int y17), (7, .int y18)]) (st' := [.int ((((Int32.ofInt 1)) <<< (y18 &&& 31))), .int y17]) rfl ?_
          refine En_rng (shl1_p 15 rfl (by (first | exact q_58e6e51dcc h27 | omega)) (by (first | exact q_e19f9506e1 h50 h46.2.1 | omega)) (by decide)) (fun z74 h75 h76 => ?_)
          refine En_Ps 1 (pc' := 74) (lv' := [(4, .long z55), (0, .ref 159), (1, .long a), (3, .int b), (6, .int y17), (7, .int y18)]) (st' := [.int ((y17 ^^^ z74))]) rfl ?_
          refine En_hav (fun z77 => ?_)
          refine En_Ps 3 (pc' := 78) (lv' := [(6, .int z77), (4, .long z55), (0, .ref 159), (1, .long a), (3, .int b), (7, .int y18)]) (st' := [.ref 159, .ref 159]) rfl ?_
          refine En_getK (j := 31) ((h69 _ _ (inW tgz_159 (by decide +kernel))).trans ((h45 _ _ (inW tgz_159 (by decide +kernel))).trans h24)) rfl rfl rfl tgz_159 (by decide +kernel) ?_
          refine En_Ps 2 (pc' := 83) (lv' := [(6, .int z77), (4, .long z55), (0, .ref 159), (1, .long a), (3, .int b), (7, .int y18)]) (st' := [.int ((y19 + ((Int32.ofInt 1)))), .ref 159]) rfl ?_
          refine En_top (addI rfl (by decide : (Int32.ofInt 1).toInt = 1) (by first | exact q_465ab79ac1 h29 | omega) (by first | exact q_f3f8e04381 h30 | omega)) (fun z78 h79 => ?_)
          refine En_put (j := 31) rfl rfl rfl tgz_159 (by decide +kernel) rfl (vF (by decide +kernel)) h68 h72 (by decide +kernel) (fun σ80 h81 h82 h83 h84 => ?_)
          refine En_Ps 1 (pc' := 89) (lv' := [(7, .int ((y18 + Int32.ofInt 1))), (6, .int z77), (4, .long z55), (0, .ref 159), (1, .long a), (3, .int b)]) (st' := []) rfl ?_
          refine En_lv1 (addI rfl (by decide : (Int32.ofInt 1).toInt = 1) (by first | exact q_465ab79ac1 h27 | omega) (by first | exact q_f3f8e04381 h28 | omega)) (fun z85 h86 => ?_)
          refine En_Ps 1 (pc' := 18) (lv' := [(7, .int z85), (6, .int z77), (4, .long z55), (0, .ref 159), (1, .long a), (3, .int b)]) (st' := []) rfl ?_
          refine En_lv (lv := [(0, .ref 159), (1, .long a), (3, .int b), (4, .long z55), (6, .int z77), (7, .int z85)]) ⟨rfl, rfl, rfl, rfl, rfl, rfl, trivial⟩ ?_
          exact ih18 σ80 z55 z77 z85 z78 h81 h82 ((h84 _ _ (Or.inr (by decide))).trans ((h69 _ _ (inW tgz_159 (by decide +kernel))).trans ((h45 _ _ (inW tgz_159 (by decide +kernel))).trans h23))) h83 (by first | exact q_00a0d70a93 h56 | omega) (by first | exact q_2e44a78811 h56 | omega) (by first | exact q_35104ce9d3 h86 h27 | omega) (by first | exact q_34dc714687 h86 h50 h46.2.1 | omega) (by first | exact q_35104ce9d3 h79 h29 | omega) (by first | exact q_a9e20df30f h79 h31 h50 h46.2.1 | omega) (by first | exact q_1ff421e7a2 h79 h86 h31 | omega) (by first | exact q_c5d740bdff h86 h32 | omega)
        · refine En_Ps 2 (pc' := 89) (lv' := [(7, .int ((y18 + Int32.ofInt 1))), (4, .long z55), (0, .ref 159), (1, .long a), (3, .int b), (6, .int y17)]) (st' := []) rfl ?_
          refine En_lv1 (addI rfl (by decide : (Int32.ofInt 1).toInt = 1) (by first | exact q_465ab79ac1 h27 | omega) (by first | exact q_f3f8e04381 h28 | omega)) (fun z87 h88 => ?_)
          refine En_Ps 1 (pc' := 18) (lv' := [(7, .int z87), (4, .long z55), (0, .ref 159), (1, .long a), (3, .int b), (6, .int y17)]) (st' := []) rfl ?_
          refine En_lv (lv := [(0, .ref 159), (1, .long a), (3, .int b), (4, .long z55), (6, .int y17), (7, .int z87)]) ⟨rfl, rfl, rfl, rfl, rfl, rfl, trivial⟩ ?_
          exact ih18 σ67 z55 y17 z87 y19 h68 h72 ((h69 _ _ (inW tgz_159 (by decide +kernel))).trans ((h45 _ _ (inW tgz_159 (by decide +kernel))).trans h23)) ((h69 _ _ (inW tgz_159 (by decide +kernel))).trans ((h45 _ _ (inW tgz_159 (by decide +kernel))).trans h24)) (by first | exact q_00a0d70a93 h56 | omega) (by first | exact q_2e44a78811 h56 | omega) (by first | exact q_35104ce9d3 h88 h27 | omega) (by first | exact q_34dc714687 h88 h50 h46.2.1 | omega) (by first | exact q_58e6e51dcc h29 | omega) (by first | exact q_60616f21a7 h30 | omega) (by first | exact q_3a5e225620 h31 h88 | omega) (by first | exact q_c5d740bdff h88 h32 | omega)
  have := (by decide : (Int32.ofInt 0).toInt = 0)
  have := (by decide : (Int32.ofInt 0).toInt = 0)
  refine En_lv (lv := [(0, .ref 159), (1, .long a), (3, .int b), (4, .long a), (6, .int z14), (7, .int ((Int32.ofInt 0)))]) ⟨rfl, rfl, rfl, rfl, rfl, rfl, trivial⟩ ?_
  exact key18 (Int.toNat (16) + 1) σ8 a z14 ((Int32.ofInt 0)) ((Int32.ofInt 0)) h9 h15 h13 ((h10 _ _ (inW tgz_159 (by decide +kernel))).trans h4) (by first | exact q_ef1e8e38bf hp0 | omega) (by first | exact q_24a852b6e7 hp1 | omega) (by decide) (by decide) (by decide) (by decide) (by (first | exact q_1bb76abeaf | omega)) (by first | exact toN_lt _ | omega)
/-- DoorSchoolModel.storm(III)I -/
abbrev P_315 (σ0 : SG) (a : Int32) (b : Int32) (c : Int32) : PO := fun v σ => WT σ ∧ Fr [(35, 18), (35, 21), (35, 31), (42, 0), (43, 0), (44, 0), (45, 0), (46, 0)] σ0 σ ∧ ∃ ret : Int32, v = some (Value.int ret) ∧ True
set_option maxRecDepth 10000 in
set_option maxHeartbeats 4000000 in
theorem c_315 (σ0 : SG) (hσ0 : WT σ0) (a : Int32) (b : Int32) (c : Int32) : En 6 139 none mr_315 (P_315 σ0 a b c) 0 [(0, .ref 159), (1, .int a), (2, .int b), (3, .int c)] [] σ0 := by
  have hF0 : Fr [(35, 18), (35, 21), (35, 31), (42, 0), (43, 0), (44, 0), (45, 0), (46, 0)] σ0 σ0 := Fr_rfl
  refine En_Ps 1 (pc' := 1) (lv' := [(0, .ref 159), (1, .int a), (2, .int b), (3, .int c)]) (st' := [.int a]) rfl ?_
  refine En_callS rfl rfl rfl rfl rfl rfl rfl rfl rfl (c_265 σ0 hσ0 a) (by decide) (by decide) (fun v2 σ3 h1 => ?_)
  obtain ⟨h4, h5, z7, rfl, h6⟩ := h1
  have h8 := Fr_trans hF0 h5 (by decide +kernel)
  refine En_iEq _ rfl rfl (fun h9 => ?_) (fun h9 => ?_)
  · refine En_Ps 1 (pc' := 29) (lv' := [(0, .ref 159), (1, .int a), (2, .int b), (3, .int c)]) (st' := [.int (((Int8.ofInt (-2)).toInt32))]) rfl ?_
    refine En_top (by decide : ((Int8.ofInt (-2)).toInt32).toInt = -2) (fun z10 h11 => ?_)
    exact En_ret (v := some (Value.int z10)) rfl rfl rfl ⟨h4, h8, z10, rfl, trivial⟩
  · refine En_Ps 2 (pc' := 9) (lv' := [(0, .ref 159), (1, .int a), (2, .int b), (3, .int c)]) (st' := [.int b, .ref 159]) rfl ?_
    obtain ⟨z13, h12, h14, h15⟩ := WT_peekI h4 tgz_160 (by decide +kernel : FT 36 (2 : Int).toNat = (0, 0, 4)) (by decide +kernel)
    refine En_callV rfl rfl rfl rfl rfl rfl rfl rfl tgz_159 (by decide +kernel) rfl (c_254 σ3 h4 b z13 h12) (by decide) (by decide) (fun v17 σ18 h16 => ?_)
    obtain ⟨h19, h20, z22, rfl, h21⟩ := h16
    have h23 := Fr_trans h8 h20 (by decide +kernel)
    refine En_iEq _ rfl rfl (fun h24 => ?_) (fun h24 => ?_)
    · refine En_Ps 1 (pc' := 29) (lv' := [(0, .ref 159), (1, .int a), (2, .int b), (3, .int c)]) (st' := [.int (((Int8.ofInt (-2)).toInt32))]) rfl ?_
      refine En_top (by decide : ((Int8.ofInt (-2)).toInt32).toInt = -2) (fun z25 h26 => ?_)
      exact En_ret (v := some (Value.int z25)) rfl rfl rfl ⟨h19, h23, z25, rfl, trivial⟩
    · refine En_Ps 4 (pc' := 21) (lv' := [(0, .ref 159), (1, .int a), (2, .int b), (3, .int c)]) (st' := [.long ((2 : Int64)), .long ((Int64.ofNat 0)), .long c.toInt64]) rfl ?_
      have : c.toInt64.toInt = c.toInt := (i2lI rfl)
      have := (by decide : ((Int64.ofNat 0)).toInt = 0)
      have := (by decide : ((2 : Int64)).toInt = 2)
      refine En_callS rfl rfl rfl rfl rfl rfl rfl rfl rfl (c_249 σ18 h19 c.toInt64 ((Int64.ofNat 0)) ((2 : Int64))) (by decide) (by decide) (fun v28 σ29 h27 => ?_)
      obtain ⟨h30, h31, z33, rfl, h32⟩ := h27
      have h34 := Fr_trans h23 h31 (by decide +kernel)
      refine En_iNe _ rfl rfl (fun h35 => ?_) (fun h35 => ?_)
      · refine En_Ps 4 (pc' := 34) (lv' := [(0, .ref 159), (1, .int a), (2, .int b), (3, .int c)]) (st' := [.int b, .long a.toInt64, .ref 159]) rfl ?_
        have : a.toInt64.toInt = a.toInt := (i2lI rfl)
        refine En_callV rfl rfl rfl rfl rfl rfl rfl rfl tgz_159 (by decide +kernel) rfl (c_316 σ29 h30 a.toInt64 b (geI rfl (by (first | exact q_bf8258001b h21.2.2.1 h24 h21.1 | omega))) (leI rfl (by (first | exact q_88b0c3c731 h21.2.2.1 h24 h21.1 h15 | omega))) (by (first | exact q_c69b119096 h6.2.2.1 h6.2.1 h9 h6.1 this | omega)) (by (first | exact q_aee3e0ec6a h6.2.2.1 h6.2.1 h9 h6.1 this | omega))) (by decide) (by decide) (fun v37 σ38 h36 => ?_)
        obtain ⟨h39, h40, z42, rfl, h41⟩ := h36
        have h43 := Fr_trans h34 h40 (by decide +kernel)
        refine En_Ps 2 (pc' := 40) (lv' := [(4, .int z42), (0, .ref 159), (1, .int a), (2, .int b), (3, .int c)]) (st' := [.int c]) rfl ?_
        refine En_iNe _ rfl rfl (fun h44 => ?_) (fun h44 => ?_)
        · refine En_Ps 2 (pc' := 50) (lv' := [(4, .int z42), (0, .ref 159), (1, .int a), (2, .int b), (3, .int c)]) (st' := [.int ((Int32.ofInt 1)), .int c]) rfl ?_
          refine En_icNe _ rfl (by decide : (Int32.ofInt 1).toInt = 1) rfl (fun h45 => ?_) (fun h45 => ?_)
          · refine En_Ps 1 (pc' := 63) (lv' := [(4, .int z42), (0, .ref 159), (1, .int a), (2, .int b), (3, .int c)]) (st' := [.ref 159]) rfl ?_
            refine En_getI (j := 31) (l := (-2147483648)) (u := 2147483647) rfl rfl rfl tgz_159 (by decide +kernel) h39 (by decide +kernel) (fun z47 h46 h48 h49 => ?_)
            exact En_ret (v := some (Value.int z47)) rfl rfl rfl ⟨h39, h43, z47, rfl, trivial⟩
          · refine En_Ps 2 (pc' := 56) (lv' := [(4, .int z42), (0, .ref 159), (1, .int a), (2, .int b), (3, .int c)]) (st' := [.int z42, .ref 159]) rfl ?_
            refine En_callV rfl rfl rfl rfl rfl rfl rfl rfl tgz_159 (by decide +kernel) rfl (c_283 σ38 h39 z42) (by decide) (by decide) (fun v51 σ52 h50 => ?_)
            obtain ⟨h53, h54, z56, rfl, h55⟩ := h50
            have h57 := Fr_trans h43 h54 (by decide +kernel)
            refine En_Ps 1 (pc' := 66) (lv' := [(4, .int z42), (0, .ref 159), (1, .int a), (2, .int b), (3, .int c)]) (st' := [.int z56]) rfl ?_
            exact En_ret (v := some (Value.int z56)) rfl rfl rfl ⟨h53, h57, z56, rfl, trivial⟩
        · refine En_Ps 2 (pc' := 66) (lv' := [(4, .int z42), (0, .ref 159), (1, .int a), (2, .int b), (3, .int c)]) (st' := [.int z42]) rfl ?_
          exact En_ret (v := some (Value.int z42)) rfl rfl rfl ⟨h39, h43, z42, rfl, trivial⟩
      · refine En_Ps 1 (pc' := 29) (lv' := [(0, .ref 159), (1, .int a), (2, .int b), (3, .int c)]) (st' := [.int (((Int8.ofInt (-2)).toInt32))]) rfl ?_
        refine En_top (by decide : ((Int8.ofInt (-2)).toInt32).toInt = -2) (fun z58 h59 => ?_)
        exact En_ret (v := some (Value.int z58)) rfl rfl rfl ⟨h30, h34, z58, rfl, trivial⟩
/-- DoorSchoolModel.sure(II)I -/
abbrev P_317 (σ0 : SG) (a : Int32) (b : Int32) : PO := fun v σ => WT σ ∧ Fr [(35, 18), (42, 0), (43, 0), (44, 0)] σ0 σ ∧ ∃ ret : Int32, v = some (Value.int ret) ∧ -ret.toInt - 6 ≤ 0 ∧ ret.toInt - 65535 ≤ 0
set_option maxRecDepth 10000 in
set_option maxHeartbeats 4000000 in
theorem c_317 (σ0 : SG) (hσ0 : WT σ0) (a : Int32) (b : Int32) : En 4 87 none mr_317 (P_317 σ0 a b) 0 [(0, .ref 159), (1, .int a), (2, .int b)] [] σ0 := by
  have hF0 : Fr [(35, 18), (42, 0), (43, 0), (44, 0)] σ0 σ0 := Fr_rfl
  refine En_Ps 6 (pc' := 6) (lv' := [(0, .ref 159), (1, .int a), (2, .int b)]) (st' := [.long ((Int64.ofNat 1)), .long ((Int64.ofNat 0)), .long b.toInt64, .int a, .ref 159]) rfl ?_
  have : b.toInt64.toInt = b.toInt := (i2lI rfl)
  have := (by decide : ((Int64.ofNat 0)).toInt = 0)
  have := (by decide : ((Int64.ofNat 1)).toInt = 1)
  refine En_callS rfl rfl rfl rfl rfl rfl rfl rfl rfl (c_249 σ0 hσ0 b.toInt64 ((Int64.ofNat 0)) ((Int64.ofNat 1))) (by decide) (by decide) (fun v2 σ3 h1 => ?_)
  obtain ⟨h4, h5, z7, rfl, h6⟩ := h1
  have h8 := Fr_trans hF0 h5 (by decide +kernel)
  refine En_callV rfl rfl rfl rfl rfl rfl rfl rfl tgz_159 (by decide +kernel) rfl (c_198 σ3 h4 a z7 (geI rfl (by first | exact q_ef1e8e38bf h6.1 | omega)) (leI rfl (by first | exact q_733c8bfbae h6.2.1 | omega))) (by decide) (by decide) (fun v10 σ11 h9 => ?_)
  obtain ⟨h12, h13, z15, rfl, h14⟩ := h9
  have h16 := Fr_trans h8 h13 (by decide +kernel)
  refine En_Ps 2 (pc' := 14) (lv' := [(3, .int z15), (0, .ref 159), (1, .int a), (2, .int b)]) (st' := [.int z15]) rfl ?_
  refine En_iGe _ rfl rfl (fun h17 => ?_) (fun h17 => ?_)
  · refine En_Ps 1 (pc' := 20) (lv' := [(3, .int z15), (0, .ref 159), (1, .int a), (2, .int b)]) (st' := [.ref 159]) rfl ?_
    obtain ⟨z19, h18, h20, h21⟩ := WT_peekI h12 tgz_160 (by decide +kernel : FT 36 (0 : Int).toNat = (0, 0, 4)) (by decide +kernel)
    obtain ⟨z23, h22, h24, h25⟩ := WT_peekI h12 tgz_160 (by decide +kernel : FT 36 (7 : Int).toNat = (0, 0, 1600)) (by decide +kernel)
    refine En_callV rfl rfl rfl rfl rfl rfl rfl rfl tgz_159 (by decide +kernel) rfl (c_272 σ11 h12 z19 h18 z23 h22) (by decide) (by decide) (fun v27 σ28 h26 => ?_)
    obtain ⟨h29, h30, rfl, h31⟩ := h26
    have h32 := Fr_trans h16 h30 (by decide +kernel)
    refine En_Ps 1 (pc' := 24) (lv' := [(3, .int z15), (0, .ref 159), (1, .int a), (2, .int b)]) (st' := [.ref 159]) rfl ?_
    refine En_callV rfl rfl rfl rfl rfl rfl rfl rfl tgz_159 (by decide +kernel) rfl (c_192 σ28 h29) (by decide) (by decide) (fun v34 σ35 h33 => ?_)
    obtain ⟨h36, h37, z39, rfl, h38⟩ := h33
    have h40 := Fr_trans h32 h37 (by decide +kernel)
    refine En_Ps 3 (pc' := 32) (lv' := [(5, .int ((Int32.ofInt 0))), (4, .int z39), (3, .int z15), (0, .ref 159), (1, .int a), (2, .int b)]) (st' := []) rfl ?_
    have key32 : ∀ (n32 : Nat) (σ43 : SG) (y41 : Int32) (y42 : Int32), WT σ43 → Fr [(35, 18), (42, 0), (43, 0), (44, 0)] σ0 σ43 → (σ43 160)[(0 : Int).toNat]? = some (Value.int z19) → (σ43 160)[(7 : Int).toNat]? = some (Value.int z23) → 0 ≤ y41.toInt → y41.toInt ≤ 65535 → 0 ≤ y42.toInt → y42.toInt ≤ 81 → -y42.toInt + 81 < (n32 : Int) → En 4 87 none mr_317 (P_317 σ0 a b) 32 [(0, .ref 159), (1, .int a), (2, .int b), (3, .int z15), (4, .int y41), (5, .int y42)] [] σ43 := by
      intro n32
      induction n32 with
      | zero =>
        intro σ43 y41 y42 h44 h45 h46 h47 h48 h49 h50 h51 h52
        first | exact (q_ffef14d449 h52 h51).elim | (exfalso; omega)
      | succ n32 ih32 =>
        intro σ43 y41 y42 h44 h45 h46 h47 h48 h49 h50 h51 h52
        refine En_Ps 2 (pc' := 35) (lv' := [(0, .ref 159), (1, .int a), (2, .int b), (3, .int z15), (4, .int y41), (5, .int y42)]) (st' := [.ref 159, .int y42]) rfl ?_
        refine En_getI (j := 18) (l := 0) (u := 81) rfl rfl rfl tgz_159 (by decide +kernel) h44 (by decide +kernel) (fun z54 h53 h55 h56 => ?_)
        refine En_icGe _ rfl rfl rfl (fun h57 => ?_) (fun h57 => ?_)
        · refine En_Ps 1 (pc' := 92) (lv' := [(0, .ref 159), (1, .int a), (2, .int b), (3, .int z15), (4, .int y41), (5, .int y42)]) (st' := [.int y41]) rfl ?_
          exact En_ret (v := some (Value.int y41)) rfl rfl rfl ⟨h44, h45, y41, rfl, ⟨by first | exact q_7430e21245 h48 | omega, by first | exact q_e7edf0f95a h49 | omega⟩⟩
        · refine En_Ps 3 (pc' := 44) (lv' := [(0, .ref 159), (1, .int a), (2, .int b), (3, .int z15), (4, .int y41), (5, .int y42)]) (st' := [.ref 159, .int a, .ref 159]) rfl ?_
          refine En_getU (j := 17) (u := 168) (g' := 44) (q := 0) rfl rfl rfl tgz_159 (by decide +kernel) h44 (by decide +kernel) un_44_168 (fun h58 => ?_)
          refine En_Ps 1 (pc' := 49) (lv' := [(0, .ref 159), (1, .int a), (2, .int b), (3, .int z15), (4, .int y41), (5, .int y42)]) (st' := [.int y42, .ref 168, .int a, .ref 159]) rfl ?_
          refine En_iald (l := (-2147483648)) (u := 2147483647) rfl rfl tgz_168 (by decide +kernel) h44 (by first | exact q_58e6e51dcc h50 | omega) (lnI (by decide +kernel : LN _ = 81) (by first | exact q_a0e855914a h57 h56 | omega)) (FTsgl (by decide +kernel)) (fun z61 h60 h62 h63 => ?_)
          refine En_callV rfl rfl rfl rfl rfl rfl rfl rfl tgz_159 (by decide +kernel) rfl (c_218 σ43 h44 a z61 (geI rfl (by (first | exact q_b875be19a0 h14.2.2 h17 | omega))) (leI rfl (by (first | exact q_91631f135a h14.2.2 h17 | omega)))) (by decide) (by decide) (fun v65 σ66 h64 => ?_)
          obtain ⟨h67, h68, z70, rfl, h69⟩ := h64
          have h71 := Fr_trans h45 h68 (by decide +kernel)
          refine En_iEq _ rfl rfl (fun h72 => ?_) (fun h72 => ?_)
          · refine En_Ps 1 (pc' := 87) (lv' := [(5, .int ((y42 + Int32.ofInt 1))), (0, .ref 159), (1, .int a), (2, .int b), (3, .int z15), (4, .int y41)]) (st' := []) rfl ?_
            refine En_lv1 (addI rfl (by decide : (Int32.ofInt 1).toInt = 1) (by first | exact q_465ab79ac1 h50 | omega) (by first | exact q_d778ff18c8 h51 | omega)) (fun z73 h74 => ?_)
            refine En_Ps 1 (pc' := 32) (lv' := [(5, .int z73), (0, .ref 159), (1, .int a), (2, .int b), (3, .int z15), (4, .int y41)]) (st' := []) rfl ?_
            refine En_lv (lv := [(0, .ref 159), (1, .int a), (2, .int b), (3, .int z15), (4, .int y41), (5, .int z73)]) ⟨rfl, rfl, rfl, rfl, rfl, rfl, trivial⟩ ?_
            exact ih32 σ66 y41 z73 h67 h71 ((h68 _ _ (inWa tgz_160 (by decide +kernel))).trans h46) ((h68 _ _ (inWa tgz_160 (by decide +kernel))).trans h47) (by first | exact q_58e6e51dcc h48 | omega) (by first | exact q_36eb0a70bf h49 | omega) (by first | exact q_35104ce9d3 h74 h50 | omega) (by first | exact q_798b104d48 h74 h57 h56 | omega) (by first | exact q_4ff790945b h74 h52 | omega)
          · refine En_Ps 2 (pc' := 59) (lv' := [(0, .ref 159), (1, .int a), (2, .int b), (3, .int z15), (4, .int y41), (5, .int y42)]) (st' := [.int b, .int y41]) rfl ?_
            refine En_iNe _ rfl rfl (fun h75 => ?_) (fun h75 => ?_)
            · refine En_Ps 1 (pc' := 73) (lv' := [(0, .ref 159), (1, .int a), (2, .int b), (3, .int z15), (4, .int y41), (5, .int y42)]) (st' := [.ref 159, .int y41]) rfl ?_
              refine En_getK (j := 17) ((h68 _ _ (inW tgz_159 (by decide +kernel))).trans h58) rfl rfl rfl tgz_159 (by decide +kernel) ?_
              refine En_Ps 1 (pc' := 78) (lv' := [(0, .ref 159), (1, .int a), (2, .int b), (3, .int z15), (4, .int y41), (5, .int y42)]) (st' := [.int y42, .ref 168, .int y41]) rfl ?_
              refine En_ialdK ((h68 _ _ (inWa tgz_168 (by decide +kernel))).trans h60) rfl rfl tgz_168 (by decide +kernel) h67 (by first | exact q_58e6e51dcc h50 | omega) (lnI (by decide +kernel : LN _ = 81) (by first | exact q_a0e855914a h57 h56 | omega)) ?_
              refine En_Ps 2 (pc' := 81) (lv' := [(0, .ref 159), (1, .int a), (2, .int b), (3, .int z15), (4, .int y41), (5, .int y42)]) (st' := [.int ((z61 ^^^ ((Int32.ofInt (-1))))), .int y41]) rfl ?_
              refine En_nam (fun z77 h78 => ?_)
              refine En_Ps 1 (pc' := 82) (lv' := [(0, .ref 159), (1, .int a), (2, .int b), (3, .int z15), (4, .int y41), (5, .int y42)]) (st' := [.int ((y41 &&& z77))]) rfl ?_
              refine En_nam (fun z79 h80 => ?_)
              obtain ⟨h81, h82⟩ := andn_rng h80 rfl (by (first | exact q_58e6e51dcc h48 | omega)) (by (first | exact q_36eb0a70bf h49 | omega) : _ ≤ (65535 : Int))
              refine En_Ps 2 (pc' := 87) (lv' := [(5, .int ((y42 + Int32.ofInt 1))), (4, .int z79), (0, .ref 159), (1, .int a), (2, .int b), (3, .int z15)]) (st' := []) rfl ?_
              refine En_lv1 (addI rfl (by decide : (Int32.ofInt 1).toInt = 1) (by first | exact q_465ab79ac1 h50 | omega) (by first | exact q_d778ff18c8 h51 | omega)) (fun z83 h84 => ?_)
              refine En_Ps 1 (pc' := 32) (lv' := [(5, .int z83), (4, .int z79), (0, .ref 159), (1, .int a), (2, .int b), (3, .int z15)]) (st' := []) rfl ?_
              refine En_lv (lv := [(0, .ref 159), (1, .int a), (2, .int b), (3, .int z15), (4, .int z79), (5, .int z83)]) ⟨rfl, rfl, rfl, rfl, rfl, rfl, trivial⟩ ?_
              exact ih32 σ66 z79 z83 h67 h71 ((h68 _ _ (inWa tgz_160 (by decide +kernel))).trans h46) ((h68 _ _ (inWa tgz_160 (by decide +kernel))).trans h47) (by (first | exact q_58e6e51dcc h81 | omega)) (by (first | exact q_36eb0a70bf h82 | omega)) (by first | exact q_35104ce9d3 h84 h50 | omega) (by first | exact q_798b104d48 h84 h57 h56 | omega) (by first | exact q_4ff790945b h84 h52 | omega)
            · refine En_Ps 1 (pc' := 63) (lv' := [(0, .ref 159), (1, .int a), (2, .int b), (3, .int z15), (4, .int y41), (5, .int y42)]) (st' := [.ref 159, .int y41]) rfl ?_
              refine En_getK (j := 17) ((h68 _ _ (inW tgz_159 (by decide +kernel))).trans h58) rfl rfl rfl tgz_159 (by decide +kernel) ?_
              refine En_Ps 1 (pc' := 68) (lv' := [(0, .ref 159), (1, .int a), (2, .int b), (3, .int z15), (4, .int y41), (5, .int y42)]) (st' := [.int y42, .ref 168, .int y41]) rfl ?_
              refine En_ialdK ((h68 _ _ (inWa tgz_168 (by decide +kernel))).trans h60) rfl rfl tgz_168 (by decide +kernel) h67 (by first | exact q_58e6e51dcc h50 | omega) (lnI (by decide +kernel : LN _ = 81) (by first | exact q_a0e855914a h57 h56 | omega)) ?_
              refine En_Ps 2 (pc' := 82) (lv' := [(0, .ref 159), (1, .int a), (2, .int b), (3, .int z15), (4, .int y41), (5, .int y42)]) (st' := [.int ((y41 &&& z61))]) rfl ?_
              refine En_rng (l := 0) (u := 65535) (andx_rng rfl (by (first | exact q_58e6e51dcc h48 | omega)) (by (first | exact q_36eb0a70bf h49 | omega))) (fun z86 h87 h88 => ?_)
              refine En_Ps 2 (pc' := 87) (lv' := [(5, .int ((y42 + Int32.ofInt 1))), (4, .int z86), (0, .ref 159), (1, .int a), (2, .int b), (3, .int z15)]) (st' := []) rfl ?_
              refine En_lv1 (addI rfl (by decide : (Int32.ofInt 1).toInt = 1) (by first | exact q_465ab79ac1 h50 | omega) (by first | exact q_d778ff18c8 h51 | omega)) (fun z89 h90 => ?_)
              refine En_Ps 1 (pc' := 32) (lv' := [(5, .int z89), (4, .int z86), (0, .ref 159), (1, .int a), (2, .int b), (3, .int z15)]) (st' := []) rfl ?_
              refine En_lv (lv := [(0, .ref 159), (1, .int a), (2, .int b), (3, .int z15), (4, .int z86), (5, .int z89)]) ⟨rfl, rfl, rfl, rfl, rfl, rfl, trivial⟩ ?_
              exact ih32 σ66 z86 z89 h67 h71 ((h68 _ _ (inWa tgz_160 (by decide +kernel))).trans h46) ((h68 _ _ (inWa tgz_160 (by decide +kernel))).trans h47) (by first | exact q_58e6e51dcc h87 | omega) (by first | exact q_36eb0a70bf h88 | omega) (by first | exact q_35104ce9d3 h90 h50 | omega) (by first | exact q_798b104d48 h90 h57 h56 | omega) (by first | exact q_4ff790945b h90 h52 | omega)
    have := (by decide : (Int32.ofInt 0).toInt = 0)
    refine En_lv (lv := [(0, .ref 159), (1, .int a), (2, .int b), (3, .int z15), (4, .int z39), (5, .int ((Int32.ofInt 0)))]) ⟨rfl, rfl, rfl, rfl, rfl, rfl, trivial⟩ ?_
    exact key32 (Int.toNat (81) + 1) σ35 z39 ((Int32.ofInt 0)) h36 h40 ((h37 _ _ (inWa tgz_160 (by decide +kernel))).trans ((h30 _ _ (inWa tgz_160 (by decide +kernel))).trans h18)) ((h37 _ _ (inWa tgz_160 (by decide +kernel))).trans ((h30 _ _ (inWa tgz_160 (by decide +kernel))).trans h22)) (by first | exact q_ef1e8e38bf h38.1 | omega) (by first | exact q_62355f097f h38.2 | omega) (by decide) (by decide) (by first | exact toN_lt _ | omega)
  · refine En_Ps 1 (pc' := 18) (lv' := [(3, .int z15), (0, .ref 159), (1, .int a), (2, .int b)]) (st' := [.int z15]) rfl ?_
    exact En_ret (v := some (Value.int z15)) rfl rfl rfl ⟨h12, h16, z15, rfl, ⟨by first | exact q_629d629181 h14.1 | omega, by first | exact q_eb099b9e46 h17 | omega⟩⟩
/-- DoorSchoolModel.told(II)I -/
abbrev P_324 (σ0 : SG) (a : Int32) (b : Int32) : PO := fun v σ => WT σ ∧ Fr [(35, 18), (42, 0), (43, 0), (44, 0)] σ0 σ ∧ ∃ ret : Int32, v = some (Value.int ret) ∧ -ret.toInt - 2 ≤ 0 ∧ ret.toInt - 15 ≤ 0
set_option maxRecDepth 10000 in
set_option maxHeartbeats 4000000 in
theorem c_324 (σ0 : SG) (hσ0 : WT σ0) (a : Int32) (b : Int32) : En 4 87 none mr_324 (P_324 σ0 a b) 0 [(0, .ref 159), (1, .int a), (2, .int b)] [] σ0 := by
  have hF0 : Fr [(35, 18), (42, 0), (43, 0), (44, 0)] σ0 σ0 := Fr_rfl
  refine En_Ps 2 (pc' := 2) (lv' := [(0, .ref 159), (1, .int a), (2, .int b)]) (st' := [.int a, .ref 159]) rfl ?_
  refine En_callV rfl rfl rfl rfl rfl rfl rfl rfl tgz_159 (by decide +kernel) rfl (c_195 σ0 hσ0 a) (by decide) (by decide) (fun v2 σ3 h1 => ?_)
  obtain ⟨h4, h5, z7, rfl, h6⟩ := h1
  obtain rfl : σ0 = σ3 := Fr_nil h5
  refine En_iEq _ rfl rfl (fun h8 => ?_) (fun h8 => ?_)
  · refine En_Ps 1 (pc' := 20) (lv' := [(0, .ref 159), (1, .int a), (2, .int b)]) (st' := [.int (((Int8.ofInt (-2)).toInt32))]) rfl ?_
    refine En_top (by decide : ((Int8.ofInt (-2)).toInt32).toInt = -2) (fun z9 h10 => ?_)
    exact En_ret (v := some (Value.int z9)) rfl rfl rfl ⟨hσ0, hF0, z9, rfl, (by (first | exact q_9fb1e2c806 h10 | omega))⟩
  · refine En_Ps 4 (pc' := 12) (lv' := [(0, .ref 159), (1, .int a), (2, .int b)]) (st' := [.long ((Int64.ofNat 1)), .long ((Int64.ofNat 0)), .long b.toInt64]) rfl ?_
    have : b.toInt64.toInt = b.toInt := (i2lI rfl)
    have := (by decide : ((Int64.ofNat 0)).toInt = 0)
    have := (by decide : ((Int64.ofNat 1)).toInt = 1)
    refine En_callS rfl rfl rfl rfl rfl rfl rfl rfl rfl (c_249 σ0 hσ0 b.toInt64 ((Int64.ofNat 0)) ((Int64.ofNat 1))) (by decide) (by decide) (fun v12 σ13 h11 => ?_)
    obtain ⟨h14, h15, z17, rfl, h16⟩ := h11
    obtain rfl : σ0 = σ13 := Fr_nil h15
    refine En_iNe _ rfl rfl (fun h18 => ?_) (fun h18 => ?_)
    · refine En_Ps 1 (pc' := 22) (lv' := [(0, .ref 159), (1, .int a), (2, .int b)]) (st' := [.ref 159]) rfl ?_
      obtain ⟨z20, h19, h21, h22⟩ := WT_peekI hσ0 tgz_160 (by decide +kernel : FT 36 (0 : Int).toNat = (0, 0, 4)) (by decide +kernel)
      obtain ⟨z24, h23, h25, h26⟩ := WT_peekI hσ0 tgz_160 (by decide +kernel : FT 36 (7 : Int).toNat = (0, 0, 1600)) (by decide +kernel)
      refine En_callV rfl rfl rfl rfl rfl rfl rfl rfl tgz_159 (by decide +kernel) rfl (c_272 σ0 hσ0 z20 h19 z24 h23) (by decide) (by decide) (fun v28 σ29 h27 => ?_)
      obtain ⟨h30, h31, rfl, h32⟩ := h27
      have h33 := Fr_trans hF0 h31 (by decide +kernel)
      refine En_Ps 2 (pc' := 27) (lv' := [(3, .int ((Int32.ofInt 0))), (0, .ref 159), (1, .int a), (2, .int b)]) (st' := []) rfl ?_
      have key27 : ∀ (n27 : Nat) (σ35 : SG) (y34 : Int32), WT σ35 → Fr [(35, 18), (42, 0), (43, 0), (44, 0)] σ0 σ35 → (σ35 160)[(0 : Int).toNat]? = some (Value.int z20) → (σ35 160)[(7 : Int).toNat]? = some (Value.int z24) → 0 ≤ y34.toInt → y34.toInt ≤ 81 → -y34.toInt + 81 < (n27 : Int) → En 4 87 none mr_324 (P_324 σ0 a b) 27 [(0, .ref 159), (1, .int a), (2, .int b), (3, .int y34)] [] σ35 := by
        intro n27
        induction n27 with
        | zero =>
          intro σ35 y34 h36 h37 h38 h39 h40 h41 h42
          exfalso; (first | exact q_82b886cd4b h41 h42 | omega)
        | succ n27 ih27 =>
          intro σ35 y34 h36 h37 h38 h39 h40 h41 h42
          refine En_Ps 2 (pc' := 29) (lv' := [(0, .ref 159), (1, .int a), (2, .int b), (3, .int y34)]) (st' := [.ref 159, .int y34]) rfl ?_
          refine En_getI (j := 18) (l := 0) (u := 81) rfl rfl rfl tgz_159 (by decide +kernel) h36 (by decide +kernel) (fun z44 h43 h45 h46 => ?_)
          refine En_icGe _ rfl rfl rfl (fun h47 => ?_) (fun h47 => ?_)
          · refine En_Ps 1 (pc' := 72) (lv' := [(0, .ref 159), (1, .int a), (2, .int b), (3, .int y34)]) (st' := [.int ((Int32.ofInt (-1)))]) rfl ?_
            refine En_top (by decide : (Int32.ofInt (-1)).toInt = -1) (fun z48 h49 => ?_)
            exact En_ret (v := some (Value.int z48)) rfl rfl rfl ⟨h36, h37, z48, rfl, (by (first | exact q_55ee8d7114 h49 | omega))⟩
          · refine En_Ps 1 (pc' := 36) (lv' := [(0, .ref 159), (1, .int a), (2, .int b), (3, .int y34)]) (st' := [.ref 159]) rfl ?_
            refine En_getU (j := 17) (u := 168) (g' := 44) (q := 0) rfl rfl rfl tgz_159 (by decide +kernel) h36 (by decide +kernel) un_44_168 (fun h50 => ?_)
            refine En_Ps 1 (pc' := 40) (lv' := [(0, .ref 159), (1, .int a), (2, .int b), (3, .int y34)]) (st' := [.int y34, .ref 168]) rfl ?_
            refine En_iald (l := (-2147483648)) (u := 2147483647) rfl rfl tgz_168 (by decide +kernel) h36 (by (first | exact q_58e6e51dcc h40 | omega)) (lnI (by decide +kernel : LN _ = 81) (by (first | exact q_d482fa3b70 h47 h46 | omega))) (FTsgl (by decide +kernel)) (fun z53 h52 h54 h55 => ?_)
            refine En_Ps 1 (pc' := 42) (lv' := [(0, .ref 159), (1, .int a), (2, .int b), (3, .int y34)]) (st' := [.int a, .int z53]) rfl ?_
            refine En_icNe _ rfl rfl rfl (fun h56 => ?_) (fun h56 => ?_)
            · refine En_Ps 1 (pc' := 68) (lv' := [(3, .int ((y34 + Int32.ofInt 1))), (0, .ref 159), (1, .int a), (2, .int b)]) (st' := []) rfl ?_
              refine En_lv1 (addI rfl (by decide : (Int32.ofInt 1).toInt = 1) (by (first | exact q_465ab79ac1 h40 | omega)) (by (first | exact q_d778ff18c8 h41 | omega))) (fun z57 h58 => ?_)
              refine En_Ps 1 (pc' := 27) (lv' := [(3, .int z57), (0, .ref 159), (1, .int a), (2, .int b)]) (st' := []) rfl ?_
              refine En_lv (lv := [(0, .ref 159), (1, .int a), (2, .int b), (3, .int z57)]) ⟨rfl, rfl, rfl, rfl, trivial⟩ ?_
              exact ih27 σ35 z57 h36 h37 h38 h39 (by (first | exact q_35104ce9d3 h58 h40 | omega)) (by (first | exact q_798b104d48 h58 h47 h46 | omega)) (by omega)
            · refine En_Ps 1 (pc' := 46) (lv' := [(0, .ref 159), (1, .int a), (2, .int b), (3, .int y34)]) (st' := [.int b]) rfl ?_
              refine En_iNe _ rfl rfl (fun h59 => ?_) (fun h59 => ?_)
              · refine En_Ps 1 (pc' := 59) (lv' := [(0, .ref 159), (1, .int a), (2, .int b), (3, .int y34)]) (st' := [.ref 159]) rfl ?_
                refine En_getU (j := 16) (u := 167) (g' := 43) (q := 0) rfl rfl rfl tgz_159 (by decide +kernel) h36 (by decide +kernel) un_43_167 (fun h60 => ?_)
                refine En_Ps 1 (pc' := 63) (lv' := [(0, .ref 159), (1, .int a), (2, .int b), (3, .int y34)]) (st' := [.int y34, .ref 167]) rfl ?_
                refine En_iald (l := 0) (u := 15) rfl rfl tgz_167 (by decide +kernel) h36 (by (first | exact q_58e6e51dcc h40 | omega)) (lnI (by decide +kernel : LN _ = 81) (by (first | exact q_d482fa3b70 h47 h46 | omega))) (FTsgl (by decide +kernel)) (fun z63 h62 h64 h65 => ?_)
                exact En_ret (v := some (Value.int z63)) rfl rfl rfl ⟨h36, h37, z63, rfl, (by (first | exact q_e22a361cb7 h64 h65 | omega))⟩
              · refine En_Ps 1 (pc' := 50) (lv' := [(0, .ref 159), (1, .int a), (2, .int b), (3, .int y34)]) (st' := [.ref 159]) rfl ?_
                refine En_getU (j := 15) (u := 166) (g' := 42) (q := 0) rfl rfl rfl tgz_159 (by decide +kernel) h36 (by decide +kernel) un_42_166 (fun h66 => ?_)
                refine En_Ps 1 (pc' := 54) (lv' := [(0, .ref 159), (1, .int a), (2, .int b), (3, .int y34)]) (st' := [.int y34, .ref 166]) rfl ?_
                refine En_iald (l := 0) (u := 15) rfl rfl tgz_166 (by decide +kernel) h36 (by (first | exact q_58e6e51dcc h40 | omega)) (lnI (by decide +kernel : LN _ = 81) (by (first | exact q_d482fa3b70 h47 h46 | omega))) (FTsgl (by decide +kernel)) (fun z69 h68 h70 h71 => ?_)
                refine En_Ps 1 (pc' := 64) (lv' := [(0, .ref 159), (1, .int a), (2, .int b), (3, .int y34)]) (st' := [.int z69]) rfl ?_
                exact En_ret (v := some (Value.int z69)) rfl rfl rfl ⟨h36, h37, z69, rfl, (by (first | exact q_e22a361cb7 h70 h71 | omega))⟩
      have := (by decide : (Int32.ofInt 0).toInt = 0)
      refine En_lv (lv := [(0, .ref 159), (1, .int a), (2, .int b), (3, .int ((Int32.ofInt 0)))]) ⟨rfl, rfl, rfl, rfl, trivial⟩ ?_
      exact key27 (Int.toNat (81) + 1) σ29 ((Int32.ofInt 0)) h30 h33 ((h31 _ _ (inWa tgz_160 (by decide +kernel))).trans h19) ((h31 _ _ (inWa tgz_160 (by decide +kernel))).trans h23) (by (first | exact q_55451d0a83 this | omega)) (by (first | exact q_6dca09e5e0 this | omega)) (by omega)
    · refine En_Ps 1 (pc' := 20) (lv' := [(0, .ref 159), (1, .int a), (2, .int b)]) (st' := [.int (((Int8.ofInt (-2)).toInt32))]) rfl ?_
      refine En_top (by decide : ((Int8.ofInt (-2)).toInt32).toInt = -2) (fun z72 h73 => ?_)
      exact En_ret (v := some (Value.int z72)) rfl rfl rfl ⟨hσ0, hF0, z72, rfl, (by (first | exact q_9fb1e2c806 h73 | omega))⟩
end
/-! 32.ly.m18 -/
section
/-- DoorSchoolModel.trickOf(II)I -/
abbrev P_327 (σ0 : SG) (a : Int32) (b : Int32) : PO := fun v σ => WT σ ∧ Fr [(35, 18), (35, 21), (42, 0), (43, 0), (44, 0), (45, 0), (46, 0)] σ0 σ ∧ ∃ ret : Int32, v = some (Value.int ret) ∧ -ret.toInt - 1 ≤ 0 ∧ ret.toInt - 15 ≤ 0
set_option maxRecDepth 10000 in
set_option maxHeartbeats 4000000 in
theorem c_327 (σ0 : SG) (hσ0 : WT σ0) (a : Int32) (b : Int32) (hl_a : 0 ≤ a.toInt) (hu_a : a.toInt ≤ 3) : En 5 112 none mr_327 (P_327 σ0 a b) 0 [(0, .ref 159), (1, .int a), (2, .int b)] [] σ0 := by
  have hF0 : Fr [(35, 18), (35, 21), (42, 0), (43, 0), (44, 0), (45, 0), (46, 0)] σ0 σ0 := Fr_rfl
  refine En_Ps 2 (pc' := 2) (lv' := [(0, .ref 159), (1, .int a), (2, .int b)]) (st' := [.int a, .ref 159]) rfl ?_
  refine En_callV rfl rfl rfl rfl rfl rfl rfl rfl tgz_159 (by decide +kernel) rfl (c_213 σ0 hσ0 a (geI rfl (by first | exact q_58e6e51dcc hl_a | omega)) (leI rfl (by first | exact q_da5e9b976f hu_a | omega))) (by decide) (by decide) (fun v2 σ3 h1 => ?_)
  obtain ⟨h4, h5, z7, h8, z9, rfl, h6⟩ := h1
  have h10 := Fr_trans hF0 h5 (by decide +kernel)
  refine En_Ps 5 (pc' := 12) (lv' := [(5, .int ((Int32.ofInt 0))), (4, .int ((Int32.ofInt (-1)))), (3, .int z9), (0, .ref 159), (1, .int a), (2, .int b)]) (st' := []) rfl ?_
  have key12 : ∀ (n12 : Nat) (σ13 : SG) (y11 : Int32) (y12 : Int32), WT σ13 → Fr [(35, 18), (35, 21), (42, 0), (43, 0), (44, 0), (45, 0), (46, 0)] σ0 σ13 → (σ13 159)[21]? = some (Value.int z7) → (-1) ≤ y11.toInt → y11.toInt ≤ 15 → 0 ≤ y12.toInt → y12.toInt ≤ 16 → y11.toInt - y12.toInt + 1 ≤ 0 → -y12.toInt + 16 < (n12 : Int) → En 5 112 none mr_327 (P_327 σ0 a b) 12 [(0, .ref 159), (1, .int a), (2, .int b), (3, .int z9), (4, .int y11), (5, .int y12)] [] σ13 := by
    intro n12
    induction n12 with
    | zero =>
      intro σ13 y11 y12 h14 h15 h16 h17 h18 h19 h20 h21 h22
      first | exact (q_511f6d33ac h22 h20).elim | (exfalso; omega)
    | succ n12 ih12 =>
      intro σ13 y11 y12 h14 h15 h16 h17 h18 h19 h20 h21 h22
      refine En_Ps 2 (pc' := 15) (lv' := [(0, .ref 159), (1, .int a), (2, .int b), (3, .int z9), (4, .int y11), (5, .int y12)]) (st' := [.ref 159, .int y12]) rfl ?_
      obtain ⟨z24, h23, h25, h26⟩ := WT_peekI h14 tgz_160 (by decide +kernel : FT 36 (0 : Int).toNat = (0, 0, 4)) (by decide +kernel)
      obtain ⟨z28, h27, h29, h30⟩ := WT_peekI h14 tgz_160 (by decide +kernel : FT 36 (7 : Int).toNat = (0, 0, 1600)) (by decide +kernel)
      refine En_callV rfl rfl rfl rfl rfl rfl rfl rfl tgz_159 (by decide +kernel) rfl (c_269 σ13 h14 z24 h23 z28 h27) (by decide) (by decide) (fun v32 σ33 h31 => ?_)
      obtain ⟨h34, h35, z37, rfl, h36⟩ := h31
      have h38 := h36.2.2
      have h39 := Fr_trans h15 h35 (by decide +kernel)
      refine En_icGe _ rfl rfl rfl (fun h40 => ?_) (fun h40 => ?_)
      · refine En_Ps 1 (pc' := 66) (lv' := [(0, .ref 159), (1, .int a), (2, .int b), (3, .int z9), (4, .int y11), (5, .int y12)]) (st' := [.int y11]) rfl ?_
        exact En_ret (v := some (Value.int y11)) rfl rfl rfl ⟨h34, h39, y11, rfl, ⟨by first | exact q_909eef6c0e h17 | omega, by first | exact q_867a9ac627 h18 | omega⟩⟩
      · refine En_Ps 2 (pc' := 24) (lv' := [(0, .ref 159), (1, .int a), (2, .int b), (3, .int z9), (4, .int y11), (5, .int y12)]) (st' := [.int y12, .int z9]) rfl ?_
        refine En_callS rfl rfl rfl rfl rfl rfl rfl rfl rfl (c_202b σ33 h34 z9 y12) (by decide) (by decide) (fun v42 σ43 h41 => ?_)
        obtain ⟨h44, h45, z47, rfl, h46⟩ := h41
        have h48 := Fr_trans h39 h45 (by decide +kernel)
        refine En_Ps 1 (pc' := 28) (lv' := [(0, .ref 159), (1, .int a), (2, .int b), (3, .int z9), (4, .int y11), (5, .int y12)]) (st' := [.int ((Int32.ofInt 1)), .int z47]) rfl ?_
        refine En_icNe _ rfl (by decide : (Int32.ofInt 1).toInt = 1) rfl (fun h49 => ?_) (fun h49 => ?_)
        · refine En_Ps 1 (pc' := 61) (lv' := [(5, .int ((y12 + Int32.ofInt 1))), (0, .ref 159), (1, .int a), (2, .int b), (3, .int z9), (4, .int y11)]) (st' := []) rfl ?_
          refine En_lv1 (addI rfl (by decide : (Int32.ofInt 1).toInt = 1) (by first | exact q_465ab79ac1 h19 | omega) (by first | exact q_f3f8e04381 h20 | omega)) (fun z50 h51 => ?_)
          refine En_Ps 1 (pc' := 12) (lv' := [(5, .int z50), (0, .ref 159), (1, .int a), (2, .int b), (3, .int z9), (4, .int y11)]) (st' := []) rfl ?_
          refine En_lv (lv := [(0, .ref 159), (1, .int a), (2, .int b), (3, .int z9), (4, .int y11), (5, .int z50)]) ⟨rfl, rfl, rfl, rfl, rfl, rfl, trivial⟩ ?_
          exact ih12 σ43 y11 z50 h44 h48 ((h45 _ _ (inW tgz_159 (by decide +kernel))).trans ((h35 _ _ (inW tgz_159 (by decide +kernel))).trans h16)) (by first | exact q_77b189e83d h17 | omega) (by first | exact q_5a4d8a7e08 h18 | omega) (by first | exact q_35104ce9d3 h51 h19 | omega) (by first | exact q_34dc714687 h51 h40 h36.2.1 | omega) (by first | exact q_6591527e3e h21 h51 | omega) (by first | exact q_c5d740bdff h51 h22 | omega)
        · refine En_Ps 2 (pc' := 34) (lv' := [(0, .ref 159), (1, .int a), (2, .int b), (3, .int z9), (4, .int y11), (5, .int y12)]) (st' := [.int ((Int32.ofInt (-1))), .int y11]) rfl ?_
          refine En_icEq _ rfl (by decide : (Int32.ofInt (-1)).toInt = -1) rfl (fun h52 => ?_) (fun h52 => ?_)
          · refine En_Ps 3 (pc' := 61) (lv' := [(5, .int ((y12 + Int32.ofInt 1))), (4, .int y12), (0, .ref 159), (1, .int a), (2, .int b), (3, .int z9)]) (st' := []) rfl ?_
            refine En_lv1 (addI rfl (by decide : (Int32.ofInt 1).toInt = 1) (by first | exact q_465ab79ac1 h19 | omega) (by first | exact q_f3f8e04381 h20 | omega)) (fun z53 h54 => ?_)
            refine En_Ps 1 (pc' := 12) (lv' := [(5, .int z53), (4, .int y12), (0, .ref 159), (1, .int a), (2, .int b), (3, .int z9)]) (st' := []) rfl ?_
            refine En_lv (lv := [(0, .ref 159), (1, .int a), (2, .int b), (3, .int z9), (4, .int y12), (5, .int z53)]) ⟨rfl, rfl, rfl, rfl, rfl, rfl, trivial⟩ ?_
            exact ih12 σ43 y12 z53 h44 h48 ((h45 _ _ (inW tgz_159 (by decide +kernel))).trans ((h35 _ _ (inW tgz_159 (by decide +kernel))).trans h16)) (by first | exact q_5b439548fc h19 | omega) (by first | exact q_c15b485600 h40 h36.2.1 | omega) (by first | exact q_35104ce9d3 h54 h19 | omega) (by first | exact q_34dc714687 h54 h40 h36.2.1 | omega) (by first | exact q_2fedec469a h54 | omega) (by first | exact q_c5d740bdff h54 h22 | omega)
          · refine En_Ps 3 (pc' := 41) (lv' := [(0, .ref 159), (1, .int a), (2, .int b), (3, .int z9), (4, .int y11), (5, .int y12)]) (st' := [.int ((y12 ^^^ b))]) rfl ?_
            refine En_hav (fun z55 => ?_)
            refine En_callS rfl rfl rfl rfl rfl rfl rfl rfl rfl (c_203b σ43 h44 z55) (by decide) (by decide) (fun v57 σ58 h56 => ?_)
            obtain ⟨h59, h60, z62, rfl, h61⟩ := h56
            have h63 := Fr_trans h48 h60 (by decide +kernel)
            refine En_Ps 3 (pc' := 48) (lv' := [(0, .ref 159), (1, .int a), (2, .int b), (3, .int z9), (4, .int y11), (5, .int y12)]) (st' := [.int ((y11 ^^^ b)), .int z62]) rfl ?_
            refine En_hav (fun z64 => ?_)
            refine En_callS rfl rfl rfl rfl rfl rfl rfl rfl rfl (c_203b σ58 h59 z64) (by decide) (by decide) (fun v66 σ67 h65 => ?_)
            obtain ⟨h68, h69, z71, rfl, h70⟩ := h65
            have h72 := Fr_trans h63 h69 (by decide +kernel)
            refine En_icGe _ rfl rfl rfl (fun h73 => ?_) (fun h73 => ?_)
            · refine En_Ps 1 (pc' := 61) (lv' := [(5, .int ((y12 + Int32.ofInt 1))), (0, .ref 159), (1, .int a), (2, .int b), (3, .int z9), (4, .int y11)]) (st' := []) rfl ?_
              refine En_lv1 (addI rfl (by decide : (Int32.ofInt 1).toInt = 1) (by first | exact q_465ab79ac1 h19 | omega) (by first | exact q_f3f8e04381 h20 | omega)) (fun z74 h75 => ?_)
              refine En_Ps 1 (pc' := 12) (lv' := [(5, .int z74), (0, .ref 159), (1, .int a), (2, .int b), (3, .int z9), (4, .int y11)]) (st' := []) rfl ?_
              refine En_lv (lv := [(0, .ref 159), (1, .int a), (2, .int b), (3, .int z9), (4, .int y11), (5, .int z74)]) ⟨rfl, rfl, rfl, rfl, rfl, rfl, trivial⟩ ?_
              exact ih12 σ67 y11 z74 h68 h72 ((h69 _ _ (inW tgz_159 (by decide +kernel))).trans ((h60 _ _ (inW tgz_159 (by decide +kernel))).trans ((h45 _ _ (inW tgz_159 (by decide +kernel))).trans ((h35 _ _ (inW tgz_159 (by decide +kernel))).trans h16)))) (by first | exact q_8d1c67ec40 h52 h17 | omega) (by first | exact q_5a4d8a7e08 h18 | omega) (by first | exact q_35104ce9d3 h75 h19 | omega) (by first | exact q_34dc714687 h75 h40 h36.2.1 | omega) (by first | exact q_6591527e3e h21 h75 | omega) (by first | exact q_c5d740bdff h75 h22 | omega)
            · refine En_Ps 3 (pc' := 61) (lv' := [(5, .int ((y12 + Int32.ofInt 1))), (4, .int y12), (0, .ref 159), (1, .int a), (2, .int b), (3, .int z9)]) (st' := []) rfl ?_
              refine En_lv1 (addI rfl (by decide : (Int32.ofInt 1).toInt = 1) (by first | exact q_465ab79ac1 h19 | omega) (by first | exact q_f3f8e04381 h20 | omega)) (fun z76 h77 => ?_)
              refine En_Ps 1 (pc' := 12) (lv' := [(5, .int z76), (4, .int y12), (0, .ref 159), (1, .int a), (2, .int b), (3, .int z9)]) (st' := []) rfl ?_
              refine En_lv (lv := [(0, .ref 159), (1, .int a), (2, .int b), (3, .int z9), (4, .int y12), (5, .int z76)]) ⟨rfl, rfl, rfl, rfl, rfl, rfl, trivial⟩ ?_
              exact ih12 σ67 y12 z76 h68 h72 ((h69 _ _ (inW tgz_159 (by decide +kernel))).trans ((h60 _ _ (inW tgz_159 (by decide +kernel))).trans ((h45 _ _ (inW tgz_159 (by decide +kernel))).trans ((h35 _ _ (inW tgz_159 (by decide +kernel))).trans h16)))) (by first | exact q_5b439548fc h19 | omega) (by first | exact q_c15b485600 h40 h36.2.1 | omega) (by first | exact q_35104ce9d3 h77 h19 | omega) (by first | exact q_34dc714687 h77 h40 h36.2.1 | omega) (by first | exact q_2fedec469a h77 | omega) (by first | exact q_c5d740bdff h77 h22 | omega)
  have := (by decide : (Int32.ofInt (-1)).toInt = -1)
  have := (by decide : (Int32.ofInt 0).toInt = 0)
  refine En_lv (lv := [(0, .ref 159), (1, .int a), (2, .int b), (3, .int z9), (4, .int ((Int32.ofInt (-1)))), (5, .int ((Int32.ofInt 0)))]) ⟨rfl, rfl, rfl, rfl, rfl, rfl, trivial⟩ ?_
  exact key12 (Int.toNat (16) + 1) σ3 ((Int32.ofInt (-1))) ((Int32.ofInt 0)) h4 h10 h8 (by decide) (by decide) (by decide) (by decide) (by (first | exact q_2e3352c2b4 this (by decide) | omega)) (by first | exact toN_lt _ | omega)
/-- DoorSchoolModel.trick(II)I -/
abbrev P_326 (σ0 : SG) (a : Int32) (b : Int32) : PO := fun v σ => WT σ ∧ Fr [(35, 18), (35, 21), (42, 0), (43, 0), (44, 0), (45, 0), (46, 0)] σ0 σ ∧ ∃ ret : Int32, v = some (Value.int ret) ∧ -ret.toInt - 2 ≤ 0 ∧ ret.toInt - 15 ≤ 0
set_option maxRecDepth 10000 in
set_option maxHeartbeats 4000000 in
theorem c_326 (σ0 : SG) (hσ0 : WT σ0) (a : Int32) (b : Int32) : En 6 137 none mr_326 (P_326 σ0 a b) 0 [(0, .ref 159), (1, .int a), (2, .int b)] [] σ0 := by
  have hF0 : Fr [(35, 18), (35, 21), (42, 0), (43, 0), (44, 0), (45, 0), (46, 0)] σ0 σ0 := Fr_rfl
  refine En_Ps 2 (pc' := 2) (lv' := [(0, .ref 159), (1, .int a), (2, .int b)]) (st' := [.int a, .ref 159]) rfl ?_
  obtain ⟨z2, h1, h3, h4⟩ := WT_peekI hσ0 tgz_160 (by decide +kernel : FT 36 (2 : Int).toNat = (0, 0, 4)) (by decide +kernel)
  refine En_callV rfl rfl rfl rfl rfl rfl rfl rfl tgz_159 (by decide +kernel) rfl (c_254 σ0 hσ0 a z2 h1) (by decide) (by decide) (fun v6 σ7 h5 => ?_)
  obtain ⟨h8, h9, z11, rfl, h10⟩ := h5
  have h12 := Fr_trans hF0 h9 (by decide +kernel)
  refine En_iEq _ rfl rfl (fun h13 => ?_) (fun h13 => ?_)
  · refine En_Ps 1 (pc' := 28) (lv' := [(0, .ref 159), (1, .int a), (2, .int b)]) (st' := [.int (((Int8.ofInt (-2)).toInt32))]) rfl ?_
    refine En_top (by decide : ((Int8.ofInt (-2)).toInt32).toInt = -2) (fun z14 h15 => ?_)
    exact En_ret (v := some (Value.int z14)) rfl rfl rfl ⟨h8, h12, z14, rfl, ⟨by first | exact q_f35c5d346c h15 | omega, by first | exact q_12a74e12a3 h15 | omega⟩⟩
  · refine En_Ps 3 (pc' := 11) (lv' := [(0, .ref 159), (1, .int a), (2, .int b)]) (st' := [.long b.toInt64, .ref 159]) rfl ?_
    have : b.toInt64.toInt = b.toInt := (i2lI rfl)
    refine En_callV rfl rfl rfl rfl rfl rfl rfl rfl tgz_159 (by decide +kernel) rfl (c_259 σ7 h8 b.toInt64) (by decide) (by decide) (fun v17 σ18 h16 => ?_)
    obtain ⟨h19, h20, z22, rfl, h21⟩ := h16
    have h23 := Fr_trans h12 h20 (by decide +kernel)
    refine En_iEq _ rfl rfl (fun h24 => ?_) (fun h24 => ?_)
    · refine En_Ps 1 (pc' := 28) (lv' := [(0, .ref 159), (1, .int a), (2, .int b)]) (st' := [.int (((Int8.ofInt (-2)).toInt32))]) rfl ?_
      refine En_top (by decide : ((Int8.ofInt (-2)).toInt32).toInt = -2) (fun z25 h26 => ?_)
      exact En_ret (v := some (Value.int z25)) rfl rfl rfl ⟨h19, h23, z25, rfl, ⟨by first | exact q_f35c5d346c h26 | omega, by first | exact q_12a74e12a3 h26 | omega⟩⟩
    · refine En_Ps 3 (pc' := 20) (lv' := [(0, .ref 159), (1, .int a), (2, .int b)]) (st' := [.int b, .int a, .ref 159]) rfl ?_
      refine En_callV rfl rfl rfl rfl rfl rfl rfl rfl tgz_159 (by decide +kernel) rfl (c_327 σ18 h19 a b (geI rfl (by (first | exact q_bf8258001b h10.2.2.1 h13 h10.1 | omega))) (leI rfl (by (first | exact q_88b0c3c731 h10.2.2.1 h13 h10.1 h4 | omega)))) (by decide) (by decide) (fun v28 σ29 h27 => ?_)
      obtain ⟨h30, h31, z33, rfl, h32⟩ := h27
      have h34 := Fr_trans h23 h31 (by decide +kernel)
      refine En_Ps 1 (pc' := 28) (lv' := [(0, .ref 159), (1, .int a), (2, .int b)]) (st' := [.int z33]) rfl ?_
      exact En_ret (v := some (Value.int z33)) rfl rfl rfl ⟨h30, h34, z33, rfl, ⟨by first | exact q_108dc72d76 h32.1 | omega, by first | exact q_cc7dfeacf0 h32.2 | omega⟩⟩
/-- DoorSchoolModel.tries(II)I -/
abbrev P_328 (σ0 : SG) (a : Int32) (b : Int32) : PO := fun v σ => WT σ ∧ Fr [(35, 18), (35, 21), (42, 0), (43, 0), (44, 0), (45, 0), (46, 0)] σ0 σ ∧ ∃ ret : Int32, v = some (Value.int ret) ∧ True
set_option maxRecDepth 10000 in
set_option maxHeartbeats 4000000 in
theorem c_328 (σ0 : SG) (hσ0 : WT σ0) (a : Int32) (b : Int32) : En 6 137 none mr_328 (P_328 σ0 a b) 0 [(0, .ref 159), (1, .int a), (2, .int b)] [] σ0 := by
  have hF0 : Fr [(35, 18), (35, 21), (42, 0), (43, 0), (44, 0), (45, 0), (46, 0)] σ0 σ0 := Fr_rfl
  refine En_Ps 2 (pc' := 2) (lv' := [(0, .ref 159), (1, .int a), (2, .int b)]) (st' := [.int a, .ref 159]) rfl ?_
  obtain ⟨z2, h1, h3, h4⟩ := WT_peekI hσ0 tgz_160 (by decide +kernel : FT 36 (2 : Int).toNat = (0, 0, 4)) (by decide +kernel)
  refine En_callV rfl rfl rfl rfl rfl rfl rfl rfl tgz_159 (by decide +kernel) rfl (c_254 σ0 hσ0 a z2 h1) (by decide) (by decide) (fun v6 σ7 h5 => ?_)
  obtain ⟨h8, h9, z11, rfl, h10⟩ := h5
  have h12 := Fr_trans hF0 h9 (by decide +kernel)
  refine En_iEq _ rfl rfl (fun h13 => ?_) (fun h13 => ?_)
  · refine En_Ps 1 (pc' := 19) (lv' := [(0, .ref 159), (1, .int a), (2, .int b)]) (st' := [.int (((Int8.ofInt (-2)).toInt32))]) rfl ?_
    refine En_top (by decide : ((Int8.ofInt (-2)).toInt32).toInt = -2) (fun z14 h15 => ?_)
    exact En_ret (v := some (Value.int z14)) rfl rfl rfl ⟨h8, h12, z14, rfl, trivial⟩
  · refine En_Ps 3 (pc' := 11) (lv' := [(0, .ref 159), (1, .int a), (2, .int b)]) (st' := [.long b.toInt64, .ref 159]) rfl ?_
    have : b.toInt64.toInt = b.toInt := (i2lI rfl)
    refine En_callV rfl rfl rfl rfl rfl rfl rfl rfl tgz_159 (by decide +kernel) rfl (c_259 σ7 h8 b.toInt64) (by decide) (by decide) (fun v17 σ18 h16 => ?_)
    obtain ⟨h19, h20, z22, rfl, h21⟩ := h16
    have h23 := Fr_trans h12 h20 (by decide +kernel)
    refine En_iNe _ rfl rfl (fun h24 => ?_) (fun h24 => ?_)
    · refine En_Ps 3 (pc' := 23) (lv' := [(0, .ref 159), (1, .int a), (2, .int b)]) (st' := [.int b, .int a, .ref 159]) rfl ?_
      refine En_callV rfl rfl rfl rfl rfl rfl rfl rfl tgz_159 (by decide +kernel) rfl (c_327 σ18 h19 a b (geI rfl (by (first | exact q_bf8258001b h10.2.2.1 h13 h10.1 | omega))) (leI rfl (by (first | exact q_88b0c3c731 h10.2.2.1 h13 h10.1 h4 | omega)))) (by decide) (by decide) (fun v26 σ27 h25 => ?_)
      obtain ⟨h28, h29, z31, rfl, h30⟩ := h25
      have h32 := Fr_trans h23 h29 (by decide +kernel)
      refine En_Ps 3 (pc' := 29) (lv' := [(3, .int z31), (0, .ref 159), (1, .int a), (2, .int b)]) (st' := [.int ((Int32.ofInt (-1))), .int z31]) rfl ?_
      refine En_icNe _ rfl (by decide : (Int32.ofInt (-1)).toInt = -1) rfl (fun h33 => ?_) (fun h33 => ?_)
      · refine En_Ps 3 (pc' := 39) (lv' := [(3, .int z31), (0, .ref 159), (1, .int a), (2, .int b)]) (st' := [.int ((z31 ^^^ b))]) rfl ?_
        refine En_hav (fun z34 => ?_)
        refine En_callS rfl rfl rfl rfl rfl rfl rfl rfl rfl (c_203b σ27 h28 z34) (by decide) (by decide) (fun v36 σ37 h35 => ?_)
        obtain ⟨h38, h39, z41, rfl, h40⟩ := h35
        have h42 := Fr_trans h32 h39 (by decide +kernel)
        exact En_ret (v := some (Value.int z41)) rfl rfl rfl ⟨h38, h42, z41, rfl, trivial⟩
      · refine En_Ps 2 (pc' := 42) (lv' := [(3, .int z31), (0, .ref 159), (1, .int a), (2, .int b)]) (st' := [.int ((Int32.ofInt (-1)))]) rfl ?_
        refine En_top (by decide : (Int32.ofInt (-1)).toInt = -1) (fun z43 h44 => ?_)
        exact En_ret (v := some (Value.int z43)) rfl rfl rfl ⟨h28, h32, z43, rfl, trivial⟩
    · refine En_Ps 1 (pc' := 19) (lv' := [(0, .ref 159), (1, .int a), (2, .int b)]) (st' := [.int (((Int8.ofInt (-2)).toInt32))]) rfl ?_
      refine En_top (by decide : ((Int8.ofInt (-2)).toInt32).toInt = -2) (fun z45 h46 => ?_)
      exact En_ret (v := some (Value.int z45)) rfl rfl rfl ⟨h19, h23, z45, rfl, trivial⟩
/-- DoorSchoolModel.way(II)I -/
abbrev P_330 (σ0 : SG) (a : Int32) (b : Int32) : PO := fun v σ => WT σ ∧ Fr [(35, 18), (35, 21), (42, 0), (43, 0), (44, 0), (45, 0), (46, 0)] σ0 σ ∧ ∃ ret : Int32, v = some (Value.int ret) ∧ ret.toInt - 1000000 ≤ 0
set_option maxRecDepth 10000 in
set_option maxHeartbeats 4000000 in
theorem c_330 (σ0 : SG) (hσ0 : WT σ0) (a : Int32) (b : Int32) : En 5 113 none mr_330 (P_330 σ0 a b) 0 [(0, .ref 159), (1, .int a), (2, .int b)] [] σ0 := by
  have hF0 : Fr [(35, 18), (35, 21), (42, 0), (43, 0), (44, 0), (45, 0), (46, 0)] σ0 σ0 := Fr_rfl
  refine En_Ps 2 (pc' := 2) (lv' := [(0, .ref 159), (1, .int a), (2, .int b)]) (st' := [.int a, .ref 159]) rfl ?_
  obtain ⟨z2, h1, h3, h4⟩ := WT_peekI hσ0 tgz_160 (by decide +kernel : FT 36 (2 : Int).toNat = (0, 0, 4)) (by decide +kernel)
  refine En_callV rfl rfl rfl rfl rfl rfl rfl rfl tgz_159 (by decide +kernel) rfl (c_254 σ0 hσ0 a z2 h1) (by decide) (by decide) (fun v6 σ7 h5 => ?_)
  obtain ⟨h8, h9, z11, rfl, h10⟩ := h5
  have h12 := Fr_trans hF0 h9 (by decide +kernel)
  refine En_iEq _ rfl rfl (fun h13 => ?_) (fun h13 => ?_)
  · refine En_Ps 1 (pc' := 20) (lv' := [(0, .ref 159), (1, .int a), (2, .int b)]) (st' := [.int (((Int8.ofInt (-2)).toInt32))]) rfl ?_
    refine En_top (by decide : ((Int8.ofInt (-2)).toInt32).toInt = -2) (fun z14 h15 => ?_)
    exact En_ret (v := some (Value.int z14)) rfl rfl rfl ⟨h8, h12, z14, rfl, (by first | exact q_ec7b2e0fd8 h15 | omega)⟩
  · refine En_Ps 4 (pc' := 12) (lv' := [(0, .ref 159), (1, .int a), (2, .int b)]) (st' := [.long ((Int64.ofNat 1)), .long ((Int64.ofNat 0)), .long b.toInt64]) rfl ?_
    have : b.toInt64.toInt = b.toInt := (i2lI rfl)
    have := (by decide : ((Int64.ofNat 0)).toInt = 0)
    have := (by decide : ((Int64.ofNat 1)).toInt = 1)
    refine En_callS rfl rfl rfl rfl rfl rfl rfl rfl rfl (c_249 σ7 h8 b.toInt64 ((Int64.ofNat 0)) ((Int64.ofNat 1))) (by decide) (by decide) (fun v17 σ18 h16 => ?_)
    obtain ⟨h19, h20, z22, rfl, h21⟩ := h16
    have h23 := Fr_trans h12 h20 (by decide +kernel)
    refine En_iNe _ rfl rfl (fun h24 => ?_) (fun h24 => ?_)
    · refine En_Ps 6 (pc' := 31) (lv' := [(5, .int ((Int32.ofInt 0))), (4, .int ((1000000 : Int32))), (3, .int ((Int32.ofInt 0))), (0, .ref 159), (1, .int a), (2, .int b)]) (st' := []) rfl ?_
      have key31 : ∀ (n31 : Nat) (σ28 : SG) (y25 : Int32) (y26 : Int32) (y27 : Int32), WT σ28 → Fr [(35, 18), (35, 21), (42, 0), (43, 0), (44, 0), (45, 0), (46, 0)] σ0 σ28 → (σ28 160)[(2 : Int).toNat]? = some (Value.int z2) → 0 ≤ y25.toInt → y25.toInt ≤ 2 → y26.toInt ≤ 1000000 → 0 ≤ y27.toInt → y27.toInt ≤ 3 → y25.toInt - y27.toInt ≤ 0 → -y27.toInt + 3 < (n31 : Int) → En 5 113 none mr_330 (P_330 σ0 a b) 31 [(0, .ref 159), (1, .int a), (2, .int b), (3, .int y25), (4, .int y26), (5, .int y27)] [] σ28 := by
        intro n31
        induction n31 with
        | zero =>
          intro σ28 y25 y26 y27 h29 h30 h31 h32 h33 h34 h35 h36 h37 h38
          first | exact (q_9f1e7068c9 h38 h36).elim | (exfalso; omega)
        | succ n31 ih31 =>
          intro σ28 y25 y26 y27 h29 h30 h31 h32 h33 h34 h35 h36 h37 h38
          refine En_Ps 2 (pc' := 34) (lv' := [(0, .ref 159), (1, .int a), (2, .int b), (3, .int y25), (4, .int y26), (5, .int y27)]) (st' := [.int ((Int32.ofInt 3)), .int y27]) rfl ?_
          refine En_icGe _ rfl (by decide : (Int32.ofInt 3).toInt = 3) rfl (fun h39 => ?_) (fun h39 => ?_)
          · refine En_Ps 1 (pc' := 78) (lv' := [(0, .ref 159), (1, .int a), (2, .int b), (3, .int y25), (4, .int y26), (5, .int y27)]) (st' := [.int b]) rfl ?_
            refine En_iNe _ rfl rfl (fun h40 => ?_) (fun h40 => ?_)
            · refine En_Ps 1 (pc' := 87) (lv' := [(0, .ref 159), (1, .int a), (2, .int b), (3, .int y25), (4, .int y26), (5, .int y27)]) (st' := [.int y26]) rfl ?_
              exact En_ret (v := some (Value.int y26)) rfl rfl rfl ⟨h29, h30, y26, rfl, (by first | exact q_b319b3558a h34 | omega)⟩
            · refine En_Ps 2 (pc' := 87) (lv' := [(0, .ref 159), (1, .int a), (2, .int b), (3, .int y25), (4, .int y26), (5, .int y27)]) (st' := [.int y25]) rfl ?_
              exact En_ret (v := some (Value.int y25)) rfl rfl rfl ⟨h29, h30, y25, rfl, (by first | exact q_4c87331f73 h33 | omega)⟩
          · refine En_Ps 3 (pc' := 41) (lv' := [(0, .ref 159), (1, .int a), (2, .int b), (3, .int y25), (4, .int y26), (5, .int y27)]) (st' := [.int y27, .int a, .ref 159]) rfl ?_
            refine En_callV rfl rfl rfl rfl rfl rfl rfl rfl tgz_159 (by decide +kernel) rfl (c_211 σ28 h29 a y27 (geI rfl (by (first | exact q_bf8258001b h10.2.2.1 h13 h10.1 | omega))) (leI rfl (by (first | exact q_88b0c3c731 h10.2.2.1 h13 h10.1 h4 | omega)))) (by decide) (by decide) (fun v42 σ43 h41 => ?_)
            obtain ⟨h44, h45, z47, rfl, h46⟩ := h41
            have h48 := Fr_trans h30 h45 (by decide +kernel)
            refine En_Ps 1 (pc' := 45) (lv' := [(0, .ref 159), (1, .int a), (2, .int b), (3, .int y25), (4, .int y26), (5, .int y27)]) (st' := [.ref 159, .int z47]) rfl ?_
            refine En_callV rfl rfl rfl rfl rfl rfl rfl rfl tgz_159 (by decide +kernel) rfl (c_295 σ43 h44) (by decide) (by decide) (fun v50 σ51 h49 => ?_)
            obtain ⟨h52, h53, z55, rfl, h54⟩ := h49
            have h56 := Fr_trans h48 h53 (by decide +kernel)
            refine En_Ps 1 (pc' := 49) (lv' := [(0, .ref 159), (1, .int a), (2, .int b), (3, .int y25), (4, .int y26), (5, .int y27)]) (st' := [.int ((z47 ^^^ z55))]) rfl ?_
            refine En_hav (fun z57 => ?_)
            refine En_callS rfl rfl rfl rfl rfl rfl rfl rfl rfl (c_203b σ51 h52 z57) (by decide) (by decide) (fun v59 σ60 h58 => ?_)
            obtain ⟨h61, h62, z64, rfl, h63⟩ := h58
            have h65 := Fr_trans h56 h62 (by decide +kernel)
            refine En_Ps 3 (pc' := 58) (lv' := [(6, .int z64), (0, .ref 159), (1, .int a), (2, .int b), (3, .int y25), (4, .int y26), (5, .int y27)]) (st' := [.int y26, .int z64]) rfl ?_
            refine En_icLt _ rfl rfl rfl (fun h66 => ?_) (fun h66 => ?_)
            · refine En_Ps 5 (pc' := 74) (lv' := [(5, .int ((y27 + Int32.ofInt 1))), (3, .int y27), (4, .int z64), (6, .int z64), (0, .ref 159), (1, .int a), (2, .int b)]) (st' := []) rfl ?_
              refine En_lv1 (addI rfl (by decide : (Int32.ofInt 1).toInt = 1) (by first | exact q_465ab79ac1 h35 | omega) (by first | exact q_6ae830b01d h39 | omega)) (fun z67 h68 => ?_)
              refine En_Ps 1 (pc' := 31) (lv' := [(5, .int z67), (3, .int y27), (4, .int z64), (6, .int z64), (0, .ref 159), (1, .int a), (2, .int b)]) (st' := []) rfl ?_
              refine En_lv (lv := [(0, .ref 159), (1, .int a), (2, .int b), (3, .int y27), (4, .int z64), (5, .int z67)]) ⟨rfl, rfl, rfl, rfl, rfl, rfl, trivial⟩ ?_
              exact ih31 σ60 y27 z64 z67 h61 h65 ((h62 _ _ (inWa tgz_160 (by decide +kernel))).trans ((h53 _ _ (inWa tgz_160 (by decide +kernel))).trans ((h45 _ _ (inWa tgz_160 (by decide +kernel))).trans h31))) (by first | exact q_58e6e51dcc h35 | omega) (by first | exact q_f1519f12c0 h39 | omega) (by first | exact q_d3ae4bc11d h66 h34 | omega) (by first | exact q_35104ce9d3 h68 h35 | omega) (by first | exact q_84805d5d8e h68 h39 | omega) (by first | exact q_6133d71490 h68 | omega) (by first | exact q_6272716eb4 h68 h38 | omega)
            · refine En_Ps 2 (pc' := 74) (lv' := [(5, .int ((y27 + Int32.ofInt 1))), (6, .int z64), (0, .ref 159), (1, .int a), (2, .int b), (3, .int y25), (4, .int y26)]) (st' := []) rfl ?_
              refine En_lv1 (addI rfl (by decide : (Int32.ofInt 1).toInt = 1) (by first | exact q_465ab79ac1 h35 | omega) (by first | exact q_6ae830b01d h39 | omega)) (fun z69 h70 => ?_)
              refine En_Ps 1 (pc' := 31) (lv' := [(5, .int z69), (6, .int z64), (0, .ref 159), (1, .int a), (2, .int b), (3, .int y25), (4, .int y26)]) (st' := []) rfl ?_
              refine En_lv (lv := [(0, .ref 159), (1, .int a), (2, .int b), (3, .int y25), (4, .int y26), (5, .int z69)]) ⟨rfl, rfl, rfl, rfl, rfl, rfl, trivial⟩ ?_
              exact ih31 σ60 y25 y26 z69 h61 h65 ((h62 _ _ (inWa tgz_160 (by decide +kernel))).trans ((h53 _ _ (inWa tgz_160 (by decide +kernel))).trans ((h45 _ _ (inWa tgz_160 (by decide +kernel))).trans h31))) (by first | exact q_58e6e51dcc h32 | omega) (by first | exact q_a85463bd0d h33 | omega) (by first | exact q_2507c1a77a h34 | omega) (by first | exact q_35104ce9d3 h70 h35 | omega) (by first | exact q_84805d5d8e h70 h39 | omega) (by first | exact q_3a5e225620 h37 h70 | omega) (by first | exact q_6272716eb4 h70 h38 | omega)
      have := (by decide : (Int32.ofInt 0).toInt = 0)
      have := (by decide : (1000000 : Int32).toInt = 1000000)
      have := (by decide : (Int32.ofInt 0).toInt = 0)
      refine En_lv (lv := [(0, .ref 159), (1, .int a), (2, .int b), (3, .int ((Int32.ofInt 0))), (4, .int ((1000000 : Int32))), (5, .int ((Int32.ofInt 0)))]) ⟨rfl, rfl, rfl, rfl, rfl, rfl, trivial⟩ ?_
      exact key31 (Int.toNat (3) + 1) σ18 ((Int32.ofInt 0)) ((1000000 : Int32)) ((Int32.ofInt 0)) h19 h23 ((h20 _ _ (inWa tgz_160 (by decide +kernel))).trans ((h9 _ _ (inWa tgz_160 (by decide +kernel))).trans h1)) (by decide) (by decide) (by decide) (by decide) (by decide) (by (first | exact q_1bb76abeaf | omega)) (by first | exact toN_lt _ | omega)
    · refine En_Ps 1 (pc' := 20) (lv' := [(0, .ref 159), (1, .int a), (2, .int b)]) (st' := [.int (((Int8.ofInt (-2)).toInt32))]) rfl ?_
      refine En_top (by decide : ((Int8.ofInt (-2)).toInt32).toInt = -2) (fun z71 h72 => ?_)
      exact En_ret (v := some (Value.int z71)) rfl rfl rfl ⟨h19, h23, z71, rfl, (by first | exact q_ec7b2e0fd8 h72 | omega)⟩
/-- DoorSchoolModel.why(II)I -/
abbrev P_331 (σ0 : SG) (a : Int32) (b : Int32) : PO := fun v σ => WT σ ∧ Fr [(35, 21), (45, 0), (46, 0)] σ0 σ ∧ ∃ ret : Int32, v = some (Value.int ret) ∧ -ret.toInt - 2 ≤ 0 ∧ ret.toInt - 12 ≤ 0
set_option maxRecDepth 10000 in
set_option maxHeartbeats 4000000 in
theorem c_331 (σ0 : SG) (hσ0 : WT σ0) (a : Int32) (b : Int32) : En 3 67 none mr_331 (P_331 σ0 a b) 0 [(0, .ref 159), (1, .int a), (2, .int b)] [] σ0 := by
  have hF0 : Fr [(35, 21), (45, 0), (46, 0)] σ0 σ0 := Fr_rfl
  refine En_Ps 2 (pc' := 2) (lv' := [(0, .ref 159), (1, .int a), (2, .int b)]) (st' := [.int a, .ref 159]) rfl ?_
  obtain ⟨z2, h1, h3, h4⟩ := WT_peekI hσ0 tgz_160 (by decide +kernel : FT 36 (2 : Int).toNat = (0, 0, 4)) (by decide +kernel)
  refine En_callV rfl rfl rfl rfl rfl rfl rfl rfl tgz_159 (by decide +kernel) rfl (c_254 σ0 hσ0 a z2 h1) (by decide) (by decide) (fun v6 σ7 h5 => ?_)
  obtain ⟨h8, h9, z11, rfl, h10⟩ := h5
  have h12 := Fr_trans hF0 h9 (by decide +kernel)
  refine En_iEq _ rfl rfl (fun h13 => ?_) (fun h13 => ?_)
  · refine En_Ps 1 (pc' := 19) (lv' := [(0, .ref 159), (1, .int a), (2, .int b)]) (st' := [.int (((Int8.ofInt (-2)).toInt32))]) rfl ?_
    refine En_top (by decide : ((Int8.ofInt (-2)).toInt32).toInt = -2) (fun z14 h15 => ?_)
    exact En_ret (v := some (Value.int z14)) rfl rfl rfl ⟨h8, h12, z14, rfl, ⟨by first | exact q_f35c5d346c h15 | omega, by first | exact q_5a5c18c2ab h15 | omega⟩⟩
  · refine En_Ps 3 (pc' := 11) (lv' := [(0, .ref 159), (1, .int a), (2, .int b)]) (st' := [.long b.toInt64, .ref 159]) rfl ?_
    have : b.toInt64.toInt = b.toInt := (i2lI rfl)
    refine En_callV rfl rfl rfl rfl rfl rfl rfl rfl tgz_159 (by decide +kernel) rfl (c_259 σ7 h8 b.toInt64) (by decide) (by decide) (fun v17 σ18 h16 => ?_)
    obtain ⟨h19, h20, z22, rfl, h21⟩ := h16
    have h23 := Fr_trans h12 h20 (by decide +kernel)
    refine En_iNe _ rfl rfl (fun h24 => ?_) (fun h24 => ?_)
    · refine En_Ps 3 (pc' := 23) (lv' := [(0, .ref 159), (1, .int a), (2, .int b)]) (st' := [.int a, .ref 159, .ref 159]) rfl ?_
      refine En_callV rfl rfl rfl rfl rfl rfl rfl rfl tgz_159 (by decide +kernel) rfl (c_305 σ18 h19 a (geI rfl (by (first | exact q_bf8258001b h10.2.2.1 h13 h10.1 | omega))) (leI rfl (by (first | exact q_88b0c3c731 h10.2.2.1 h13 h10.1 h4 | omega)))) (by decide) (by decide) (fun v26 σ27 h25 => ?_)
      obtain ⟨h28, h29, z31, rfl, h30⟩ := h25
      have h32 := Fr_trans h23 h29 (by decide +kernel)
      refine En_callV rfl rfl rfl rfl rfl rfl rfl rfl tgz_159 (by decide +kernel) rfl (c_271 σ27 h28 z31 (geI rfl (by first | exact q_ef1e8e38bf h30.1 | omega)) (leI rfl (by first | exact q_87d9217d84 h30.2 | omega))) (by decide) (by decide) (fun v34 σ35 h33 => ?_)
      obtain ⟨h36, h37, z39, h40, rfl, h38⟩ := h33
      have h41 := Fr_trans h32 h37 (by decide +kernel)
      refine En_Ps 4 (pc' := 33) (lv' := [(0, .ref 159), (1, .int a), (2, .int b)]) (st' := [.int a, .ref 159, .ref 159, .ref 159]) rfl ?_
      refine En_callV rfl rfl rfl rfl rfl rfl rfl rfl tgz_159 (by decide +kernel) rfl (c_305 σ35 h36 a (geI rfl (by (first | exact q_bf8258001b h10.2.2.1 h13 h10.1 | omega))) (leI rfl (by (first | exact q_88b0c3c731 h10.2.2.1 h13 h10.1 h4 | omega)))) (by decide) (by decide) (fun v43 σ44 h42 => ?_)
      obtain ⟨h45, h46, z48, rfl, h47⟩ := h42
      have h49 := Fr_trans h41 h46 (by decide +kernel)
      refine En_Ps 1 (pc' := 37) (lv' := [(0, .ref 159), (1, .int a), (2, .int b)]) (st' := [.int ((Int32.ofInt 0)), .int z48, .ref 159, .ref 159]) rfl ?_
      have := (by decide : ((Int32.ofInt 0)).toInt = 0)
      obtain ⟨z50, h51, h52, h53⟩ := WT_peekJ (J := (4 * z48.toInt + ((Int32.ofInt 0)).toInt + 10)) (l := 0) (u := 2) h45 tgz_160 (by decide +kernel) (by (first | exact q_05aceecfb5 this h47.1 | omega)) (lnI (by decide +kernel : LN _ = 226) (by (first | exact q_2ff3171a41 this h47.2 | omega))) (FTrow 36 10 4 4 (by decide +kernel) (by (first | exact q_f2c086bbb3 this h47.1 | omega)) (by (first | exact q_089c574161 this h47.2 | omega)) (by omega))
      have := (by decide : ((Int32.ofInt 0)).toInt = 0)
      refine En_callV rfl rfl rfl rfl rfl rfl rfl rfl tgz_159 (by decide +kernel) rfl (c_290a σ44 h45 z48 ((Int32.ofInt 0)) (geI rfl (by first | exact q_ef1e8e38bf h47.1 | omega)) (leI rfl (by first | exact q_87d9217d84 h47.2 | omega)) (geI (by decide : (Int32.ofInt 0).toInt = 0) (by decide)) (leI (by decide : (Int32.ofInt 0).toInt = 0) (by decide)) z50 h51) (by decide) (by decide) (fun v55 σ56 h54 => ?_)
      obtain ⟨h57, h58, z60, rfl, h59⟩ := h54
      have h61 := Fr_trans h49 h58 (by decide +kernel)
      refine En_Ps 1 (pc' := 41) (lv' := [(0, .ref 159), (1, .int a), (2, .int b)]) (st' := [.int b, .int z60, .ref 159]) rfl ?_
      refine En_callV rfl rfl rfl rfl rfl rfl rfl rfl tgz_159 (by decide +kernel) rfl (c_204 σ56 h57 z60 b z39 ((h58 _ _ (inW tgz_159 (by decide +kernel))).trans ((h46 _ _ (inW tgz_159 (by decide +kernel))).trans h40))) (by decide) (by decide) (fun v63 σ64 h62 => ?_)
      obtain ⟨h65, h66, z68, rfl, h67⟩ := h62
      have h69 := Fr_trans h61 h66 (by decide +kernel)
      exact En_ret (v := some (Value.int z68)) rfl rfl rfl ⟨h65, h69, z68, rfl, ⟨by first | exact q_108dc72d76 h67.1 | omega, by first | exact q_3966d47284 h67.2.2 h38.2 | omega⟩⟩
    · refine En_Ps 1 (pc' := 19) (lv' := [(0, .ref 159), (1, .int a), (2, .int b)]) (st' := [.int (((Int8.ofInt (-2)).toInt32))]) rfl ?_
      refine En_top (by decide : ((Int8.ofInt (-2)).toInt32).toInt = -2) (fun z70 h71 => ?_)
      exact En_ret (v := some (Value.int z70)) rfl rfl rfl ⟨h19, h23, z70, rfl, ⟨by first | exact q_f35c5d346c h71 | omega, by first | exact q_5a5c18c2ab h71 | omega⟩⟩
/-- DoorSchoolModel.write(IIJ)I -/
abbrev P_333 (σ0 : SG) (a : Int32) (b : Int32) (c : Int64) : PO := fun v σ => WT σ ∧ Fr [(55, 0)] σ0 σ ∧ ∃ ret : Int32, v = some (Value.int ret) ∧ -ret.toInt - 7 ≤ 0 ∧ ret.toInt ≤ 0
set_option maxRecDepth 10000 in
set_option maxHeartbeats 4000000 in
theorem c_333 (σ0 : SG) (hσ0 : WT σ0) (a : Int32) (b : Int32) (c : Int64) : En 2 45 none mr_333 (P_333 σ0 a b c) 0 [(0, .ref 159), (1, .int a), (2, .int b), (3, .long c)] [] σ0 := by
  have hF0 : Fr [(55, 0)] σ0 σ0 := Fr_rfl
  refine En_Ps 1 (pc' := 1) (lv' := [(0, .ref 159), (1, .int a), (2, .int b), (3, .long c)]) (st' := [.int a]) rfl ?_
  refine En_callS rfl rfl rfl rfl rfl rfl rfl rfl rfl (c_266 σ0 hσ0 a) (by decide) (by decide) (fun v2 σ3 h1 => ?_)
  obtain ⟨h4, h5, z7, rfl, h6⟩ := h1
  have h8 := Fr_trans hF0 h5 (by decide +kernel)
  refine En_iNe _ rfl rfl (fun h9 => ?_) (fun h9 => ?_)
  · refine En_Ps 1 (pc' := 11) (lv' := [(0, .ref 159), (1, .int a), (2, .int b), (3, .long c)]) (st' := [.ref 159]) rfl ?_
    refine En_getU (j := 32) (u := 177) (g' := 53) (q := 0) rfl rfl rfl tgz_159 (by decide +kernel) h4 (by decide +kernel) un_53_177 (fun h10 => ?_)
    refine En_Ps 1 (pc' := 15) (lv' := [(0, .ref 159), (1, .int a), (2, .int b), (3, .long c)]) (st' := [.int a, .ref 177]) rfl ?_
    refine En_iald (l := (-1)) (u := 60) rfl rfl tgz_177 (by decide +kernel) h4 (by (first | exact q_32028d2b65 h6.2.2.1 h6.2.1 h9 h6.1 | omega)) (lnI (by decide +kernel : LN _ = 4) (by (first | exact q_87da96c949 h6.2.2.1 h6.2.1 h9 h6.1 | omega))) (FTsgl (by decide +kernel)) (fun z13 h12 h14 h15 => ?_)
    refine En_Ps 1 (pc' := 17) (lv' := [(0, .ref 159), (1, .int a), (2, .int b), (3, .long c)]) (st' := [.int ((Int32.ofInt (-1))), .int z13]) rfl ?_
    refine En_icNe _ rfl (by decide : (Int32.ofInt (-1)).toInt = -1) rfl (fun h16 => ?_) (fun h16 => ?_)
    · refine En_Ps 4 (pc' := 27) (lv' := [(0, .ref 159), (1, .int a), (2, .int b), (3, .long c)]) (st' := [.ref 159, .long ((Int64.ofNat 0)), .long b.toInt64]) rfl ?_
      refine En_getK (j := 32) h10 rfl rfl rfl tgz_159 (by decide +kernel) ?_
      refine En_Ps 1 (pc' := 31) (lv' := [(0, .ref 159), (1, .int a), (2, .int b), (3, .long c)]) (st' := [.int a, .ref 177, .long ((Int64.ofNat 0)), .long b.toInt64]) rfl ?_
      refine En_ialdK h12 rfl rfl tgz_177 (by decide +kernel) h4 (by (first | exact q_32028d2b65 h6.2.2.1 h6.2.1 h9 h6.1 | omega)) (lnI (by decide +kernel : LN _ = 4) (by (first | exact q_87da96c949 h6.2.2.1 h6.2.1 h9 h6.1 | omega))) ?_
      refine En_Ps 2 (pc' := 34) (lv' := [(0, .ref 159), (1, .int a), (2, .int b), (3, .long c)]) (st' := [.int ((z13 - ((Int32.ofInt 1)))), .long ((Int64.ofNat 0)), .long b.toInt64]) rfl ?_
      refine En_top (subI rfl (by decide : (Int32.ofInt 1).toInt = 1) (by first | exact q_ed08186ac8 h16 h14 | omega) (by first | exact q_b13050f55d h15 | omega)) (fun z18 h19 => ?_)
      refine En_Ps 1 (pc' := 35) (lv' := [(0, .ref 159), (1, .int a), (2, .int b), (3, .long c)]) (st' := [.long z18.toInt64, .long ((Int64.ofNat 0)), .long b.toInt64]) rfl ?_
      have : b.toInt64.toInt = b.toInt := (i2lI rfl)
      have := (by decide : ((Int64.ofNat 0)).toInt = 0)
      have : z18.toInt64.toInt = z18.toInt := (i2lI rfl)
      refine En_callS rfl rfl rfl rfl rfl rfl rfl rfl rfl (c_249 σ3 h4 b.toInt64 ((Int64.ofNat 0)) z18.toInt64) (by decide) (by decide) (fun v21 σ22 h20 => ?_)
      obtain ⟨h23, h24, z26, rfl, h25⟩ := h20
      have h27 := Fr_trans h8 h24 (by decide +kernel)
      refine En_iNe _ rfl rfl (fun h28 => ?_) (fun h28 => ?_)
      · refine En_Ps 1 (pc' := 45) (lv' := [(0, .ref 159), (1, .int a), (2, .int b), (3, .long c)]) (st' := [.ref 159]) rfl ?_
        refine En_getU (j := 34) (u := 179) (g' := 55) (q := 0) rfl rfl rfl tgz_159 (by decide +kernel) h23 (by decide +kernel) un_55_179 (fun h29 => ?_)
        refine En_Ps 3 (pc' := 52) (lv' := [(0, .ref 159), (1, .int a), (2, .int b), (3, .long c)]) (st' := [.int (((((Int8.ofInt 60).toInt32)) * a)), .ref 179]) rfl ?_
        refine En_top (mulI (by decide : ((Int8.ofInt 60).toInt32).toInt = 60) rfl (Z := 60 * a.toInt) (by first | exact q_7a16b37b72 | omega) (by (first | exact q_3037e6bb8b h6.2.2.1 h6.2.1 h9 h6.1 | omega)) (by (first | exact q_71b3dc49ab h6.2.2.1 h6.2.1 h9 h6.1 | omega))) (fun z31 h32 => ?_)
        refine En_Ps 2 (pc' := 54) (lv' := [(0, .ref 159), (1, .int a), (2, .int b), (3, .long c)]) (st' := [.int ((z31 + b)), .ref 179]) rfl ?_
        refine En_top (addI rfl rfl (by (first | exact q_b6f29daf1f h32 (i2lI rfl) h25.2.2.1 h28 h25.1 h6.2.2.1 h6.2.1 h9 h6.1 (by decide) | omega)) (by omega)) (fun z33 h34 => ?_)
        refine En_Ps 2 (pc' := 56) (lv' := [(0, .ref 159), (1, .int a), (2, .int b), (3, .long c)]) (st' := [.ref 159, .long c, .int z33, .ref 179]) rfl ?_
        refine En_getU (j := 33) (u := 178) (g' := 54) (q := 0) rfl rfl rfl tgz_159 (by decide +kernel) h23 (by decide +kernel) un_54_178 (fun h35 => ?_)
        refine En_Ps 1 (pc' := 60) (lv' := [(0, .ref 159), (1, .int a), (2, .int b), (3, .long c)]) (st' := [.int a, .ref 178, .long c, .int z33, .ref 179]) rfl ?_
        refine En_iald (l := 0) (u := 3) rfl rfl tgz_178 (by decide +kernel) h23 (by (first | exact q_32028d2b65 h6.2.2.1 h6.2.1 h9 h6.1 | omega)) (lnI (by decide +kernel : LN _ = 4) (by (first | exact q_87da96c949 h6.2.2.1 h6.2.1 h9 h6.1 | omega))) (FTsgl (by decide +kernel)) (fun z38 h37 h39 h40 => ?_)
        refine En_callS rfl rfl rfl rfl rfl rfl rfl rfl rfl (c_208 σ22 h23 c z38) (by decide) (by decide) (fun v42 σ43 h41 => ?_)
        obtain ⟨h44, h45, z47, rfl, h46⟩ := h41
        have h48 := Fr_trans h27 h45 (by decide +kernel)
        refine En_last (l := (-9223372036854775808)) (u := 9223372036854775807) rfl rfl tgz_179 (by decide +kernel) (by omega) (lnI (by decide +kernel : LN _ = 240) (by omega)) (FTsgl (by decide +kernel)) (fullL _) h44 h48 (by decide +kernel) (fun σ49 h50 h51 h52 h53 => ?_)
        refine En_Ps 1 (pc' := 66) (lv' := [(0, .ref 159), (1, .int a), (2, .int b), (3, .long c)]) (st' := [.int ((Int32.ofInt 0))]) rfl ?_
        refine En_top (by decide : (Int32.ofInt 0).toInt = 0) (fun z54 h55 => ?_)
        exact En_ret (v := some (Value.int z54)) rfl rfl rfl ⟨h50, h51, z54, rfl, ⟨by first | exact q_6d44640201 h55 | omega, by first | exact q_c5d285f1b9 h55 | omega⟩⟩
      · refine En_Ps 1 (pc' := 43) (lv' := [(0, .ref 159), (1, .int a), (2, .int b), (3, .long c)]) (st' := [.int (((Int8.ofInt (-7)).toInt32))]) rfl ?_
        refine En_top (by decide : ((Int8.ofInt (-7)).toInt32).toInt = -7) (fun z56 h57 => ?_)
        exact En_ret (v := some (Value.int z56)) rfl rfl rfl ⟨h23, h27, z56, rfl, ⟨by first | exact q_5f0d62c7c2 h57 | omega, by first | exact q_d916b56ab6 h57 | omega⟩⟩
    · refine En_Ps 1 (pc' := 22) (lv' := [(0, .ref 159), (1, .int a), (2, .int b), (3, .long c)]) (st' := [.int (((Int8.ofInt (-6)).toInt32))]) rfl ?_
      refine En_top (by decide : ((Int8.ofInt (-6)).toInt32).toInt = -6) (fun z58 h59 => ?_)
      exact En_ret (v := some (Value.int z58)) rfl rfl rfl ⟨h4, h8, z58, rfl, ⟨by first | exact q_4b9e07ab0d h59 | omega, by first | exact q_9bcb887de1 h59 | omega⟩⟩
  · refine En_Ps 1 (pc' := 9) (lv' := [(0, .ref 159), (1, .int a), (2, .int b), (3, .long c)]) (st' := [.int (((Int8.ofInt (-2)).toInt32))]) rfl ?_
    refine En_top (by decide : ((Int8.ofInt (-2)).toInt32).toInt = -2) (fun z60 h61 => ?_)
    exact En_ret (v := some (Value.int z60)) rfl rfl rfl ⟨h4, h8, z60, rfl, ⟨by first | exact q_070af0ac3b h61 | omega, by first | exact q_bbb39ffa1e h61 | omega⟩⟩
/-- DoorSchoolModel.wrong(I)I -/
abbrev P_334 (σ0 : SG) (a : Int32) : PO := fun v σ => WT σ ∧ Fr [(35, 18), (35, 21), (42, 0), (43, 0), (44, 0), (45, 0), (46, 0)] σ0 σ ∧ ∃ ret : Int32, v = some (Value.int ret) ∧ -ret.toInt - 2 ≤ 0 ∧ ret.toInt - 11 ≤ 0
set_option maxRecDepth 10000 in
set_option maxHeartbeats 4000000 in
theorem c_334 (σ0 : SG) (hσ0 : WT σ0) (a : Int32) : En 5 112 none mr_334 (P_334 σ0 a) 0 [(0, .ref 159), (1, .int a)] [] σ0 := by
  have hF0 : Fr [(35, 18), (35, 21), (42, 0), (43, 0), (44, 0), (45, 0), (46, 0)] σ0 σ0 := Fr_rfl
  refine En_Ps 2 (pc' := 2) (lv' := [(0, .ref 159), (1, .int a)]) (st' := [.int a, .ref 159]) rfl ?_
  obtain ⟨z2, h1, h3, h4⟩ := WT_peekI hσ0 tgz_160 (by decide +kernel : FT 36 (2 : Int).toNat = (0, 0, 4)) (by decide +kernel)
  refine En_callV rfl rfl rfl rfl rfl rfl rfl rfl tgz_159 (by decide +kernel) rfl (c_254 σ0 hσ0 a z2 h1) (by decide) (by decide) (fun v6 σ7 h5 => ?_)
  obtain ⟨h8, h9, z11, rfl, h10⟩ := h5
  have h12 := Fr_trans hF0 h9 (by decide +kernel)
  refine En_iNe _ rfl rfl (fun h13 => ?_) (fun h13 => ?_)
  · refine En_Ps 2 (pc' := 13) (lv' := [(0, .ref 159), (1, .int a)]) (st' := [.int a, .ref 159]) rfl ?_
    refine En_callV rfl rfl rfl rfl rfl rfl rfl rfl tgz_159 (by decide +kernel) rfl (c_213 σ7 h8 a (geI rfl (by (first | exact q_bf8258001b h10.2.2.1 h13 h10.1 | omega))) (leI rfl (by (first | exact q_88b0c3c731 h10.2.2.1 h13 h10.1 h4 | omega)))) (by decide) (by decide) (fun v15 σ16 h14 => ?_)
    obtain ⟨h17, h18, z20, h21, z22, rfl, h19⟩ := h14
    have h23 := Fr_trans h12 h18 (by decide +kernel)
    refine En_Ps 3 (pc' := 19) (lv' := [(3, .int ((Int32.ofInt 0))), (2, .int z22), (0, .ref 159), (1, .int a)]) (st' := []) rfl ?_
    have key19 : ∀ (n19 : Nat) (σ25 : SG) (y24 : Int32), WT σ25 → Fr [(35, 18), (35, 21), (42, 0), (43, 0), (44, 0), (45, 0), (46, 0)] σ0 σ25 → (σ25 160)[(2 : Int).toNat]? = some (Value.int z2) → (σ25 159)[21]? = some (Value.int z20) → 0 ≤ y24.toInt → y24.toInt ≤ 12 → -y24.toInt + 12 < (n19 : Int) → En 5 112 none mr_334 (P_334 σ0 a) 19 [(0, .ref 159), (1, .int a), (2, .int z22), (3, .int y24)] [] σ25 := by
      intro n19
      induction n19 with
      | zero =>
        intro σ25 y24 h26 h27 h28 h29 h30 h31 h32
        first | exact (q_78fadfaa17 h32 h31).elim | (exfalso; omega)
      | succ n19 ih19 =>
        intro σ25 y24 h26 h27 h28 h29 h30 h31 h32
        refine En_Ps 2 (pc' := 21) (lv' := [(0, .ref 159), (1, .int a), (2, .int z22), (3, .int y24)]) (st' := [.ref 159, .int y24]) rfl ?_
        refine En_getU (j := 1) (u := 160) (g' := 36) (q := 0) rfl rfl rfl tgz_159 (by decide +kernel) h26 (by decide +kernel) un_36_160 (fun h33 => ?_)
        refine En_Ps 1 (pc' := 25) (lv' := [(0, .ref 159), (1, .int a), (2, .int z22), (3, .int y24)]) (st' := [.int ((Int32.ofInt 3)), .ref 160, .int y24]) rfl ?_
        refine En_iald (l := 0) (u := 12) rfl (by decide : (Int32.ofInt 3).toInt = 3) tgz_160 (by decide +kernel) h26 (by decide) (lnI (by decide +kernel : LN _ = 226) (by decide)) (by decide +kernel) (fun z36 h35 h37 h38 => ?_)
        refine En_icGe _ rfl rfl rfl (fun h39 => ?_) (fun h39 => ?_)
        · refine En_Ps 1 (pc' := 47) (lv' := [(0, .ref 159), (1, .int a), (2, .int z22), (3, .int y24)]) (st' := [.int ((Int32.ofInt (-1)))]) rfl ?_
          refine En_top (by decide : (Int32.ofInt (-1)).toInt = -1) (fun z40 h41 => ?_)
          exact En_ret (v := some (Value.int z40)) rfl rfl rfl ⟨h26, h27, z40, rfl, ⟨by first | exact q_e1de8c7867 h41 | omega, by first | exact q_c7dfa9697a h41 | omega⟩⟩
        · refine En_Ps 3 (pc' := 32) (lv' := [(0, .ref 159), (1, .int a), (2, .int z22), (3, .int y24)]) (st' := [.int y24, .int z22, .ref 159]) rfl ?_
          refine En_callV rfl rfl rfl rfl rfl rfl rfl rfl tgz_159 (by decide +kernel) rfl (c_262 σ25 h26 z22 y24 (geI rfl (by first | exact q_58e6e51dcc h30 | omega)) (leI rfl (by first | exact q_a30ae353ab h39 h38 | omega))) (by decide) (by decide) (fun v43 σ44 h42 => ?_)
          obtain ⟨h45, h46, z48, rfl, h47⟩ := h42
          have h49 := Fr_trans h27 h46 (by decide +kernel)
          refine En_iNe _ rfl rfl (fun h50 => ?_) (fun h50 => ?_)
          · refine En_Ps 1 (pc' := 43) (lv' := [(3, .int ((y24 + Int32.ofInt 1))), (0, .ref 159), (1, .int a), (2, .int z22)]) (st' := []) rfl ?_
            refine En_lv1 (addI rfl (by decide : (Int32.ofInt 1).toInt = 1) (by first | exact q_465ab79ac1 h30 | omega) (by first | exact q_1fdc13c345 h31 | omega)) (fun z51 h52 => ?_)
            refine En_Ps 1 (pc' := 19) (lv' := [(3, .int z51), (0, .ref 159), (1, .int a), (2, .int z22)]) (st' := []) rfl ?_
            refine En_lv (lv := [(0, .ref 159), (1, .int a), (2, .int z22), (3, .int z51)]) ⟨rfl, rfl, rfl, rfl, trivial⟩ ?_
            exact ih19 σ44 z51 h45 h49 ((h46 _ _ (inWa tgz_160 (by decide +kernel))).trans h28) ((h46 _ _ (inW tgz_159 (by decide +kernel))).trans h29) (by first | exact q_35104ce9d3 h52 h30 | omega) (by first | exact q_a2b7b6f4bb h52 h39 h38 | omega) (by first | exact q_4568c58b19 h52 h32 | omega)
          · refine En_Ps 1 (pc' := 39) (lv' := [(0, .ref 159), (1, .int a), (2, .int z22), (3, .int y24)]) (st' := [.int y24]) rfl ?_
            exact En_ret (v := some (Value.int y24)) rfl rfl rfl ⟨h45, h49, y24, rfl, ⟨by first | exact q_ea7f0ffdb1 h30 | omega, by first | exact q_8286cce19c h39 h38 | omega⟩⟩
    have := (by decide : (Int32.ofInt 0).toInt = 0)
    refine En_lv (lv := [(0, .ref 159), (1, .int a), (2, .int z22), (3, .int ((Int32.ofInt 0)))]) ⟨rfl, rfl, rfl, rfl, trivial⟩ ?_
    exact key19 (Int.toNat (12) + 1) σ16 ((Int32.ofInt 0)) h17 h23 ((h18 _ _ (inWa tgz_160 (by decide +kernel))).trans ((h9 _ _ (inWa tgz_160 (by decide +kernel))).trans h1)) h21 (by decide) (by decide) (by first | exact toN_lt _ | omega)
  · refine En_Ps 1 (pc' := 10) (lv' := [(0, .ref 159), (1, .int a)]) (st' := [.int (((Int8.ofInt (-2)).toInt32))]) rfl ?_
    refine En_top (by decide : ((Int8.ofInt (-2)).toInt32).toInt = -2) (fun z53 h54 => ?_)
    exact En_ret (v := some (Value.int z53)) rfl rfl rfl ⟨h8, h12, z53, rfl, ⟨by first | exact q_f35c5d346c h54 | omega, by first | exact q_b48f32a161 h54 | omega⟩⟩
/-- DoorSchoolModel.years(IIII)I -/
abbrev P_335 (σ0 : SG) (a : Int32) (b : Int32) (c : Int32) (d : Int32) : PO := fun v σ => WT σ ∧ Fr [(35, 18), (35, 21), (35, 31), (42, 0), (43, 0), (44, 0), (45, 0), (46, 0)] σ0 σ ∧ ∃ ret : Int32, v = some (Value.int ret) ∧ -ret.toInt - 2 ≤ 0 ∧ ret.toInt - 20 ≤ 0
set_option maxRecDepth 10000 in
set_option maxHeartbeats 4000000 in
theorem c_335 (σ0 : SG) (hσ0 : WT σ0) (a : Int32) (b : Int32) (c : Int32) (d : Int32) : En 6 139 none mr_335 (P_335 σ0 a b c d) 0 [(0, .ref 159), (1, .int a), (2, .int b), (3, .int c), (4, .int d)] [] σ0 := by
  have hF0 : Fr [(35, 18), (35, 21), (35, 31), (42, 0), (43, 0), (44, 0), (45, 0), (46, 0)] σ0 σ0 := Fr_rfl
  refine En_Ps 1 (pc' := 1) (lv' := [(0, .ref 159), (1, .int a), (2, .int b), (3, .int c), (4, .int d)]) (st' := [.int a]) rfl ?_
  refine En_callS rfl rfl rfl rfl rfl rfl rfl rfl rfl (c_265 σ0 hσ0 a) (by decide) (by decide) (fun v2 σ3 h1 => ?_)
  obtain ⟨h4, h5, z7, rfl, h6⟩ := h1
  have h8 := Fr_trans hF0 h5 (by decide +kernel)
  refine En_iEq _ rfl rfl (fun h9 => ?_) (fun h9 => ?_)
  · refine En_Ps 1 (pc' := 29) (lv' := [(0, .ref 159), (1, .int a), (2, .int b), (3, .int c), (4, .int d)]) (st' := [.int (((Int8.ofInt (-2)).toInt32))]) rfl ?_
    refine En_top (by decide : ((Int8.ofInt (-2)).toInt32).toInt = -2) (fun z10 h11 => ?_)
    exact En_ret (v := some (Value.int z10)) rfl rfl rfl ⟨h4, h8, z10, rfl, ⟨by first | exact q_f35c5d346c h11 | omega, by first | exact q_1be818c737 h11 | omega⟩⟩
  · refine En_Ps 4 (pc' := 13) (lv' := [(0, .ref 159), (1, .int a), (2, .int b), (3, .int c), (4, .int d)]) (st' := [.long ((20 : Int64)), .long ((Int64.ofNat 1)), .long b.toInt64]) rfl ?_
    have : b.toInt64.toInt = b.toInt := (i2lI rfl)
    have := (by decide : ((Int64.ofNat 1)).toInt = 1)
    have := (by decide : ((20 : Int64)).toInt = 20)
    refine En_callS rfl rfl rfl rfl rfl rfl rfl rfl rfl (c_249 σ3 h4 b.toInt64 ((Int64.ofNat 1)) ((20 : Int64))) (by decide) (by decide) (fun v13 σ14 h12 => ?_)
    obtain ⟨h15, h16, z18, rfl, h17⟩ := h12
    have h19 := Fr_trans h8 h16 (by decide +kernel)
    refine En_iEq _ rfl rfl (fun h20 => ?_) (fun h20 => ?_)
    · refine En_Ps 1 (pc' := 29) (lv' := [(0, .ref 159), (1, .int a), (2, .int b), (3, .int c), (4, .int d)]) (st' := [.int (((Int8.ofInt (-2)).toInt32))]) rfl ?_
      refine En_top (by decide : ((Int8.ofInt (-2)).toInt32).toInt = -2) (fun z21 h22 => ?_)
      exact En_ret (v := some (Value.int z21)) rfl rfl rfl ⟨h15, h19, z21, rfl, ⟨by first | exact q_f35c5d346c h22 | omega, by first | exact q_1be818c737 h22 | omega⟩⟩
    · refine En_Ps 2 (pc' := 21) (lv' := [(0, .ref 159), (1, .int a), (2, .int b), (3, .int c), (4, .int d)]) (st' := [.int c, .ref 159]) rfl ?_
      obtain ⟨z24, h23, h25, h26⟩ := WT_peekI h15 tgz_160 (by decide +kernel : FT 36 (2 : Int).toNat = (0, 0, 4)) (by decide +kernel)
      refine En_callV rfl rfl rfl rfl rfl rfl rfl rfl tgz_159 (by decide +kernel) rfl (c_254 σ14 h15 c z24 h23) (by decide) (by decide) (fun v28 σ29 h27 => ?_)
      obtain ⟨h30, h31, z33, rfl, h32⟩ := h27
      have h34 := Fr_trans h19 h31 (by decide +kernel)
      refine En_iNe _ rfl rfl (fun h35 => ?_) (fun h35 => ?_)
      · refine En_Ps 4 (pc' := 36) (lv' := [(6, .int ((Int32.ofInt 0))), (5, .int ((Int32.ofInt 0))), (0, .ref 159), (1, .int a), (2, .int b), (3, .int c), (4, .int d)]) (st' := []) rfl ?_
        have key36 : ∀ (n36 : Nat) (σ38 : SG) (y36 : Int32) (y37 : Int32), WT σ38 → Fr [(35, 18), (35, 21), (35, 31), (42, 0), (43, 0), (44, 0), (45, 0), (46, 0)] σ0 σ38 → (σ38 160)[(2 : Int).toNat]? = some (Value.int z24) → 0 ≤ y36.toInt → y36.toInt ≤ 20 → 0 ≤ y37.toInt → y37.toInt ≤ 20 → y37.toInt - b.toInt ≤ 0 → y36.toInt - y37.toInt ≤ 0 → b.toInt - y37.toInt < (n36 : Int) → En 6 139 none mr_335 (P_335 σ0 a b c d) 36 [(0, .ref 159), (1, .int a), (2, .int b), (3, .int c), (4, .int d), (5, .int y36), (6, .int y37)] [] σ38 := by
          intro n36
          induction n36 with
          | zero =>
            intro σ38 y36 y37 h39 h40 h41 h42 h43 h44 h45 h46 h47 h48
            first | exact (q_14257feae7 h46 h48).elim | (exfalso; omega)
          | succ n36 ih36 =>
            intro σ38 y36 y37 h39 h40 h41 h42 h43 h44 h45 h46 h47 h48
            refine En_Ps 2 (pc' := 39) (lv' := [(0, .ref 159), (1, .int a), (2, .int b), (3, .int c), (4, .int d), (5, .int y36), (6, .int y37)]) (st' := [.int b, .int y37]) rfl ?_
            refine En_icGe _ rfl rfl rfl (fun h49 => ?_) (fun h49 => ?_)
            · refine En_Ps 1 (pc' := 80) (lv' := [(0, .ref 159), (1, .int a), (2, .int b), (3, .int c), (4, .int d), (5, .int y36), (6, .int y37)]) (st' := [.int y36]) rfl ?_
              exact En_ret (v := some (Value.int y36)) rfl rfl rfl ⟨h39, h40, y36, rfl, ⟨by first | exact q_ea7f0ffdb1 h42 | omega, by first | exact q_dfa22fc04d h43 | omega⟩⟩
            · refine En_Ps 8 (pc' := 52) (lv' := [(0, .ref 159), (1, .int a), (2, .int b), (3, .int c), (4, .int d), (5, .int y36), (6, .int y37)]) (st' := [.long ((a.toInt64 + y37.toInt64)), .ref 159, .ref 159, .int y36]) rfl ?_
              refine En_topL (addL (i2lI rfl) (i2lI rfl) (by (first | exact q_298f70c05d h6.2.2.1 h6.2.1 h9 h6.1 h44 | omega)) (by (first | exact q_48976ef27d h6.2.2.1 h6.2.1 h9 h6.1 h45 | omega))) (fun z50 h51 => ?_)
              refine En_Ps 1 (pc' := 53) (lv' := [(0, .ref 159), (1, .int a), (2, .int b), (3, .int c), (4, .int d), (5, .int y36), (6, .int y37)]) (st' := [.int c, .long z50, .ref 159, .ref 159, .int y36]) rfl ?_
              refine En_callV rfl rfl rfl rfl rfl rfl rfl rfl tgz_159 (by decide +kernel) rfl (c_316 σ38 h39 z50 c (geI rfl (by (first | exact q_bf8258001b h32.2.2.1 h35 h32.1 | omega))) (leI rfl (by (first | exact q_88b0c3c731 h32.2.2.1 h35 h32.1 h26 | omega))) (by (first | exact q_03f1571b47 h51 h44 h6.2.2.1 h6.2.1 h9 h6.1 | omega)) (by (first | exact q_fe1d46f57a h51 h45 h6.2.2.1 h6.2.1 h9 h6.1 | omega))) (by decide) (by decide) (fun v53 σ54 h52 => ?_)
              obtain ⟨h55, h56, z58, rfl, h57⟩ := h52
              have h59 := Fr_trans h40 h56 (by decide +kernel)
              refine En_callV rfl rfl rfl rfl rfl rfl rfl rfl tgz_159 (by decide +kernel) rfl (c_283 σ54 h55 z58) (by decide) (by decide) (fun v61 σ62 h60 => ?_)
              obtain ⟨h63, h64, z66, rfl, h65⟩ := h60
              have h67 := Fr_trans h59 h64 (by decide +kernel)
              refine En_Ps 1 (pc' := 61) (lv' := [(0, .ref 159), (1, .int a), (2, .int b), (3, .int c), (4, .int d), (5, .int y36), (6, .int y37)]) (st' := [.int d, .int z66, .int y36]) rfl ?_
              refine En_icLt _ rfl rfl rfl (fun h68 => ?_) (fun h68 => ?_)
              · refine En_Ps 2 (pc' := 70) (lv' := [(0, .ref 159), (1, .int a), (2, .int b), (3, .int c), (4, .int d), (5, .int y36), (6, .int y37)]) (st' := [.int ((y36 + ((Int32.ofInt 0))))]) rfl ?_
                refine En_top (addI rfl (by decide : (Int32.ofInt 0).toInt = 0) (by first | exact q_2f569dfca1 h42 | omega) (by first | exact q_3717dce636 h43 | omega)) (fun z69 h70 => ?_)
                refine En_Ps 2 (pc' := 75) (lv' := [(6, .int ((y37 + Int32.ofInt 1))), (5, .int z69), (0, .ref 159), (1, .int a), (2, .int b), (3, .int c), (4, .int d)]) (st' := []) rfl ?_
                refine En_lv1 (addI rfl (by decide : (Int32.ofInt 1).toInt = 1) (by first | exact q_465ab79ac1 h44 | omega) (by first | exact q_ac83b3f23b h45 | omega)) (fun z71 h72 => ?_)
                refine En_Ps 1 (pc' := 36) (lv' := [(6, .int z71), (5, .int z69), (0, .ref 159), (1, .int a), (2, .int b), (3, .int c), (4, .int d)]) (st' := []) rfl ?_
                refine En_lv (lv := [(0, .ref 159), (1, .int a), (2, .int b), (3, .int c), (4, .int d), (5, .int z69), (6, .int z71)]) ⟨rfl, rfl, rfl, rfl, rfl, rfl, rfl, trivial⟩ ?_
                exact ih36 σ62 z69 z71 h63 h67 ((h64 _ _ (inWa tgz_160 (by decide +kernel))).trans ((h56 _ _ (inWa tgz_160 (by decide +kernel))).trans h41)) (by first | exact q_771c4e5138 h70 h42 | omega) (by first | exact q_102453ef71 h70 h43 | omega) (by first | exact q_35104ce9d3 h72 h44 | omega) (by (first | exact q_8fdf66e26c h72 h49 (i2lI rfl) h17.2.2.1 h20 h17.1 this | omega)) (by first | exact q_ae2dbf4292 h49 h72 | omega) (by first | exact q_969c4fd5e6 h70 h72 h47 | omega) (by first | exact q_8d03a5a7cb h72 h48 | omega)
              · refine En_Ps 3 (pc' := 70) (lv' := [(0, .ref 159), (1, .int a), (2, .int b), (3, .int c), (4, .int d), (5, .int y36), (6, .int y37)]) (st' := [.int ((y36 + ((Int32.ofInt 1))))]) rfl ?_
                refine En_top (addI rfl (by decide : (Int32.ofInt 1).toInt = 1) (by first | exact q_465ab79ac1 h42 | omega) (by first | exact q_ac83b3f23b h43 | omega)) (fun z73 h74 => ?_)
                refine En_Ps 2 (pc' := 75) (lv' := [(6, .int ((y37 + Int32.ofInt 1))), (5, .int z73), (0, .ref 159), (1, .int a), (2, .int b), (3, .int c), (4, .int d)]) (st' := []) rfl ?_
                refine En_lv1 (addI rfl (by decide : (Int32.ofInt 1).toInt = 1) (by first | exact q_465ab79ac1 h44 | omega) (by first | exact q_ac83b3f23b h45 | omega)) (fun z75 h76 => ?_)
                refine En_Ps 1 (pc' := 36) (lv' := [(6, .int z75), (5, .int z73), (0, .ref 159), (1, .int a), (2, .int b), (3, .int c), (4, .int d)]) (st' := []) rfl ?_
                refine En_lv (lv := [(0, .ref 159), (1, .int a), (2, .int b), (3, .int c), (4, .int d), (5, .int z73), (6, .int z75)]) ⟨rfl, rfl, rfl, rfl, rfl, rfl, rfl, trivial⟩ ?_
                exact ih36 σ62 z73 z75 h63 h67 ((h64 _ _ (inWa tgz_160 (by decide +kernel))).trans ((h56 _ _ (inWa tgz_160 (by decide +kernel))).trans h41)) (by first | exact q_35104ce9d3 h74 h42 | omega) (by (first | exact q_8caf4e8b5b h74 h47 h49 (i2lI rfl) h17.2.2.1 h20 h17.1 this | omega)) (by first | exact q_35104ce9d3 h76 h44 | omega) (by (first | exact q_8fdf66e26c h76 h49 (i2lI rfl) h17.2.2.1 h20 h17.1 this | omega)) (by first | exact q_ae2dbf4292 h49 h76 | omega) (by first | exact q_1ff421e7a2 h74 h76 h47 | omega) (by first | exact q_8d03a5a7cb h76 h48 | omega)
        have := (by decide : (Int32.ofInt 0).toInt = 0)
        have := (by decide : (Int32.ofInt 0).toInt = 0)
        refine En_lv (lv := [(0, .ref 159), (1, .int a), (2, .int b), (3, .int c), (4, .int d), (5, .int ((Int32.ofInt 0))), (6, .int ((Int32.ofInt 0)))]) ⟨rfl, rfl, rfl, rfl, rfl, rfl, rfl, trivial⟩ ?_
        exact key36 (Int.toNat (b.toInt) + 1) σ29 ((Int32.ofInt 0)) ((Int32.ofInt 0)) h30 h34 ((h31 _ _ (inWa tgz_160 (by decide +kernel))).trans h23) (by decide) (by decide) (by decide) (by decide) (by (first | exact q_ea10934706 (by decide) (i2lI rfl) h17.2.2.1 h20 h17.1 (by decide) | omega)) (by (first | exact q_1bb76abeaf | omega)) (by first | exact toN_lt _ | omega)
      · refine En_Ps 1 (pc' := 29) (lv' := [(0, .ref 159), (1, .int a), (2, .int b), (3, .int c), (4, .int d)]) (st' := [.int (((Int8.ofInt (-2)).toInt32))]) rfl ?_
        refine En_top (by decide : ((Int8.ofInt (-2)).toInt32).toInt = -2) (fun z77 h78 => ?_)
        exact En_ret (v := some (Value.int z77)) rfl rfl rfl ⟨h30, h34, z77, rfl, ⟨by first | exact q_f35c5d346c h78 | omega, by first | exact q_1be818c737 h78 | omega⟩⟩
/-- DoorSchoolModel.hangAll()V -/
abbrev P_238 (σ0 : SG) : PO := fun v σ => WT σ ∧ Fr [(35, 18), (35, 21), (35, 26), (42, 0), (43, 0), (44, 0), (45, 0), (46, 0), (47, 0), (48, 0)] σ0 σ ∧ v = none ∧ True
set_option maxRecDepth 10000 in
set_option maxHeartbeats 4000000 in
theorem c_238 (σ0 : SG) (hσ0 : WT σ0) : En 6 134 none mr_238 (P_238 σ0) 0 [(0, .ref 159)] [] σ0 := by
  have hF0 : Fr [(35, 18), (35, 21), (35, 26), (42, 0), (43, 0), (44, 0), (45, 0), (46, 0), (47, 0), (48, 0)] σ0 σ0 := Fr_rfl
  refine En_Ps 2 (pc' := 2) (lv' := [(0, .ref 159)]) (st' := [.int ((Int32.ofInt (-1))), .ref 159]) rfl ?_
  refine En_put (j := 26) rfl rfl rfl tgz_159 (by decide +kernel) rfl (vF (by decide +kernel)) hσ0 hF0 (by decide +kernel) (fun σ1 h2 h3 h4 h5 => ?_)
  refine En_Ps 1 (pc' := 6) (lv' := [(0, .ref 159)]) (st' := [.ref 159]) rfl ?_
  refine En_getU (j := 1) (u := 160) (g' := 36) (q := 0) rfl rfl rfl tgz_159 (by decide +kernel) h2 (by decide +kernel) un_36_160 (fun h6 => ?_)
  refine En_Ps 1 (pc' := 10) (lv' := [(0, .ref 159)]) (st' := [.int ((Int32.ofInt 2)), .ref 160]) rfl ?_
  refine En_iald (l := 0) (u := 4) rfl (by decide : (Int32.ofInt 2).toInt = 2) tgz_160 (by decide +kernel) h2 (by decide) (lnI (by decide +kernel : LN _ = 226) (by decide)) (by decide +kernel) (fun z9 h8 h10 h11 => ?_)
  refine En_Ps 1 (pc' := 12) (lv' := [(0, .ref 159)]) (st' := [.ref 159, .int z9]) rfl ?_
  refine En_getK (j := 1) h6 rfl rfl rfl tgz_159 (by decide +kernel) ?_
  refine En_Ps 1 (pc' := 16) (lv' := [(0, .ref 159)]) (st' := [.int ((Int32.ofInt 4)), .ref 160, .int z9]) rfl ?_
  refine En_iald (l := 0) (u := 4) rfl (by decide : (Int32.ofInt 4).toInt = 4) tgz_160 (by decide +kernel) h2 (by decide) (lnI (by decide +kernel : LN _ = 226) (by decide)) (by decide +kernel) (fun z13 h12 h14 h15 => ?_)
  refine En_icGe _ rfl rfl rfl (fun h16 => ?_) (fun h16 => ?_)
  · refine En_Ps 4 (pc' := 25) (lv' := [(2, .int ((Int32.ofInt 0))), (1, .int ((Int32.ofInt 1))), (0, .ref 159)]) (st' := []) rfl ?_
    have key25 : ∀ (n25 : Nat) (σ19 : SG) (y17 : Int32) (y18 : Int32), WT σ19 → Fr [(35, 18), (35, 21), (35, 26), (42, 0), (43, 0), (44, 0), (45, 0), (46, 0), (47, 0), (48, 0)] σ0 σ19 → (σ19 159)[26]? = some (Value.int ((Int32.ofInt (-1)))) → (σ19 159)[1]? = some (Value.ref 160) → (σ19 160)[(2 : Int).toNat]? = some (Value.int z9) → (σ19 160)[(4 : Int).toNat]? = some (Value.int z13) → 0 ≤ y18.toInt → y18.toInt ≤ 4 → -y18.toInt + 4 < (n25 : Int) → En 6 134 none mr_238 (P_238 σ0) 25 [(0, .ref 159), (1, .int y17), (2, .int y18)] [] σ19 := by
      intro n25
      induction n25 with
      | zero =>
        intro σ19 y17 y18 h20 h21 h22 h23 h24 h25 h26 h27 h28
        first | exact (q_20d6385c6f h28 h27).elim | (exfalso; omega)
      | succ n25 ih25 =>
        intro σ19 y17 y18 h20 h21 h22 h23 h24 h25 h26 h27 h28
        refine En_Ps 2 (pc' := 27) (lv' := [(0, .ref 159), (1, .int y17), (2, .int y18)]) (st' := [.ref 159, .int y18]) rfl ?_
        refine En_getK (j := 1) h23 rfl rfl rfl tgz_159 (by decide +kernel) ?_
        refine En_Ps 1 (pc' := 31) (lv' := [(0, .ref 159), (1, .int y17), (2, .int y18)]) (st' := [.int ((Int32.ofInt 4)), .ref 160, .int y18]) rfl ?_
        refine En_ialdK h25 rfl (by decide : (Int32.ofInt 4).toInt = 4) tgz_160 (by decide +kernel) h20 (by decide) (lnI (by decide +kernel : LN _ = 226) (by decide)) ?_
        refine En_icGe _ rfl rfl rfl (fun h30 => ?_) (fun h30 => ?_)
        · refine En_Ps 2 (pc' := 52) (lv' := [(2, .int ((Int32.ofInt 0))), (0, .ref 159), (1, .int y17)]) (st' := []) rfl ?_
          have key52 : ∀ (n52 : Nat) (σ33 : SG) (y31 : Int32) (y32 : Int32), WT σ33 → Fr [(35, 18), (35, 21), (35, 26), (42, 0), (43, 0), (44, 0), (45, 0), (46, 0), (47, 0), (48, 0)] σ0 σ33 → (σ33 159)[1]? = some (Value.ref 160) → (σ33 160)[(2 : Int).toNat]? = some (Value.int z9) → (σ33 160)[(4 : Int).toNat]? = some (Value.int z13) → (σ33 159)[26]? = some (Value.int y32) → 0 ≤ y31.toInt → (((y17.toInt) - (y31.toInt)).toNat : Int) < (n52 : Int) → En 6 134 none mr_238 (P_238 σ0) 52 [(0, .ref 159), (1, .int y17), (2, .int y31)] [] σ33 := by
            intro n52
            induction n52 with
            | zero =>
              intro σ33 y31 y32 h34 h35 h36 h37 h38 h39 h40 h41
              exfalso; omega
            | succ n52 ih52 =>
              intro σ33 y31 y32 h34 h35 h36 h37 h38 h39 h40 h41
              refine En_Ps 2 (pc' := 54) (lv' := [(0, .ref 159), (1, .int y17), (2, .int y31)]) (st' := [.int y17, .int y31]) rfl ?_
              refine En_icGe _ rfl rfl rfl (fun h42 => ?_) (fun h42 => ?_)
              · exact En_ret (v := none) rfl rfl rfl ⟨h34, h35, rfl, trivial⟩
              · have := fullI y17
                refine En_Ps 7 (pc' := 66) (lv' := [(5, .int ((Int32.ofInt 0))), (4, .int ((Int32.ofInt 0))), (3, .int y31), (0, .ref 159), (1, .int y17), (2, .int y31)]) (st' := [.ref 159]) rfl ?_
                refine En_getK (j := 1) h36 rfl rfl rfl tgz_159 (by decide +kernel) ?_
                refine En_Ps 1 (pc' := 70) (lv' := [(5, .int ((Int32.ofInt 0))), (4, .int ((Int32.ofInt 0))), (3, .int y31), (0, .ref 159), (1, .int y17), (2, .int y31)]) (st' := [.int ((Int32.ofInt 4)), .ref 160]) rfl ?_
                refine En_ialdK h38 rfl (by decide : (Int32.ofInt 4).toInt = 4) tgz_160 (by decide +kernel) h34 (by decide) (lnI (by decide +kernel : LN _ = 226) (by decide)) ?_
                refine En_Ps 2 (pc' := 73) (lv' := [(5, .int ((Int32.ofInt 0))), (4, .int ((Int32.ofInt 0))), (3, .int y31), (0, .ref 159), (1, .int y17), (2, .int y31)]) (st' := [.int ((z13 - ((Int32.ofInt 1))))]) rfl ?_
                refine En_top (subI rfl (by decide : (Int32.ofInt 1).toInt = 1) (by first | exact q_93f9478bef h14 | omega) (by first | exact q_cc3cee8591 h15 | omega)) (fun z44 h45 => ?_)
                refine En_Ps 1 (pc' := 75) (lv' := [(6, .int z44), (5, .int ((Int32.ofInt 0))), (4, .int ((Int32.ofInt 0))), (3, .int y31), (0, .ref 159), (1, .int y17), (2, .int y31)]) (st' := []) rfl ?_
                have key75 : ∀ (n75 : Nat) (σ49 : SG) (y46 : Int32) (y47 : Int32) (y48 : Int32), WT σ49 → Fr [(35, 18), (35, 21), (35, 26), (42, 0), (43, 0), (44, 0), (45, 0), (46, 0), (47, 0), (48, 0)] σ0 σ49 → (σ49 159)[1]? = some (Value.ref 160) → (σ49 160)[(2 : Int).toNat]? = some (Value.int z9) → (σ49 160)[(4 : Int).toNat]? = some (Value.int z13) → (σ49 159)[26]? = some (Value.int y32) → 0 ≤ y46.toInt → (-1) ≤ y48.toInt → y48.toInt ≤ 3 → y46.toInt - y31.toInt ≤ 0 → y48.toInt - z13.toInt + 1 ≤ 0 → y48.toInt + 1 < (n75 : Int) → En 6 134 none mr_238 (P_238 σ0) 75 [(0, .ref 159), (1, .int y17), (2, .int y31), (3, .int y46), (4, .int y47), (5, .int ((Int32.ofInt 0))), (6, .int y48)] [] σ49 := by
                  intro n75
                  induction n75 with
                  | zero =>
                    intro σ49 y46 y47 y48 h50 h51 h52 h53 h54 h55 h56 h57 h58 h59 h60 h61
                    first | exact (q_d30ca37d8c h57 h61).elim | (exfalso; omega)
                  | succ n75 ih75 =>
                    intro σ49 y46 y47 y48 h50 h51 h52 h53 h54 h55 h56 h57 h58 h59 h60 h61
                    refine En_Ps 1 (pc' := 77) (lv' := [(0, .ref 159), (1, .int y17), (2, .int y31), (3, .int y46), (4, .int y47), (5, .int ((Int32.ofInt 0))), (6, .int y48)]) (st' := [.int y48]) rfl ?_
                    refine En_iLt _ rfl rfl (fun h62 => ?_) (fun h62 => ?_)
                    · refine En_Ps 1 (pc' := 126) (lv' := [(0, .ref 159), (1, .int y17), (2, .int y31), (3, .int y46), (4, .int y47), (5, .int ((Int32.ofInt 0))), (6, .int y48)]) (st' := [.int y47]) rfl ?_
                      refine En_callS rfl rfl rfl rfl rfl rfl rfl rfl rfl (c_203b σ49 h50 y47) (by decide) (by decide) (fun v64 σ65 h63 => ?_)
                      obtain ⟨h66, h67, z69, rfl, h68⟩ := h63
                      have h70 := Fr_trans h51 h67 (by decide +kernel)
                      refine En_Ps 1 (pc' := 130) (lv' := [(0, .ref 159), (1, .int y17), (2, .int y31), (3, .int y46), (4, .int y47), (5, .int ((Int32.ofInt 0))), (6, .int y48)]) (st' := [.ref 159, .int z69]) rfl ?_
                      refine En_getK (j := 1) ((h67 _ _ (inW tgz_159 (by decide +kernel))).trans h52) rfl rfl rfl tgz_159 (by decide +kernel) ?_
                      refine En_Ps 1 (pc' := 134) (lv' := [(0, .ref 159), (1, .int y17), (2, .int y31), (3, .int y46), (4, .int y47), (5, .int ((Int32.ofInt 0))), (6, .int y48)]) (st' := [.int ((Int32.ofInt 4)), .ref 160, .int z69]) rfl ?_
                      refine En_ialdK ((h67 _ _ (inWa tgz_160 (by decide +kernel))).trans h54) rfl (by decide : (Int32.ofInt 4).toInt = 4) tgz_160 (by decide +kernel) h66 (by decide) (lnI (by decide +kernel : LN _ = 226) (by decide)) ?_
                      refine En_icEq _ rfl rfl rfl (fun h72 => ?_) (fun h72 => ?_)
                      · refine En_Ps 2 (pc' := 144) (lv' := [(6, .int ((Int32.ofInt 0))), (0, .ref 159), (1, .int y17), (2, .int y31), (3, .int y46), (4, .int y47), (5, .int ((Int32.ofInt 0)))]) (st' := []) rfl ?_
                        have key144 : ∀ (n144 : Nat) (σ75 : SG) (y73 : Int32) (y74 : Int32), WT σ75 → Fr [(35, 18), (35, 21), (35, 26), (42, 0), (43, 0), (44, 0), (45, 0), (46, 0), (47, 0), (48, 0)] σ0 σ75 → (σ75 159)[1]? = some (Value.ref 160) → (σ75 160)[(2 : Int).toNat]? = some (Value.int z9) → (σ75 160)[(4 : Int).toNat]? = some (Value.int z13) → (σ75 159)[26]? = some (Value.int y32) → 0 ≤ y74.toInt → y74.toInt ≤ 4 → -y74.toInt + 4 < (n144 : Int) → En 6 134 none mr_238 (P_238 σ0) 144 [(0, .ref 159), (1, .int y17), (2, .int y31), (3, .int y46), (4, .int y47), (5, .int y73), (6, .int y74)] [] σ75 := by
                          intro n144
                          induction n144 with
                          | zero =>
                            intro σ75 y73 y74 h76 h77 h78 h79 h80 h81 h82 h83 h84
                            first | exact (q_20d6385c6f h84 h83).elim | (exfalso; omega)
                          | succ n144 ih144 =>
                            intro σ75 y73 y74 h76 h77 h78 h79 h80 h81 h82 h83 h84
                            refine En_Ps 2 (pc' := 147) (lv' := [(0, .ref 159), (1, .int y17), (2, .int y31), (3, .int y46), (4, .int y47), (5, .int y73), (6, .int y74)]) (st' := [.ref 159, .int y74]) rfl ?_
                            refine En_getK (j := 1) h78 rfl rfl rfl tgz_159 (by decide +kernel) ?_
                            refine En_Ps 1 (pc' := 151) (lv' := [(0, .ref 159), (1, .int y17), (2, .int y31), (3, .int y46), (4, .int y47), (5, .int y73), (6, .int y74)]) (st' := [.int ((Int32.ofInt 4)), .ref 160, .int y74]) rfl ?_
                            refine En_ialdK h80 rfl (by decide : (Int32.ofInt 4).toInt = 4) tgz_160 (by decide +kernel) h76 (by decide) (lnI (by decide +kernel : LN _ = 226) (by decide)) ?_
                            refine En_icGe _ rfl rfl rfl (fun h86 => ?_) (fun h86 => ?_)
                            · refine En_Ps 1 (pc' := 180) (lv' := [(0, .ref 159), (1, .int y17), (2, .int y31), (3, .int y46), (4, .int y47), (5, .int y73), (6, .int y74)]) (st' := [.ref 159]) rfl ?_
                              refine En_getK (j := 26) h81 rfl rfl rfl tgz_159 (by decide +kernel) ?_
                              refine En_Ps 1 (pc' := 184) (lv' := [(0, .ref 159), (1, .int y17), (2, .int y31), (3, .int y46), (4, .int y47), (5, .int y73), (6, .int y74)]) (st' := [.int ((Int32.ofInt (-1))), .int y32]) rfl ?_
                              refine En_icEq _ rfl (by decide : (Int32.ofInt (-1)).toInt = -1) rfl (fun h87 => ?_) (fun h87 => ?_)
                              · refine En_Ps 2 (pc' := 202) (lv' := [(0, .ref 159), (1, .int y17), (2, .int y31), (3, .int y46), (4, .int y47), (5, .int y73), (6, .int y74)]) (st' := [.int y73, .ref 159]) rfl ?_
                                refine En_put (j := 26) rfl rfl rfl tgz_159 (by decide +kernel) rfl (vF (by decide +kernel)) h76 h77 (by decide +kernel) (fun σ88 h89 h90 h91 h92 => ?_)
                                refine En_Ps 2 (pc' := 208) (lv' := [(6, .int ((Int32.ofInt 0))), (0, .ref 159), (1, .int y17), (2, .int y31), (3, .int y46), (4, .int y47), (5, .int y73)]) (st' := []) rfl ?_
                                have key208 : ∀ (n208 : Nat) (σ94 : SG) (y93 : Int32), WT σ94 → Fr [(35, 18), (35, 21), (35, 26), (42, 0), (43, 0), (44, 0), (45, 0), (46, 0), (47, 0), (48, 0)] σ0 σ94 → (σ94 159)[1]? = some (Value.ref 160) → (σ94 160)[(2 : Int).toNat]? = some (Value.int z9) → (σ94 160)[(4 : Int).toNat]? = some (Value.int z13) → (σ94 159)[26]? = some (Value.int y73) → 0 ≤ y93.toInt → y93.toInt ≤ 4 → -y93.toInt + 4 < (n208 : Int) → En 6 134 none mr_238 (P_238 σ0) 208 [(0, .ref 159), (1, .int y17), (2, .int y31), (3, .int y46), (4, .int y47), (5, .int y73), (6, .int y93)] [] σ94 := by
                                  intro n208
                                  induction n208 with
                                  | zero =>
                                    intro σ94 y93 h95 h96 h97 h98 h99 h100 h101 h102 h103
                                    first | exact (q_20d6385c6f h103 h102).elim | (exfalso; omega)
                                  | succ n208 ih208 =>
                                    intro σ94 y93 h95 h96 h97 h98 h99 h100 h101 h102 h103
                                    refine En_Ps 2 (pc' := 211) (lv' := [(0, .ref 159), (1, .int y17), (2, .int y31), (3, .int y46), (4, .int y47), (5, .int y73), (6, .int y93)]) (st' := [.int ((Int32.ofInt 4)), .int y93]) rfl ?_
                                    refine En_icGe _ rfl (by decide : (Int32.ofInt 4).toInt = 4) rfl (fun h104 => ?_) (fun h104 => ?_)
                                    · refine En_Ps 1 (pc' := 237) (lv' := [(2, .int ((y31 + Int32.ofInt 1))), (0, .ref 159), (1, .int y17), (3, .int y46), (4, .int y47), (5, .int y73), (6, .int y93)]) (st' := []) rfl ?_
                                      refine En_lv1 (addI rfl (by decide : (Int32.ofInt 1).toInt = 1) (by first | exact q_465ab79ac1 h40 | omega) (by (first | exact q_12d49b99d0 h42 this.2 | omega))) (fun z105 h106 => ?_)
                                      refine En_Ps 1 (pc' := 52) (lv' := [(2, .int z105), (0, .ref 159), (1, .int y17), (3, .int y46), (4, .int y47), (5, .int y73), (6, .int y93)]) (st' := []) rfl ?_
                                      refine En_lv (lv := [(0, .ref 159), (1, .int y17), (2, .int z105)]) ⟨rfl, rfl, rfl, trivial⟩ ?_
                                      exact ih52 σ94 z105 y73 h95 h96 h97 h98 h99 h100 (by first | exact q_35104ce9d3 h106 h40 | omega) (by omega)
                                    · refine En_Ps 1 (pc' := 215) (lv' := [(0, .ref 159), (1, .int y17), (2, .int y31), (3, .int y46), (4, .int y47), (5, .int y73), (6, .int y93)]) (st' := [.ref 159]) rfl ?_
                                      refine En_getU (j := 25) (u := 172) (g' := 48) (q := 0) rfl rfl rfl tgz_159 (by decide +kernel) h95 (by decide +kernel) un_48_172 (fun h107 => ?_)
                                      refine En_Ps 2 (pc' := 221) (lv' := [(0, .ref 159), (1, .int y17), (2, .int y31), (3, .int y46), (4, .int y47), (5, .int y73), (6, .int y93)]) (st' := [.ref 159, .int y93, .ref 172]) rfl ?_
                                      refine En_getU (j := 24) (u := 171) (g' := 47) (q := 0) rfl rfl rfl tgz_159 (by decide +kernel) h95 (by decide +kernel) un_47_171 (fun h109 => ?_)
                                      refine En_Ps 1 (pc' := 226) (lv' := [(0, .ref 159), (1, .int y17), (2, .int y31), (3, .int y46), (4, .int y47), (5, .int y73), (6, .int y93)]) (st' := [.int y93, .ref 171, .int y93, .ref 172]) rfl ?_
                                      refine En_iald (l := 0) (u := 3) rfl rfl tgz_171 (by decide +kernel) h95 (by first | exact q_58e6e51dcc h101 | omega) (lnI (by decide +kernel : LN _ = 4) (by first | exact q_074a8b422d h104 | omega)) (FTsgl (by decide +kernel)) (fun z112 h111 h113 h114 => ?_)
                                      refine En_iast (l := 0) (u := 3) rfl rfl tgz_172 (by decide +kernel) (by first | exact q_58e6e51dcc h101 | omega) (lnI (by decide +kernel : LN _ = 4) (by first | exact q_074a8b422d h104 | omega)) (FTsgl (by decide +kernel)) (rngI rfl (by first | exact q_58e6e51dcc h113 | omega) (by first | exact q_da5e9b976f h114 | omega)) h95 h96 (by decide +kernel) (fun σ115 h116 h117 h118 h119 => ?_)
                                      refine En_Ps 1 (pc' := 231) (lv' := [(6, .int ((y93 + Int32.ofInt 1))), (0, .ref 159), (1, .int y17), (2, .int y31), (3, .int y46), (4, .int y47), (5, .int y73)]) (st' := []) rfl ?_
                                      refine En_lv1 (addI rfl (by decide : (Int32.ofInt 1).toInt = 1) (by first | exact q_465ab79ac1 h101 | omega) (by first | exact q_d8bf7f475a h104 | omega)) (fun z120 h121 => ?_)
                                      refine En_Ps 1 (pc' := 208) (lv' := [(6, .int z120), (0, .ref 159), (1, .int y17), (2, .int y31), (3, .int y46), (4, .int y47), (5, .int y73)]) (st' := []) rfl ?_
                                      refine En_lv (lv := [(0, .ref 159), (1, .int y17), (2, .int y31), (3, .int y46), (4, .int y47), (5, .int y73), (6, .int z120)]) ⟨rfl, rfl, rfl, rfl, rfl, rfl, rfl, trivial⟩ ?_
                                      exact ih208 σ115 z120 h116 h117 ((h119 _ _ (Or.inl (neTG tgz_159 tgz_172 (by decide)))).trans h97) ((h119 _ _ (Or.inl (neTG tgz_160 tgz_172 (by decide)))).trans h98) ((h119 _ _ (Or.inl (neTG tgz_160 tgz_172 (by decide)))).trans h99) ((h119 _ _ (Or.inl (neTG tgz_159 tgz_172 (by decide)))).trans h100) (by first | exact q_35104ce9d3 h121 h101 | omega) (by first | exact q_ddc5c16a68 h121 h104 | omega) (by first | exact q_3d8d70ace2 h121 h103 | omega)
                                have := (by decide : (Int32.ofInt 0).toInt = 0)
                                refine En_lv (lv := [(0, .ref 159), (1, .int y17), (2, .int y31), (3, .int y46), (4, .int y47), (5, .int y73), (6, .int ((Int32.ofInt 0)))]) ⟨rfl, rfl, rfl, rfl, rfl, rfl, rfl, trivial⟩ ?_
                                exact key208 (Int.toNat (4) + 1) σ88 ((Int32.ofInt 0)) h89 h90 ((h92 _ _ (Or.inr (by decide))).trans h78) ((h92 _ _ (Or.inl (neTG tgz_160 tgz_159 (by decide)))).trans h79) ((h92 _ _ (Or.inl (neTG tgz_160 tgz_159 (by decide)))).trans h80) h91 (by decide) (by decide) (by first | exact toN_lt _ | omega)
                              · refine En_Ps 2 (pc' := 190) (lv' := [(0, .ref 159), (1, .int y17), (2, .int y31), (3, .int y46), (4, .int y47), (5, .int y73), (6, .int y74)]) (st' := [.ref 159, .int y73]) rfl ?_
                                refine En_getK (j := 26) h81 rfl rfl rfl tgz_159 (by decide +kernel) ?_
                                refine En_icLt _ rfl rfl rfl (fun h122 => ?_) (fun h122 => ?_)
                                · refine En_Ps 2 (pc' := 202) (lv' := [(0, .ref 159), (1, .int y17), (2, .int y31), (3, .int y46), (4, .int y47), (5, .int y73), (6, .int y74)]) (st' := [.int y73, .ref 159]) rfl ?_
                                  refine En_put (j := 26) rfl rfl rfl tgz_159 (by decide +kernel) rfl (vF (by decide +kernel)) h76 h77 (by decide +kernel) (fun σ123 h124 h125 h126 h127 => ?_)
                                  refine En_Ps 2 (pc' := 208) (lv' := [(6, .int ((Int32.ofInt 0))), (0, .ref 159), (1, .int y17), (2, .int y31), (3, .int y46), (4, .int y47), (5, .int y73)]) (st' := []) rfl ?_
                                  have key208 : ∀ (n208 : Nat) (σ129 : SG) (y128 : Int32), WT σ129 → Fr [(35, 18), (35, 21), (35, 26), (42, 0), (43, 0), (44, 0), (45, 0), (46, 0), (47, 0), (48, 0)] σ0 σ129 → (σ129 159)[1]? = some (Value.ref 160) → (σ129 160)[(2 : Int).toNat]? = some (Value.int z9) → (σ129 160)[(4 : Int).toNat]? = some (Value.int z13) → (σ129 159)[26]? = some (Value.int y73) → 0 ≤ y128.toInt → y128.toInt ≤ 4 → -y128.toInt + 4 < (n208 : Int) → En 6 134 none mr_238 (P_238 σ0) 208 [(0, .ref 159), (1, .int y17), (2, .int y31), (3, .int y46), (4, .int y47), (5, .int y73), (6, .int y128)] [] σ129 := by
                                    intro n208
                                    induction n208 with
                                    | zero =>
                                      intro σ129 y128 h130 h131 h132 h133 h134 h135 h136 h137 h138
                                      first | exact (q_20d6385c6f h138 h137).elim | (exfalso; omega)
                                    | succ n208 ih208 =>
                                      intro σ129 y128 h130 h131 h132 h133 h134 h135 h136 h137 h138
                                      refine En_Ps 2 (pc' := 211) (lv' := [(0, .ref 159), (1, .int y17), (2, .int y31), (3, .int y46), (4, .int y47), (5, .int y73), (6, .int y128)]) (st' := [.int ((Int32.ofInt 4)), .int y128]) rfl ?_
                                      refine En_icGe _ rfl (by decide : (Int32.ofInt 4).toInt = 4) rfl (fun h139 => ?_) (fun h139 => ?_)
                                      · refine En_Ps 1 (pc' := 237) (lv' := [(2, .int ((y31 + Int32.ofInt 1))), (0, .ref 159), (1, .int y17), (3, .int y46), (4, .int y47), (5, .int y73), (6, .int y128)]) (st' := []) rfl ?_
                                        refine En_lv1 (addI rfl (by decide : (Int32.ofInt 1).toInt = 1) (by first | exact q_465ab79ac1 h40 | omega) (by (first | exact q_12d49b99d0 h42 this.2 | omega))) (fun z140 h141 => ?_)
                                        refine En_Ps 1 (pc' := 52) (lv' := [(2, .int z140), (0, .ref 159), (1, .int y17), (3, .int y46), (4, .int y47), (5, .int y73), (6, .int y128)]) (st' := []) rfl ?_
                                        refine En_lv (lv := [(0, .ref 159), (1, .int y17), (2, .int z140)]) ⟨rfl, rfl, rfl, trivial⟩ ?_
                                        exact ih52 σ129 z140 y73 h130 h131 h132 h133 h134 h135 (by first | exact q_35104ce9d3 h141 h40 | omega) (by omega)
                                      · refine En_Ps 1 (pc' := 215) (lv' := [(0, .ref 159), (1, .int y17), (2, .int y31), (3, .int y46), (4, .int y47), (5, .int y73), (6, .int y128)]) (st' := [.ref 159]) rfl ?_
                                        refine En_getU (j := 25) (u := 172) (g' := 48) (q := 0) rfl rfl rfl tgz_159 (by decide +kernel) h130 (by decide +kernel) un_48_172 (fun h142 => ?_)
                                        refine En_Ps 2 (pc' := 221) (lv' := [(0, .ref 159), (1, .int y17), (2, .int y31), (3, .int y46), (4, .int y47), (5, .int y73), (6, .int y128)]) (st' := [.ref 159, .int y128, .ref 172]) rfl ?_
                                        refine En_getU (j := 24) (u := 171) (g' := 47) (q := 0) rfl rfl rfl tgz_159 (by decide +kernel) h130 (by decide +kernel) un_47_171 (fun h144 => ?_)
                                        refine En_Ps 1 (pc' := 226) (lv' := [(0, .ref 159), (1, .int y17), (2, .int y31), (3, .int y46), (4, .int y47), (5, .int y73), (6, .int y128)]) (st' := [.int y128, .ref 171, .int y128, .ref 172]) rfl ?_
                                        refine En_iald (l := 0) (u := 3) rfl rfl tgz_171 (by decide +kernel) h130 (by first | exact q_58e6e51dcc h136 | omega) (lnI (by decide +kernel : LN _ = 4) (by first | exact q_074a8b422d h139 | omega)) (FTsgl (by decide +kernel)) (fun z147 h146 h148 h149 => ?_)
                                        refine En_iast (l := 0) (u := 3) rfl rfl tgz_172 (by decide +kernel) (by first | exact q_58e6e51dcc h136 | omega) (lnI (by decide +kernel : LN _ = 4) (by first | exact q_074a8b422d h139 | omega)) (FTsgl (by decide +kernel)) (rngI rfl (by first | exact q_58e6e51dcc h148 | omega) (by first | exact q_da5e9b976f h149 | omega)) h130 h131 (by decide +kernel) (fun σ150 h151 h152 h153 h154 => ?_)
                                        refine En_Ps 1 (pc' := 231) (lv' := [(6, .int ((y128 + Int32.ofInt 1))), (0, .ref 159), (1, .int y17), (2, .int y31), (3, .int y46), (4, .int y47), (5, .int y73)]) (st' := []) rfl ?_
                                        refine En_lv1 (addI rfl (by decide : (Int32.ofInt 1).toInt = 1) (by first | exact q_465ab79ac1 h136 | omega) (by first | exact q_d8bf7f475a h139 | omega)) (fun z155 h156 => ?_)
                                        refine En_Ps 1 (pc' := 208) (lv' := [(6, .int z155), (0, .ref 159), (1, .int y17), (2, .int y31), (3, .int y46), (4, .int y47), (5, .int y73)]) (st' := []) rfl ?_
                                        refine En_lv (lv := [(0, .ref 159), (1, .int y17), (2, .int y31), (3, .int y46), (4, .int y47), (5, .int y73), (6, .int z155)]) ⟨rfl, rfl, rfl, rfl, rfl, rfl, rfl, trivial⟩ ?_
                                        exact ih208 σ150 z155 h151 h152 ((h154 _ _ (Or.inl (neTG tgz_159 tgz_172 (by decide)))).trans h132) ((h154 _ _ (Or.inl (neTG tgz_160 tgz_172 (by decide)))).trans h133) ((h154 _ _ (Or.inl (neTG tgz_160 tgz_172 (by decide)))).trans h134) ((h154 _ _ (Or.inl (neTG tgz_159 tgz_172 (by decide)))).trans h135) (by first | exact q_35104ce9d3 h156 h136 | omega) (by first | exact q_ddc5c16a68 h156 h139 | omega) (by first | exact q_3d8d70ace2 h156 h138 | omega)
                                  have := (by decide : (Int32.ofInt 0).toInt = 0)
                                  refine En_lv (lv := [(0, .ref 159), (1, .int y17), (2, .int y31), (3, .int y46), (4, .int y47), (5, .int y73), (6, .int ((Int32.ofInt 0)))]) ⟨rfl, rfl, rfl, rfl, rfl, rfl, rfl, trivial⟩ ?_
                                  exact key208 (Int.toNat (4) + 1) σ123 ((Int32.ofInt 0)) h124 h125 ((h127 _ _ (Or.inr (by decide))).trans h78) ((h127 _ _ (Or.inl (neTG tgz_160 tgz_159 (by decide)))).trans h79) ((h127 _ _ (Or.inl (neTG tgz_160 tgz_159 (by decide)))).trans h80) h126 (by decide) (by decide) (by first | exact toN_lt _ | omega)
                                · refine En_Ps 2 (pc' := 237) (lv' := [(2, .int ((y31 + Int32.ofInt 1))), (0, .ref 159), (1, .int y17), (3, .int y46), (4, .int y47), (5, .int y73), (6, .int y74)]) (st' := []) rfl ?_
                                  refine En_lv1 (addI rfl (by decide : (Int32.ofInt 1).toInt = 1) (by first | exact q_465ab79ac1 h40 | omega) (by (first | exact q_12d49b99d0 h42 this.2 | omega))) (fun z157 h158 => ?_)
                                  refine En_Ps 1 (pc' := 52) (lv' := [(2, .int z157), (0, .ref 159), (1, .int y17), (3, .int y46), (4, .int y47), (5, .int y73), (6, .int y74)]) (st' := []) rfl ?_
                                  refine En_lv (lv := [(0, .ref 159), (1, .int y17), (2, .int z157)]) ⟨rfl, rfl, rfl, trivial⟩ ?_
                                  exact ih52 σ75 z157 y32 h76 h77 h78 h79 h80 h81 (by first | exact q_35104ce9d3 h158 h40 | omega) (by omega)
                            · refine En_Ps 3 (pc' := 159) (lv' := [(0, .ref 159), (1, .int y17), (2, .int y31), (3, .int y46), (4, .int y47), (5, .int y73), (6, .int y74)]) (st' := [.ref 159, .ref 159, .int y73]) rfl ?_
                              refine En_getU (j := 24) (u := 171) (g' := 47) (q := 0) rfl rfl rfl tgz_159 (by decide +kernel) h76 (by decide +kernel) un_47_171 (fun h159 => ?_)
                              refine En_Ps 1 (pc' := 164) (lv' := [(0, .ref 159), (1, .int y17), (2, .int y31), (3, .int y46), (4, .int y47), (5, .int y73), (6, .int y74)]) (st' := [.int y74, .ref 171, .ref 159, .int y73]) rfl ?_
                              refine En_iald (l := 0) (u := 3) rfl rfl tgz_171 (by decide +kernel) h76 (by first | exact q_58e6e51dcc h82 | omega) (lnI (by decide +kernel : LN _ = 4) (by first | exact q_1a45a931b1 h86 h15 | omega)) (FTsgl (by decide +kernel)) (fun z162 h161 h163 h164 => ?_)
                              refine En_Ps 1 (pc' := 167) (lv' := [(0, .ref 159), (1, .int y17), (2, .int y31), (3, .int y46), (4, .int y47), (5, .int y73), (6, .int y74)]) (st' := [.int y74, .int z162, .ref 159, .int y73]) rfl ?_
                              refine En_callV rfl rfl rfl rfl rfl rfl rfl rfl tgz_159 (by decide +kernel) rfl (c_194 σ75 h76 z162 y74 (geI rfl (by first | exact q_58e6e51dcc h163 | omega)) (leI rfl (by first | exact q_da5e9b976f h164 | omega)) (geI rfl (by first | exact q_58e6e51dcc h82 | omega)) (leI rfl (by first | exact q_5ab2e90ecc h86 h15 | omega))) (by decide) (by decide) (fun v166 σ167 h165 => ?_)
                              obtain ⟨h168, h169, z171, rfl, h170⟩ := h165
                              have h172 := Fr_trans h77 h169 (by decide +kernel)
                              refine En_Ps 1 (pc' := 171) (lv' := [(0, .ref 159), (1, .int y17), (2, .int y31), (3, .int y46), (4, .int y47), (5, .int y73), (6, .int y74)]) (st' := [.int ((y73 + z171))]) rfl ?_
                              refine En_hav (fun z173 => ?_)
                              refine En_Ps 2 (pc' := 176) (lv' := [(6, .int ((y74 + Int32.ofInt 1))), (5, .int z173), (0, .ref 159), (1, .int y17), (2, .int y31), (3, .int y46), (4, .int y47)]) (st' := []) rfl ?_
                              refine En_lv1 (addI rfl (by decide : (Int32.ofInt 1).toInt = 1) (by first | exact q_465ab79ac1 h82 | omega) (by first | exact q_f7282962fd h83 | omega)) (fun z174 h175 => ?_)
                              refine En_Ps 1 (pc' := 144) (lv' := [(6, .int z174), (5, .int z173), (0, .ref 159), (1, .int y17), (2, .int y31), (3, .int y46), (4, .int y47)]) (st' := []) rfl ?_
                              refine En_lv (lv := [(0, .ref 159), (1, .int y17), (2, .int y31), (3, .int y46), (4, .int y47), (5, .int z173), (6, .int z174)]) ⟨rfl, rfl, rfl, rfl, rfl, rfl, rfl, trivial⟩ ?_
                              exact ih144 σ167 z173 z174 h168 h172 ((h169 _ _ (inW tgz_159 (by decide +kernel))).trans h78) ((h169 _ _ (inWa tgz_160 (by decide +kernel))).trans h79) ((h169 _ _ (inWa tgz_160 (by decide +kernel))).trans h80) ((h169 _ _ (inW tgz_159 (by decide +kernel))).trans h81) (by first | exact q_35104ce9d3 h175 h82 | omega) (by first | exact q_de42116b63 h175 h86 h15 | omega) (by first | exact q_3d8d70ace2 h175 h84 | omega)
                        have := (by decide : (Int32.ofInt 0).toInt = 0)
                        have := (by decide : (Int32.ofInt 0).toInt = 0)
                        refine En_lv (lv := [(0, .ref 159), (1, .int y17), (2, .int y31), (3, .int y46), (4, .int y47), (5, .int ((Int32.ofInt 0))), (6, .int ((Int32.ofInt 0)))]) ⟨rfl, rfl, rfl, rfl, rfl, rfl, rfl, trivial⟩ ?_
                        exact key144 (Int.toNat (4) + 1) σ65 ((Int32.ofInt 0)) ((Int32.ofInt 0)) h66 h70 ((h67 _ _ (inW tgz_159 (by decide +kernel))).trans h52) ((h67 _ _ (inWa tgz_160 (by decide +kernel))).trans h53) ((h67 _ _ (inWa tgz_160 (by decide +kernel))).trans h54) ((h67 _ _ (inW tgz_159 (by decide +kernel))).trans h55) (by decide) (by decide) (by first | exact toN_lt _ | omega)
                      · refine En_Ps 2 (pc' := 237) (lv' := [(2, .int ((y31 + Int32.ofInt 1))), (0, .ref 159), (1, .int y17), (3, .int y46), (4, .int y47), (5, .int ((Int32.ofInt 0))), (6, .int y48)]) (st' := []) rfl ?_
                        refine En_lv1 (addI rfl (by decide : (Int32.ofInt 1).toInt = 1) (by first | exact q_465ab79ac1 h40 | omega) (by (first | exact q_12d49b99d0 h42 this.2 | omega))) (fun z176 h177 => ?_)
                        refine En_Ps 1 (pc' := 52) (lv' := [(2, .int z176), (0, .ref 159), (1, .int y17), (3, .int y46), (4, .int y47), (5, .int ((Int32.ofInt 0))), (6, .int y48)]) (st' := []) rfl ?_
                        refine En_lv (lv := [(0, .ref 159), (1, .int y17), (2, .int z176)]) ⟨rfl, rfl, rfl, trivial⟩ ?_
                        exact ih52 σ65 z176 y32 h66 h70 ((h67 _ _ (inW tgz_159 (by decide +kernel))).trans h52) ((h67 _ _ (inWa tgz_160 (by decide +kernel))).trans h53) ((h67 _ _ (inWa tgz_160 (by decide +kernel))).trans h54) ((h67 _ _ (inW tgz_159 (by decide +kernel))).trans h55) (by first | exact q_35104ce9d3 h177 h40 | omega) (by omega)
                    · refine En_Ps 1 (pc' := 81) (lv' := [(0, .ref 159), (1, .int y17), (2, .int y31), (3, .int y46), (4, .int y47), (5, .int ((Int32.ofInt 0))), (6, .int y48)]) (st' := [.ref 159]) rfl ?_
                      refine En_getU (j := 24) (u := 171) (g' := 47) (q := 0) rfl rfl rfl tgz_159 (by decide +kernel) h50 (by decide +kernel) un_47_171 (fun h178 => ?_)
                      refine En_Ps 3 (pc' := 88) (lv' := [(0, .ref 159), (1, .int y17), (2, .int y31), (3, .int y46), (4, .int y47), (5, .int ((Int32.ofInt 0))), (6, .int y48)]) (st' := [.ref 159, .int y46, .int y48, .ref 171]) rfl ?_
                      refine En_getK (j := 1) h52 rfl rfl rfl tgz_159 (by decide +kernel) ?_
                      refine En_Ps 1 (pc' := 92) (lv' := [(0, .ref 159), (1, .int y17), (2, .int y31), (3, .int y46), (4, .int y47), (5, .int ((Int32.ofInt 0))), (6, .int y48)]) (st' := [.int ((Int32.ofInt 2)), .ref 160, .int y46, .int y48, .ref 171]) rfl ?_
                      refine En_ialdK h53 rfl (by decide : (Int32.ofInt 2).toInt = 2) tgz_160 (by decide +kernel) h50 (by decide) (lnI (by decide +kernel : LN _ = 226) (by decide)) ?_
                      refine En_iremV rfl rfl rfl (by (first | exact q_58e6e51dcc h56 | omega)) (by (first | exact q_93b703b579 h16 h60 h62 | omega)) (fun z181 h182 h183 => ?_)
                      refine En_iast (l := 0) (u := 3) rfl rfl tgz_171 (by decide +kernel) (by first | exact q_58e6e51dcc h62 | omega) (lnI (by decide +kernel : LN _ = 4) (by first | exact q_f3bb6f88f7 h58 | omega)) (FTsgl (by decide +kernel)) (rngI rfl (by (first | exact q_58e6e51dcc h182 | omega)) (by (first | exact q_5ab2e90ecc h183 h11 | omega))) h50 h51 (by decide +kernel) (fun σ184 h185 h186 h187 h188 => ?_)
                      refine En_Ps 2 (pc' := 97) (lv' := [(0, .ref 159), (1, .int y17), (2, .int y31), (3, .int y46), (4, .int y47), (5, .int ((Int32.ofInt 0))), (6, .int y48)]) (st' := [.ref 159, .int y46]) rfl ?_
                      refine En_getK (j := 1) ((h188 _ _ (Or.inl (neTG tgz_159 tgz_171 (by decide)))).trans h52) rfl rfl rfl tgz_159 (by decide +kernel) ?_
                      refine En_Ps 1 (pc' := 101) (lv' := [(0, .ref 159), (1, .int y17), (2, .int y31), (3, .int y46), (4, .int y47), (5, .int ((Int32.ofInt 0))), (6, .int y48)]) (st' := [.int ((Int32.ofInt 2)), .ref 160, .int y46]) rfl ?_
                      refine En_ialdK ((h188 _ _ (Or.inl (neTG tgz_160 tgz_171 (by decide)))).trans h53) rfl (by decide : (Int32.ofInt 2).toInt = 2) tgz_160 (by decide +kernel) h185 (by decide) (lnI (by decide +kernel : LN _ = 226) (by decide)) ?_
                      refine En_idivV rfl rfl rfl (by (first | exact q_58e6e51dcc h56 | omega)) (by (first | exact q_1fbcaea534 h183 h182 | omega)) (fun z190 h191 h192 => ?_)
                      refine En_Ps 4 (pc' := 108) (lv' := [(3, .int z190), (0, .ref 159), (1, .int y17), (2, .int y31), (4, .int y47), (5, .int ((Int32.ofInt 0))), (6, .int y48)]) (st' := [.ref 159, .int ((Int32.ofInt 1)), .int y47]) rfl ?_
                      refine En_getK (j := 24) ((h188 _ _ (Or.inl (neTG tgz_159 tgz_171 (by decide)))).trans h178) rfl rfl rfl tgz_159 (by decide +kernel) ?_
                      refine En_Ps 1 (pc' := 113) (lv' := [(3, .int z190), (0, .ref 159), (1, .int y17), (2, .int y31), (4, .int y47), (5, .int ((Int32.ofInt 0))), (6, .int y48)]) (st' := [.int y48, .ref 171, .int ((Int32.ofInt 1)), .int y47]) rfl ?_
                      refine En_iald (l := 0) (u := 3) rfl rfl tgz_171 (by decide +kernel) h185 (by first | exact q_58e6e51dcc h62 | omega) (lnI (by decide +kernel : LN _ = 4) (by first | exact q_f3bb6f88f7 h58 | omega)) (FTsgl (by decide +kernel)) (fun z194 h193 h195 h196 => ?_)
                      refine En_Ps 1 (pc' := 115) (lv' := [(3, .int z190), (0, .ref 159), (1, .int y17), (2, .int y31), (4, .int y47), (5, .int ((Int32.ofInt 0))), (6, .int y48)]) (st' := [.int ((((Int32.ofInt 1)) <<< (z194 &&& 31))), .int y47]) rfl ?_
                      refine En_rng (shl1_p 3 rfl (by (first | exact q_58e6e51dcc h195 | omega)) (by (first | exact q_5a66c2a109 h196 | omega)) (by decide)) (fun z197 h198 h199 => ?_)
                      refine En_Ps 1 (pc' := 116) (lv' := [(3, .int z190), (0, .ref 159), (1, .int y17), (2, .int y31), (4, .int y47), (5, .int ((Int32.ofInt 0))), (6, .int y48)]) (st' := [.int ((y47 ||| z197))]) rfl ?_
                      refine En_hav (fun z200 => ?_)
                      refine En_Ps 2 (pc' := 121) (lv' := [(6, .int ((y48 + Int32.ofInt (-1)))), (4, .int z200), (3, .int z190), (0, .ref 159), (1, .int y17), (2, .int y31), (5, .int ((Int32.ofInt 0)))]) (st' := []) rfl ?_
                      refine En_lv1 (addI rfl (by decide : (Int32.ofInt (-1)).toInt = -1) (by first | exact q_069e58d060 h62 | omega) (by first | exact q_78af8c5c09 h58 | omega)) (fun z201 h202 => ?_)
                      refine En_Ps 1 (pc' := 75) (lv' := [(6, .int z201), (4, .int z200), (3, .int z190), (0, .ref 159), (1, .int y17), (2, .int y31), (5, .int ((Int32.ofInt 0)))]) (st' := []) rfl ?_
                      refine En_lv (lv := [(0, .ref 159), (1, .int y17), (2, .int y31), (3, .int z190), (4, .int z200), (5, .int ((Int32.ofInt 0))), (6, .int z201)]) ⟨rfl, rfl, rfl, rfl, rfl, rfl, rfl, trivial⟩ ?_
                      exact ih75 σ184 z190 z200 z201 h185 h186 ((h188 _ _ (Or.inl (neTG tgz_159 tgz_171 (by decide)))).trans h52) ((h188 _ _ (Or.inl (neTG tgz_160 tgz_171 (by decide)))).trans h53) ((h188 _ _ (Or.inl (neTG tgz_160 tgz_171 (by decide)))).trans h54) ((h188 _ _ (Or.inl (neTG tgz_159 tgz_171 (by decide)))).trans h55) (by (first | exact q_58e6e51dcc h191 | omega)) (by first | exact q_1dc8c15c2b h202 h62 | omega) (by first | exact q_0479facf89 h202 h58 | omega) (by (first | exact q_a568bb6e25 h192 h59 | omega)) (by first | exact q_ad24c9502e h60 h202 | omega) (by first | exact q_03fcbe2dc3 h202 h61 | omega)
                have := (by decide : (Int32.ofInt 0).toInt = 0)
                refine En_lv (lv := [(0, .ref 159), (1, .int y17), (2, .int y31), (3, .int y31), (4, .int ((Int32.ofInt 0))), (5, .int ((Int32.ofInt 0))), (6, .int z44)]) ⟨rfl, rfl, rfl, rfl, rfl, rfl, rfl, trivial⟩ ?_
                exact key75 (Int.toNat (z44.toInt + 1) + 1) σ33 y31 ((Int32.ofInt 0)) z44 h34 h35 h36 h37 h38 h39 (by first | exact q_58e6e51dcc h40 | omega) (by first | exact q_e2c277696c h45 h14 | omega) (by first | exact q_2d2f91c2ed h45 h15 | omega) (by first | exact q_1bb76abeaf | omega) (by first | exact q_8e6f8e4fd9 h45 | omega) (by first | exact toN_lt _ | omega)
          have := (by decide : (Int32.ofInt 0).toInt = 0)
          have := (by decide : (Int32.ofInt (-1)).toInt = -1)
          refine En_lv (lv := [(0, .ref 159), (1, .int y17), (2, .int ((Int32.ofInt 0)))]) ⟨rfl, rfl, rfl, trivial⟩ ?_
          exact key52 (Int.toNat ((((y17.toInt) - (0)).toNat : Int)) + 1) σ19 ((Int32.ofInt 0)) ((Int32.ofInt (-1))) h20 h21 h23 h24 h25 h22 (by decide) (by omega)
        · refine En_Ps 2 (pc' := 37) (lv' := [(0, .ref 159), (1, .int y17), (2, .int y18)]) (st' := [.ref 159, .int y17]) rfl ?_
          refine En_getK (j := 1) h23 rfl rfl rfl tgz_159 (by decide +kernel) ?_
          refine En_Ps 1 (pc' := 41) (lv' := [(0, .ref 159), (1, .int y17), (2, .int y18)]) (st' := [.int ((Int32.ofInt 2)), .ref 160, .int y17]) rfl ?_
          refine En_ialdK h24 rfl (by decide : (Int32.ofInt 2).toInt = 2) tgz_160 (by decide +kernel) h20 (by decide) (lnI (by decide +kernel : LN _ = 226) (by decide)) ?_
          refine En_Ps 1 (pc' := 43) (lv' := [(0, .ref 159), (1, .int y17), (2, .int y18)]) (st' := [.int ((y17 * z9))]) rfl ?_
          refine En_hav (fun z204 => ?_)
          refine En_Ps 2 (pc' := 47) (lv' := [(2, .int ((y18 + Int32.ofInt 1))), (1, .int z204), (0, .ref 159)]) (st' := []) rfl ?_
          refine En_lv1 (addI rfl (by decide : (Int32.ofInt 1).toInt = 1) (by first | exact q_465ab79ac1 h26 | omega) (by first | exact q_f7282962fd h27 | omega)) (fun z205 h206 => ?_)
          refine En_Ps 1 (pc' := 25) (lv' := [(2, .int z205), (1, .int z204), (0, .ref 159)]) (st' := []) rfl ?_
          refine En_lv (lv := [(0, .ref 159), (1, .int z204), (2, .int z205)]) ⟨rfl, rfl, rfl, trivial⟩ ?_
          exact ih25 σ19 z204 z205 h20 h21 h22 h23 h24 h25 (by first | exact q_35104ce9d3 h206 h26 | omega) (by first | exact q_de42116b63 h206 h30 h15 | omega) (by first | exact q_3d8d70ace2 h206 h28 | omega)
    have := (by decide : (Int32.ofInt 1).toInt = 1)
    have := (by decide : (Int32.ofInt 0).toInt = 0)
    refine En_lv (lv := [(0, .ref 159), (1, .int ((Int32.ofInt 1))), (2, .int ((Int32.ofInt 0)))]) ⟨rfl, rfl, rfl, trivial⟩ ?_
    exact key25 (Int.toNat (4) + 1) σ1 ((Int32.ofInt 1)) ((Int32.ofInt 0)) h2 h3 h4 h6 h8 h12 (by decide) (by decide) (by first | exact toN_lt _ | omega)
  · exact En_ret (v := none) rfl rfl rfl ⟨h2, h3, rfl, trivial⟩
end
/-! 32.ly.m19 -/
section
/-- DoorSchoolModel.hanging()I -/
abbrev P_239 (σ0 : SG) : PO := fun v σ => WT σ ∧ Fr [(35, 18), (35, 21), (35, 26), (42, 0), (43, 0), (44, 0), (45, 0), (46, 0), (47, 0), (48, 0)] σ0 σ ∧ ∃ ret : Int32, v = some (Value.int ret) ∧ True
set_option maxRecDepth 10000 in
set_option maxHeartbeats 4000000 in
theorem c_239 (σ0 : SG) (hσ0 : WT σ0) : En 7 160 none mr_239 (P_239 σ0) 0 [(0, .ref 159)] [] σ0 := by
  have hF0 : Fr [(35, 18), (35, 21), (35, 26), (42, 0), (43, 0), (44, 0), (45, 0), (46, 0), (47, 0), (48, 0)] σ0 σ0 := Fr_rfl
  refine En_Ps 1 (pc' := 1) (lv' := [(0, .ref 159)]) (st' := [.ref 159]) rfl ?_
  obtain ⟨z2, h1, h3, h4⟩ := WT_peekI hσ0 tgz_160 (by decide +kernel : FT 36 (7 : Int).toNat = (0, 0, 1600)) (by decide +kernel)
  refine En_callV rfl rfl rfl rfl rfl rfl rfl rfl tgz_159 (by decide +kernel) rfl (c_264 σ0 hσ0 z2 h1) (by decide) (by decide) (fun v6 σ7 h5 => ?_)
  obtain ⟨h8, h9, z11, rfl, h10⟩ := h5
  have h12 := Fr_trans hF0 h9 (by decide +kernel)
  refine En_iNe _ rfl rfl (fun h13 => ?_) (fun h13 => ?_)
  · refine En_Ps 1 (pc' := 11) (lv' := [(0, .ref 159)]) (st' := [.ref 159]) rfl ?_
    refine En_callV rfl rfl rfl rfl rfl rfl rfl rfl tgz_159 (by decide +kernel) rfl (c_238 σ7 h8) (by decide) (by decide) (fun v15 σ16 h14 => ?_)
    obtain ⟨h17, h18, rfl, h19⟩ := h14
    have h20 := Fr_trans h12 h18 (by decide +kernel)
    refine En_Ps 1 (pc' := 15) (lv' := [(0, .ref 159)]) (st' := [.ref 159]) rfl ?_
    refine En_getI (j := 26) (l := (-2147483648)) (u := 2147483647) rfl rfl rfl tgz_159 (by decide +kernel) h17 (by decide +kernel) (fun z22 h21 h23 h24 => ?_)
    exact En_ret (v := some (Value.int z22)) rfl rfl rfl ⟨h17, h20, z22, rfl, trivial⟩
  · refine En_Ps 1 (pc' := 9) (lv' := [(0, .ref 159)]) (st' := [.int (((Int8.ofInt (-2)).toInt32))]) rfl ?_
    refine En_top (by decide : ((Int8.ofInt (-2)).toInt32).toInt = -2) (fun z25 h26 => ?_)
    exact En_ret (v := some (Value.int z25)) rfl rfl rfl ⟨h8, h12, z25, rfl, trivial⟩
/-- DoorSchoolModel.hung(I)I -/
abbrev P_246 (σ0 : SG) (a : Int32) : PO := fun v σ => WT σ ∧ Fr [(35, 18), (35, 21), (35, 26), (42, 0), (43, 0), (44, 0), (45, 0), (46, 0), (47, 0), (48, 0)] σ0 σ ∧ ∃ ret : Int32, v = some (Value.int ret) ∧ -ret.toInt - 2 ≤ 0 ∧ ret.toInt - 3 ≤ 0
set_option maxRecDepth 10000 in
set_option maxHeartbeats 4000000 in
theorem c_246 (σ0 : SG) (hσ0 : WT σ0) (a : Int32) : En 7 160 none mr_246 (P_246 σ0 a) 0 [(0, .ref 159), (1, .int a)] [] σ0 := by
  have hF0 : Fr [(35, 18), (35, 21), (35, 26), (42, 0), (43, 0), (44, 0), (45, 0), (46, 0), (47, 0), (48, 0)] σ0 σ0 := Fr_rfl
  refine En_Ps 2 (pc' := 2) (lv' := [(0, .ref 159), (1, .int a)]) (st' := [.int a, .ref 159]) rfl ?_
  refine En_callV rfl rfl rfl rfl rfl rfl rfl rfl tgz_159 (by decide +kernel) rfl (c_258 σ0 hσ0 a) (by decide) (by decide) (fun v2 σ3 h1 => ?_)
  obtain ⟨h4, h5, z7, rfl, h6⟩ := h1
  have h8 := Fr_trans hF0 h5 (by decide +kernel)
  refine En_iNe _ rfl rfl (fun h9 => ?_) (fun h9 => ?_)
  · refine En_Ps 1 (pc' := 12) (lv' := [(0, .ref 159), (1, .int a)]) (st' := [.ref 159]) rfl ?_
    refine En_callV rfl rfl rfl rfl rfl rfl rfl rfl tgz_159 (by decide +kernel) rfl (c_238 σ3 h4) (by decide) (by decide) (fun v11 σ12 h10 => ?_)
    obtain ⟨h13, h14, rfl, h15⟩ := h10
    have h16 := Fr_trans h8 h14 (by decide +kernel)
    refine En_Ps 1 (pc' := 16) (lv' := [(0, .ref 159), (1, .int a)]) (st' := [.ref 159]) rfl ?_
    refine En_getI (j := 26) (l := (-2147483648)) (u := 2147483647) rfl rfl rfl tgz_159 (by decide +kernel) h13 (by decide +kernel) (fun z18 h17 h19 h20 => ?_)
    refine En_Ps 1 (pc' := 20) (lv' := [(0, .ref 159), (1, .int a)]) (st' := [.int ((Int32.ofInt (-1))), .int z18]) rfl ?_
    refine En_icNe _ rfl (by decide : (Int32.ofInt (-1)).toInt = -1) rfl (fun h21 => ?_) (fun h21 => ?_)
    · refine En_Ps 1 (pc' := 28) (lv' := [(0, .ref 159), (1, .int a)]) (st' := [.ref 159]) rfl ?_
      refine En_getU (j := 25) (u := 172) (g' := 48) (q := 0) rfl rfl rfl tgz_159 (by decide +kernel) h13 (by decide +kernel) un_48_172 (fun h22 => ?_)
      refine En_Ps 1 (pc' := 32) (lv' := [(0, .ref 159), (1, .int a)]) (st' := [.int a, .ref 172]) rfl ?_
      refine En_iald (l := 0) (u := 3) rfl rfl tgz_172 (by decide +kernel) h13 (by (first | exact q_32028d2b65 h6.2.2 h6.2.1 h9 h6.1 | omega)) (lnI (by decide +kernel : LN _ = 4) (by (first | exact q_87da96c949 h6.2.2 h6.2.1 h9 h6.1 | omega))) (FTsgl (by decide +kernel)) (fun z25 h24 h26 h27 => ?_)
      exact En_ret (v := some (Value.int z25)) rfl rfl rfl ⟨h13, h16, z25, rfl, ⟨by first | exact q_ea7f0ffdb1 h26 | omega, by first | exact q_e9a8eec0c4 h27 | omega⟩⟩
    · refine En_Ps 2 (pc' := 33) (lv' := [(0, .ref 159), (1, .int a)]) (st' := [.int ((Int32.ofInt (-1)))]) rfl ?_
      refine En_top (by decide : (Int32.ofInt (-1)).toInt = -1) (fun z28 h29 => ?_)
      exact En_ret (v := some (Value.int z28)) rfl rfl rfl ⟨h13, h16, z28, rfl, ⟨by first | exact q_e1de8c7867 h29 | omega, by first | exact q_cca129732b h29 | omega⟩⟩
  · refine En_Ps 1 (pc' := 10) (lv' := [(0, .ref 159), (1, .int a)]) (st' := [.int (((Int8.ofInt (-2)).toInt32))]) rfl ?_
    refine En_top (by decide : ((Int8.ofInt (-2)).toInt32).toInt = -2) (fun z30 h31 => ?_)
    exact En_ret (v := some (Value.int z30)) rfl rfl rfl ⟨h4, h8, z30, rfl, ⟨by first | exact q_f35c5d346c h31 | omega, by first | exact q_09eb541a79 h31 | omega⟩⟩
end
/-! 32.m00 -/
section
/-- DoorSchoolModel.see(I)I -/
abbrev P_313ax (σ0 : SG) (By : Int → Int) (Nb : Int) (a : Int32) (n : Int32) : PO := fun v σ => WT σ ∧ Fr [] σ0 σ ∧ ∃ ret : Int32, v = some (Value.int ret) ∧ -ret.toInt - 1 ≤ 0 ∧ ret.toInt - 255 ≤ 0 ∧ Imp (-ret.toInt ≤ 0) (a.toInt - n.toInt + 1 ≤ 0) ∧ Imp (a.toInt - n.toInt + 1 ≤ 0) (-ret.toInt ≤ 0) ∧ ret.toInt = sN By Nb a.toInt
set_option maxRecDepth 10000 in
set_option maxHeartbeats 4000000 in
theorem c_313ax {By : Int → Int} {Nb : Int} (σ0 : SG) (hσ0 : WT σ0) (a : Int32) (hl_a : 0 ≤ a.toInt) (hu_a : a.toInt ≤ 1600) (n : Int32) (h_n : (σ0 159)[7]? = some (Value.int n)) (hT : TPm By Nb σ0) : En 0 0 none mr_313 (P_313ax σ0 By Nb a n) 0 [(0, .ref 159), (1, .int a)] [] σ0 := by
  obtain ⟨hl_n, hu_n⟩ := WT_int hσ0 (g := 35) (by decide +kernel) (by decide +kernel) (l := 0) (u := 1600) (by decide +kernel) h_n
  have hF0 : Fr [] σ0 σ0 := Fr_rfl
  refine En_Ps 2 (pc' := 2) (lv' := [(0, .ref 159), (1, .int a)]) (st' := [.ref 159, .int a]) rfl ?_
  refine En_getK (j := 7) h_n rfl rfl rfl tgz_159 (by decide +kernel) ?_
  refine En_icGe _ rfl rfl rfl (fun h1 => ?_) (fun h1 => ?_)
  · refine En_Ps 1 (pc' := 22) (lv' := [(0, .ref 159), (1, .int a)]) (st' := [.int ((Int32.ofInt (-1)))]) rfl ?_
    refine En_top (by decide : (Int32.ofInt (-1)).toInt = -1) (fun z2 h3 => ?_)
    exact En_ret (v := some (Value.int z2)) rfl rfl rfl ⟨hσ0, hF0, z2, rfl, ⟨by first | exact q_6ba54b61e9 h3 | omega, by first | exact q_4cc0346bde h3 | omega, fun _ => by omega, fun _ => by omega, sN_none hT h_n (by (first | exact q_7b14c78c18 h1 | omega)) (by (first | exact q_b9e5c7e4b8 h3 | omega))⟩⟩
  · refine En_Ps 1 (pc' := 9) (lv' := [(0, .ref 159), (1, .int a)]) (st' := [.ref 159]) rfl ?_
    refine En_getU (j := 4) (u := 163) (g' := 39) (q := 0) rfl rfl rfl tgz_159 (by decide +kernel) hσ0 (by decide +kernel) un_39_163 (fun h4 => ?_)
    refine En_Ps 1 (pc' := 13) (lv' := [(0, .ref 159), (1, .int a)]) (st' := [.int a, .ref 163]) rfl ?_
    refine En_bald (l := (-128)) (u := 127) rfl rfl tgz_163 (by decide +kernel) hσ0 (by first | exact q_58e6e51dcc hl_a | omega) (lnI (by decide +kernel : LN _ = 1600) (by first | exact q_dde7d71509 h1 hu_n | omega)) (FTsgl (by decide +kernel)) (fun z7 h6 h8 h9 => ?_)
    refine En_Ps 2 (pc' := 18) (lv' := [(0, .ref 159), (1, .int a)]) (st' := [.int ((z7 &&& (((Int16.ofInt 255).toInt32))))]) rfl ?_
    refine En_nam (fun z10 h11 => ?_)
    have h12 := andR_rng (x := z7) (by decide : ((Int16.ofInt 255).toInt32).toInt = 255) (by decide)
    rw [← h11] at h12
    refine En_Ps 1 (pc' := 22) (lv' := [(0, .ref 159), (1, .int a)]) (st' := [.int z10]) rfl ?_
    exact En_ret (v := some (Value.int z10)) rfl rfl rfl ⟨hσ0, hF0, z10, rfl, ⟨by (first | exact q_565e7b05df h12.1 | omega), by (first | exact q_a2e7a1a904 h12.2 | omega), fun hh => by first | exact q_1be5a5166e h1 | omega, fun _ => by (first | exact q_c803b490ef h12.1 | omega), sN_some hT h_n (by (first | exact q_58e6e51dcc hl_a | omega)) (by (first | exact q_114b7bcb5b h1 | omega)) h6 h11⟩⟩
/-- DoorSchoolModel.advance()V -/
abbrev P_189x (σ0 : SG) (By : Int → Int) (Nb : Int) (f : Int32) : PO := fun v σ => WT σ ∧ Fr [(35, 8), (35, 9), (35, 10), (35, 11)] σ0 σ ∧ ∃ f1 : Int32, (σ 159)[8]? = some (Value.int f1) ∧ ∃ t1 : Int32, (σ 159)[10]? = some (Value.int t1) ∧ v = none ∧ -f1.toInt ≤ 0 ∧ f1.toInt - 1600 ≤ 0 ∧ -f1.toInt + f.toInt ≤ 0 ∧ -t1.toInt ≤ 0 ∧ t1.toInt - 4 ≤ 0 ∧ f.toInt - f1.toInt ≤ 0 ∧ Imp (-t1.toInt + 1 ≤ 0) (f.toInt - f1.toInt + 1 ≤ 0) ∧ (TPm By Nb σ ∧ TKm By Nb f.toInt σ)
set_option maxRecDepth 10000 in
set_option maxHeartbeats 4000000 in
theorem c_189x {By : Int → Int} {Nb : Int} (σ0 : SG) (hσ0 : WT σ0) (f : Int32) (h_f : (σ0 159)[8]? = some (Value.int f)) (hT : TPm By Nb σ0) (hf : f.toInt ≤ Nb) : En 1 25 none mr_189 (P_189x σ0 By Nb f) 0 [(0, .ref 159)] [] σ0 := by
  obtain ⟨hl_f, hu_f⟩ := WT_int hσ0 (g := 35) (by decide +kernel) (by decide +kernel) (l := 0) (u := 1600) (by decide +kernel) h_f
  have hF0 : Fr [(35, 8), (35, 9), (35, 10), (35, 11)] σ0 σ0 := Fr_rfl
  have key0 : ∀ (n0 : Nat) (σ2 : SG) (y1 : Int32), WT σ2 → Fr [(35, 8), (35, 9), (35, 10), (35, 11)] σ0 σ2 → (σ2 159)[8]? = some (Value.int y1) → 0 ≤ y1.toInt → y1.toInt ≤ 1600 → f.toInt - y1.toInt ≤ 0 → -y1.toInt + 1600 < (n0 : Int) → tS By Nb (y1.toInt) = tS By Nb f.toInt → y1.toInt ≤ Nb → En 1 25 none mr_189 (P_189x σ0 By Nb f) 0 [(0, .ref 159)] [] σ2 := by
    intro n0
    induction n0 with
    | zero =>
      intro σ2 y1 h3 h4 h5 h6 h7 h8 h9 h10 h11
      first | exact (q_46bc035002 h9 h7).elim | (exfalso; omega)
    | succ n0 ih0 =>
      intro σ2 y1 h3 h4 h5 h6 h7 h8 h9 h10 h11
      refine En_Ps 2 (pc' := 2) (lv' := [(0, .ref 159)]) (st' := [.ref 159, .ref 159]) rfl ?_
      refine En_getK (j := 8) h5 rfl rfl rfl tgz_159 (by decide +kernel) ?_
      obtain ⟨z13, h12, h14, h15⟩ := WT_peekI h3 tgz_159 (by decide +kernel : FT 35 7 = (0, 0, 1600)) (by decide +kernel)
      refine En_callV rfl rfl rfl rfl rfl rfl rfl rfl tgz_159 (by decide +kernel) rfl (c_313ax σ2 h3 y1 (geI rfl (by first | exact q_58e6e51dcc h6 | omega)) (leI rfl (by first | exact q_246f9048f8 h7 | omega)) z13 h12 (TPm_fr hT h4 (by decide +kernel))) (by decide) (by decide) (fun v17 σ18 h16 => ?_)
      obtain ⟨h19, h20, z22, rfl, h21⟩ := h16
      have h23 := h21.2.2.2.2
      obtain rfl : σ2 = σ18 := Fr_nil h20
      refine En_Ps 1 (pc' := 10) (lv' := [(0, .ref 159)]) (st' := [.int (((Int8.ofInt 32).toInt32)), .int z22]) rfl ?_
      refine En_icEq _ rfl (by decide : ((Int8.ofInt 32).toInt32).toInt = 32) rfl (fun h24 => ?_) (fun h24 => ?_)
      · have h25 := Imp_m h21.2.2.1 (by first | exact q_cb1d6b5e1f h24 | omega)
        have h26 := Imp_m h21.2.2.2.1 (by first | exact q_ef157b5a0e h25 | omega)
        refine En_Ps 2 (pc' := 28) (lv' := [(0, .ref 159)]) (st' := [.ref 159, .ref 159]) rfl ?_
        refine En_getK (j := 8) h5 rfl rfl rfl tgz_159 (by decide +kernel) ?_
        refine En_Ps 2 (pc' := 33) (lv' := [(0, .ref 159)]) (st' := [.int ((y1 + ((Int32.ofInt 1)))), .ref 159]) rfl ?_
        refine En_top (addI rfl (by decide : (Int32.ofInt 1).toInt = 1) (by first | exact q_465ab79ac1 h6 | omega) (by first | exact q_1c9c6c18a7 h7 | omega)) (fun z27 h28 => ?_)
        refine En_put (j := 8) rfl rfl rfl tgz_159 (by decide +kernel) rfl (vI (l := 0) (u := 1600) (by decide +kernel) rfl (by first | exact q_35104ce9d3 h28 h6 | omega) (by first | exact q_02c0cd8258 h28 h25 h15 | omega)) h3 h4 (by decide +kernel) (fun σ29 h30 h31 h32 h33 => ?_)
        have h34 := BL_go (y := y1.toInt) (z := z27.toInt) hT (by (first | exact q_58e6e51dcc h6 | omega)) (by (first | exact q_164da72847 h23 h24 | omega)) (by (first | exact q_ba1b2c713b h28 | omega)) h10
        refine En_Ps 1 (pc' := 0) (lv' := [(0, .ref 159)]) (st' := []) rfl ?_
        exact ih0 σ29 z27 h30 h31 h32 (by first | exact q_35104ce9d3 h28 h6 | omega) (by first | exact q_02c0cd8258 h28 h25 h15 | omega) (by first | exact q_3a5e225620 h8 h28 | omega) (by first | exact q_98eaa778fc h28 h9 | omega) (h34.1) (h34.2)
      · refine En_Ps 2 (pc' := 15) (lv' := [(0, .ref 159)]) (st' := [.ref 159, .ref 159]) rfl ?_
        refine En_getK (j := 8) h5 rfl rfl rfl tgz_159 (by decide +kernel) ?_
        refine En_callV rfl rfl rfl rfl rfl rfl rfl rfl tgz_159 (by decide +kernel) rfl (c_313ax σ2 h3 y1 (geI rfl (by first | exact q_58e6e51dcc h6 | omega)) (leI rfl (by first | exact q_246f9048f8 h7 | omega)) z13 h12 (TPm_fr hT h4 (by decide +kernel))) (by decide) (by decide) (fun v36 σ37 h35 => ?_)
        obtain ⟨h38, h39, z41, rfl, h40⟩ := h35
        have h42 := h40.2.2.2.2
        obtain rfl : σ2 = σ37 := Fr_nil h39
        refine En_Ps 1 (pc' := 23) (lv' := [(0, .ref 159)]) (st' := [.int (((Int8.ofInt 10).toInt32)), .int z41]) rfl ?_
        refine En_icNe _ rfl (by decide : ((Int8.ofInt 10).toInt32).toInt = 10) rfl (fun h43 => ?_) (fun h43 => ?_)
        · refine En_Ps 2 (pc' := 41) (lv' := [(0, .ref 159)]) (st' := [.ref 159, .ref 159]) rfl ?_
          refine En_getK (j := 8) h5 rfl rfl rfl tgz_159 (by decide +kernel) ?_
          refine En_put (j := 9) rfl rfl rfl tgz_159 (by decide +kernel) rfl (vI (l := 0) (u := 1600) (by decide +kernel) rfl (by first | exact q_58e6e51dcc h6 | omega) (by first | exact q_246f9048f8 h7 | omega)) h3 h4 (by decide +kernel) (fun σ44 h45 h46 h47 h48 => ?_)
          refine En_Ps 2 (pc' := 49) (lv' := [(0, .ref 159)]) (st' := [.ref 159, .ref 159]) rfl ?_
          refine En_getK (j := 8) ((h48 _ _ (Or.inr (by decide))).trans h5) rfl rfl rfl tgz_159 (by decide +kernel) ?_
          refine En_callV rfl rfl rfl rfl rfl rfl rfl rfl tgz_159 (by decide +kernel) rfl (c_313ax σ44 h45 y1 (geI rfl (by first | exact q_58e6e51dcc h6 | omega)) (leI rfl (by first | exact q_246f9048f8 h7 | omega)) z13 ((h48 _ _ (Or.inr (by decide))).trans h12) (TPm_fr hT h46 (by decide +kernel))) (by decide) (by decide) (fun v50 σ51 h49 => ?_)
          obtain ⟨h52, h53, z55, rfl, h54⟩ := h49
          have h56 := h54.2.2.2.2
          obtain rfl : σ44 = σ51 := Fr_nil h53
          refine En_Ps 3 (pc' := 58) (lv' := [(1, .int z55), (0, .ref 159)]) (st' := [.int ((Int32.ofInt (-1))), .int z55]) rfl ?_
          refine En_icNe _ rfl (by decide : (Int32.ofInt (-1)).toInt = -1) rfl (fun h57 => ?_) (fun h57 => ?_)
          · have h58 := Imp_m h21.2.2.1 (by (first | exact q_0a65d06cab h23 h56 h57 h54.1 | omega))
            have h59 := Imp_m h21.2.2.2.1 (by first | exact q_ef157b5a0e h58 | omega)
            have h60 := Imp_m h40.2.2.1 (by (first | exact q_7000e5b959 h42 h23 h59 | omega))
            have h61 := Imp_m h40.2.2.2.1 (by first | exact q_ef157b5a0e h58 | omega)
            have h62 := Imp_m h54.2.2.1 (by first | exact q_9aa41b2499 h57 h54.1 | omega)
            have h63 := Imp_m h54.2.2.2.1 (by first | exact q_ef157b5a0e h58 | omega)
            refine En_Ps 4 (pc' := 77) (lv' := [(1, .int z55), (0, .ref 159)]) (st' := [.long ((122 : Int64)), .long ((97 : Int64)), .long z55.toInt64]) rfl ?_
            have : z55.toInt64.toInt = z55.toInt := (i2lI rfl)
            have := (by decide : ((97 : Int64)).toInt = 97)
            have := (by decide : ((122 : Int64)).toInt = 122)
            refine En_callS rfl rfl rfl rfl rfl rfl rfl rfl rfl (c_249 σ44 h45 z55.toInt64 ((97 : Int64)) ((122 : Int64))) (by decide) (by decide) (fun v65 σ66 h64 => ?_)
            obtain ⟨h67, h68, z70, rfl, h69⟩ := h64
            obtain rfl : σ44 = σ66 := Fr_nil h68
            refine En_iEq _ rfl rfl (fun h71 => ?_) (fun h71 => ?_)
            · refine En_Ps 4 (pc' := 133) (lv' := [(1, .int z55), (0, .ref 159)]) (st' := [.long ((57 : Int64)), .long ((48 : Int64)), .long z55.toInt64]) rfl ?_
              have : z55.toInt64.toInt = z55.toInt := (i2lI rfl)
              have := (by decide : ((48 : Int64)).toInt = 48)
              have := (by decide : ((57 : Int64)).toInt = 57)
              refine En_callS rfl rfl rfl rfl rfl rfl rfl rfl rfl (c_249 σ44 h45 z55.toInt64 ((48 : Int64)) ((57 : Int64))) (by decide) (by decide) (fun v73 σ74 h72 => ?_)
              obtain ⟨h75, h76, z78, rfl, h77⟩ := h72
              obtain rfl : σ44 = σ74 := Fr_nil h76
              refine En_iEq _ rfl rfl (fun h79 => ?_) (fun h79 => ?_)
              · refine En_Ps 3 (pc' := 218) (lv' := [(1, .int z55), (0, .ref 159)]) (st' := [.int (((Int8.ofInt 59).toInt32)), .int z55, .ref 159]) rfl ?_
                refine En_icNe _ rfl (by decide : ((Int8.ofInt 59).toInt32).toInt = 59) rfl (fun h80 => ?_) (fun h80 => ?_)
                · refine En_Ps 1 (pc' := 226) (lv' := [(1, .int z55), (0, .ref 159)]) (st' := [.int ((Int32.ofInt 4)), .ref 159]) rfl ?_
                  refine En_put (j := 10) rfl rfl rfl tgz_159 (by decide +kernel) rfl (vI (l := 0) (u := 4) (by decide +kernel) (by decide : (Int32.ofInt 4).toInt = 4) (by decide) (by decide)) h45 h46 (by decide +kernel) (fun σ81 h82 h83 h84 h85 => ?_)
                  refine En_Ps 2 (pc' := 231) (lv' := [(1, .int z55), (0, .ref 159)]) (st' := [.ref 159, .ref 159]) rfl ?_
                  refine En_getK (j := 8) ((h85 _ _ (Or.inr (by decide))).trans ((h48 _ _ (Or.inr (by decide))).trans h5)) rfl rfl rfl tgz_159 (by decide +kernel) ?_
                  refine En_Ps 2 (pc' := 236) (lv' := [(1, .int z55), (0, .ref 159)]) (st' := [.int ((y1 + ((Int32.ofInt 1)))), .ref 159]) rfl ?_
                  refine En_top (addI rfl (by decide : (Int32.ofInt 1).toInt = 1) (by first | exact q_465ab79ac1 h6 | omega) (by first | exact q_1c9c6c18a7 h7 | omega)) (fun z86 h87 => ?_)
                  refine En_put (j := 8) rfl rfl rfl tgz_159 (by decide +kernel) rfl (vI (l := 0) (u := 1600) (by decide +kernel) rfl (by first | exact q_35104ce9d3 h87 h6 | omega) (by first | exact q_02c0cd8258 h87 h58 h15 | omega)) h82 h83 (by decide +kernel) (fun σ88 h89 h90 h91 h92 => ?_)
                  have := (by decide : (Int32.ofInt 4).toInt = 4)
                  exact En_ret (v := none) rfl rfl rfl ⟨h89, h90, z86, h91, (Int32.ofInt 4), ((h92 _ _ (Or.inr (by decide))).trans h84), rfl, ⟨by first | exact q_e1eb333c37 h87 h6 | omega, by first | exact q_48b789729f h87 h58 h15 | omega, by first | exact q_d3066aae82 h8 h87 | omega, by decide, by decide, by first | exact q_3a5e225620 h8 h87 | omega, fun hh => by first | exact q_b2aca50e06 h8 h87 | omega, ⟨(TPm_fr hT h90 (by decide +kernel)), TKm_4 (y := y1.toInt) hT (by (first | exact q_58e6e51dcc hl_f | omega)) hf (by (first | exact q_58e6e51dcc h6 | omega)) (BL_no hT (by (first | exact q_58e6e51dcc h6 | omega)) (by (first | exact q_79a9335080 h24 h23 h43 h42 | omega)) h10) (by omega) ((ci_at (j := 8) h91 rfl).trans (by (first | exact q_ba1b2c713b h87 | omega))) ((ci_at (j := 9) ((h92 _ _ (Or.inr (by decide))).trans ((h85 _ _ (Or.inr (by decide))).trans h47)) rfl).trans (by (first | exact q_61ddd2b576 | omega))) ((ci_at (j := 10) ((h92 _ _ (Or.inr (by decide))).trans h84) rfl).trans (by (first | exact q_d0a5206d26 this | omega)))⟩⟩⟩
                · refine En_Ps 2 (pc' := 226) (lv' := [(1, .int z55), (0, .ref 159)]) (st' := [.int ((Int32.ofInt 3)), .ref 159]) rfl ?_
                  refine En_put (j := 10) rfl rfl rfl tgz_159 (by decide +kernel) rfl (vI (l := 0) (u := 4) (by decide +kernel) (by decide : (Int32.ofInt 3).toInt = 3) (by decide) (by decide)) h45 h46 (by decide +kernel) (fun σ93 h94 h95 h96 h97 => ?_)
                  refine En_Ps 2 (pc' := 231) (lv' := [(1, .int z55), (0, .ref 159)]) (st' := [.ref 159, .ref 159]) rfl ?_
                  refine En_getK (j := 8) ((h97 _ _ (Or.inr (by decide))).trans ((h48 _ _ (Or.inr (by decide))).trans h5)) rfl rfl rfl tgz_159 (by decide +kernel) ?_
                  refine En_Ps 2 (pc' := 236) (lv' := [(1, .int z55), (0, .ref 159)]) (st' := [.int ((y1 + ((Int32.ofInt 1)))), .ref 159]) rfl ?_
                  refine En_top (addI rfl (by decide : (Int32.ofInt 1).toInt = 1) (by first | exact q_465ab79ac1 h6 | omega) (by first | exact q_1c9c6c18a7 h7 | omega)) (fun z98 h99 => ?_)
                  refine En_put (j := 8) rfl rfl rfl tgz_159 (by decide +kernel) rfl (vI (l := 0) (u := 1600) (by decide +kernel) rfl (by first | exact q_35104ce9d3 h99 h6 | omega) (by first | exact q_02c0cd8258 h99 h58 h15 | omega)) h94 h95 (by decide +kernel) (fun σ100 h101 h102 h103 h104 => ?_)
                  have := (by decide : (Int32.ofInt 3).toInt = 3)
                  exact En_ret (v := none) rfl rfl rfl ⟨h101, h102, z98, h103, (Int32.ofInt 3), ((h104 _ _ (Or.inr (by decide))).trans h96), rfl, ⟨by first | exact q_e1eb333c37 h99 h6 | omega, by first | exact q_48b789729f h99 h58 h15 | omega, by first | exact q_d3066aae82 h8 h99 | omega, by decide, by decide, by first | exact q_3a5e225620 h8 h99 | omega, fun hh => by first | exact q_b2aca50e06 h8 h99 | omega, ⟨(TPm_fr hT h102 (by decide +kernel)), TKm_3 (y := y1.toInt) hT (by (first | exact q_58e6e51dcc hl_f | omega)) hf (by (first | exact q_58e6e51dcc h6 | omega)) (BL_no hT (by (first | exact q_58e6e51dcc h6 | omega)) (by (first | exact q_bac87ac9ca h56 h80 | omega)) h10) (by (first | exact q_878f9fb4d0 h56 h80 | omega)) ((ci_at (j := 8) h103 rfl).trans (by (first | exact q_ba1b2c713b h99 | omega))) ((ci_at (j := 9) ((h104 _ _ (Or.inr (by decide))).trans ((h97 _ _ (Or.inr (by decide))).trans h47)) rfl).trans (by (first | exact q_61ddd2b576 | omega))) ((ci_at (j := 10) ((h104 _ _ (Or.inr (by decide))).trans h96) rfl).trans (by (first | exact q_5736040b52 this | omega)))⟩⟩⟩
              · refine En_Ps 2 (pc' := 141) (lv' := [(1, .int z55), (0, .ref 159)]) (st' := [.int ((Int32.ofInt 0)), .ref 159]) rfl ?_
                refine En_put (j := 11) rfl rfl rfl tgz_159 (by decide +kernel) rfl (vI (l := 0) (u := 99999) (by decide +kernel) (by decide : (Int32.ofInt 0).toInt = 0) (by decide) (by decide)) h45 h46 (by decide +kernel) (fun σ105 h106 h107 h108 h109 => ?_)
                refine En_Ps 2 (pc' := 146) (lv' := [(1, .int z55), (0, .ref 159)]) (st' := [.ref 159, .ref 159]) rfl ?_
                refine En_getK (j := 8) ((h109 _ _ (Or.inr (by decide))).trans ((h48 _ _ (Or.inr (by decide))).trans h5)) rfl rfl rfl tgz_159 (by decide +kernel) ?_
                refine En_callV rfl rfl rfl rfl rfl rfl rfl rfl tgz_159 (by decide +kernel) rfl (c_313ax σ105 h106 y1 (geI rfl (by first | exact q_58e6e51dcc h6 | omega)) (leI rfl (by first | exact q_246f9048f8 h7 | omega)) z13 ((h109 _ _ (Or.inr (by decide))).trans ((h48 _ _ (Or.inr (by decide))).trans h12)) (TPm_fr hT h107 (by decide +kernel))) (by decide) (by decide) (fun v111 σ112 h110 => ?_)
                obtain ⟨h113, h114, z116, rfl, h115⟩ := h110
                have h117 := h115.2.2.2.2
                obtain rfl : σ105 = σ112 := Fr_nil h114
                have h118 := Imp_m h115.2.2.1 (by (first | exact q_7000e5b959 h117 h42 h61 | omega))
                have h119 := Imp_m h115.2.2.2.1 (by first | exact q_ef157b5a0e h58 | omega)
                refine En_Ps 3 (pc' := 159) (lv' := [(1, .int z55), (0, .ref 159)]) (st' := [.long ((57 : Int64)), .long ((48 : Int64)), .long z116.toInt64]) rfl ?_
                have : z116.toInt64.toInt = z116.toInt := (i2lI rfl)
                have := (by decide : ((48 : Int64)).toInt = 48)
                have := (by decide : ((57 : Int64)).toInt = 57)
                refine En_callS rfl rfl rfl rfl rfl rfl rfl rfl rfl (c_249 σ105 h106 z116.toInt64 ((48 : Int64)) ((57 : Int64))) (by decide) (by decide) (fun v121 σ122 h120 => ?_)
                obtain ⟨h123, h124, z126, rfl, h125⟩ := h120
                obtain rfl : σ105 = σ122 := Fr_nil h124
                refine En_iEq _ rfl rfl (fun hx => by exfalso; omega) (fun h127 => ?_)
                refine En_Ps 4 (pc' := 171) (lv' := [(1, .int z55), (0, .ref 159)]) (st' := [.ref 159, .int (((Int8.ofInt 10).toInt32)), .int ((99999 : Int32)), .ref 159]) rfl ?_
                refine En_getK (j := 11) h108 rfl rfl rfl tgz_159 (by decide +kernel) ?_
                refine En_Ps 1 (pc' := 175) (lv' := [(1, .int z55), (0, .ref 159)]) (st' := [.int (((((Int8.ofInt 10).toInt32)) * ((Int32.ofInt 0)))), .int ((99999 : Int32)), .ref 159]) rfl ?_
                refine En_top (mulI (by decide : ((Int8.ofInt 10).toInt32).toInt = 10) (by decide : (Int32.ofInt 0).toInt = 0) (Z := 0) (by first | exact q_7a801dc1c2 | omega) (by decide) (by decide)) (fun z128 h129 => ?_)
                refine En_Ps 2 (pc' := 177) (lv' := [(1, .int z55), (0, .ref 159)]) (st' := [.ref 159, .ref 159, .int z128, .int ((99999 : Int32)), .ref 159]) rfl ?_
                refine En_getK (j := 8) ((h109 _ _ (Or.inr (by decide))).trans ((h48 _ _ (Or.inr (by decide))).trans h5)) rfl rfl rfl tgz_159 (by decide +kernel) ?_
                refine En_callV rfl rfl rfl rfl rfl rfl rfl rfl tgz_159 (by decide +kernel) rfl (c_313ax σ105 h106 y1 (geI rfl (by first | exact q_58e6e51dcc h6 | omega)) (leI rfl (by first | exact q_246f9048f8 h7 | omega)) z13 ((h109 _ _ (Or.inr (by decide))).trans ((h48 _ _ (Or.inr (by decide))).trans h12)) (TPm_fr hT h107 (by decide +kernel))) (by decide) (by decide) (fun v131 σ132 h130 => ?_)
                obtain ⟨h133, h134, z136, rfl, h135⟩ := h130
                have h137 := h135.2.2.2.2
                obtain rfl : σ105 = σ132 := Fr_nil h134
                have h138 := Imp_m h135.2.2.1 (by (first | exact q_7000e5b959 h137 h23 h59 | omega))
                have h139 := Imp_m h135.2.2.2.1 (by first | exact q_ef157b5a0e h58 | omega)
                refine En_Ps 1 (pc' := 184) (lv' := [(1, .int z55), (0, .ref 159)]) (st' := [.int ((z128 + z136)), .int ((99999 : Int32)), .ref 159]) rfl ?_
                refine En_top (addI rfl rfl (by first | exact q_5e8186b26d h129 h139 | omega) (by first | exact q_b06503e6ab h129 h135.2.1 | omega)) (fun z140 h141 => ?_)
                refine En_Ps 2 (pc' := 187) (lv' := [(1, .int z55), (0, .ref 159)]) (st' := [.int ((z140 - (((Int8.ofInt 48).toInt32)))), .int ((99999 : Int32)), .ref 159]) rfl ?_
                refine En_top (subI rfl (by decide : ((Int8.ofInt 48).toInt32).toInt = 48) (by first | exact q_57a02b7c1a h141 h129 h139 | omega) (by first | exact q_09b582373b h141 h129 h135.2.1 | omega)) (fun z142 h143 => ?_)
                have := (by decide : ((99999 : Int32)).toInt = 99999)
                refine En_callS rfl rfl rfl rfl rfl rfl rfl rfl rfl (c_11 σ105 h106 ((99999 : Int32)) z142) (by decide) (by decide) (fun v145 σ146 h144 => ?_)
                obtain ⟨h147, h148, z150, rfl, h149⟩ := h144
                obtain rfl : σ105 = σ146 := Fr_nil h148
                refine En_put (j := 11) rfl rfl rfl tgz_159 (by decide +kernel) rfl (vI (l := 0) (u := 99999) (by decide +kernel) rfl (by omega) (by first | exact q_d82d3967f0 h149.2.1 h143 h141 h129 h135.2.1 | omega)) h106 h107 (by decide +kernel) (fun σ151 h152 h153 h154 h155 => ?_)
                refine En_Ps 2 (pc' := 195) (lv' := [(1, .int z55), (0, .ref 159)]) (st' := [.ref 159, .ref 159]) rfl ?_
                refine En_getK (j := 8) ((h155 _ _ (Or.inr (by decide))).trans ((h109 _ _ (Or.inr (by decide))).trans ((h48 _ _ (Or.inr (by decide))).trans h5))) rfl rfl rfl tgz_159 (by decide +kernel) ?_
                refine En_Ps 2 (pc' := 200) (lv' := [(1, .int z55), (0, .ref 159)]) (st' := [.int ((y1 + ((Int32.ofInt 1)))), .ref 159]) rfl ?_
                refine En_top (addI rfl (by decide : (Int32.ofInt 1).toInt = 1) (by first | exact q_465ab79ac1 h6 | omega) (by first | exact q_1c9c6c18a7 h7 | omega)) (fun z156 h157 => ?_)
                refine En_put (j := 8) rfl rfl rfl tgz_159 (by decide +kernel) rfl (vI (l := 0) (u := 1600) (by decide +kernel) rfl (by first | exact q_35104ce9d3 h157 h6 | omega) (by first | exact q_02c0cd8258 h157 h58 h15 | omega)) h152 h153 (by decide +kernel) (fun σ158 h159 h160 h161 h162 => ?_)
                have h163 := DG_go (y := y1.toInt) (z := z156.toInt) hT (by (first | exact q_58e6e51dcc h6 | omega)) (by omega) (by (first | exact q_ba1b2c713b h157 | omega))
                have h164 : z150.toInt = vl By 99999 (y1.toInt) (z156.toInt) := VL_go (y := y1.toInt) (v := 0) (by (first | exact q_2dc37a5edf | omega)) (by (first | exact q_ba1b2c713b h157 | omega)) (vl_0 (B := By) (c := 99999) (s := y1.toInt)).symm (by omega)
                refine En_Ps 1 (pc' := 144) (lv' := [(1, .int z55), (0, .ref 159)]) (st' := []) rfl ?_
                have key144 : ∀ (n144 : Nat) (σ167 : SG) (y165 : Int32) (y166 : Int32), WT σ167 → Fr [(35, 8), (35, 9), (35, 10), (35, 11)] σ0 σ167 → (σ167 159)[7]? = some (Value.int z13) → (σ167 159)[9]? = some (Value.int y1) → (σ167 159)[11]? = some (Value.int y165) → (σ167 159)[8]? = some (Value.int y166) → 0 ≤ y165.toInt → y165.toInt ≤ 99999 → 1 ≤ y166.toInt → y166.toInt ≤ 1600 → y166.toInt - z13.toInt ≤ 0 → z156.toInt - y166.toInt ≤ 0 → z13.toInt - y166.toInt < (n144 : Int) → rnx By Nb 2 (y166.toInt) = rnx By Nb 2 (y1.toInt) → y166.toInt ≤ Nb → y165.toInt = vl By 99999 (y1.toInt) (y166.toInt) → En 1 25 none mr_189 (P_189x σ0 By Nb f) 144 [(0, .ref 159), (1, .int z55)] [] σ167 := by
                  intro n144
                  induction n144 with
                  | zero =>
                    intro σ167 y165 y166 h168 h169 h170 h171 h172 h173 h174 h175 h176 h177 h178 h179 h180 h181 h182 h183
                    first | exact (q_14257feae7 h178 h180).elim | (exfalso; omega)
                  | succ n144 ih144 =>
                    intro σ167 y165 y166 h168 h169 h170 h171 h172 h173 h174 h175 h176 h177 h178 h179 h180 h181 h182 h183
                    refine En_Ps 2 (pc' := 146) (lv' := [(0, .ref 159), (1, .int z55)]) (st' := [.ref 159, .ref 159]) rfl ?_
                    refine En_getK (j := 8) h173 rfl rfl rfl tgz_159 (by decide +kernel) ?_
                    refine En_callV rfl rfl rfl rfl rfl rfl rfl rfl tgz_159 (by decide +kernel) rfl (c_313ax σ167 h168 y166 (geI rfl (by first | exact q_337a85e294 h176 | omega)) (leI rfl (by first | exact q_246f9048f8 h177 | omega)) z13 h170 (TPm_fr hT h169 (by decide +kernel))) (by decide) (by decide) (fun v185 σ186 h184 => ?_)
                    obtain ⟨h187, h188, z190, rfl, h189⟩ := h184
                    have h191 := h189.2.2.2.2
                    obtain rfl : σ167 = σ186 := Fr_nil h188
                    refine En_Ps 3 (pc' := 159) (lv' := [(0, .ref 159), (1, .int z55)]) (st' := [.long ((57 : Int64)), .long ((48 : Int64)), .long z190.toInt64]) rfl ?_
                    have : z190.toInt64.toInt = z190.toInt := (i2lI rfl)
                    have := (by decide : ((48 : Int64)).toInt = 48)
                    have := (by decide : ((57 : Int64)).toInt = 57)
                    refine En_callS rfl rfl rfl rfl rfl rfl rfl rfl rfl (c_249 σ167 h168 z190.toInt64 ((48 : Int64)) ((57 : Int64))) (by decide) (by decide) (fun v193 σ194 h192 => ?_)
                    obtain ⟨h195, h196, z198, rfl, h197⟩ := h192
                    obtain rfl : σ167 = σ194 := Fr_nil h196
                    refine En_iEq _ rfl rfl (fun h199 => ?_) (fun h199 => ?_)
                    · refine En_Ps 2 (pc' := 208) (lv' := [(0, .ref 159), (1, .int z55)]) (st' := [.int ((Int32.ofInt 2)), .ref 159]) rfl ?_
                      refine En_put (j := 10) rfl rfl rfl tgz_159 (by decide +kernel) rfl (vI (l := 0) (u := 4) (by decide +kernel) (by decide : (Int32.ofInt 2).toInt = 2) (by decide) (by decide)) h168 h169 (by decide +kernel) (fun σ200 h201 h202 h203 h204 => ?_)
                      refine En_Ps 1 (pc' := 239) (lv' := [(0, .ref 159), (1, .int z55)]) (st' := []) rfl ?_
                      have := (by decide : (Int32.ofInt 2).toInt = 2)
                      exact En_ret (v := none) rfl rfl rfl ⟨h201, h202, y166, ((h204 _ _ (Or.inr (by decide))).trans h173), (Int32.ofInt 2), h203, rfl, ⟨by first | exact q_43cac120cc h176 | omega, by first | exact q_5a08281576 h177 | omega, by first | exact q_850945eed1 h8 h157 h179 | omega, by decide, by decide, by first | exact q_5488d9fc23 h8 h157 h179 | omega, fun hh => by first | exact q_88763b3d99 h8 h157 h179 | omega, ⟨(TPm_fr hT h202 (by decide +kernel)), TKm_2 (y := y1.toInt) (e := y166.toInt) hT (by (first | exact q_58e6e51dcc hl_f | omega)) hf (by (first | exact q_58e6e51dcc h6 | omega)) (BL_no hT (by (first | exact q_58e6e51dcc h6 | omega)) (by (first | exact q_79a9335080 h24 h23 h43 h42 | omega)) h10) (by omega) (by (first | exact q_337a85e294 h176 | omega)) h181 (by omega) ((ci_at (j := 8) ((h204 _ _ (Or.inr (by decide))).trans h173) rfl).trans (by (first | exact q_61ddd2b576 | omega))) ((ci_at (j := 9) ((h204 _ _ (Or.inr (by decide))).trans h171) rfl).trans (by (first | exact q_61ddd2b576 | omega))) ((ci_at (j := 10) h203 rfl).trans (by (first | exact q_bef0c64981 this | omega))) ((ci_at (j := 11) ((h204 _ _ (Or.inr (by decide))).trans h172) rfl).trans h183)⟩⟩⟩
                    · have h205 := Imp_m h189.2.2.1 (by (first | exact q_139d94645a (i2lI rfl) h197.2.2.1 h199 h197.1 (by decide) | omega))
                      have h206 := Imp_m h189.2.2.2.1 (by first | exact q_ef157b5a0e h205 | omega)
                      refine En_Ps 4 (pc' := 171) (lv' := [(0, .ref 159), (1, .int z55)]) (st' := [.ref 159, .int (((Int8.ofInt 10).toInt32)), .int ((99999 : Int32)), .ref 159]) rfl ?_
                      refine En_getK (j := 11) h172 rfl rfl rfl tgz_159 (by decide +kernel) ?_
                      refine En_Ps 1 (pc' := 175) (lv' := [(0, .ref 159), (1, .int z55)]) (st' := [.int (((((Int8.ofInt 10).toInt32)) * y165)), .int ((99999 : Int32)), .ref 159]) rfl ?_
                      refine En_top (mulI (by decide : ((Int8.ofInt 10).toInt32).toInt = 10) rfl (Z := 10 * y165.toInt) (by first | exact q_9f72b99036 | omega) (by first | exact q_66aa5f5af3 h174 | omega) (by first | exact q_b62f261964 h175 | omega)) (fun z207 h208 => ?_)
                      refine En_Ps 2 (pc' := 177) (lv' := [(0, .ref 159), (1, .int z55)]) (st' := [.ref 159, .ref 159, .int z207, .int ((99999 : Int32)), .ref 159]) rfl ?_
                      refine En_getK (j := 8) h173 rfl rfl rfl tgz_159 (by decide +kernel) ?_
                      refine En_callV rfl rfl rfl rfl rfl rfl rfl rfl tgz_159 (by decide +kernel) rfl (c_313ax σ167 h168 y166 (geI rfl (by first | exact q_337a85e294 h176 | omega)) (leI rfl (by first | exact q_246f9048f8 h177 | omega)) z13 h170 (TPm_fr hT h169 (by decide +kernel))) (by decide) (by decide) (fun v210 σ211 h209 => ?_)
                      obtain ⟨h212, h213, z215, rfl, h214⟩ := h209
                      have h216 := h214.2.2.2.2
                      obtain rfl : σ167 = σ211 := Fr_nil h213
                      have h217 := Imp_m h214.2.2.1 (by (first | exact q_7000e5b959 h216 h191 h206 | omega))
                      have h218 := Imp_m h214.2.2.2.1 (by first | exact q_ef157b5a0e h205 | omega)
                      refine En_Ps 1 (pc' := 184) (lv' := [(0, .ref 159), (1, .int z55)]) (st' := [.int ((z207 + z215)), .int ((99999 : Int32)), .ref 159]) rfl ?_
                      refine En_top (addI rfl rfl (by first | exact q_db83736b23 h208 h218 h174 | omega) (by first | exact q_bafc1b40c9 h208 h214.2.1 h175 | omega)) (fun z219 h220 => ?_)
                      refine En_Ps 2 (pc' := 187) (lv' := [(0, .ref 159), (1, .int z55)]) (st' := [.int ((z219 - (((Int8.ofInt 48).toInt32)))), .int ((99999 : Int32)), .ref 159]) rfl ?_
                      refine En_top (subI rfl (by decide : ((Int8.ofInt 48).toInt32).toInt = 48) (by first | exact q_fa95d3a10b h220 h208 h218 h174 | omega) (by first | exact q_17eb69d6a3 h220 h208 h214.2.1 h175 | omega)) (fun z221 h222 => ?_)
                      have := (by decide : ((99999 : Int32)).toInt = 99999)
                      refine En_callS rfl rfl rfl rfl rfl rfl rfl rfl rfl (c_11 σ167 h168 ((99999 : Int32)) z221) (by decide) (by decide) (fun v224 σ225 h223 => ?_)
                      obtain ⟨h226, h227, z229, rfl, h228⟩ := h223
                      obtain rfl : σ167 = σ225 := Fr_nil h227
                      refine En_put (j := 11) rfl rfl rfl tgz_159 (by decide +kernel) rfl (vI (l := 0) (u := 99999) (by decide +kernel) rfl (by omega) (by (first | exact q_335b999195 h228.1 this | omega))) h168 h169 (by decide +kernel) (fun σ230 h231 h232 h233 h234 => ?_)
                      refine En_Ps 2 (pc' := 195) (lv' := [(0, .ref 159), (1, .int z55)]) (st' := [.ref 159, .ref 159]) rfl ?_
                      refine En_getK (j := 8) ((h234 _ _ (Or.inr (by decide))).trans h173) rfl rfl rfl tgz_159 (by decide +kernel) ?_
                      refine En_Ps 2 (pc' := 200) (lv' := [(0, .ref 159), (1, .int z55)]) (st' := [.int ((y166 + ((Int32.ofInt 1)))), .ref 159]) rfl ?_
                      refine En_top (addI rfl (by decide : (Int32.ofInt 1).toInt = 1) (by first | exact q_e6d8d315b7 h176 | omega) (by first | exact q_1c9c6c18a7 h177 | omega)) (fun z235 h236 => ?_)
                      refine En_put (j := 8) rfl rfl rfl tgz_159 (by decide +kernel) rfl (vI (l := 0) (u := 1600) (by decide +kernel) rfl (by first | exact q_44c325ea65 h236 h176 | omega) (by first | exact q_02c0cd8258 h236 h205 h15 | omega)) h231 h232 (by decide +kernel) (fun σ237 h238 h239 h240 h241 => ?_)
                      have h242 := DG_go (y := y166.toInt) (z := z235.toInt) hT (by (first | exact q_337a85e294 h176 | omega)) (by (first | exact q_f714fa731c h191 (i2lI rfl) h197.2.2.1 h199 h197.1 (by decide) (by decide) | omega)) (by (first | exact q_ba1b2c713b h236 | omega))
                      have h243 : z229.toInt = vl By 99999 (y1.toInt) (z235.toInt) := VL_go (y := y166.toInt) (v := y165.toInt) (by (first | exact q_3f5944b558 h179 h157 | omega)) (by (first | exact q_ba1b2c713b h236 | omega)) h183 (by omega)
                      refine En_Ps 1 (pc' := 144) (lv' := [(0, .ref 159), (1, .int z55)]) (st' := []) rfl ?_
                      exact ih144 σ237 z229 z235 h238 h239 ((h241 _ _ (Or.inr (by decide))).trans ((h234 _ _ (Or.inr (by decide))).trans h170)) ((h241 _ _ (Or.inr (by decide))).trans ((h234 _ _ (Or.inr (by decide))).trans h171)) ((h241 _ _ (Or.inr (by decide))).trans h233) h240 (by omega) (by (first | exact q_335b999195 h228.1 this | omega)) (by first | exact q_7518dd5232 h236 h176 | omega) (by first | exact q_02c0cd8258 h236 h205 h15 | omega) (by first | exact q_d701165c21 h205 h236 | omega) (by first | exact q_3a5e225620 h179 h236 | omega) (by first | exact q_8d03a5a7cb h236 h180 | omega) (h242.1.trans h181) (h242.2.1) (h243)
                refine En_lv (lv := [(0, .ref 159), (1, .int z55)]) ⟨rfl, rfl, trivial⟩ ?_
                exact key144 (Int.toNat (z13.toInt - z156.toInt) + 1) σ158 z150 z156 h159 h160 ((h162 _ _ (Or.inr (by decide))).trans ((h155 _ _ (Or.inr (by decide))).trans ((h109 _ _ (Or.inr (by decide))).trans ((h48 _ _ (Or.inr (by decide))).trans h12)))) ((h162 _ _ (Or.inr (by decide))).trans ((h155 _ _ (Or.inr (by decide))).trans ((h109 _ _ (Or.inr (by decide))).trans h47))) ((h162 _ _ (Or.inr (by decide))).trans h154) h161 (by omega) (by first | exact q_d82d3967f0 h149.2.1 h143 h141 h129 h135.2.1 | omega) (by first | exact q_246139cee3 h157 h6 | omega) (by first | exact q_02c0cd8258 h157 h58 h15 | omega) (by first | exact q_d701165c21 h58 h157 | omega) (by first | exact q_1bb76abeaf | omega) (by first | exact toN_lt _ | omega) (h163.1) (h163.2.1) (h164)
            · refine En_Ps 2 (pc' := 85) (lv' := [(1, .int z55), (0, .ref 159)]) (st' := [.ref 159, .ref 159]) rfl ?_
              refine En_getK (j := 8) ((h48 _ _ (Or.inr (by decide))).trans h5) rfl rfl rfl tgz_159 (by decide +kernel) ?_
              refine En_callV rfl rfl rfl rfl rfl rfl rfl rfl tgz_159 (by decide +kernel) rfl (c_313ax σ44 h45 y1 (geI rfl (by first | exact q_58e6e51dcc h6 | omega)) (leI rfl (by first | exact q_246f9048f8 h7 | omega)) z13 ((h48 _ _ (Or.inr (by decide))).trans h12) (TPm_fr hT h46 (by decide +kernel))) (by decide) (by decide) (fun v245 σ246 h244 => ?_)
              obtain ⟨h247, h248, z250, rfl, h249⟩ := h244
              have h251 := h249.2.2.2.2
              obtain rfl : σ44 = σ246 := Fr_nil h248
              have h252 := Imp_m h249.2.2.1 (by (first | exact q_7000e5b959 h251 h42 h61 | omega))
              have h253 := Imp_m h249.2.2.2.1 (by first | exact q_ef157b5a0e h58 | omega)
              refine En_Ps 3 (pc' := 98) (lv' := [(1, .int z55), (0, .ref 159)]) (st' := [.long ((122 : Int64)), .long ((97 : Int64)), .long z250.toInt64]) rfl ?_
              have : z250.toInt64.toInt = z250.toInt := (i2lI rfl)
              have := (by decide : ((97 : Int64)).toInt = 97)
              have := (by decide : ((122 : Int64)).toInt = 122)
              refine En_callS rfl rfl rfl rfl rfl rfl rfl rfl rfl (c_249 σ44 h45 z250.toInt64 ((97 : Int64)) ((122 : Int64))) (by decide) (by decide) (fun v255 σ256 h254 => ?_)
              obtain ⟨h257, h258, z260, rfl, h259⟩ := h254
              obtain rfl : σ44 = σ256 := Fr_nil h258
              refine En_iEq _ rfl rfl (fun hx => by exfalso; omega) (fun h261 => ?_)
              refine En_Ps 2 (pc' := 106) (lv' := [(1, .int z55), (0, .ref 159)]) (st' := [.ref 159, .ref 159]) rfl ?_
              refine En_getK (j := 8) ((h48 _ _ (Or.inr (by decide))).trans h5) rfl rfl rfl tgz_159 (by decide +kernel) ?_
              refine En_Ps 2 (pc' := 111) (lv' := [(1, .int z55), (0, .ref 159)]) (st' := [.int ((y1 + ((Int32.ofInt 1)))), .ref 159]) rfl ?_
              refine En_top (addI rfl (by decide : (Int32.ofInt 1).toInt = 1) (by first | exact q_465ab79ac1 h6 | omega) (by first | exact q_1c9c6c18a7 h7 | omega)) (fun z262 h263 => ?_)
              refine En_put (j := 8) rfl rfl rfl tgz_159 (by decide +kernel) rfl (vI (l := 0) (u := 1600) (by decide +kernel) rfl (by first | exact q_35104ce9d3 h263 h6 | omega) (by first | exact q_02c0cd8258 h263 h58 h15 | omega)) h45 h46 (by decide +kernel) (fun σ264 h265 h266 h267 h268 => ?_)
              have h269 := LT_go (y := y1.toInt) (z := z262.toInt) hT (by (first | exact q_58e6e51dcc h6 | omega)) (by (first | exact q_deee28d121 h251 (i2lI rfl) h259.2.2.1 h261 h259.1 (by decide) this | omega)) (by (first | exact q_ba1b2c713b h263 | omega))
              refine En_Ps 1 (pc' := 83) (lv' := [(1, .int z55), (0, .ref 159)]) (st' := []) rfl ?_
              have key83 : ∀ (n83 : Nat) (σ271 : SG) (y270 : Int32), WT σ271 → Fr [(35, 8), (35, 9), (35, 10), (35, 11)] σ0 σ271 → (σ271 159)[7]? = some (Value.int z13) → (σ271 159)[9]? = some (Value.int y1) → (σ271 159)[8]? = some (Value.int y270) → 1 ≤ y270.toInt → y270.toInt ≤ 1600 → y270.toInt - z13.toInt ≤ 0 → z262.toInt - y270.toInt ≤ 0 → z13.toInt - y270.toInt < (n83 : Int) → rnx By Nb 1 (y270.toInt) = rnx By Nb 1 (y1.toInt) → y270.toInt ≤ Nb → En 1 25 none mr_189 (P_189x σ0 By Nb f) 83 [(0, .ref 159), (1, .int z55)] [] σ271 := by
                intro n83
                induction n83 with
                | zero =>
                  intro σ271 y270 h272 h273 h274 h275 h276 h277 h278 h279 h280 h281 h282 h283
                  first | exact (q_14257feae7 h279 h281).elim | (exfalso; omega)
                | succ n83 ih83 =>
                  intro σ271 y270 h272 h273 h274 h275 h276 h277 h278 h279 h280 h281 h282 h283
                  refine En_Ps 2 (pc' := 85) (lv' := [(0, .ref 159), (1, .int z55)]) (st' := [.ref 159, .ref 159]) rfl ?_
                  refine En_getK (j := 8) h276 rfl rfl rfl tgz_159 (by decide +kernel) ?_
                  refine En_callV rfl rfl rfl rfl rfl rfl rfl rfl tgz_159 (by decide +kernel) rfl (c_313ax σ271 h272 y270 (geI rfl (by first | exact q_337a85e294 h277 | omega)) (leI rfl (by first | exact q_246f9048f8 h278 | omega)) z13 h274 (TPm_fr hT h273 (by decide +kernel))) (by decide) (by decide) (fun v285 σ286 h284 => ?_)
                  obtain ⟨h287, h288, z290, rfl, h289⟩ := h284
                  have h291 := h289.2.2.2.2
                  obtain rfl : σ271 = σ286 := Fr_nil h288
                  refine En_Ps 3 (pc' := 98) (lv' := [(0, .ref 159), (1, .int z55)]) (st' := [.long ((122 : Int64)), .long ((97 : Int64)), .long z290.toInt64]) rfl ?_
                  have : z290.toInt64.toInt = z290.toInt := (i2lI rfl)
                  have := (by decide : ((97 : Int64)).toInt = 97)
                  have := (by decide : ((122 : Int64)).toInt = 122)
                  refine En_callS rfl rfl rfl rfl rfl rfl rfl rfl rfl (c_249 σ271 h272 z290.toInt64 ((97 : Int64)) ((122 : Int64))) (by decide) (by decide) (fun v293 σ294 h292 => ?_)
                  obtain ⟨h295, h296, z298, rfl, h297⟩ := h292
                  obtain rfl : σ271 = σ294 := Fr_nil h296
                  refine En_iEq _ rfl rfl (fun h299 => ?_) (fun h299 => ?_)
                  · refine En_Ps 2 (pc' := 119) (lv' := [(0, .ref 159), (1, .int z55)]) (st' := [.int ((Int32.ofInt 1)), .ref 159]) rfl ?_
                    refine En_put (j := 10) rfl rfl rfl tgz_159 (by decide +kernel) rfl (vI (l := 0) (u := 4) (by decide +kernel) (by decide : (Int32.ofInt 1).toInt = 1) (by decide) (by decide)) h272 h273 (by decide +kernel) (fun σ300 h301 h302 h303 h304 => ?_)
                    refine En_Ps 1 (pc' := 239) (lv' := [(0, .ref 159), (1, .int z55)]) (st' := []) rfl ?_
                    have := (by decide : (Int32.ofInt 1).toInt = 1)
                    exact En_ret (v := none) rfl rfl rfl ⟨h301, h302, y270, ((h304 _ _ (Or.inr (by decide))).trans h276), (Int32.ofInt 1), h303, rfl, ⟨by first | exact q_43cac120cc h277 | omega, by first | exact q_5a08281576 h278 | omega, by first | exact q_850945eed1 h8 h263 h280 | omega, by decide, by decide, by first | exact q_5488d9fc23 h8 h263 h280 | omega, fun hh => by first | exact q_88763b3d99 h8 h263 h280 | omega, ⟨(TPm_fr hT h302 (by decide +kernel)), TKm_1 (y := y1.toInt) (e := y270.toInt) hT (by (first | exact q_58e6e51dcc hl_f | omega)) hf (by (first | exact q_58e6e51dcc h6 | omega)) (BL_no hT (by (first | exact q_58e6e51dcc h6 | omega)) (by (first | exact q_79a9335080 h24 h23 h43 h42 | omega)) h10) (by (first | exact q_deee28d121 h251 (i2lI rfl) h259.2.2.1 h261 h259.1 (by decide) (by decide) | omega)) (by (first | exact q_337a85e294 h277 | omega)) h282 (by omega) ((ci_at (j := 8) ((h304 _ _ (Or.inr (by decide))).trans h276) rfl).trans (by (first | exact q_61ddd2b576 | omega))) ((ci_at (j := 9) ((h304 _ _ (Or.inr (by decide))).trans h275) rfl).trans (by (first | exact q_61ddd2b576 | omega))) ((ci_at (j := 10) h303 rfl).trans (by (first | exact q_0bfa10f27c this | omega)))⟩⟩⟩
                  · have h305 := Imp_m h289.2.2.1 (by (first | exact q_440875ac0d (i2lI rfl) h297.2.2.1 h299 h297.1 (by decide) | omega))
                    have h306 := Imp_m h289.2.2.2.1 (by first | exact q_ef157b5a0e h305 | omega)
                    refine En_Ps 2 (pc' := 106) (lv' := [(0, .ref 159), (1, .int z55)]) (st' := [.ref 159, .ref 159]) rfl ?_
                    refine En_getK (j := 8) h276 rfl rfl rfl tgz_159 (by decide +kernel) ?_
                    refine En_Ps 2 (pc' := 111) (lv' := [(0, .ref 159), (1, .int z55)]) (st' := [.int ((y270 + ((Int32.ofInt 1)))), .ref 159]) rfl ?_
                    refine En_top (addI rfl (by decide : (Int32.ofInt 1).toInt = 1) (by first | exact q_e6d8d315b7 h277 | omega) (by first | exact q_1c9c6c18a7 h278 | omega)) (fun z307 h308 => ?_)
                    refine En_put (j := 8) rfl rfl rfl tgz_159 (by decide +kernel) rfl (vI (l := 0) (u := 1600) (by decide +kernel) rfl (by first | exact q_44c325ea65 h308 h277 | omega) (by first | exact q_02c0cd8258 h308 h305 h15 | omega)) h272 h273 (by decide +kernel) (fun σ309 h310 h311 h312 h313 => ?_)
                    have h314 := LT_go (y := y270.toInt) (z := z307.toInt) hT (by (first | exact q_337a85e294 h277 | omega)) (by (first | exact q_deee28d121 h291 (i2lI rfl) h297.2.2.1 h299 h297.1 (by decide) this | omega)) (by (first | exact q_ba1b2c713b h308 | omega))
                    refine En_Ps 1 (pc' := 83) (lv' := [(0, .ref 159), (1, .int z55)]) (st' := []) rfl ?_
                    exact ih83 σ309 z307 h310 h311 ((h313 _ _ (Or.inr (by decide))).trans h274) ((h313 _ _ (Or.inr (by decide))).trans h275) h312 (by first | exact q_7518dd5232 h308 h277 | omega) (by first | exact q_02c0cd8258 h308 h305 h15 | omega) (by first | exact q_d701165c21 h305 h308 | omega) (by first | exact q_3a5e225620 h280 h308 | omega) (by first | exact q_8d03a5a7cb h308 h281 | omega) (h314.1.trans h282) (h314.2)
              refine En_lv (lv := [(0, .ref 159), (1, .int z55)]) ⟨rfl, rfl, trivial⟩ ?_
              exact key83 (Int.toNat (z13.toInt - z262.toInt) + 1) σ264 z262 h265 h266 ((h268 _ _ (Or.inr (by decide))).trans ((h48 _ _ (Or.inr (by decide))).trans h12)) ((h268 _ _ (Or.inr (by decide))).trans h47) h267 (by first | exact q_246139cee3 h263 h6 | omega) (by first | exact q_02c0cd8258 h263 h58 h15 | omega) (by first | exact q_d701165c21 h58 h263 | omega) (by first | exact q_1bb76abeaf | omega) (by first | exact toN_lt _ | omega) (h269.1) (h269.2)
          · refine En_Ps 2 (pc' := 63) (lv' := [(1, .int z55), (0, .ref 159)]) (st' := [.int ((Int32.ofInt 0)), .ref 159]) rfl ?_
            refine En_put (j := 10) rfl rfl rfl tgz_159 (by decide +kernel) rfl (vI (l := 0) (u := 4) (by decide +kernel) (by decide : (Int32.ofInt 0).toInt = 0) (by decide) (by decide)) h45 h46 (by decide +kernel) (fun σ315 h316 h317 h318 h319 => ?_)
            refine En_Ps 1 (pc' := 239) (lv' := [(1, .int z55), (0, .ref 159)]) (st' := []) rfl ?_
            have := (by decide : (Int32.ofInt 0).toInt = 0)
            exact En_ret (v := none) rfl rfl rfl ⟨h316, h317, y1, ((h319 _ _ (Or.inr (by decide))).trans ((h48 _ _ (Or.inr (by decide))).trans h5)), (Int32.ofInt 0), h318, rfl, ⟨by first | exact q_c803b490ef h6 | omega, by first | exact q_5a08281576 h7 | omega, by first | exact q_10d278d690 h8 | omega, by decide, by decide, by first | exact q_f67127b06c h8 | omega, fun _ => by omega, ⟨(TPm_fr hT h317 (by decide +kernel)), TKm_0 (y := y1.toInt) hT (by (first | exact q_58e6e51dcc hl_f | omega)) hf (by (first | exact q_58e6e51dcc h6 | omega)) (BL_no hT (by (first | exact q_58e6e51dcc h6 | omega)) (by (first | exact q_020da9ea98 h56 h57 | omega)) h10) (by (first | exact q_4f0706bd15 h56 h57 | omega)) ((ci_at (j := 8) ((h319 _ _ (Or.inr (by decide))).trans ((h48 _ _ (Or.inr (by decide))).trans h5)) rfl).trans (by (first | exact q_61ddd2b576 | omega))) ((ci_at (j := 9) ((h319 _ _ (Or.inr (by decide))).trans h47) rfl).trans (by (first | exact q_61ddd2b576 | omega))) ((ci_at (j := 10) h318 rfl).trans (by (first | exact q_d2dcd30e56 this | omega)))⟩⟩⟩
        · have h320 := Imp_m h21.2.2.1 (by (first | exact q_8437cd0f86 h23 h42 h43 | omega))
          have h321 := Imp_m h21.2.2.2.1 (by first | exact q_ef157b5a0e h320 | omega)
          have h322 := Imp_m h40.2.2.1 (by first | exact q_6ce9b4f471 h43 | omega)
          have h323 := Imp_m h40.2.2.2.1 (by first | exact q_ef157b5a0e h320 | omega)
          refine En_Ps 2 (pc' := 28) (lv' := [(0, .ref 159)]) (st' := [.ref 159, .ref 159]) rfl ?_
          refine En_getK (j := 8) h5 rfl rfl rfl tgz_159 (by decide +kernel) ?_
          refine En_Ps 2 (pc' := 33) (lv' := [(0, .ref 159)]) (st' := [.int ((y1 + ((Int32.ofInt 1)))), .ref 159]) rfl ?_
          refine En_top (addI rfl (by decide : (Int32.ofInt 1).toInt = 1) (by first | exact q_465ab79ac1 h6 | omega) (by first | exact q_1c9c6c18a7 h7 | omega)) (fun z324 h325 => ?_)
          refine En_put (j := 8) rfl rfl rfl tgz_159 (by decide +kernel) rfl (vI (l := 0) (u := 1600) (by decide +kernel) rfl (by first | exact q_35104ce9d3 h325 h6 | omega) (by first | exact q_02c0cd8258 h325 h320 h15 | omega)) h3 h4 (by decide +kernel) (fun σ326 h327 h328 h329 h330 => ?_)
          have h331 := BL_go (y := y1.toInt) (z := z324.toInt) hT (by (first | exact q_58e6e51dcc h6 | omega)) (by (first | exact q_30b163132a h42 h43 | omega)) (by (first | exact q_ba1b2c713b h325 | omega)) h10
          refine En_Ps 1 (pc' := 0) (lv' := [(0, .ref 159)]) (st' := []) rfl ?_
          exact ih0 σ326 z324 h327 h328 h329 (by first | exact q_35104ce9d3 h325 h6 | omega) (by first | exact q_02c0cd8258 h325 h320 h15 | omega) (by first | exact q_3a5e225620 h8 h325 | omega) (by first | exact q_98eaa778fc h325 h9 | omega) (h331.1) (h331.2)
  exact key0 (Int.toNat (-f.toInt + 1600) + 1) σ0 f hσ0 hF0 h_f (by first | exact q_58e6e51dcc hl_f | omega) (by first | exact q_246f9048f8 hu_f | omega) (by first | exact q_1bb76abeaf | omega) (by first | exact toN_lt _ | omega) (rfl) (hf)
/-- DoorSchoolModel.isKnock(J)Z -/
abbrev P_259x (σ0 : SG) (a : Int64) (s : Int32) (sc : Int32) : PO := fun v σ => WT σ ∧ Fr [] σ0 σ ∧ ∃ ret : Int32, v = some (Value.int ret) ∧ -ret.toInt ≤ 0 ∧ ret.toInt - 1 ≤ 0 ∧ Imp (-ret.toInt + 1 ≤ 0) (-a.toInt ≤ 0 ∧ a.toInt - 15 ≤ 0) ∧ ((ret.toInt = 1 ∧ 0 < sc.toInt ∧ 0 ≤ a.toInt ∧ a.toInt < pI s.toInt) ∨ (ret.toInt = 0 ∧ (sc.toInt ≤ 0 ∨ a.toInt < 0 ∨ pI s.toInt ≤ a.toInt)))
set_option maxRecDepth 10000 in
set_option maxHeartbeats 4000000 in
theorem c_259x (σ0 : SG) (hσ0 : WT σ0) (a : Int64) (s : Int32) (h_s : (σ0 160)[(0 : Int).toNat]? = some (Value.int s)) (sc : Int32) (h_sc : (σ0 160)[(7 : Int).toNat]? = some (Value.int sc)) : En 2 40 none mr_259 (P_259x σ0 a s sc) 0 [(0, .ref 159), (1, .long a)] [] σ0 := by
  obtain ⟨hl_s, hu_s⟩ := WT_int hσ0 (g := 36) (by decide +kernel) (by decide +kernel) (l := 0) (u := 4) (by decide +kernel) h_s
  obtain ⟨hl_sc, hu_sc⟩ := WT_int hσ0 (g := 36) (by decide +kernel) (by decide +kernel) (l := 0) (u := 1600) (by decide +kernel) h_sc
  have hF0 : Fr [] σ0 σ0 := Fr_rfl
  have := kI_val sc.toInt s.toInt
  refine En_Ps 3 (pc' := 3) (lv' := [(0, .ref 159), (1, .long a)]) (st' := [.ref 159, .long ((Int64.ofNat 0)), .long a]) rfl ?_
  refine En_callV rfl rfl rfl rfl rfl rfl rfl rfl tgz_159 (by decide +kernel) rfl (c_269 σ0 hσ0 s h_s sc h_sc) (by decide) (by decide) (fun v2 σ3 h1 => ?_)
  obtain ⟨h4, h5, z7, rfl, h6⟩ := h1
  have h8 := h6.2.2
  have h9 := Fr_trans hF0 h5 (by decide +kernel)
  have h10 := h8
  refine En_Ps 2 (pc' := 8) (lv' := [(0, .ref 159), (1, .long a)]) (st' := [.int ((z7 - ((Int32.ofInt 1)))), .long ((Int64.ofNat 0)), .long a]) rfl ?_
  refine En_top (subI rfl (by decide : (Int32.ofInt 1).toInt = 1) (by first | exact q_89a3f9d69a h6.1 | omega) (by first | exact q_9b40fa289d h6.2.1 | omega)) (fun z11 h12 => ?_)
  refine En_Ps 1 (pc' := 9) (lv' := [(0, .ref 159), (1, .long a)]) (st' := [.long z11.toInt64, .long ((Int64.ofNat 0)), .long a]) rfl ?_
  have := (by decide : ((Int64.ofNat 0)).toInt = 0)
  have : z11.toInt64.toInt = z11.toInt := (i2lI rfl)
  refine En_callS rfl rfl rfl rfl rfl rfl rfl rfl rfl (c_249 σ3 h4 a ((Int64.ofNat 0)) z11.toInt64) (by decide) (by decide) (fun v14 σ15 h13 => ?_)
  obtain ⟨h16, h17, z19, rfl, h18⟩ := h13
  have h20 := Fr_trans h9 h17 (by decide +kernel)
  exact En_ret (v := some (Value.int z19)) rfl rfl (retZ rfl rfl (by first | exact q_ef1e8e38bf h18.1 | omega) (by first | exact q_733c8bfbae h18.2.1 | omega)) ⟨h16, h20, z19, rfl, ⟨by first | exact q_a555021d16 h18.1 | omega, by first | exact q_ad5b726bf8 h18.2.1 | omega, fun _ => by omega, (by omega)⟩⟩
/-- DoorSchoolModel.back(I)I -/
abbrev P_199x (σ0 : SG) (a : Int32) : PO := fun v σ => WT σ ∧ Fr [(36, 0)] σ0 σ ∧ ∃ ret : Int32, v = some (Value.int ret) ∧ -ret.toInt - 6 ≤ 0 ∧ ret.toInt ≤ 0 ∧ (WI σ ∧ BCK (ci σ0 162 a.toInt) a.toInt ret.toInt ∧ BKM σ0 σ a.toInt (ci σ0 162 a.toInt))
set_option maxRecDepth 10000 in
set_option maxHeartbeats 4000000 in
theorem c_199x (σ0 : SG) (hσ0 : WT σ0) (a : Int32) (hI : WI σ0) : En 1 25 none mr_199 (P_199x σ0 a) 0 [(0, .ref 159), (1, .int a)] [] σ0 := by
  have hF0 : Fr [(36, 0)] σ0 σ0 := Fr_rfl
  refine En_Ps 4 (pc' := 6) (lv' := [(0, .ref 159), (1, .int a)]) (st' := [.long ((2 : Int64)), .long ((Int64.ofNat 0)), .long a.toInt64]) rfl ?_
  have : a.toInt64.toInt = a.toInt := (i2lI rfl)
  have := (by decide : ((Int64.ofNat 0)).toInt = 0)
  have := (by decide : ((2 : Int64)).toInt = 2)
  refine En_callS rfl rfl rfl rfl rfl rfl rfl rfl rfl (c_249 σ0 hσ0 a.toInt64 ((Int64.ofNat 0)) ((2 : Int64))) (by decide) (by decide) (fun v2 σ3 h1 => ?_)
  obtain ⟨h4, h5, z7, rfl, h6⟩ := h1
  obtain rfl : σ0 = σ3 := Fr_nil h5
  refine En_iNe _ rfl rfl (fun h8 => ?_) (fun h8 => ?_)
  · refine En_Ps 1 (pc' := 16) (lv' := [(0, .ref 159), (1, .int a)]) (st' := [.ref 159]) rfl ?_
    refine En_getU (j := 3) (u := 162) (g' := 38) (q := 0) rfl rfl rfl tgz_159 (by decide +kernel) hσ0 (by decide +kernel) un_38_162 (fun h9 => ?_)
    refine En_Ps 1 (pc' := 20) (lv' := [(0, .ref 159), (1, .int a)]) (st' := [.int a, .ref 162]) rfl ?_
    refine En_bald (l := 0) (u := 1) rfl rfl tgz_162 (by decide +kernel) hσ0 (by (first | exact q_bf5288a390 (i2lI rfl) h6.2.2.1 h8 h6.1 (by decide) | omega)) (lnI (by decide +kernel : LN _ = 3) (by (first | exact q_d7cc092bca (i2lI rfl) h6.2.2.1 h8 h6.1 this | omega))) (FTsgl (by decide +kernel)) (fun z12 h11 h13 h14 => ?_)
    have h15 := ci_at h11 (rfl : a.toInt = a.toInt)
    refine En_iNe _ rfl rfl (fun h16 => ?_) (fun h16 => ?_)
    · refine En_Ps 2 (pc' := 29) (lv' := [(2, .int ((Int32.ofInt 0))), (0, .ref 159), (1, .int a)]) (st' := []) rfl ?_
      have key29 : ∀ (n29 : Nat) (σ18 : SG) (y17 : Int32), WT σ18 → Fr [(36, 0)] σ0 σ18 → (σ18 159)[3]? = some (Value.ref 162) → (σ18 162)[(a.toInt).toNat]? = some (Value.int z12) → 0 ≤ y17.toInt → y17.toInt ≤ 226 → -y17.toInt + 226 < (n29 : Int) → CPB σ0 σ18 a.toInt y17.toInt → En 1 25 none mr_199 (P_199x σ0 a) 29 [(0, .ref 159), (1, .int a), (2, .int y17)] [] σ18 := by
        intro n29
        induction n29 with
        | zero =>
          intro σ18 y17 h19 h20 h21 h22 h23 h24 h25 h26
          first | exact (q_93df7d31ea h25 h24).elim | (exfalso; omega)
        | succ n29 ih29 =>
          intro σ18 y17 h19 h20 h21 h22 h23 h24 h25 h26
          refine En_Ps 2 (pc' := 33) (lv' := [(0, .ref 159), (1, .int a), (2, .int y17)]) (st' := [.int (((Int16.ofInt 226).toInt32)), .int y17]) rfl ?_
          refine En_icGe _ rfl (by decide : ((Int16.ofInt 226).toInt32).toInt = 226) rfl (fun h27 => ?_) (fun h27 => ?_)
          · refine En_Ps 1 (pc' := 61) (lv' := [(0, .ref 159), (1, .int a), (2, .int y17)]) (st' := [.int ((Int32.ofInt 0))]) rfl ?_
            refine En_top (by decide : (Int32.ofInt 0).toInt = 0) (fun z28 h29 => ?_)
            exact En_ret (v := some (Value.int z28)) rfl rfl rfl ⟨h19, h20, z28, rfl, ⟨by first | exact q_49fb6350c2 h29 | omega, by first | exact q_c5d285f1b9 h29 | omega, ⟨CPB_x h26 (by (first | exact q_1eb83a62a2 h27 | omega)) h20 (by decide +kernel) (by (first | exact q_bf5288a390 (i2lI rfl) h6.2.2.1 h8 h6.1 (by decide) | omega)) (by (first | exact q_73000bb27b (i2lI rfl) h6.2.2.1 h8 h6.1 this | omega)) hI, BCK_0 (by (first | exact q_bf5288a390 (i2lI rfl) h6.2.2.1 h8 h6.1 (by decide) | omega)) (by (first | exact q_d52851690a (i2lI rfl) h6.2.2.1 h8 h6.1 this | omega)) (by (first | exact q_957696b956 h16 h13 h15 | omega)) (by (first | exact q_d2dcd30e56 h29 | omega)), BKM_ok h26 (by (first | exact q_1eb83a62a2 h27 | omega)) (by (first | exact q_bf5288a390 (i2lI rfl) h6.2.2.1 h8 h6.1 (by decide) | omega)) (by (first | exact q_73000bb27b (i2lI rfl) h6.2.2.1 h8 h6.1 this | omega)) (by (first | exact q_957696b956 h16 h13 h15 | omega))⟩⟩⟩
          · refine En_Ps 1 (pc' := 37) (lv' := [(0, .ref 159), (1, .int a), (2, .int y17)]) (st' := [.ref 159]) rfl ?_
            refine En_getU (j := 1) (u := 160) (g' := 36) (q := 0) rfl rfl rfl tgz_159 (by decide +kernel) h19 (by decide +kernel) un_36_160 (fun h30 => ?_)
            refine En_Ps 2 (pc' := 42) (lv' := [(0, .ref 159), (1, .int a), (2, .int y17)]) (st' := [.ref 159, .int y17, .ref 160]) rfl ?_
            refine En_getU (j := 2) (u := 161) (g' := 37) (q := 0) rfl rfl rfl tgz_159 (by decide +kernel) h19 (by decide +kernel) un_37_161 (fun h32 => ?_)
            refine En_Ps 3 (pc' := 50) (lv' := [(0, .ref 159), (1, .int a), (2, .int y17)]) (st' := [.int (((((Int16.ofInt 226).toInt32)) * a)), .ref 161, .int y17, .ref 160]) rfl ?_
            refine En_top (mulI (by decide : ((Int16.ofInt 226).toInt32).toInt = 226) rfl (Z := 226 * a.toInt) (by first | exact q_97a90f3e95 | omega) (by (first | exact q_b7eeb53960 (i2lI rfl) h6.2.2.1 h8 h6.1 (by decide) | omega)) (by (first | exact q_e3d776ae73 (i2lI rfl) h6.2.2.1 h8 h6.1 this | omega))) (fun z34 h35 => ?_)
            refine En_Ps 2 (pc' := 52) (lv' := [(0, .ref 159), (1, .int a), (2, .int y17)]) (st' := [.int ((z34 + y17)), .ref 161, .int y17, .ref 160]) rfl ?_
            refine En_top (addI rfl rfl (by (first | exact q_ea123480c6 h35 h23 (i2lI rfl) h6.2.2.1 h8 h6.1 (by decide) | omega)) (by (first | exact q_a69aa468bb h35 h27 (i2lI rfl) h6.2.2.1 h8 h6.1 this | omega))) (fun z36 h37 => ?_)
            refine En_ialdW (n := 678) rfl rfl tgz_161 (by decide +kernel) h19 (by (first | exact q_69dfb84a85 h37 h35 h23 (i2lI rfl) h6.2.2.1 h8 h6.1 (by decide) | omega)) (by decide +kernel) (by (first | exact q_e8169a5768 h37 h35 h27 (i2lI rfl) h6.2.2.1 h8 h6.1 this | omega)) aw_37 (fun z38 h39 h40 => ?_)
            refine En_iastW (n := 226) rfl rfl tgz_160 (by decide +kernel) (by (first | exact q_58e6e51dcc h23 | omega)) (by decide +kernel) (by (first | exact q_f7a270291b h27 | omega)) (ft_iw h40 (by (first | exact q_58e6e51dcc h23 | omega)) (by (first | exact q_01af86e644 h27 | omega)) (k := a.toInt) (by (first | exact q_bf5288a390 (i2lI rfl) h6.2.2.1 h8 h6.1 (by decide) | omega)) (by (first | exact q_d52851690a (i2lI rfl) h6.2.2.1 h8 h6.1 this | omega)) (by (first | exact q_442fa06b92 h37 h35 | omega))) h19 h20 (by decide +kernel) (fun σ41 h42 h43 h44 h45 => ?_)
            refine En_Ps 1 (pc' := 57) (lv' := [(2, .int ((y17 + Int32.ofInt 1))), (0, .ref 159), (1, .int a)]) (st' := []) rfl ?_
            refine En_lv1 (addI rfl (by decide : (Int32.ofInt 1).toInt = 1) (by first | exact q_465ab79ac1 h23 | omega) (by first | exact q_00ca1b1d9b h27 | omega)) (fun z46 h47 => ?_)
            refine En_Ps 1 (pc' := 29) (lv' := [(2, .int z46), (0, .ref 159), (1, .int a)]) (st' := []) rfl ?_
            refine En_lv (lv := [(0, .ref 159), (1, .int a), (2, .int z46)]) ⟨rfl, rfl, rfl, trivial⟩ ?_
            exact ih29 σ41 z46 h42 h43 ((h45 _ _ (Or.inl (neTG tgz_159 tgz_160 (by decide)))).trans h21) ((h45 _ _ (Or.inl (neTG tgz_162 tgz_160 (by decide)))).trans h22) (by first | exact q_35104ce9d3 h47 h23 | omega) (by first | exact q_5bd245720d h47 h27 | omega) (by first | exact q_6929b92474 h47 h25 | omega) (CPB_s h26 h20 (by decide +kernel) h39 h44 h45 (by (first | exact q_442fa06b92 h37 h35 | omega)) (by (first | exact q_58e6e51dcc h23 | omega)) (by (first | exact q_ba1b2c713b h47 | omega)))
      have := (by decide : (Int32.ofInt 0).toInt = 0)
      refine En_lv (lv := [(0, .ref 159), (1, .int a), (2, .int ((Int32.ofInt 0)))]) ⟨rfl, rfl, rfl, trivial⟩ ?_
      exact key29 (Int.toNat (226) + 1) σ0 ((Int32.ofInt 0)) hσ0 hF0 h9 h11 (by decide) (by decide) (by first | exact toN_lt _ | omega) (CPB_0 (by decide))
    · refine En_Ps 1 (pc' := 26) (lv' := [(0, .ref 159), (1, .int a)]) (st' := [.int (((Int8.ofInt (-6)).toInt32))]) rfl ?_
      refine En_top (by decide : ((Int8.ofInt (-6)).toInt32).toInt = -6) (fun z48 h49 => ?_)
      exact En_ret (v := some (Value.int z48)) rfl rfl rfl ⟨hσ0, hF0, z48, rfl, ⟨by first | exact q_597c727cce h49 | omega, by first | exact q_9bcb887de1 h49 | omega, ⟨hI, BCK_6 (by (first | exact q_bf5288a390 (i2lI rfl) h6.2.2.1 h8 h6.1 (by decide) | omega)) (by (first | exact q_d52851690a (i2lI rfl) h6.2.2.1 h8 h6.1 this | omega)) (by (first | exact q_ca23768860 h15 h16 | omega)) (by (first | exact q_d14eb9a8ad h49 | omega)), BKM_no (by (first | exact q_7c49b01a76 h15 h16 | omega))⟩⟩⟩
  · refine En_Ps 1 (pc' := 14) (lv' := [(0, .ref 159), (1, .int a)]) (st' := [.int (((Int8.ofInt (-2)).toInt32))]) rfl ?_
    refine En_top (by decide : ((Int8.ofInt (-2)).toInt32).toInt = -2) (fun z50 h51 => ?_)
    exact En_ret (v := some (Value.int z50)) rfl rfl rfl ⟨hσ0, hF0, z50, rfl, ⟨by first | exact q_2583522324 h51 | omega, by first | exact q_bbb39ffa1e h51 | omega, ⟨hI, BCK_2 (by (first | exact q_f8900e1be4 (by decide) (i2lI rfl) h6.2.2.2 h8 this | omega)) (by (first | exact q_a664922815 h51 | omega)), BKM_no (by (first | exact q_44f4ae642a (by decide) (i2lI rfl) h6.2.2.2 h8 this | omega))⟩⟩⟩
/-- DoorSchoolModel.isCopied(I)Z -/
abbrev P_253x (σ0 : SG) (a : Int32) : PO := fun v σ => WT σ ∧ Fr [] σ0 σ ∧ ∃ ret : Int32, v = some (Value.int ret) ∧ -ret.toInt ≤ 0 ∧ ret.toInt - 1 ≤ 0 ∧ Imp (ret.toInt - 1 ≤ 0 ∧ -ret.toInt + 1 ≤ 0) (-a.toInt - 1 ≤ 0 ∧ a.toInt - 3 ≤ 0) ∧ ret.toInt = cpI (wf σ0) a.toInt
set_option maxRecDepth 10000 in
set_option maxHeartbeats 4000000 in
theorem c_253x (σ0 : SG) (hσ0 : WT σ0) (a : Int32) : En 1 22 none mr_253 (P_253x σ0 a) 0 [(0, .ref 159), (1, .int a)] [] σ0 := by
  have hF0 : Fr [] σ0 σ0 := Fr_rfl
  refine En_Ps 2 (pc' := 2) (lv' := [(2, .int ((Int32.ofInt 0))), (0, .ref 159), (1, .int a)]) (st' := []) rfl ?_
  have key2 : ∀ (n2 : Nat) (y1 : Int32), 0 ≤ y1.toInt → y1.toInt ≤ 4 → -y1.toInt + 4 < (n2 : Int) → NCw (wf σ0) a.toInt y1.toInt → En 1 22 none mr_253 (P_253x σ0 a) 2 [(0, .ref 159), (1, .int a), (2, .int y1)] [] σ0 := by
    intro n2
    induction n2 with
    | zero =>
      intro y1 h5 h6 h7 h8
      first | exact (q_20d6385c6f h7 h6).elim | (exfalso; omega)
    | succ n2 ih2 =>
      intro y1 h5 h6 h7 h8
      refine En_Ps 2 (pc' := 4) (lv' := [(0, .ref 159), (1, .int a), (2, .int y1)]) (st' := [.ref 159, .int y1]) rfl ?_
      refine En_getU (j := 1) (u := 160) (g' := 36) (q := 0) rfl rfl rfl tgz_159 (by decide +kernel) hσ0 (by decide +kernel) un_36_160 (fun h9 => ?_)
      refine En_Ps 1 (pc' := 8) (lv' := [(0, .ref 159), (1, .int a), (2, .int y1)]) (st' := [.int ((Int32.ofInt 2)), .ref 160, .int y1]) rfl ?_
      refine En_iald (l := 0) (u := 4) rfl (by decide : (Int32.ofInt 2).toInt = 2) tgz_160 (by decide +kernel) hσ0 (by decide) (lnI (by decide +kernel : LN _ = 226) (by decide)) (by decide +kernel) (fun z12 h11 h13 h14 => ?_)
      have w15 : wf σ0 (2) = z12.toInt := ci_at h11 (by (first | decide | omega))
      refine En_icGe _ rfl rfl rfl (fun h16 => ?_) (fun h16 => ?_)
      · refine En_Ps 1 (pc' := 31) (lv' := [(0, .ref 159), (1, .int a), (2, .int y1)]) (st' := [.int ((Int32.ofInt 0))]) rfl ?_
        refine En_top (by decide : (Int32.ofInt 0).toInt = 0) (fun z17 h18 => ?_)
        exact En_ret (v := some (Value.int z17)) rfl rfl (retZ rfl rfl (by first | exact q_55451d0a83 h18 | omega) (by first | exact q_87849c3859 h18 | omega)) ⟨hσ0, hF0, z17, rfl, ⟨by first | exact q_097a37c2ae h18 | omega, by first | exact q_e269517bee h18 | omega, fun _ => by omega, CPw_n h8 (by (first | exact q_130eb18579 h16 w15 | omega)) (by (first | exact q_d2dcd30e56 h18 | omega))⟩⟩
      · refine En_Ps 3 (pc' := 15) (lv' := [(0, .ref 159), (1, .int a), (2, .int y1)]) (st' := [.int ((Int32.ofInt 3)), .int y1, .ref 159]) rfl ?_
        have := (by decide : ((Int32.ofInt 3)).toInt = 3)
        obtain ⟨z19, h20, h21, h22⟩ := WT_peekJ (J := (4 * y1.toInt + ((Int32.ofInt 3)).toInt + 10)) (l := (-1)) (u := 3) hσ0 tgz_160 (by decide +kernel) (by (first | exact q_f1d5518f63 this h5 | omega)) (lnI (by decide +kernel : LN _ = 226) (by (first | exact q_ce7f503cee this h6 | omega))) (FTrow 36 13 4 4 (by decide +kernel) (by (first | exact q_ec4f5af3d7 this h5 | omega)) (by (first | exact q_0098712842 this h16 h14 | omega)) (by omega))
        have := (by decide : ((Int32.ofInt 3)).toInt = 3)
        refine En_callV rfl rfl rfl rfl rfl rfl rfl rfl tgz_159 (by decide +kernel) rfl (c_290d σ0 hσ0 y1 ((Int32.ofInt 3)) (geI rfl (by first | exact q_58e6e51dcc h5 | omega)) (leI rfl (by first | exact q_5ab2e90ecc h16 h14 | omega)) (geI (by decide : (Int32.ofInt 3).toInt = 3) (by decide)) (leI (by decide : (Int32.ofInt 3).toInt = 3) (by decide)) z19 h20) (by decide) (by decide) (fun v24 σ25 h23 => ?_)
        obtain ⟨h26, h27, z29, rfl, h28⟩ := h23
        obtain rfl : σ0 = σ25 := Fr_nil h27
        refine En_Ps 1 (pc' := 19) (lv' := [(0, .ref 159), (1, .int a), (2, .int y1)]) (st' := [.int a, .int z29]) rfl ?_
        have w30 : wf σ0 (13 + 4 * y1.toInt) = z19.toInt := ci_at h20 (by (first | exact q_34b19986a7 this | omega))
        refine En_icNe _ rfl rfl rfl (fun h31 => ?_) (fun h31 => ?_)
        · refine En_Ps 1 (pc' := 27) (lv' := [(2, .int ((y1 + Int32.ofInt 1))), (0, .ref 159), (1, .int a)]) (st' := []) rfl ?_
          refine En_lv1 (addI rfl (by decide : (Int32.ofInt 1).toInt = 1) (by first | exact q_465ab79ac1 h5 | omega) (by first | exact q_f7282962fd h6 | omega)) (fun z32 h33 => ?_)
          refine En_Ps 1 (pc' := 2) (lv' := [(2, .int z32), (0, .ref 159), (1, .int a)]) (st' := []) rfl ?_
          refine En_lv (lv := [(0, .ref 159), (1, .int a), (2, .int z32)]) ⟨rfl, rfl, rfl, trivial⟩ ?_
          exact ih2 z32 (by first | exact q_35104ce9d3 h33 h5 | omega) (by first | exact q_de42116b63 h33 h16 h14 | omega) (by first | exact q_3d8d70ace2 h33 h7 | omega) (NCw_s (y := y1.toInt) h8 (by have q0 := w30; rw [show (13 : Int) + 4 * y1.toInt = 13 + 4 * y1.toInt by (first | exact q_1667932b23 | omega), q0]; (first | exact q_fdcb89e2dd h31 h28.2.2.2 h28.2.2.1 | omega)) (by (first | exact q_ba1b2c713b h33 | omega)))
        · refine En_Ps 1 (pc' := 23) (lv' := [(0, .ref 159), (1, .int a), (2, .int y1)]) (st' := [.int ((Int32.ofInt 1))]) rfl ?_
          refine En_top (by decide : (Int32.ofInt 1).toInt = 1) (fun z34 h35 => ?_)
          exact En_ret (v := some (Value.int z34)) rfl rfl (retZ rfl rfl (by first | exact q_2b07c97645 h35 | omega) (by first | exact q_d9e7cbb253 h35 | omega)) ⟨hσ0, hF0, z34, rfl, ⟨by first | exact q_ad3eee31ca h35 | omega, by first | exact q_81cf297dc4 h35 | omega, fun hh => by first | exact ⟨q_b340b46ac0 h31 h28.1, q_df5159a1fd h31 h28.2.1⟩ | omega, CPw_1 (y := y1.toInt) (by (first | exact q_58e6e51dcc h5 | omega)) (by (first | exact q_4cbdceccfe h16 w15 | omega)) (by (first | exact q_f0aa810593 w15 h14 | omega)) (by rw [show (13 : Int) + 4 * y1.toInt = 13 + 4 * y1.toInt by (first | exact q_1667932b23 | omega), w30]; (first | exact q_38e408ddf6 h31 h28.2.2.1 h28.2.2.2 | omega)) (by (first | exact q_0bfa10f27c h35 | omega))⟩⟩
  have := (by decide : (Int32.ofInt 0).toInt = 0)
  refine En_lv (lv := [(0, .ref 159), (1, .int a), (2, .int ((Int32.ofInt 0)))]) ⟨rfl, rfl, rfl, trivial⟩ ?_
  exact key2 (Int.toNat (4) + 1) ((Int32.ofInt 0)) (by decide) (by decide) (by first | exact toN_lt _ | omega) (fun q q0 q1 => by (first | exact q_4a3c5b87cf q1 q0 this | omega))
/-- DoorSchoolModel.copy(II)I -/
abbrev P_205x (σ0 : SG) (a : Int32) (b : Int32) : PO := fun v σ => WT σ ∧ Fr [(36, 0)] σ0 σ ∧ ∃ ret : Int32, v = some (Value.int ret) ∧ -ret.toInt - 5 ≤ 0 ∧ ret.toInt - 3 ≤ 0 ∧ (SAM (wf σ0) (wf σ) ∧ (∀ i : Int, 0 ≤ i → i < 226 → wf σ i = cyW (wf σ0) a.toInt b.toInt i))
set_option maxRecDepth 10000 in
set_option maxHeartbeats 4000000 in
theorem c_205x (σ0 : SG) (hσ0 : WT σ0) (a : Int32) (b : Int32) (hT : TWN (wf σ0)) : En 2 46 none mr_205 (P_205x σ0 a b) 0 [(0, .ref 159), (1, .int a), (2, .int b)] [] σ0 := by
  have hF0 : Fr [(36, 0)] σ0 σ0 := Fr_rfl
  refine En_Ps 2 (pc' := 2) (lv' := [(0, .ref 159), (1, .int a), (2, .int b)]) (st' := [.int a, .ref 159]) rfl ?_
  obtain ⟨z2, h1, h3, h4⟩ := WT_peekI hσ0 tgz_160 (by decide +kernel : FT 36 (2 : Int).toNat = (0, 0, 4)) (by decide +kernel)
  refine En_callV rfl rfl rfl rfl rfl rfl rfl rfl tgz_159 (by decide +kernel) rfl (c_254 σ0 hσ0 a z2 h1) (by decide) (by decide) (fun v6 σ7 h5 => ?_)
  obtain ⟨h8, h9, z11, rfl, h10⟩ := h5
  obtain rfl : σ0 = σ7 := Fr_nil h9
  have w12 : wf σ0 (2) = z2.toInt := ci_at h1 (by (first | decide | omega))
  refine En_iEq _ rfl rfl (fun h13 => ?_) (fun h13 => ?_)
  · refine En_Ps 1 (pc' := 28) (lv' := [(0, .ref 159), (1, .int a), (2, .int b)]) (st' := [.int (((Int8.ofInt (-2)).toInt32))]) rfl ?_
    refine En_top (by decide : ((Int8.ofInt (-2)).toInt32).toInt = -2) (fun z14 h15 => ?_)
    exact En_ret (v := some (Value.int z14)) rfl rfl rfl ⟨hσ0, hF0, z14, rfl, ⟨by first | exact q_f1982a04c6 h15 | omega, by first | exact q_09eb541a79 h15 | omega, ⟨fun _ _ => rfl, cyMn (by omega)⟩⟩⟩
  · refine En_Ps 2 (pc' := 10) (lv' := [(0, .ref 159), (1, .int a), (2, .int b)]) (st' := [.int ((Int32.ofInt (-1))), .int b]) rfl ?_
    refine En_icEq _ rfl (by decide : (Int32.ofInt (-1)).toInt = -1) rfl (fun h16 => ?_) (fun h16 => ?_)
    · refine En_Ps 2 (pc' := 23) (lv' := [(0, .ref 159), (1, .int a), (2, .int b)]) (st' := [.int b, .int a]) rfl ?_
      refine En_icNe _ rfl rfl rfl (fun h17 => ?_) (fun hx => by exfalso; (first | exact q_b872781753 h10.2.2.1 h13 h10.1 hx h16 | omega))
      refine En_Ps 2 (pc' := 31) (lv' := [(0, .ref 159), (1, .int a), (2, .int b)]) (st' := [.int ((Int32.ofInt (-1))), .int b]) rfl ?_
      refine En_icEq _ rfl (by decide : (Int32.ofInt (-1)).toInt = -1) rfl (fun h18 => ?_) (fun hx => by first | exact (q_9d3c087e80 hx h16).elim | (exfalso; omega))
      refine En_Ps 3 (pc' := 58) (lv' := [(0, .ref 159), (1, .int a), (2, .int b)]) (st' := [.int ((Int32.ofInt 3)), .int a, .ref 159]) rfl ?_
      have := (by decide : ((Int32.ofInt 3)).toInt = 3)
      obtain ⟨z19, h20, h21, h22⟩ := WT_peekJ (J := (4 * a.toInt + ((Int32.ofInt 3)).toInt + 10)) (l := (-1)) (u := 3) hσ0 tgz_160 (by decide +kernel) (by (first | exact q_cc42c75917 this h10.2.2.1 h13 h10.1 | omega)) (lnI (by decide +kernel : LN _ = 226) (by (first | exact q_877be54b71 this h10.2.2.2.2 h10.2.1 h13 h10.1 | omega))) (FTrow 36 13 4 4 (by decide +kernel) (by (first | exact q_7f3d4718c0 this h10.2.2.1 h13 h10.1 | omega)) (by (first | exact q_541448b862 this h10.2.2.2.2 h10.2.1 h13 h10.1 | omega)) (by omega))
      have := (by decide : ((Int32.ofInt 3)).toInt = 3)
      refine En_callV rfl rfl rfl rfl rfl rfl rfl rfl tgz_159 (by decide +kernel) rfl (c_290d σ0 hσ0 a ((Int32.ofInt 3)) (geI rfl (by (first | exact q_bf8258001b h10.2.2.1 h13 h10.1 | omega))) (leI rfl (by (first | exact q_88b0c3c731 h10.2.2.1 h13 h10.1 h4 | omega))) (geI (by decide : (Int32.ofInt 3).toInt = 3) (by decide)) (leI (by decide : (Int32.ofInt 3).toInt = 3) (by decide)) z19 h20) (by decide) (by decide) (fun v24 σ25 h23 => ?_)
      obtain ⟨h26, h27, z29, rfl, h28⟩ := h23
      obtain rfl : σ0 = σ25 := Fr_nil h27
      refine En_Ps 2 (pc' := 63) (lv' := [(3, .int z29), (0, .ref 159), (1, .int a), (2, .int b)]) (st' := [.ref 159]) rfl ?_
      refine En_getU (j := 1) (u := 160) (g' := 36) (q := 0) rfl rfl rfl tgz_159 (by decide +kernel) hσ0 (by decide +kernel) un_36_160 (fun h30 => ?_)
      refine En_Ps 4 (pc' := 71) (lv' := [(3, .int z29), (0, .ref 159), (1, .int a), (2, .int b)]) (st' := [.int ((((Int32.ofInt 4)) * a)), .int (((Int8.ofInt 10).toInt32)), .ref 160]) rfl ?_
      refine En_top (mulI (by decide : (Int32.ofInt 4).toInt = 4) rfl (Z := 4 * a.toInt) (by first | exact q_8696eb12a7 | omega) (by (first | exact q_17b26f6ac2 h10.2.2.1 h13 h10.1 | omega)) (by (first | exact q_0e2f933f9c h10.2.2.2.2 h10.2.1 h13 h10.1 | omega))) (fun z32 h33 => ?_)
      refine En_Ps 1 (pc' := 72) (lv' := [(3, .int z29), (0, .ref 159), (1, .int a), (2, .int b)]) (st' := [.int (((((Int8.ofInt 10).toInt32)) + z32)), .ref 160]) rfl ?_
      refine En_top (addI (by decide : ((Int8.ofInt 10).toInt32).toInt = 10) rfl (by (first | exact q_7a87566369 h33 h10.2.2.1 h13 h10.1 | omega)) (by (first | exact q_418341a107 h33 h10.2.2.2.2 h10.2.1 h13 h10.1 | omega))) (fun z34 h35 => ?_)
      refine En_Ps 2 (pc' := 74) (lv' := [(3, .int z29), (0, .ref 159), (1, .int a), (2, .int b)]) (st' := [.int ((z34 + ((Int32.ofInt 3)))), .ref 160]) rfl ?_
      refine En_top (addI rfl (by decide : (Int32.ofInt 3).toInt = 3) (by (first | exact q_99086e8629 h35 h33 h10.2.2.1 h13 h10.1 | omega)) (by (first | exact q_267abab4cf h35 h33 h10.2.2.2.2 h10.2.1 h13 h10.1 | omega))) (fun z36 h37 => ?_)
      refine En_Ps 1 (pc' := 75) (lv' := [(3, .int z29), (0, .ref 159), (1, .int a), (2, .int b)]) (st' := [.int b, .int z36, .ref 160]) rfl ?_
      have w38 : wf σ0 (13 + 4 * a.toInt) = z19.toInt := ci_at h20 (by (first | exact q_34b19986a7 this | omega))
      refine En_iast (l := (-1)) (u := 3) rfl rfl tgz_160 (by decide +kernel) (by (first | exact q_0828fbbafe h37 h35 h33 h10.2.2.1 h13 h10.1 | omega)) (lnI (by decide +kernel : LN _ = 226) (by (first | exact q_682c2af394 h37 h35 h33 h10.2.2.2.2 h10.2.1 h13 h10.1 | omega))) (FTrow 36 13 4 4 (by decide +kernel) (by (first | exact q_d4e9076a60 h37 h35 h33 h10.2.2.1 h13 h10.1 | omega)) (by (first | exact q_ea88d07cfa h37 h35 h33 h10.2.2.2.2 h10.2.1 h13 h10.1 | omega)) (by first | exact q_090c32d68c h33 h35 h37 | omega)) (rngI rfl (by first | exact q_2252655278 h16 | omega) (by first | exact q_c8445ed0b4 h16 | omega)) hσ0 hF0 (by decide +kernel) (fun σ39 h40 h41 h42 h43 => ?_)
      refine En_Ps 1 (pc' := 77) (lv' := [(3, .int z29), (0, .ref 159), (1, .int a), (2, .int b)]) (st' := [.int z29]) rfl ?_
      exact En_ret (v := some (Value.int z29)) rfl rfl rfl ⟨h40, h41, z29, rfl, ⟨by first | exact q_7a76f1b347 h28.1 | omega, by first | exact q_c733b715bf h28.2.1 | omega, ⟨fun i hi => (by rw [show wf _ i = ci _ 160 i from rfl, ci_st h42 h43 (by (first | exact q_0828fbbafe h37 h35 h33 h10.2.2.1 h13 h10.1 | omega)) i (by (first | exact q_2ef998e52d hi | omega)), if_neg (by omega)]; rfl), cyM hT (by (first | exact q_f0aa810593 w12 h4 | omega)) (fun i hi => (by rw [show wf _ i = ci _ 160 i from rfl, ci_st h42 h43 (by (first | exact q_0828fbbafe h37 h35 h33 h10.2.2.1 h13 h10.1 | omega)) i hi]; rfl)) (by (first | exact q_bf8258001b h10.2.2.1 h13 h10.1 | omega)) (by (first | exact q_b5763561eb h10.2.2.1 h13 h10.1 w12 | omega)) (by (first | exact q_b8b77837bb h17 | omega)) (by (first | exact q_0b61ca95be h18 | omega)) (by (first | exact q_297f473975 h37 h35 h33 | omega)) rfl⟩⟩⟩
    · refine En_Ps 2 (pc' := 15) (lv' := [(0, .ref 159), (1, .int a), (2, .int b)]) (st' := [.int b, .ref 159]) rfl ?_
      refine En_callV rfl rfl rfl rfl rfl rfl rfl rfl tgz_159 (by decide +kernel) rfl (c_254 σ0 hσ0 b z2 h1) (by decide) (by decide) (fun v45 σ46 h44 => ?_)
      obtain ⟨h47, h48, z50, rfl, h49⟩ := h44
      obtain rfl : σ0 = σ46 := Fr_nil h48
      refine En_iEq _ rfl rfl (fun h51 => ?_) (fun h51 => ?_)
      · refine En_Ps 1 (pc' := 28) (lv' := [(0, .ref 159), (1, .int a), (2, .int b)]) (st' := [.int (((Int8.ofInt (-2)).toInt32))]) rfl ?_
        refine En_top (by decide : ((Int8.ofInt (-2)).toInt32).toInt = -2) (fun z52 h53 => ?_)
        exact En_ret (v := some (Value.int z52)) rfl rfl rfl ⟨hσ0, hF0, z52, rfl, ⟨by first | exact q_f1982a04c6 h53 | omega, by first | exact q_09eb541a79 h53 | omega, ⟨fun _ _ => rfl, cyMn (by omega)⟩⟩⟩
      · refine En_Ps 2 (pc' := 23) (lv' := [(0, .ref 159), (1, .int a), (2, .int b)]) (st' := [.int b, .int a]) rfl ?_
        refine En_icNe _ rfl rfl rfl (fun h54 => ?_) (fun h54 => ?_)
        · refine En_Ps 2 (pc' := 31) (lv' := [(0, .ref 159), (1, .int a), (2, .int b)]) (st' := [.int ((Int32.ofInt (-1))), .int b]) rfl ?_
          refine En_icEq _ rfl (by decide : (Int32.ofInt (-1)).toInt = -1) rfl (fun hx => by exfalso; (first | exact q_6c958583b3 h49.2.2.1 h51 h49.1 hx | omega)) (fun h55 => ?_)
          refine En_Ps 3 (pc' := 37) (lv' := [(0, .ref 159), (1, .int a), (2, .int b)]) (st' := [.int ((Int32.ofInt 3)), .int b, .ref 159]) rfl ?_
          have := (by decide : ((Int32.ofInt 3)).toInt = 3)
          obtain ⟨z56, h57, h58, h59⟩ := WT_peekJ (J := (4 * b.toInt + ((Int32.ofInt 3)).toInt + 10)) (l := (-1)) (u := 3) hσ0 tgz_160 (by decide +kernel) (by (first | exact q_cc42c75917 this h49.2.2.1 h51 h49.1 | omega)) (lnI (by decide +kernel : LN _ = 226) (by (first | exact q_877be54b71 this h49.2.2.2.2 h49.2.1 h51 h49.1 | omega))) (FTrow 36 13 4 4 (by decide +kernel) (by (first | exact q_7f3d4718c0 this h49.2.2.1 h51 h49.1 | omega)) (by (first | exact q_541448b862 this h49.2.2.2.2 h49.2.1 h51 h49.1 | omega)) (by omega))
          have := (by decide : ((Int32.ofInt 3)).toInt = 3)
          refine En_callV rfl rfl rfl rfl rfl rfl rfl rfl tgz_159 (by decide +kernel) rfl (c_290d σ0 hσ0 b ((Int32.ofInt 3)) (geI rfl (by (first | exact q_6443107eaf h49.2.2.1 h51 h49.1 h55 | omega))) (leI rfl (by (first | exact q_88b0c3c731 h49.2.2.1 h51 h49.1 h4 | omega))) (geI (by decide : (Int32.ofInt 3).toInt = 3) (by decide)) (leI (by decide : (Int32.ofInt 3).toInt = 3) (by decide)) z56 h57) (by decide) (by decide) (fun v61 σ62 h60 => ?_)
          obtain ⟨h63, h64, z66, rfl, h65⟩ := h60
          obtain rfl : σ0 = σ62 := Fr_nil h64
          refine En_Ps 1 (pc' := 41) (lv' := [(0, .ref 159), (1, .int a), (2, .int b)]) (st' := [.int ((Int32.ofInt (-1))), .int z66]) rfl ?_
          have w67 : wf σ0 (13 + 4 * b.toInt) = z56.toInt := ci_at h57 (by (first | exact q_34b19986a7 this | omega))
          refine En_icNe _ rfl (by decide : (Int32.ofInt (-1)).toInt = -1) rfl (fun h68 => ?_) (fun h68 => ?_)
          · refine En_Ps 1 (pc' := 54) (lv' := [(0, .ref 159), (1, .int a), (2, .int b)]) (st' := [.int (((Int8.ofInt (-5)).toInt32))]) rfl ?_
            refine En_top (by decide : ((Int8.ofInt (-5)).toInt32).toInt = -5) (fun z69 h70 => ?_)
            exact En_ret (v := some (Value.int z69)) rfl rfl rfl ⟨hσ0, hF0, z69, rfl, ⟨by first | exact q_715ce6bb90 h70 | omega, by first | exact q_08e77983b4 h70 | omega, ⟨fun _ _ => rfl, cyMn (by omega)⟩⟩⟩
          · refine En_Ps 2 (pc' := 46) (lv' := [(0, .ref 159), (1, .int a), (2, .int b)]) (st' := [.int a, .ref 159]) rfl ?_
            refine En_callV rfl rfl rfl rfl rfl rfl rfl rfl tgz_159 (by decide +kernel) rfl (c_253x σ0 hσ0 a) (by decide) (by decide) (fun v72 σ73 h71 => ?_)
            obtain ⟨h74, h75, z77, rfl, h76⟩ := h71
            have h78 := h76.2.2.2
            obtain rfl : σ0 = σ73 := Fr_nil h75
            have h79 : z77.toInt = cpI (wf σ0) a.toInt := h78
            refine En_iEq _ rfl rfl (fun h80 => ?_) (fun h80 => ?_)
            · refine En_Ps 3 (pc' := 58) (lv' := [(0, .ref 159), (1, .int a), (2, .int b)]) (st' := [.int ((Int32.ofInt 3)), .int a, .ref 159]) rfl ?_
              have := (by decide : ((Int32.ofInt 3)).toInt = 3)
              obtain ⟨z81, h82, h83, h84⟩ := WT_peekJ (J := (4 * a.toInt + ((Int32.ofInt 3)).toInt + 10)) (l := (-1)) (u := 3) hσ0 tgz_160 (by decide +kernel) (by (first | exact q_cc42c75917 this h10.2.2.1 h13 h10.1 | omega)) (lnI (by decide +kernel : LN _ = 226) (by (first | exact q_877be54b71 this h10.2.2.2.2 h10.2.1 h13 h10.1 | omega))) (FTrow 36 13 4 4 (by decide +kernel) (by (first | exact q_7f3d4718c0 this h10.2.2.1 h13 h10.1 | omega)) (by (first | exact q_541448b862 this h10.2.2.2.2 h10.2.1 h13 h10.1 | omega)) (by omega))
              have := (by decide : ((Int32.ofInt 3)).toInt = 3)
              refine En_callV rfl rfl rfl rfl rfl rfl rfl rfl tgz_159 (by decide +kernel) rfl (c_290d σ0 hσ0 a ((Int32.ofInt 3)) (geI rfl (by (first | exact q_bf8258001b h10.2.2.1 h13 h10.1 | omega))) (leI rfl (by (first | exact q_88b0c3c731 h10.2.2.1 h13 h10.1 h4 | omega))) (geI (by decide : (Int32.ofInt 3).toInt = 3) (by decide)) (leI (by decide : (Int32.ofInt 3).toInt = 3) (by decide)) z81 h82) (by decide) (by decide) (fun v86 σ87 h85 => ?_)
              obtain ⟨h88, h89, z91, rfl, h90⟩ := h85
              obtain rfl : σ0 = σ87 := Fr_nil h89
              refine En_Ps 2 (pc' := 63) (lv' := [(3, .int z91), (0, .ref 159), (1, .int a), (2, .int b)]) (st' := [.ref 159]) rfl ?_
              refine En_getU (j := 1) (u := 160) (g' := 36) (q := 0) rfl rfl rfl tgz_159 (by decide +kernel) hσ0 (by decide +kernel) un_36_160 (fun h92 => ?_)
              refine En_Ps 4 (pc' := 71) (lv' := [(3, .int z91), (0, .ref 159), (1, .int a), (2, .int b)]) (st' := [.int ((((Int32.ofInt 4)) * a)), .int (((Int8.ofInt 10).toInt32)), .ref 160]) rfl ?_
              refine En_top (mulI (by decide : (Int32.ofInt 4).toInt = 4) rfl (Z := 4 * a.toInt) (by first | exact q_8696eb12a7 | omega) (by (first | exact q_17b26f6ac2 h10.2.2.1 h13 h10.1 | omega)) (by (first | exact q_0e2f933f9c h10.2.2.2.2 h10.2.1 h13 h10.1 | omega))) (fun z94 h95 => ?_)
              refine En_Ps 1 (pc' := 72) (lv' := [(3, .int z91), (0, .ref 159), (1, .int a), (2, .int b)]) (st' := [.int (((((Int8.ofInt 10).toInt32)) + z94)), .ref 160]) rfl ?_
              refine En_top (addI (by decide : ((Int8.ofInt 10).toInt32).toInt = 10) rfl (by (first | exact q_7a87566369 h95 h10.2.2.1 h13 h10.1 | omega)) (by (first | exact q_418341a107 h95 h10.2.2.2.2 h10.2.1 h13 h10.1 | omega))) (fun z96 h97 => ?_)
              refine En_Ps 2 (pc' := 74) (lv' := [(3, .int z91), (0, .ref 159), (1, .int a), (2, .int b)]) (st' := [.int ((z96 + ((Int32.ofInt 3)))), .ref 160]) rfl ?_
              refine En_top (addI rfl (by decide : (Int32.ofInt 3).toInt = 3) (by (first | exact q_99086e8629 h97 h95 h10.2.2.1 h13 h10.1 | omega)) (by (first | exact q_267abab4cf h97 h95 h10.2.2.2.2 h10.2.1 h13 h10.1 | omega))) (fun z98 h99 => ?_)
              refine En_Ps 1 (pc' := 75) (lv' := [(3, .int z91), (0, .ref 159), (1, .int a), (2, .int b)]) (st' := [.int b, .int z98, .ref 160]) rfl ?_
              have w100 : wf σ0 (13 + 4 * a.toInt) = z81.toInt := ci_at h82 (by (first | exact q_34b19986a7 this | omega))
              refine En_iast (l := (-1)) (u := 3) rfl rfl tgz_160 (by decide +kernel) (by (first | exact q_0828fbbafe h99 h97 h95 h10.2.2.1 h13 h10.1 | omega)) (lnI (by decide +kernel : LN _ = 226) (by (first | exact q_682c2af394 h99 h97 h95 h10.2.2.2.2 h10.2.1 h13 h10.1 | omega))) (FTrow 36 13 4 4 (by decide +kernel) (by (first | exact q_d4e9076a60 h99 h97 h95 h10.2.2.1 h13 h10.1 | omega)) (by (first | exact q_ea88d07cfa h99 h97 h95 h10.2.2.2.2 h10.2.1 h13 h10.1 | omega)) (by first | exact q_090c32d68c h95 h97 h99 | omega)) (rngI rfl (by (first | exact q_9b4a9bfe92 h49.2.2.1 h51 h49.1 | omega)) (by (first | exact q_88b0c3c731 h49.2.2.1 h51 h49.1 h4 | omega))) hσ0 hF0 (by decide +kernel) (fun σ101 h102 h103 h104 h105 => ?_)
              refine En_Ps 1 (pc' := 77) (lv' := [(3, .int z91), (0, .ref 159), (1, .int a), (2, .int b)]) (st' := [.int z91]) rfl ?_
              exact En_ret (v := some (Value.int z91)) rfl rfl rfl ⟨h102, h103, z91, rfl, ⟨by first | exact q_7a76f1b347 h90.1 | omega, by first | exact q_c733b715bf h90.2.1 | omega, ⟨fun i hi => (by rw [show wf _ i = ci _ 160 i from rfl, ci_st h104 h105 (by (first | exact q_0828fbbafe h99 h97 h95 h10.2.2.1 h13 h10.1 | omega)) i (by (first | exact q_2ef998e52d hi | omega)), if_neg (by omega)]; rfl), cyM hT (by (first | exact q_f0aa810593 w12 h4 | omega)) (fun i hi => (by rw [show wf _ i = ci _ 160 i from rfl, ci_st h104 h105 (by (first | exact q_0828fbbafe h99 h97 h95 h10.2.2.1 h13 h10.1 | omega)) i hi]; rfl)) (by (first | exact q_bf8258001b h10.2.2.1 h13 h10.1 | omega)) (by (first | exact q_b5763561eb h10.2.2.1 h13 h10.1 w12 | omega)) (by (first | exact q_b8b77837bb h54 | omega)) (by (first | exact q_e591bd0e3d w67 h65.2.2.2 h49.2.2.1 h51 h49.1 w12 h58 h79 h80 h68 | omega)) (by (first | exact q_297f473975 h99 h97 h95 | omega)) rfl⟩⟩⟩
            · have h106 := Imp_m h76.2.2.1 (by first | exact ⟨q_ad5b726bf8 h76.2.1, q_e3350da514 h80 h76.1⟩ | omega)
              refine En_Ps 1 (pc' := 54) (lv' := [(0, .ref 159), (1, .int a), (2, .int b)]) (st' := [.int (((Int8.ofInt (-5)).toInt32))]) rfl ?_
              refine En_top (by decide : ((Int8.ofInt (-5)).toInt32).toInt = -5) (fun z107 h108 => ?_)
              exact En_ret (v := some (Value.int z107)) rfl rfl rfl ⟨hσ0, hF0, z107, rfl, ⟨by first | exact q_715ce6bb90 h108 | omega, by first | exact q_08e77983b4 h108 | omega, ⟨fun _ _ => rfl, cyMn (by omega)⟩⟩⟩
        · refine En_Ps 1 (pc' := 28) (lv' := [(0, .ref 159), (1, .int a), (2, .int b)]) (st' := [.int (((Int8.ofInt (-2)).toInt32))]) rfl ?_
          refine En_top (by decide : ((Int8.ofInt (-2)).toInt32).toInt = -2) (fun z109 h110 => ?_)
          exact En_ret (v := some (Value.int z109)) rfl rfl rfl ⟨hσ0, hF0, z109, rfl, ⟨by first | exact q_f1982a04c6 h110 | omega, by first | exact q_09eb541a79 h110 | omega, ⟨fun _ _ => rfl, cyMn (by omega)⟩⟩⟩
/-- DoorSchoolModel.is(Ljava/lang/String;)Z -/
abbrev P_251gx (iL : Nat) (σ0 : SG) (By : Int → Int) (Nb : Int) (Sp : PS) : PO := fun v σ => WT σ ∧ Fr [] σ0 σ ∧ ∃ ret : Int32, v = some (Value.int ret) ∧ -ret.toInt ≤ 0 ∧ ret.toInt - 1 ≤ 0 ∧ ret.toInt = iW By Nb iL Sp
set_option maxRecDepth 10000 in
set_option maxHeartbeats 4000000 in
theorem c_251gx (iL nL : Nat) (gn : (decide (iL < NSTR) && decide (LENS.getD iL 0 = nL)) = true) (gN : (Int32.ofNat nL).toInt = (nL : Int)) (gL : (LW iL).length = nL) (g1 : 1 ≤ nL) (g9 : nL ≤ 20) {By : Int → Int} {Nb : Int} {Sp : PS} (σ0 : SG) (hσ0 : WT σ0) (hM : ML By Nb σ0 Sp) : En 4 90 none mr_251 (P_251gx iL σ0 By Nb Sp) 0 [(0, .ref 159), (1, .retAddr (2 * iL + 1))] [] σ0 := by
  have hF0 : Fr [] σ0 σ0 := Fr_rfl
  obtain ⟨z2, h1, h3, h4⟩ := WT_peekI hσ0 tgz_159 (by decide +kernel : FT 35 12 = (0, 0, 3)) (by decide +kernel)
  obtain ⟨z6, h5, h7, h8⟩ := WT_peekI hσ0 tgz_159 (by decide +kernel : FT 35 10 = (0, 0, 4)) (by decide +kernel)
  obtain ⟨z10, h9, h11, h12⟩ := WT_peekI hσ0 tgz_159 (by decide +kernel : FT 35 8 = (0, 0, 1600)) (by decide +kernel)
  obtain ⟨z14, h13, h15, h16⟩ := WT_peekI hσ0 tgz_159 (by decide +kernel : FT 35 9 = (0, 0, 1600)) (by decide +kernel)
  have h17 := ML_k hM h1
  have h18 : Imp (Sp.1 = 0) (tK By Nb Sp.2.2.1 = z6.toInt) := ML_t hM h5
  have h19 := ML_fa hM h9 h13
  refine En_Ps 1 (pc' := 1) (lv' := [(0, .ref 159), (1, .retAddr (2 * iL + 1))]) (st' := [.ref 159]) rfl ?_
  refine En_callV rfl rfl rfl rfl rfl rfl rfl rfl tgz_159 (by decide +kernel) rfl (c_237 σ0 hσ0 z2 h1) (by decide) (by decide) (fun v21 σ22 h20 => ?_)
  obtain ⟨h23, h24, z26, rfl, h25⟩ := h20
  obtain rfl : σ0 = σ22 := Fr_nil h24
  refine En_iEq _ rfl rfl (fun h27 => ?_) (fun h27 => ?_)
  · refine En_Ps 4 (pc' := 39) (lv' := [(3, .int ((Int32.ofInt 0))), (2, .int ((Int32.ofInt 0))), (0, .ref 159), (1, .retAddr (2 * iL + 1))]) (st' := []) rfl ?_
    have key39 : ∀ (n39 : Nat) (σ30 : SG) (y28 : Int32) (y29 : Int32), WT σ30 → Fr [] σ0 σ30 → (σ30 159)[12]? = some (Value.int z2) → (σ30 159)[10]? = some (Value.int z6) → (σ30 159)[8]? = some (Value.int z10) → (σ30 159)[9]? = some (Value.int z14) → 0 ≤ y28.toInt → y28.toInt ≤ 0 → 0 ≤ y29.toInt → y29.toInt ≤ 0 → z2.toInt - y28.toInt < (n39 : Int) → ISQ By Nb iL Sp y28.toInt y29.toInt → En 4 90 none mr_251 (P_251gx iL σ0 By Nb Sp) 39 [(0, .ref 159), (1, .retAddr (2 * iL + 1)), (2, .int y28), (3, .int y29)] [] σ30 := by
      intro n39
      induction n39 with
      | zero =>
        intro σ30 y28 y29 h31 h32 h33 h34 h35 h36 h37 h38 h39 h40 h41 h42
        exfalso; (first | exact q_e47ff01f30 h41 h38 h3 | omega)
      | succ n39 ih39 =>
        intro σ30 y28 y29 h31 h32 h33 h34 h35 h36 h37 h38 h39 h40 h41 h42
        refine En_Ps 2 (pc' := 41) (lv' := [(0, .ref 159), (1, .retAddr (2 * iL + 1)), (2, .int y28), (3, .int y29)]) (st' := [.retAddr (2 * iL + 1), .int y29]) rfl ?_
        refine En_slen iL nL rfl rfl gn rfl ?_
        refine En_icGe _ rfl gN rfl (fun hx => by exfalso; omega) (fun h43 => ?_)
        refine En_Ps 1 (pc' := 48) (lv' := [(0, .ref 159), (1, .retAddr (2 * iL + 1)), (2, .int y28), (3, .int y29)]) (st' := [.int y28]) rfl ?_
        refine En_iEq _ rfl rfl (fun h44 => ?_) (fun hx => by exfalso; (first | exact q_657d6467ef hx h37 h38 | omega))
        refine En_Ps 1 (pc' := 83) (lv' := [(0, .ref 159), (1, .retAddr (2 * iL + 1)), (2, .int y28), (3, .int y29)]) (st' := [.int y28]) rfl ?_
        exact En_ret (v := some (Value.int y28)) rfl rfl (retZ rfl rfl (by (first | exact q_55451d0a83 h44 | omega)) (by (first | exact q_87849c3859 h44 | omega))) ⟨h31, h32, y28, rfl, ⟨by (first | exact q_097a37c2ae h44 | omega), by (first | exact q_e269517bee h44 | omega), ISQ_x h42 (by simp only [gL]; omega)⟩⟩
    have := (by decide : (Int32.ofInt 0).toInt = 0)
    have := (by decide : (Int32.ofInt 0).toInt = 0)
    refine En_lv (lv := [(0, .ref 159), (1, .retAddr (2 * iL + 1)), (2, .int ((Int32.ofInt 0))), (3, .int ((Int32.ofInt 0)))]) ⟨rfl, rfl, rfl, rfl, trivial⟩ ?_
    exact key39 (Int.toNat (z2.toInt) + 1) σ0 ((Int32.ofInt 0)) ((Int32.ofInt 0)) hσ0 hF0 h1 h5 h9 h13 (by (first | exact q_55451d0a83 (by decide) | omega)) (by (first | exact q_c5d285f1b9 (by decide) | omega)) (by (first | exact q_55451d0a83 (by decide) | omega)) (by (first | exact q_c5d285f1b9 (by decide) | omega)) (by omega) (ISQ_s (by decide) (by (try have i0 := Imp_m h18 (by omega)); simp only [gL]; omega))
  · refine En_Ps 1 (pc' := 8) (lv' := [(0, .ref 159), (1, .retAddr (2 * iL + 1))]) (st' := [.ref 159]) rfl ?_
    refine En_getK (j := 10) h5 rfl rfl rfl tgz_159 (by decide +kernel) ?_
    refine En_Ps 1 (pc' := 12) (lv' := [(0, .ref 159), (1, .retAddr (2 * iL + 1))]) (st' := [.int ((Int32.ofInt 1)), .int z6]) rfl ?_
    refine En_icNe _ rfl (by decide : (Int32.ofInt 1).toInt = 1) rfl (fun h45 => ?_) (fun h45 => ?_)
    · refine En_Ps 4 (pc' := 39) (lv' := [(3, .int ((Int32.ofInt 0))), (2, .int ((Int32.ofInt 0))), (0, .ref 159), (1, .retAddr (2 * iL + 1))]) (st' := []) rfl ?_
      have key39 : ∀ (n39 : Nat) (σ48 : SG) (y46 : Int32) (y47 : Int32), WT σ48 → Fr [] σ0 σ48 → (σ48 159)[12]? = some (Value.int z2) → (σ48 159)[10]? = some (Value.int z6) → (σ48 159)[8]? = some (Value.int z10) → (σ48 159)[9]? = some (Value.int z14) → 0 ≤ y46.toInt → y46.toInt ≤ 0 → 0 ≤ y47.toInt → y47.toInt ≤ 0 → z2.toInt - y46.toInt < (n39 : Int) → ISQ By Nb iL Sp y46.toInt y47.toInt → En 4 90 none mr_251 (P_251gx iL σ0 By Nb Sp) 39 [(0, .ref 159), (1, .retAddr (2 * iL + 1)), (2, .int y46), (3, .int y47)] [] σ48 := by
        intro n39
        induction n39 with
        | zero =>
          intro σ48 y46 y47 h49 h50 h51 h52 h53 h54 h55 h56 h57 h58 h59 h60
          exfalso; (first | exact q_e47ff01f30 h59 h56 h3 | omega)
        | succ n39 ih39 =>
          intro σ48 y46 y47 h49 h50 h51 h52 h53 h54 h55 h56 h57 h58 h59 h60
          refine En_Ps 2 (pc' := 41) (lv' := [(0, .ref 159), (1, .retAddr (2 * iL + 1)), (2, .int y46), (3, .int y47)]) (st' := [.retAddr (2 * iL + 1), .int y47]) rfl ?_
          refine En_slen iL nL rfl rfl gn rfl ?_
          refine En_icGe _ rfl gN rfl (fun hx => by exfalso; omega) (fun h61 => ?_)
          refine En_Ps 1 (pc' := 48) (lv' := [(0, .ref 159), (1, .retAddr (2 * iL + 1)), (2, .int y46), (3, .int y47)]) (st' := [.int y46]) rfl ?_
          refine En_iEq _ rfl rfl (fun h62 => ?_) (fun hx => by exfalso; (first | exact q_657d6467ef hx h55 h56 | omega))
          refine En_Ps 1 (pc' := 83) (lv' := [(0, .ref 159), (1, .retAddr (2 * iL + 1)), (2, .int y46), (3, .int y47)]) (st' := [.int y46]) rfl ?_
          exact En_ret (v := some (Value.int y46)) rfl rfl (retZ rfl rfl (by (first | exact q_55451d0a83 h62 | omega)) (by (first | exact q_87849c3859 h62 | omega))) ⟨h49, h50, y46, rfl, ⟨by (first | exact q_097a37c2ae h62 | omega), by (first | exact q_e269517bee h62 | omega), ISQ_x h60 (by simp only [gL]; omega)⟩⟩
      have := (by decide : (Int32.ofInt 0).toInt = 0)
      have := (by decide : (Int32.ofInt 0).toInt = 0)
      refine En_lv (lv := [(0, .ref 159), (1, .retAddr (2 * iL + 1)), (2, .int ((Int32.ofInt 0))), (3, .int ((Int32.ofInt 0)))]) ⟨rfl, rfl, rfl, rfl, trivial⟩ ?_
      exact key39 (Int.toNat (z2.toInt) + 1) σ0 ((Int32.ofInt 0)) ((Int32.ofInt 0)) hσ0 hF0 h1 h5 h9 h13 (by (first | exact q_55451d0a83 (by decide) | omega)) (by (first | exact q_c5d285f1b9 (by decide) | omega)) (by (first | exact q_55451d0a83 (by decide) | omega)) (by (first | exact q_c5d285f1b9 (by decide) | omega)) (by omega) (ISQ_s (by decide) (by (try have i0 := Imp_m h18 (by (first | exact q_4c9c2433b9 h17 h3 h25.2.2.1 h27 h25.1 | omega))); simp only [gL]; omega))
    · refine En_Ps 1 (pc' := 16) (lv' := [(0, .ref 159), (1, .retAddr (2 * iL + 1))]) (st' := [.ref 159]) rfl ?_
      refine En_getK (j := 8) h9 rfl rfl rfl tgz_159 (by decide +kernel) ?_
      refine En_Ps 1 (pc' := 20) (lv' := [(0, .ref 159), (1, .retAddr (2 * iL + 1))]) (st' := [.ref 159, .int z10]) rfl ?_
      refine En_getK (j := 9) h13 rfl rfl rfl tgz_159 (by decide +kernel) ?_
      refine En_Ps 1 (pc' := 24) (lv' := [(0, .ref 159), (1, .retAddr (2 * iL + 1))]) (st' := [.int ((z10 - z14))]) rfl ?_
      refine En_top (subI rfl rfl (by (first | exact q_263332819c h16 h11 | omega)) (by (first | exact q_cd9bb0c6c6 h15 h12 | omega))) (fun z63 h64 => ?_)
      refine En_Ps 1 (pc' := 25) (lv' := [(0, .ref 159), (1, .retAddr (2 * iL + 1))]) (st' := [.retAddr (2 * iL + 1), .int z63]) rfl ?_
      refine En_slen iL nL rfl rfl gn rfl ?_
      refine En_icNe _ rfl gN rfl (fun h65 => ?_) (fun h65 => ?_)
      · refine En_Ps 4 (pc' := 39) (lv' := [(3, .int ((Int32.ofInt 0))), (2, .int ((Int32.ofInt 0))), (0, .ref 159), (1, .retAddr (2 * iL + 1))]) (st' := []) rfl ?_
        have key39 : ∀ (n39 : Nat) (σ68 : SG) (y66 : Int32) (y67 : Int32), WT σ68 → Fr [] σ0 σ68 → (σ68 159)[12]? = some (Value.int z2) → (σ68 159)[10]? = some (Value.int z6) → (σ68 159)[8]? = some (Value.int z10) → (σ68 159)[9]? = some (Value.int z14) → 0 ≤ y66.toInt → y66.toInt ≤ 0 → 0 ≤ y67.toInt → y67.toInt ≤ 0 → z2.toInt - y66.toInt < (n39 : Int) → ISQ By Nb iL Sp y66.toInt y67.toInt → En 4 90 none mr_251 (P_251gx iL σ0 By Nb Sp) 39 [(0, .ref 159), (1, .retAddr (2 * iL + 1)), (2, .int y66), (3, .int y67)] [] σ68 := by
          intro n39
          induction n39 with
          | zero =>
            intro σ68 y66 y67 h69 h70 h71 h72 h73 h74 h75 h76 h77 h78 h79 h80
            exfalso; (first | exact q_e47ff01f30 h79 h76 h3 | omega)
          | succ n39 ih39 =>
            intro σ68 y66 y67 h69 h70 h71 h72 h73 h74 h75 h76 h77 h78 h79 h80
            refine En_Ps 2 (pc' := 41) (lv' := [(0, .ref 159), (1, .retAddr (2 * iL + 1)), (2, .int y66), (3, .int y67)]) (st' := [.retAddr (2 * iL + 1), .int y67]) rfl ?_
            refine En_slen iL nL rfl rfl gn rfl ?_
            refine En_icGe _ rfl gN rfl (fun hx => by exfalso; omega) (fun h81 => ?_)
            refine En_Ps 1 (pc' := 48) (lv' := [(0, .ref 159), (1, .retAddr (2 * iL + 1)), (2, .int y66), (3, .int y67)]) (st' := [.int y66]) rfl ?_
            refine En_iEq _ rfl rfl (fun h82 => ?_) (fun hx => by exfalso; (first | exact q_657d6467ef hx h75 h76 | omega))
            refine En_Ps 1 (pc' := 83) (lv' := [(0, .ref 159), (1, .retAddr (2 * iL + 1)), (2, .int y66), (3, .int y67)]) (st' := [.int y66]) rfl ?_
            exact En_ret (v := some (Value.int y66)) rfl rfl (retZ rfl rfl (by (first | exact q_55451d0a83 h82 | omega)) (by (first | exact q_87849c3859 h82 | omega))) ⟨h69, h70, y66, rfl, ⟨by (first | exact q_097a37c2ae h82 | omega), by (first | exact q_e269517bee h82 | omega), ISQ_x h80 (by simp only [gL]; omega)⟩⟩
        have := (by decide : (Int32.ofInt 0).toInt = 0)
        have := (by decide : (Int32.ofInt 0).toInt = 0)
        refine En_lv (lv := [(0, .ref 159), (1, .retAddr (2 * iL + 1)), (2, .int ((Int32.ofInt 0))), (3, .int ((Int32.ofInt 0)))]) ⟨rfl, rfl, rfl, rfl, trivial⟩ ?_
        exact key39 (Int.toNat (z2.toInt) + 1) σ0 ((Int32.ofInt 0)) ((Int32.ofInt 0)) hσ0 hF0 h1 h5 h9 h13 (by (first | exact q_55451d0a83 (by decide) | omega)) (by (first | exact q_c5d285f1b9 (by decide) | omega)) (by (first | exact q_55451d0a83 (by decide) | omega)) (by (first | exact q_c5d285f1b9 (by decide) | omega)) (by omega) (ISQ_s (by decide) (by (try have i0 := Imp_m h18 (by (first | exact q_4c9c2433b9 h17 h3 h25.2.2.1 h27 h25.1 | omega))); simp only [gL]; omega))
      · refine En_Ps 5 (pc' := 39) (lv' := [(3, .int ((Int32.ofInt 0))), (2, .int ((Int32.ofInt 1))), (0, .ref 159), (1, .retAddr (2 * iL + 1))]) (st' := []) rfl ?_
        have key39 : ∀ (n39 : Nat) (σ85 : SG) (y83 : Int32) (y84 : Int32), WT σ85 → Fr [] σ0 σ85 → (σ85 159)[12]? = some (Value.int z2) → (σ85 159)[10]? = some (Value.int z6) → (σ85 159)[8]? = some (Value.int z10) → (σ85 159)[9]? = some (Value.int z14) → 0 ≤ y83.toInt → y83.toInt ≤ 1 → 0 ≤ y84.toInt → y84.toInt ≤ nL → z10.toInt - y84.toInt < (n39 : Int) → ISQ By Nb iL Sp y83.toInt y84.toInt → En 4 90 none mr_251 (P_251gx iL σ0 By Nb Sp) 39 [(0, .ref 159), (1, .retAddr (2 * iL + 1)), (2, .int y83), (3, .int y84)] [] σ85 := by
          intro n39
          induction n39 with
          | zero =>
            intro σ85 y83 y84 h86 h87 h88 h89 h90 h91 h92 h93 h94 h95 h96 h97
            exfalso; omega
          | succ n39 ih39 =>
            intro σ85 y83 y84 h86 h87 h88 h89 h90 h91 h92 h93 h94 h95 h96 h97
            refine En_Ps 2 (pc' := 41) (lv' := [(0, .ref 159), (1, .retAddr (2 * iL + 1)), (2, .int y83), (3, .int y84)]) (st' := [.retAddr (2 * iL + 1), .int y84]) rfl ?_
            refine En_slen iL nL rfl rfl gn rfl ?_
            refine En_icGe _ rfl gN rfl (fun h98 => ?_) (fun h98 => ?_)
            · refine En_Ps 1 (pc' := 83) (lv' := [(0, .ref 159), (1, .retAddr (2 * iL + 1)), (2, .int y83), (3, .int y84)]) (st' := [.int y83]) rfl ?_
              exact En_ret (v := some (Value.int y83)) rfl rfl (retZ rfl rfl (by (first | exact q_58e6e51dcc h92 | omega)) (by (first | exact q_9d0c30f9c5 h93 | omega))) ⟨h86, h87, y83, rfl, ⟨by (first | exact q_c803b490ef h92 | omega), by (first | exact q_a83e15e6ad h93 | omega), ISQ_x h97 (by simp only [gL]; omega)⟩⟩
            · refine En_Ps 1 (pc' := 48) (lv' := [(0, .ref 159), (1, .retAddr (2 * iL + 1)), (2, .int y83), (3, .int y84)]) (st' := [.int y83]) rfl ?_
              refine En_iEq _ rfl rfl (fun h99 => ?_) (fun h99 => ?_)
              · refine En_Ps 1 (pc' := 83) (lv' := [(0, .ref 159), (1, .retAddr (2 * iL + 1)), (2, .int y83), (3, .int y84)]) (st' := [.int y83]) rfl ?_
                exact En_ret (v := some (Value.int y83)) rfl rfl (retZ rfl rfl (by (first | exact q_55451d0a83 h99 | omega)) (by (first | exact q_87849c3859 h99 | omega))) ⟨h86, h87, y83, rfl, ⟨by (first | exact q_097a37c2ae h99 | omega), by (first | exact q_e269517bee h99 | omega), ISQ_x h97 (by simp only [gL]; omega)⟩⟩
              · refine En_Ps 1 (pc' := 52) (lv' := [(0, .ref 159), (1, .retAddr (2 * iL + 1)), (2, .int y83), (3, .int y84)]) (st' := [.ref 159]) rfl ?_
                refine En_getU (j := 4) (u := 163) (g' := 39) (q := 0) rfl rfl rfl tgz_159 (by decide +kernel) h86 (by decide +kernel) un_39_163 (fun h100 => ?_)
                refine En_Ps 1 (pc' := 56) (lv' := [(0, .ref 159), (1, .retAddr (2 * iL + 1)), (2, .int y83), (3, .int y84)]) (st' := [.ref 159, .ref 163]) rfl ?_
                refine En_getK (j := 9) h91 rfl rfl rfl tgz_159 (by decide +kernel) ?_
                refine En_Ps 2 (pc' := 61) (lv' := [(0, .ref 159), (1, .retAddr (2 * iL + 1)), (2, .int y83), (3, .int y84)]) (st' := [.int ((z14 + y84)), .ref 163]) rfl ?_
                refine En_top (addI rfl rfl (by (first | exact q_2da77528c2 h94 h15 | omega)) (by omega)) (fun z102 h103 => ?_)
                refine En_bald (l := (-128)) (u := 127) rfl rfl tgz_163 (by decide +kernel) h86 (by (first | exact q_7b8a1c11b3 h103 h94 h15 | omega)) (lnI (by decide +kernel : LN _ = 1600) (by omega)) (FTsgl (by decide +kernel)) (fun z105 h104 h106 h107 => ?_)
                refine En_Ps 2 (pc' := 64) (lv' := [(0, .ref 159), (1, .retAddr (2 * iL + 1)), (2, .int y83), (3, .int y84)]) (st' := [.int y84, .retAddr (2 * iL + 1), .int z105]) rfl ?_
                refine En_scharX iL nL rfl rfl rfl gn (by (first | exact q_58e6e51dcc h94 | omega)) (by omega) rfl (fun z108 h109 h110 h111 => ?_)
                refine En_icNe _ rfl rfl rfl (fun h112 => ?_) (fun h112 => ?_)
                · refine En_Ps 3 (pc' := 79) (lv' := [(3, .int ((y84 + Int32.ofInt 1))), (2, .int ((Int32.ofInt 0))), (0, .ref 159), (1, .retAddr (2 * iL + 1))]) (st' := []) rfl ?_
                  refine En_lv1 (addI rfl (by decide : (Int32.ofInt 1).toInt = 1) (by (first | exact q_465ab79ac1 h94 | omega)) (by omega)) (fun z113 h114 => ?_)
                  refine En_Ps 1 (pc' := 39) (lv' := [(3, .int z113), (2, .int ((Int32.ofInt 0))), (0, .ref 159), (1, .retAddr (2 * iL + 1))]) (st' := []) rfl ?_
                  have := (by decide : (Int32.ofInt 0).toInt = 0)
                  refine En_lv (lv := [(0, .ref 159), (1, .retAddr (2 * iL + 1)), (2, .int ((Int32.ofInt 0))), (3, .int z113)]) ⟨rfl, rfl, rfl, rfl, trivial⟩ ?_
                  exact ih39 σ85 ((Int32.ofInt 0)) z113 h86 h87 h88 h89 h90 h91 (by (first | exact q_55451d0a83 this | omega)) (by (first | exact q_87849c3859 this | omega)) (by (first | exact q_35104ce9d3 h114 h94 | omega)) (by omega) (by omega) (ISQ_n (ML_fr hM h87 (by decide +kernel)) h97 (by (first | exact q_f13d7d62c0 h99 h92 h93 | omega)) (by simp only [gL]; omega) (fun _ => by (first | exact q_c91012496a h19 h17 h3 h25.2.2.1 h27 h25.1 h103 | omega)) h104 h111 (by (first | exact q_ba1b2c713b h114 | omega)) (by (first | exact q_c224f93f27 h112 this | omega)))
                · refine En_Ps 4 (pc' := 79) (lv' := [(3, .int ((y84 + Int32.ofInt 1))), (2, .int ((Int32.ofInt 1))), (0, .ref 159), (1, .retAddr (2 * iL + 1))]) (st' := []) rfl ?_
                  refine En_lv1 (addI rfl (by decide : (Int32.ofInt 1).toInt = 1) (by (first | exact q_465ab79ac1 h94 | omega)) (by omega)) (fun z115 h116 => ?_)
                  refine En_Ps 1 (pc' := 39) (lv' := [(3, .int z115), (2, .int ((Int32.ofInt 1))), (0, .ref 159), (1, .retAddr (2 * iL + 1))]) (st' := []) rfl ?_
                  have := (by decide : (Int32.ofInt 1).toInt = 1)
                  refine En_lv (lv := [(0, .ref 159), (1, .retAddr (2 * iL + 1)), (2, .int ((Int32.ofInt 1))), (3, .int z115)]) ⟨rfl, rfl, rfl, rfl, trivial⟩ ?_
                  exact ih39 σ85 ((Int32.ofInt 1)) z115 h86 h87 h88 h89 h90 h91 (by (first | exact q_2b07c97645 this | omega)) (by (first | exact q_d9e7cbb253 this | omega)) (by (first | exact q_35104ce9d3 h116 h94 | omega)) (by omega) (by omega) (ISQ_n (ML_fr hM h87 (by decide +kernel)) h97 (by (first | exact q_f13d7d62c0 h99 h92 h93 | omega)) (by simp only [gL]; omega) (fun _ => by (first | exact q_c91012496a h19 h17 h3 h25.2.2.1 h27 h25.1 h103 | omega)) h104 h111 (by (first | exact q_ba1b2c713b h116 | omega)) (by (first | exact q_5f4bf827f4 this h112 | omega)))
        have := (by decide : (Int32.ofInt 1).toInt = 1)
        have := (by decide : (Int32.ofInt 0).toInt = 0)
        refine En_lv (lv := [(0, .ref 159), (1, .retAddr (2 * iL + 1)), (2, .int ((Int32.ofInt 1))), (3, .int ((Int32.ofInt 0)))]) ⟨rfl, rfl, rfl, rfl, trivial⟩ ?_
        exact key39 (Int.toNat (z10.toInt) + 1) σ0 ((Int32.ofInt 1)) ((Int32.ofInt 0)) hσ0 hF0 h1 h5 h9 h13 (by (first | exact q_2b07c97645 (by decide) | omega)) (by (first | exact q_d9e7cbb253 (by decide) | omega)) (by (first | exact q_55451d0a83 this | omega)) (by omega) (by omega) (ISQ_s (by decide) (by (try have i0 := Imp_m h18 (by (first | exact q_4c9c2433b9 h17 h3 h25.2.2.1 h27 h25.1 | omega))); simp only [gL]; omega))
end
/-! 32.m01 -/
section
/-- DoorSchoolModel.is(Ljava/lang/String;)Z -/
abbrev P_251s0x (σ0 : SG) (By : Int → Int) (Nb : Int) (Sp : PS) : PO := fun v σ => WT σ ∧ Fr [] σ0 σ ∧ ∃ ret : Int32, v = some (Value.int ret) ∧ -ret.toInt ≤ 0 ∧ ret.toInt - 1 ≤ 0 ∧ ret.toInt = iW By Nb 0 Sp
set_option maxRecDepth 10000 in
set_option maxHeartbeats 4000000 in
theorem c_251s0x {By : Int → Int} {Nb : Int} {Sp : PS} (σ0 : SG) (hσ0 : WT σ0) (hM : ML By Nb σ0 Sp) : En 4 90 none mr_251 (P_251s0x σ0 By Nb Sp) 0 [(0, .ref 159), (1, .retAddr 1)] [] σ0 := c_251gx 0 5 (by decide) (by decide) (by decide) (by decide) (by decide) σ0 hσ0 hM
/-- DoorSchoolModel.is(Ljava/lang/String;)Z -/
abbrev P_251s1x (σ0 : SG) (By : Int → Int) (Nb : Int) (Sp : PS) : PO := fun v σ => WT σ ∧ Fr [] σ0 σ ∧ ∃ ret : Int32, v = some (Value.int ret) ∧ -ret.toInt ≤ 0 ∧ ret.toInt - 1 ≤ 0 ∧ ret.toInt = iW By Nb 1 Sp
set_option maxRecDepth 10000 in
set_option maxHeartbeats 4000000 in
theorem c_251s1x {By : Int → Int} {Nb : Int} {Sp : PS} (σ0 : SG) (hσ0 : WT σ0) (hM : ML By Nb σ0 Sp) : En 4 90 none mr_251 (P_251s1x σ0 By Nb Sp) 0 [(0, .ref 159), (1, .retAddr 3)] [] σ0 := c_251gx 1 6 (by decide) (by decide) (by decide) (by decide) (by decide) σ0 hσ0 hM
/-- DoorSchoolModel.is(Ljava/lang/String;)Z -/
abbrev P_251s2x (σ0 : SG) (By : Int → Int) (Nb : Int) (Sp : PS) : PO := fun v σ => WT σ ∧ Fr [] σ0 σ ∧ ∃ ret : Int32, v = some (Value.int ret) ∧ -ret.toInt ≤ 0 ∧ ret.toInt - 1 ≤ 0 ∧ ret.toInt = iW By Nb 2 Sp
set_option maxRecDepth 10000 in
set_option maxHeartbeats 4000000 in
theorem c_251s2x {By : Int → Int} {Nb : Int} {Sp : PS} (σ0 : SG) (hσ0 : WT σ0) (hM : ML By Nb σ0 Sp) : En 4 90 none mr_251 (P_251s2x σ0 By Nb Sp) 0 [(0, .ref 159), (1, .retAddr 5)] [] σ0 := c_251gx 2 4 (by decide) (by decide) (by decide) (by decide) (by decide) σ0 hσ0 hM
/-- DoorSchoolModel.is(Ljava/lang/String;)Z -/
abbrev P_251s3x (σ0 : SG) (By : Int → Int) (Nb : Int) (Sp : PS) : PO := fun v σ => WT σ ∧ Fr [] σ0 σ ∧ ∃ ret : Int32, v = some (Value.int ret) ∧ -ret.toInt ≤ 0 ∧ ret.toInt - 1 ≤ 0 ∧ ret.toInt = iW By Nb 3 Sp
set_option maxRecDepth 10000 in
set_option maxHeartbeats 4000000 in
theorem c_251s3x {By : Int → Int} {Nb : Int} {Sp : PS} (σ0 : SG) (hσ0 : WT σ0) (hM : ML By Nb σ0 Sp) : En 4 90 none mr_251 (P_251s3x σ0 By Nb Sp) 0 [(0, .ref 159), (1, .retAddr 7)] [] σ0 := c_251gx 3 4 (by decide) (by decide) (by decide) (by decide) (by decide) σ0 hσ0 hM
/-- DoorSchoolModel.is(Ljava/lang/String;)Z -/
abbrev P_251s5x (σ0 : SG) (By : Int → Int) (Nb : Int) (Sp : PS) : PO := fun v σ => WT σ ∧ Fr [] σ0 σ ∧ ∃ ret : Int32, v = some (Value.int ret) ∧ -ret.toInt ≤ 0 ∧ ret.toInt - 1 ≤ 0 ∧ ret.toInt = iW By Nb 5 Sp
set_option maxRecDepth 10000 in
set_option maxHeartbeats 4000000 in
theorem c_251s5x {By : Int → Int} {Nb : Int} {Sp : PS} (σ0 : SG) (hσ0 : WT σ0) (hM : ML By Nb σ0 Sp) : En 4 90 none mr_251 (P_251s5x σ0 By Nb Sp) 0 [(0, .ref 159), (1, .retAddr 11)] [] σ0 := c_251gx 5 5 (by decide) (by decide) (by decide) (by decide) (by decide) σ0 hσ0 hM
/-- DoorSchoolModel.is(Ljava/lang/String;)Z -/
abbrev P_251s6x (σ0 : SG) (By : Int → Int) (Nb : Int) (Sp : PS) : PO := fun v σ => WT σ ∧ Fr [] σ0 σ ∧ ∃ ret : Int32, v = some (Value.int ret) ∧ -ret.toInt ≤ 0 ∧ ret.toInt - 1 ≤ 0 ∧ ret.toInt = iW By Nb 6 Sp
set_option maxRecDepth 10000 in
set_option maxHeartbeats 4000000 in
theorem c_251s6x {By : Int → Int} {Nb : Int} {Sp : PS} (σ0 : SG) (hσ0 : WT σ0) (hM : ML By Nb σ0 Sp) : En 4 90 none mr_251 (P_251s6x σ0 By Nb Sp) 0 [(0, .ref 159), (1, .retAddr 13)] [] σ0 := c_251gx 6 6 (by decide) (by decide) (by decide) (by decide) (by decide) σ0 hσ0 hM
/-- DoorSchoolModel.is(Ljava/lang/String;)Z -/
abbrev P_251s9x (σ0 : SG) (By : Int → Int) (Nb : Int) (Sp : PS) : PO := fun v σ => WT σ ∧ Fr [] σ0 σ ∧ ∃ ret : Int32, v = some (Value.int ret) ∧ -ret.toInt ≤ 0 ∧ ret.toInt - 1 ≤ 0 ∧ ret.toInt = iW By Nb 9 Sp
set_option maxRecDepth 10000 in
set_option maxHeartbeats 4000000 in
theorem c_251s9x {By : Int → Int} {Nb : Int} {Sp : PS} (σ0 : SG) (hσ0 : WT σ0) (hM : ML By Nb σ0 Sp) : En 4 90 none mr_251 (P_251s9x σ0 By Nb Sp) 0 [(0, .ref 159), (1, .retAddr 19)] [] σ0 := c_251gx 9 5 (by decide) (by decide) (by decide) (by decide) (by decide) σ0 hσ0 hM
/-- DoorSchoolModel.is(Ljava/lang/String;)Z -/
abbrev P_251s17x (σ0 : SG) (By : Int → Int) (Nb : Int) (Sp : PS) : PO := fun v σ => WT σ ∧ Fr [] σ0 σ ∧ ∃ ret : Int32, v = some (Value.int ret) ∧ -ret.toInt ≤ 0 ∧ ret.toInt - 1 ≤ 0 ∧ ret.toInt = iW By Nb 17 Sp
set_option maxRecDepth 10000 in
set_option maxHeartbeats 4000000 in
theorem c_251s17x {By : Int → Int} {Nb : Int} {Sp : PS} (σ0 : SG) (hσ0 : WT σ0) (hM : ML By Nb σ0 Sp) : En 4 90 none mr_251 (P_251s17x σ0 By Nb Sp) 0 [(0, .ref 159), (1, .retAddr 35)] [] σ0 := c_251gx 17 4 (by decide) (by decide) (by decide) (by decide) (by decide) σ0 hσ0 hM
/-- DoorSchoolModel.takes(Ljava/lang/String;)Z -/
abbrev P_318gx (iL : Nat) (σ0 : SG) (By : Int → Int) (Nb : Int) (Sp : PS) (f : Int32) : PO := fun v σ => WT σ ∧ Fr [(35, 8), (35, 9), (35, 10), (35, 11)] σ0 σ ∧ ∃ f1 : Int32, (σ 159)[8]? = some (Value.int f1) ∧ ∃ ret : Int32, v = some (Value.int ret) ∧ -ret.toInt ≤ 0 ∧ ret.toInt - 1 ≤ 0 ∧ -f1.toInt ≤ 0 ∧ f1.toInt - 1600 ≤ 0 ∧ -f1.toInt + f.toInt ≤ 0 ∧ f.toInt - f1.toInt ≤ 0 ∧ ((ret.toInt = 0 → σ0 = σ) ∧ ret.toInt = iW By Nb iL Sp ∧ (ret.toInt = 1 → ML By Nb σ (adv By Nb Sp)))
set_option maxRecDepth 10000 in
set_option maxHeartbeats 4000000 in
theorem c_318gx (iL nL : Nat) (gn : (decide (iL < NSTR) && decide (LENS.getD iL 0 = nL)) = true) (gN : (Int32.ofNat nL).toInt = (nL : Int)) (gL : (LW iL).length = nL) (g1 : 1 ≤ nL) (g9 : nL ≤ 20) {By : Int → Int} {Nb : Int} {Sp : PS} (σ0 : SG) (hσ0 : WT σ0) (f : Int32) (h_f : (σ0 159)[8]? = some (Value.int f)) (hM : ML By Nb σ0 Sp) : En 5 113 none mr_318 (P_318gx iL σ0 By Nb Sp f) 0 [(0, .ref 159), (1, .retAddr (2 * iL + 1))] [] σ0 := by
  obtain ⟨hl_f, hu_f⟩ := WT_int hσ0 (g := 35) (by decide +kernel) (by decide +kernel) (l := 0) (u := 1600) (by decide +kernel) h_f
  have hF0 : Fr [(35, 8), (35, 9), (35, 10), (35, 11)] σ0 σ0 := Fr_rfl
  obtain ⟨z2, h1, h3, h4⟩ := WT_peekI hσ0 tgz_159 (by decide +kernel : FT 35 12 = (0, 0, 3)) (by decide +kernel)
  have h5 := ML_k hM h1
  refine En_Ps 2 (pc' := 2) (lv' := [(0, .ref 159), (1, .retAddr (2 * iL + 1))]) (st' := [.retAddr (2 * iL + 1), .ref 159]) rfl ?_
  refine En_callV rfl rfl rfl rfl rfl rfl rfl rfl tgz_159 (by decide +kernel) rfl (c_251gx iL nL gn gN gL g1 g9 σ0 hσ0 hM) (by decide) (by decide) (fun v7 σ8 h6 => ?_)
  obtain ⟨h9, h10, z12, rfl, h11⟩ := h6
  have h13 := h11.2.2
  obtain rfl : σ0 = σ8 := Fr_nil h10
  refine En_Ps 2 (pc' := 7) (lv' := [(2, .int z12), (0, .ref 159), (1, .retAddr (2 * iL + 1))]) (st' := [.int z12]) rfl ?_
  refine En_iEq _ rfl rfl (fun h14 => ?_) (fun h14 => ?_)
  · refine En_Ps 1 (pc' := 15) (lv' := [(2, .int z12), (0, .ref 159), (1, .retAddr (2 * iL + 1))]) (st' := [.int z12]) rfl ?_
    exact En_ret (v := some (Value.int z12)) rfl rfl (retZ rfl rfl (by (first | exact q_55451d0a83 h14 | omega)) (by (first | exact q_87849c3859 h14 | omega))) ⟨hσ0, hF0, f, h_f, z12, rfl, ⟨by (first | exact q_097a37c2ae h14 | omega), by (first | exact q_e269517bee h14 | omega), by (first | exact q_c803b490ef hl_f | omega), by (first | exact q_5a08281576 hu_f | omega), by (first | exact q_857069189f | omega), by (first | exact q_1bb76abeaf | omega), ⟨fun hz => rfl, by (first | exact q_b1495600e7 h13 | omega), fun hz => absurd hz (by (first | exact q_524a8e3d34 hz h14 | omega))⟩⟩⟩
  · have h15 : Sp.1 = 0 := iW_g (i := iL) (B := By) (n := Nb) (by (first | exact q_8c31a76373 h14 h11.1 h13 h11.2.1 | omega))
    refine En_Ps 1 (pc' := 11) (lv' := [(2, .int z12), (0, .ref 159), (1, .retAddr (2 * iL + 1))]) (st' := [.ref 159]) rfl ?_
    refine En_callV rfl rfl rfl rfl rfl rfl rfl rfl tgz_159 (by decide +kernel) rfl (c_189x σ0 hσ0 f h_f hM.1 (ML_at hM (by (first | exact q_d2dcd30e56 h15 | omega)) h_f)) (by decide) (by decide) (fun v17 σ18 h16 => ?_)
    obtain ⟨h19, h20, z22, h23, z24, h25, rfl, h21⟩ := h16
    have h26 := h21.2.2.2.2.2.2.2
    have h27 := Fr_trans hF0 h20 (by decide +kernel)
    obtain ⟨S28, h29⟩ : ∃ q : PS, q = adv By Nb Sp := ⟨_, rfl⟩
    have h30 : ML By Nb σ18 S28 := by rw [h29]; exact (ML_adv hM (by (first | exact q_d2dcd30e56 h15 | omega)) h_f h20 (by decide +kernel) h26.2)
    have h31 := ML_k h30 ((h20 _ _ (inW tgz_159 (by decide +kernel))).trans h1)
    have h32 : Imp (S28.1 = 0) (tK By Nb S28.2.2.1 = z24.toInt) := ML_t h30 h25
    have h33 : S28.2.2.2 = Sp.2.2.2 := by rw [h29]; exact adv_w
    refine En_Ps 1 (pc' := 15) (lv' := [(2, .int z12), (0, .ref 159), (1, .retAddr (2 * iL + 1))]) (st' := [.int z12]) rfl ?_
    exact En_ret (v := some (Value.int z12)) rfl rfl (retZ rfl rfl (by (first | exact q_ef1e8e38bf h11.1 | omega)) (by (first | exact q_733c8bfbae h11.2.1 | omega))) ⟨h19, h27, z22, h23, z12, rfl, ⟨by (first | exact q_a555021d16 h11.1 | omega), by (first | exact q_ad5b726bf8 h11.2.1 | omega), by (first | exact q_a555021d16 h21.1 | omega), by (first | exact q_76190b61a3 h21.2.1 | omega), by (first | exact q_d22b102a8e h21.2.2.1 | omega), by (first | exact q_83f4b1e050 h21.2.2.1 | omega), ⟨fun hz => absurd hz (by (first | exact q_96f124d0cd h14 hz | omega)), by (first | exact q_b1495600e7 h13 | omega), fun hz => ML_eq h30 h29⟩⟩⟩
/-- DoorSchoolModel.takes(Ljava/lang/String;)Z -/
abbrev P_318s1x (σ0 : SG) (By : Int → Int) (Nb : Int) (Sp : PS) (f : Int32) : PO := fun v σ => WT σ ∧ Fr [(35, 8), (35, 9), (35, 10), (35, 11)] σ0 σ ∧ ∃ f1 : Int32, (σ 159)[8]? = some (Value.int f1) ∧ ∃ ret : Int32, v = some (Value.int ret) ∧ -ret.toInt ≤ 0 ∧ ret.toInt - 1 ≤ 0 ∧ -f1.toInt ≤ 0 ∧ f1.toInt - 1600 ≤ 0 ∧ -f1.toInt + f.toInt ≤ 0 ∧ f.toInt - f1.toInt ≤ 0 ∧ ((ret.toInt = 0 → σ0 = σ) ∧ ret.toInt = iW By Nb 1 Sp ∧ (ret.toInt = 1 → ML By Nb σ (adv By Nb Sp)))
set_option maxRecDepth 10000 in
set_option maxHeartbeats 4000000 in
theorem c_318s1x {By : Int → Int} {Nb : Int} {Sp : PS} (σ0 : SG) (hσ0 : WT σ0) (f : Int32) (h_f : (σ0 159)[8]? = some (Value.int f)) (hM : ML By Nb σ0 Sp) : En 5 113 none mr_318 (P_318s1x σ0 By Nb Sp f) 0 [(0, .ref 159), (1, .retAddr 3)] [] σ0 := c_318gx 1 6 (by decide) (by decide) (by decide) (by decide) (by decide) σ0 hσ0 f h_f hM
/-- DoorSchoolModel.takes(Ljava/lang/String;)Z -/
abbrev P_318s2x (σ0 : SG) (By : Int → Int) (Nb : Int) (Sp : PS) (f : Int32) : PO := fun v σ => WT σ ∧ Fr [(35, 8), (35, 9), (35, 10), (35, 11)] σ0 σ ∧ ∃ f1 : Int32, (σ 159)[8]? = some (Value.int f1) ∧ ∃ ret : Int32, v = some (Value.int ret) ∧ -ret.toInt ≤ 0 ∧ ret.toInt - 1 ≤ 0 ∧ -f1.toInt ≤ 0 ∧ f1.toInt - 1600 ≤ 0 ∧ -f1.toInt + f.toInt ≤ 0 ∧ f.toInt - f1.toInt ≤ 0 ∧ ((ret.toInt = 0 → σ0 = σ) ∧ ret.toInt = iW By Nb 2 Sp ∧ (ret.toInt = 1 → ML By Nb σ (adv By Nb Sp)))
set_option maxRecDepth 10000 in
set_option maxHeartbeats 4000000 in
theorem c_318s2x {By : Int → Int} {Nb : Int} {Sp : PS} (σ0 : SG) (hσ0 : WT σ0) (f : Int32) (h_f : (σ0 159)[8]? = some (Value.int f)) (hM : ML By Nb σ0 Sp) : En 5 113 none mr_318 (P_318s2x σ0 By Nb Sp f) 0 [(0, .ref 159), (1, .retAddr 5)] [] σ0 := c_318gx 2 4 (by decide) (by decide) (by decide) (by decide) (by decide) σ0 hσ0 f h_f hM
/-- DoorSchoolModel.takes(Ljava/lang/String;)Z -/
abbrev P_318s3x (σ0 : SG) (By : Int → Int) (Nb : Int) (Sp : PS) (f : Int32) : PO := fun v σ => WT σ ∧ Fr [(35, 8), (35, 9), (35, 10), (35, 11)] σ0 σ ∧ ∃ f1 : Int32, (σ 159)[8]? = some (Value.int f1) ∧ ∃ ret : Int32, v = some (Value.int ret) ∧ -ret.toInt ≤ 0 ∧ ret.toInt - 1 ≤ 0 ∧ -f1.toInt ≤ 0 ∧ f1.toInt - 1600 ≤ 0 ∧ -f1.toInt + f.toInt ≤ 0 ∧ f.toInt - f1.toInt ≤ 0 ∧ ((ret.toInt = 0 → σ0 = σ) ∧ ret.toInt = iW By Nb 3 Sp ∧ (ret.toInt = 1 → ML By Nb σ (adv By Nb Sp)))
set_option maxRecDepth 10000 in
set_option maxHeartbeats 4000000 in
theorem c_318s3x {By : Int → Int} {Nb : Int} {Sp : PS} (σ0 : SG) (hσ0 : WT σ0) (f : Int32) (h_f : (σ0 159)[8]? = some (Value.int f)) (hM : ML By Nb σ0 Sp) : En 5 113 none mr_318 (P_318s3x σ0 By Nb Sp f) 0 [(0, .ref 159), (1, .retAddr 7)] [] σ0 := c_318gx 3 4 (by decide) (by decide) (by decide) (by decide) (by decide) σ0 hσ0 f h_f hM
/-- DoorSchoolModel.takes(Ljava/lang/String;)Z -/
abbrev P_318s4x (σ0 : SG) (By : Int → Int) (Nb : Int) (Sp : PS) (f : Int32) : PO := fun v σ => WT σ ∧ Fr [(35, 8), (35, 9), (35, 10), (35, 11)] σ0 σ ∧ ∃ f1 : Int32, (σ 159)[8]? = some (Value.int f1) ∧ ∃ ret : Int32, v = some (Value.int ret) ∧ -ret.toInt ≤ 0 ∧ ret.toInt - 1 ≤ 0 ∧ -f1.toInt ≤ 0 ∧ f1.toInt - 1600 ≤ 0 ∧ -f1.toInt + f.toInt ≤ 0 ∧ f.toInt - f1.toInt ≤ 0 ∧ ((ret.toInt = 0 → σ0 = σ) ∧ ret.toInt = iW By Nb 4 Sp ∧ (ret.toInt = 1 → ML By Nb σ (adv By Nb Sp)))
set_option maxRecDepth 10000 in
set_option maxHeartbeats 4000000 in
theorem c_318s4x {By : Int → Int} {Nb : Int} {Sp : PS} (σ0 : SG) (hσ0 : WT σ0) (f : Int32) (h_f : (σ0 159)[8]? = some (Value.int f)) (hM : ML By Nb σ0 Sp) : En 5 113 none mr_318 (P_318s4x σ0 By Nb Sp f) 0 [(0, .ref 159), (1, .retAddr 9)] [] σ0 := c_318gx 4 5 (by decide) (by decide) (by decide) (by decide) (by decide) σ0 hσ0 f h_f hM
/-- DoorSchoolModel.takes(Ljava/lang/String;)Z -/
abbrev P_318s5x (σ0 : SG) (By : Int → Int) (Nb : Int) (Sp : PS) (f : Int32) : PO := fun v σ => WT σ ∧ Fr [(35, 8), (35, 9), (35, 10), (35, 11)] σ0 σ ∧ ∃ f1 : Int32, (σ 159)[8]? = some (Value.int f1) ∧ ∃ ret : Int32, v = some (Value.int ret) ∧ -ret.toInt ≤ 0 ∧ ret.toInt - 1 ≤ 0 ∧ -f1.toInt ≤ 0 ∧ f1.toInt - 1600 ≤ 0 ∧ -f1.toInt + f.toInt ≤ 0 ∧ f.toInt - f1.toInt ≤ 0 ∧ ((ret.toInt = 0 → σ0 = σ) ∧ ret.toInt = iW By Nb 5 Sp ∧ (ret.toInt = 1 → ML By Nb σ (adv By Nb Sp)))
set_option maxRecDepth 10000 in
set_option maxHeartbeats 4000000 in
theorem c_318s5x {By : Int → Int} {Nb : Int} {Sp : PS} (σ0 : SG) (hσ0 : WT σ0) (f : Int32) (h_f : (σ0 159)[8]? = some (Value.int f)) (hM : ML By Nb σ0 Sp) : En 5 113 none mr_318 (P_318s5x σ0 By Nb Sp f) 0 [(0, .ref 159), (1, .retAddr 11)] [] σ0 := c_318gx 5 5 (by decide) (by decide) (by decide) (by decide) (by decide) σ0 hσ0 f h_f hM
/-- DoorSchoolModel.takes(Ljava/lang/String;)Z -/
abbrev P_318s6x (σ0 : SG) (By : Int → Int) (Nb : Int) (Sp : PS) (f : Int32) : PO := fun v σ => WT σ ∧ Fr [(35, 8), (35, 9), (35, 10), (35, 11)] σ0 σ ∧ ∃ f1 : Int32, (σ 159)[8]? = some (Value.int f1) ∧ ∃ ret : Int32, v = some (Value.int ret) ∧ -ret.toInt ≤ 0 ∧ ret.toInt - 1 ≤ 0 ∧ -f1.toInt ≤ 0 ∧ f1.toInt - 1600 ≤ 0 ∧ -f1.toInt + f.toInt ≤ 0 ∧ f.toInt - f1.toInt ≤ 0 ∧ ((ret.toInt = 0 → σ0 = σ) ∧ ret.toInt = iW By Nb 6 Sp ∧ (ret.toInt = 1 → ML By Nb σ (adv By Nb Sp)))
set_option maxRecDepth 10000 in
set_option maxHeartbeats 4000000 in
theorem c_318s6x {By : Int → Int} {Nb : Int} {Sp : PS} (σ0 : SG) (hσ0 : WT σ0) (f : Int32) (h_f : (σ0 159)[8]? = some (Value.int f)) (hM : ML By Nb σ0 Sp) : En 5 113 none mr_318 (P_318s6x σ0 By Nb Sp f) 0 [(0, .ref 159), (1, .retAddr 13)] [] σ0 := c_318gx 6 6 (by decide) (by decide) (by decide) (by decide) (by decide) σ0 hσ0 f h_f hM
/-- DoorSchoolModel.takes(Ljava/lang/String;)Z -/
abbrev P_318s8x (σ0 : SG) (By : Int → Int) (Nb : Int) (Sp : PS) (f : Int32) : PO := fun v σ => WT σ ∧ Fr [(35, 8), (35, 9), (35, 10), (35, 11)] σ0 σ ∧ ∃ f1 : Int32, (σ 159)[8]? = some (Value.int f1) ∧ ∃ ret : Int32, v = some (Value.int ret) ∧ -ret.toInt ≤ 0 ∧ ret.toInt - 1 ≤ 0 ∧ -f1.toInt ≤ 0 ∧ f1.toInt - 1600 ≤ 0 ∧ -f1.toInt + f.toInt ≤ 0 ∧ f.toInt - f1.toInt ≤ 0 ∧ ((ret.toInt = 0 → σ0 = σ) ∧ ret.toInt = iW By Nb 8 Sp ∧ (ret.toInt = 1 → ML By Nb σ (adv By Nb Sp)))
set_option maxRecDepth 10000 in
set_option maxHeartbeats 4000000 in
theorem c_318s8x {By : Int → Int} {Nb : Int} {Sp : PS} (σ0 : SG) (hσ0 : WT σ0) (f : Int32) (h_f : (σ0 159)[8]? = some (Value.int f)) (hM : ML By Nb σ0 Sp) : En 5 113 none mr_318 (P_318s8x σ0 By Nb Sp f) 0 [(0, .ref 159), (1, .retAddr 17)] [] σ0 := c_318gx 8 4 (by decide) (by decide) (by decide) (by decide) (by decide) σ0 hσ0 f h_f hM
/-- DoorSchoolModel.takes(Ljava/lang/String;)Z -/
abbrev P_318s9x (σ0 : SG) (By : Int → Int) (Nb : Int) (Sp : PS) (f : Int32) : PO := fun v σ => WT σ ∧ Fr [(35, 8), (35, 9), (35, 10), (35, 11)] σ0 σ ∧ ∃ f1 : Int32, (σ 159)[8]? = some (Value.int f1) ∧ ∃ ret : Int32, v = some (Value.int ret) ∧ -ret.toInt ≤ 0 ∧ ret.toInt - 1 ≤ 0 ∧ -f1.toInt ≤ 0 ∧ f1.toInt - 1600 ≤ 0 ∧ -f1.toInt + f.toInt ≤ 0 ∧ f.toInt - f1.toInt ≤ 0 ∧ ((ret.toInt = 0 → σ0 = σ) ∧ ret.toInt = iW By Nb 9 Sp ∧ (ret.toInt = 1 → ML By Nb σ (adv By Nb Sp)))
set_option maxRecDepth 10000 in
set_option maxHeartbeats 4000000 in
theorem c_318s9x {By : Int → Int} {Nb : Int} {Sp : PS} (σ0 : SG) (hσ0 : WT σ0) (f : Int32) (h_f : (σ0 159)[8]? = some (Value.int f)) (hM : ML By Nb σ0 Sp) : En 5 113 none mr_318 (P_318s9x σ0 By Nb Sp f) 0 [(0, .ref 159), (1, .retAddr 19)] [] σ0 := c_318gx 9 5 (by decide) (by decide) (by decide) (by decide) (by decide) σ0 hσ0 f h_f hM
/-- DoorSchoolModel.takes(Ljava/lang/String;)Z -/
abbrev P_318s11x (σ0 : SG) (By : Int → Int) (Nb : Int) (Sp : PS) (f : Int32) : PO := fun v σ => WT σ ∧ Fr [(35, 8), (35, 9), (35, 10), (35, 11)] σ0 σ ∧ ∃ f1 : Int32, (σ 159)[8]? = some (Value.int f1) ∧ ∃ ret : Int32, v = some (Value.int ret) ∧ -ret.toInt ≤ 0 ∧ ret.toInt - 1 ≤ 0 ∧ -f1.toInt ≤ 0 ∧ f1.toInt - 1600 ≤ 0 ∧ -f1.toInt + f.toInt ≤ 0 ∧ f.toInt - f1.toInt ≤ 0 ∧ ((ret.toInt = 0 → σ0 = σ) ∧ ret.toInt = iW By Nb 11 Sp ∧ (ret.toInt = 1 → ML By Nb σ (adv By Nb Sp)))
set_option maxRecDepth 10000 in
set_option maxHeartbeats 4000000 in
theorem c_318s11x {By : Int → Int} {Nb : Int} {Sp : PS} (σ0 : SG) (hσ0 : WT σ0) (f : Int32) (h_f : (σ0 159)[8]? = some (Value.int f)) (hM : ML By Nb σ0 Sp) : En 5 113 none mr_318 (P_318s11x σ0 By Nb Sp f) 0 [(0, .ref 159), (1, .retAddr 23)] [] σ0 := c_318gx 11 8 (by decide) (by decide) (by decide) (by decide) (by decide) σ0 hσ0 f h_f hM
/-- DoorSchoolModel.takes(Ljava/lang/String;)Z -/
abbrev P_318s17x (σ0 : SG) (By : Int → Int) (Nb : Int) (Sp : PS) (f : Int32) : PO := fun v σ => WT σ ∧ Fr [(35, 8), (35, 9), (35, 10), (35, 11)] σ0 σ ∧ ∃ f1 : Int32, (σ 159)[8]? = some (Value.int f1) ∧ ∃ ret : Int32, v = some (Value.int ret) ∧ -ret.toInt ≤ 0 ∧ ret.toInt - 1 ≤ 0 ∧ -f1.toInt ≤ 0 ∧ f1.toInt - 1600 ≤ 0 ∧ -f1.toInt + f.toInt ≤ 0 ∧ f.toInt - f1.toInt ≤ 0 ∧ ((ret.toInt = 0 → σ0 = σ) ∧ ret.toInt = iW By Nb 17 Sp ∧ (ret.toInt = 1 → ML By Nb σ (adv By Nb Sp)))
set_option maxRecDepth 10000 in
set_option maxHeartbeats 4000000 in
theorem c_318s17x {By : Int → Int} {Nb : Int} {Sp : PS} (σ0 : SG) (hσ0 : WT σ0) (f : Int32) (h_f : (σ0 159)[8]? = some (Value.int f)) (hM : ML By Nb σ0 Sp) : En 5 113 none mr_318 (P_318s17x σ0 By Nb Sp f) 0 [(0, .ref 159), (1, .retAddr 35)] [] σ0 := c_318gx 17 4 (by decide) (by decide) (by decide) (by decide) (by decide) σ0 hσ0 f h_f hM
/-- DoorSchoolModel.errs(I)V -/
abbrev P_223x (σ0 : SG) (By : Int → Int) (Nb : Int) (Sp : PS) (a : Int32) (k : Int32) : PO := fun v σ => WT σ ∧ Fr [(35, 12), (35, 13)] σ0 σ ∧ ∃ k1 : Int32, (σ 159)[12]? = some (Value.int k1) ∧ v = none ∧ -k1.toInt + 1 ≤ 0 ∧ k1.toInt - 3 ≤ 0 ∧ -k1.toInt + k.toInt ≤ 0 ∧ -k1.toInt + 1 ≤ 0 ∧ ML By Nb σ (err By Nb a.toInt Sp)
set_option maxRecDepth 10000 in
set_option maxHeartbeats 4000000 in
theorem c_223x {By : Int → Int} {Nb : Int} {Sp : PS} (σ0 : SG) (hσ0 : WT σ0) (a : Int32) (hl_a : 1 ≤ a.toInt) (hu_a : a.toInt ≤ 3) (k : Int32) (h_k : (σ0 159)[12]? = some (Value.int k)) (hM : ML By Nb σ0 Sp) : En 1 20 none mr_223 (P_223x σ0 By Nb Sp a k) 0 [(0, .ref 159), (1, .int a)] [] σ0 := by
  obtain ⟨hl_k, hu_k⟩ := WT_int hσ0 (g := 35) (by decide +kernel) (by decide +kernel) (l := 0) (u := 3) (by decide +kernel) h_k
  have hF0 : Fr [(35, 12), (35, 13)] σ0 σ0 := Fr_rfl
  have h1 := ML_k hM h_k
  obtain ⟨z3, h2, h4, h5⟩ := WT_peekI hσ0 tgz_159 (by decide +kernel : FT 35 9 = (0, 0, 1600)) (by decide +kernel)
  refine En_Ps 1 (pc' := 1) (lv' := [(0, .ref 159), (1, .int a)]) (st' := [.ref 159]) rfl ?_
  refine En_callV rfl rfl rfl rfl rfl rfl rfl rfl tgz_159 (by decide +kernel) rfl (c_237 σ0 hσ0 k h_k) (by decide) (by decide) (fun v7 σ8 h6 => ?_)
  obtain ⟨h9, h10, z12, rfl, h11⟩ := h6
  obtain rfl : σ0 = σ8 := Fr_nil h10
  refine En_iNe _ rfl rfl (fun h13 => ?_) (fun h13 => ?_)
  · refine En_Ps 2 (pc' := 10) (lv' := [(0, .ref 159), (1, .int a)]) (st' := [.int a, .ref 159]) rfl ?_
    refine En_put (j := 12) rfl rfl rfl tgz_159 (by decide +kernel) rfl (vI (l := 0) (u := 3) (by decide +kernel) rfl (by first | exact q_337a85e294 hl_a | omega) (by first | exact q_da5e9b976f hu_a | omega)) hσ0 hF0 (by decide +kernel) (fun σ14 h15 h16 h17 h18 => ?_)
    refine En_Ps 2 (pc' := 15) (lv' := [(0, .ref 159), (1, .int a)]) (st' := [.ref 159, .ref 159]) rfl ?_
    refine En_getK (j := 9) ((h18 _ _ (Or.inr (by decide))).trans h2) rfl rfl rfl tgz_159 (by decide +kernel) ?_
    refine En_put (j := 13) rfl rfl rfl tgz_159 (by decide +kernel) rfl (vI (l := (-1)) (u := 1600) (by decide +kernel) rfl (by first | exact q_5b439548fc h4 | omega) (by first | exact q_246f9048f8 h5 | omega)) h15 h16 (by decide +kernel) (fun σ19 h20 h21 h22 h23 => ?_)
    exact En_ret (v := none) rfl rfl rfl ⟨h20, h21, a, ((h23 _ _ (Or.inr (by decide))).trans h17), rfl, ⟨by first | exact q_996bab80f3 hl_a | omega, by first | exact q_e9a8eec0c4 hu_a | omega, by (first | exact q_e3a7748ab8 h11.2.2.1 h13 h11.1 hl_a | omega), by first | exact q_996bab80f3 hl_a | omega, ML_err hM (by (first | exact q_4c9c2433b9 h1 hl_k h11.2.2.1 h13 h11.1 | omega)) (by (first | exact q_5135621b52 hl_a | omega)) h21 (by decide +kernel) (ci_at (j := 12) ((h23 _ _ (Or.inr (by decide))).trans h17) rfl) h2 (ci_at (j := 13) h22 rfl)⟩⟩
  · exact En_ret (v := none) rfl rfl rfl ⟨hσ0, hF0, k, h_k, rfl, ⟨by (first | exact q_f16809a424 h11.2.2.2 h13 | omega), by first | exact q_e9a8eec0c4 hu_k | omega, by first | exact q_857069189f | omega, by (first | exact q_f16809a424 h11.2.2.2 h13 | omega), (by rw [err_bad (by (first | exact q_fdf04f5fe0 h11.2.2.2 h13 h1 | omega))]; exact hM)⟩⟩
/-- DoorSchoolModel.needs(Ljava/lang/String;)V -/
abbrev P_286gx (iL : Nat) (σ0 : SG) (By : Int → Int) (Nb : Int) (Sp : PS) (f : Int32) (k : Int32) : PO := fun v σ => WT σ ∧ Fr [(35, 8), (35, 9), (35, 10), (35, 11), (35, 12), (35, 13)] σ0 σ ∧ ∃ f1 : Int32, (σ 159)[8]? = some (Value.int f1) ∧ ∃ k1 : Int32, (σ 159)[12]? = some (Value.int k1) ∧ v = none ∧ -f1.toInt ≤ 0 ∧ f1.toInt - 1600 ≤ 0 ∧ -f1.toInt + f.toInt ≤ 0 ∧ -k1.toInt ≤ 0 ∧ k1.toInt - 3 ≤ 0 ∧ -k1.toInt + k.toInt ≤ 0 ∧ f.toInt - f1.toInt ≤ 0 ∧ Imp (k1.toInt ≤ 0) (k.toInt ≤ 0) ∧ ML By Nb σ (pss By Nb (iW By Nb iL Sp) Sp)
set_option maxRecDepth 10000 in
set_option maxHeartbeats 4000000 in
theorem c_286gx (iL nL : Nat) (gn : (decide (iL < NSTR) && decide (LENS.getD iL 0 = nL)) = true) (gN : (Int32.ofNat nL).toInt = (nL : Int)) (gL : (LW iL).length = nL) (g1 : 1 ≤ nL) (g9 : nL ≤ 20) {By : Int → Int} {Nb : Int} {Sp : PS} (σ0 : SG) (hσ0 : WT σ0) (f : Int32) (h_f : (σ0 159)[8]? = some (Value.int f)) (k : Int32) (h_k : (σ0 159)[12]? = some (Value.int k)) (hM : ML By Nb σ0 Sp) : En 6 135 none mr_286 (P_286gx iL σ0 By Nb Sp f k) 0 [(0, .ref 159), (1, .retAddr (2 * iL + 1))] [] σ0 := by
  obtain ⟨hl_f, hu_f⟩ := WT_int hσ0 (g := 35) (by decide +kernel) (by decide +kernel) (l := 0) (u := 1600) (by decide +kernel) h_f
  obtain ⟨hl_k, hu_k⟩ := WT_int hσ0 (g := 35) (by decide +kernel) (by decide +kernel) (l := 0) (u := 3) (by decide +kernel) h_k
  have hF0 : Fr [(35, 8), (35, 9), (35, 10), (35, 11), (35, 12), (35, 13)] σ0 σ0 := Fr_rfl
  have h1 := ML_k hM h_k
  refine En_Ps 2 (pc' := 2) (lv' := [(0, .ref 159), (1, .retAddr (2 * iL + 1))]) (st' := [.retAddr (2 * iL + 1), .ref 159]) rfl ?_
  refine En_callV rfl rfl rfl rfl rfl rfl rfl rfl tgz_159 (by decide +kernel) rfl (c_318gx iL nL gn gN gL g1 g9 σ0 hσ0 f h_f hM) (by decide) (by decide) (fun v3 σ4 h2 => ?_)
  obtain ⟨h5, h6, z8, h9, z10, rfl, h7⟩ := h2
  have h11 := h7.2.2.2.2.2.2
  have h12 := Fr_trans hF0 h6 (by decide +kernel)
  have h13 := h11.2.1
  refine En_iNe _ rfl rfl (fun h14 => ?_) (fun h14 => ?_)
  · have h15 : Sp.1 = 0 := iW_g (i := iL) (B := By) (n := Nb) (by (first | exact q_8c31a76373 h14 h7.1 h13 h7.2.1 | omega))
    obtain ⟨S16, h17⟩ : ∃ q : PS, q = adv By Nb Sp := ⟨_, rfl⟩
    have h18 : ML By Nb σ4 S16 := by rw [h17]; exact h11.2.2 (by (first | exact q_bd6a018c53 h14 h7.1 h7.2.1 | omega))
    have h19 := ML_k h18 ((h6 _ _ (inW tgz_159 (by decide +kernel))).trans h_k)
    have h20 : S16.2.2.2 = Sp.2.2.2 := by rw [h17]; exact adv_w
    have h21 : S16.1 = 0 := by rw [h17, adv_1]; exact h15
    exact En_ret (v := none) rfl rfl rfl ⟨h5, h12, z8, h9, k, ((h6 _ _ (inW tgz_159 (by decide +kernel))).trans h_k), rfl, ⟨by (first | exact q_a555021d16 h7.2.2.1 | omega), by (first | exact q_76190b61a3 h7.2.2.2.1 | omega), by (first | exact q_d22b102a8e h7.2.2.2.2.1 | omega), by (first | exact q_c803b490ef hl_k | omega), by (first | exact q_e9a8eec0c4 hu_k | omega), by (first | exact q_857069189f | omega), by (first | exact q_83f4b1e050 h7.2.2.2.2.1 | omega), fun _ => by (first | exact q_d8d8e6600d h1 h15 | omega), ML_eq h18 (by subst h17; unfold pss; first | done | rfl | ((repeat' split) <;> first | rfl | (exfalso; omega) | (exfalso; omega)))⟩⟩
  · obtain rfl : σ0 = σ4 := h11.1 (by (first | exact q_d2dcd30e56 h14 | omega))
    refine En_Ps 2 (pc' := 10) (lv' := [(0, .ref 159), (1, .retAddr (2 * iL + 1))]) (st' := [.int ((Int32.ofInt 1)), .ref 159]) rfl ?_
    have := (by decide : ((Int32.ofInt 1)).toInt = 1)
    refine En_callV rfl rfl rfl rfl rfl rfl rfl rfl tgz_159 (by decide +kernel) rfl (c_223x σ0 hσ0 ((Int32.ofInt 1)) (geI (by decide : (Int32.ofInt 1).toInt = 1) (by (first | decide | omega))) (leI (by decide : (Int32.ofInt 1).toInt = 1) (by (first | decide | omega))) k h_k hM) (by decide) (by decide) (fun v23 σ24 h22 => ?_)
    obtain ⟨h25, h26, z28, h29, rfl, h27⟩ := h22
    have h30 := h27.2.2.2.2
    have h31 := Fr_trans hF0 h26 (by decide +kernel)
    obtain ⟨S32, h33⟩ : ∃ q : PS, q = err By Nb 1 Sp := ⟨_, rfl⟩
    have h34 : ML By Nb σ24 S32 := by rw [h33]; exact (ML_eq h30 (err_cg (by (first | exact q_0bfa10f27c this | omega))))
    have h35 := ML_k h34 h29
    have h36 : S32.2.2.2 = Sp.2.2.2 := by rw [h33]; exact err_w
    exact En_ret (v := none) rfl rfl rfl ⟨h25, h31, f, ((h26 _ _ (inW tgz_159 (by decide +kernel))).trans h_f), z28, h29, rfl, ⟨by (first | exact q_c803b490ef hl_f | omega), by (first | exact q_5a08281576 hu_f | omega), by (first | exact q_857069189f | omega), by (first | exact q_1a6ee862c1 h27.1 | omega), by (first | exact q_c733b715bf h27.2.1 | omega), by (first | exact q_d22b102a8e h27.2.2.1 | omega), by (first | exact q_1bb76abeaf | omega), fun _ => by omega, ML_eq h34 (by subst h33; unfold pss; first | done | rfl | ((repeat' split) <;> first | rfl | (exfalso; omega) | (exfalso; omega)))⟩⟩
/-- DoorSchoolModel.needs(Ljava/lang/String;)V -/
abbrev P_286s7x (σ0 : SG) (By : Int → Int) (Nb : Int) (Sp : PS) (f : Int32) (k : Int32) : PO := fun v σ => WT σ ∧ Fr [(35, 8), (35, 9), (35, 10), (35, 11), (35, 12), (35, 13)] σ0 σ ∧ ∃ f1 : Int32, (σ 159)[8]? = some (Value.int f1) ∧ ∃ k1 : Int32, (σ 159)[12]? = some (Value.int k1) ∧ v = none ∧ -f1.toInt ≤ 0 ∧ f1.toInt - 1600 ≤ 0 ∧ -f1.toInt + f.toInt ≤ 0 ∧ -k1.toInt ≤ 0 ∧ k1.toInt - 3 ≤ 0 ∧ -k1.toInt + k.toInt ≤ 0 ∧ f.toInt - f1.toInt ≤ 0 ∧ Imp (k1.toInt ≤ 0) (k.toInt ≤ 0) ∧ ML By Nb σ (pss By Nb (iW By Nb 7 Sp) Sp)
set_option maxRecDepth 10000 in
set_option maxHeartbeats 4000000 in
theorem c_286s7x {By : Int → Int} {Nb : Int} {Sp : PS} (σ0 : SG) (hσ0 : WT σ0) (f : Int32) (h_f : (σ0 159)[8]? = some (Value.int f)) (k : Int32) (h_k : (σ0 159)[12]? = some (Value.int k)) (hM : ML By Nb σ0 Sp) : En 6 135 none mr_286 (P_286s7x σ0 By Nb Sp f k) 0 [(0, .ref 159), (1, .retAddr 15)] [] σ0 := c_286gx 7 7 (by decide) (by decide) (by decide) (by decide) (by decide) σ0 hσ0 f h_f k h_k hM
/-- DoorSchoolModel.needs(Ljava/lang/String;)V -/
abbrev P_286s10x (σ0 : SG) (By : Int → Int) (Nb : Int) (Sp : PS) (f : Int32) (k : Int32) : PO := fun v σ => WT σ ∧ Fr [(35, 8), (35, 9), (35, 10), (35, 11), (35, 12), (35, 13)] σ0 σ ∧ ∃ f1 : Int32, (σ 159)[8]? = some (Value.int f1) ∧ ∃ k1 : Int32, (σ 159)[12]? = some (Value.int k1) ∧ v = none ∧ -f1.toInt ≤ 0 ∧ f1.toInt - 1600 ≤ 0 ∧ -f1.toInt + f.toInt ≤ 0 ∧ -k1.toInt ≤ 0 ∧ k1.toInt - 3 ≤ 0 ∧ -k1.toInt + k.toInt ≤ 0 ∧ f.toInt - f1.toInt ≤ 0 ∧ Imp (k1.toInt ≤ 0) (k.toInt ≤ 0) ∧ ML By Nb σ (pss By Nb (iW By Nb 10 Sp) Sp)
set_option maxRecDepth 10000 in
set_option maxHeartbeats 4000000 in
theorem c_286s10x {By : Int → Int} {Nb : Int} {Sp : PS} (σ0 : SG) (hσ0 : WT σ0) (f : Int32) (h_f : (σ0 159)[8]? = some (Value.int f)) (k : Int32) (h_k : (σ0 159)[12]? = some (Value.int k)) (hM : ML By Nb σ0 Sp) : En 6 135 none mr_286 (P_286s10x σ0 By Nb Sp f k) 0 [(0, .ref 159), (1, .retAddr 21)] [] σ0 := c_286gx 10 6 (by decide) (by decide) (by decide) (by decide) (by decide) σ0 hσ0 f h_f k h_k hM
/-- DoorSchoolModel.needs(Ljava/lang/String;)V -/
abbrev P_286s12x (σ0 : SG) (By : Int → Int) (Nb : Int) (Sp : PS) (f : Int32) (k : Int32) : PO := fun v σ => WT σ ∧ Fr [(35, 8), (35, 9), (35, 10), (35, 11), (35, 12), (35, 13)] σ0 σ ∧ ∃ f1 : Int32, (σ 159)[8]? = some (Value.int f1) ∧ ∃ k1 : Int32, (σ 159)[12]? = some (Value.int k1) ∧ v = none ∧ -f1.toInt ≤ 0 ∧ f1.toInt - 1600 ≤ 0 ∧ -f1.toInt + f.toInt ≤ 0 ∧ -k1.toInt ≤ 0 ∧ k1.toInt - 3 ≤ 0 ∧ -k1.toInt + k.toInt ≤ 0 ∧ f.toInt - f1.toInt ≤ 0 ∧ Imp (k1.toInt ≤ 0) (k.toInt ≤ 0) ∧ ML By Nb σ (pss By Nb (iW By Nb 12 Sp) Sp)
set_option maxRecDepth 10000 in
set_option maxHeartbeats 4000000 in
theorem c_286s12x {By : Int → Int} {Nb : Int} {Sp : PS} (σ0 : SG) (hσ0 : WT σ0) (f : Int32) (h_f : (σ0 159)[8]? = some (Value.int f)) (k : Int32) (h_k : (σ0 159)[12]? = some (Value.int k)) (hM : ML By Nb σ0 Sp) : En 6 135 none mr_286 (P_286s12x σ0 By Nb Sp f k) 0 [(0, .ref 159), (1, .retAddr 25)] [] σ0 := c_286gx 12 4 (by decide) (by decide) (by decide) (by decide) (by decide) σ0 hσ0 f h_f k h_k hM
/-- DoorSchoolModel.deed()I -/
abbrev P_209x (σ0 : SG) (By : Int → Int) (Nb : Int) (Sp : PS) (f : Int32) (k : Int32) : PO := fun v σ => WT σ ∧ Fr [(35, 8), (35, 9), (35, 10), (35, 11), (35, 12), (35, 13)] σ0 σ ∧ ∃ f1 : Int32, (σ 159)[8]? = some (Value.int f1) ∧ ∃ k1 : Int32, (σ 159)[12]? = some (Value.int k1) ∧ ∃ ret : Int32, v = some (Value.int ret) ∧ -ret.toInt ≤ 0 ∧ ret.toInt - 1 ≤ 0 ∧ -f1.toInt ≤ 0 ∧ f1.toInt - 1600 ≤ 0 ∧ -f1.toInt + f.toInt ≤ 0 ∧ -k1.toInt ≤ 0 ∧ k1.toInt - 3 ≤ 0 ∧ -k1.toInt + k.toInt ≤ 0 ∧ f.toInt - f1.toInt ≤ 0 ∧ Imp (k1.toInt ≤ 0) (k.toInt ≤ 0) ∧ (ML By Nb σ (gDeed By Nb Sp) ∧ ret.toInt = iW By Nb 8 Sp)
set_option maxRecDepth 10000 in
set_option maxHeartbeats 4000000 in
theorem c_209x {By : Int → Int} {Nb : Int} {Sp : PS} (σ0 : SG) (hσ0 : WT σ0) (f : Int32) (h_f : (σ0 159)[8]? = some (Value.int f)) (k : Int32) (h_k : (σ0 159)[12]? = some (Value.int k)) (hM : ML By Nb σ0 Sp) : En 7 156 none mr_209 (P_209x σ0 By Nb Sp f k) 0 [(0, .ref 159)] [] σ0 := by
  obtain ⟨hl_f, hu_f⟩ := WT_int hσ0 (g := 35) (by decide +kernel) (by decide +kernel) (l := 0) (u := 1600) (by decide +kernel) h_f
  obtain ⟨hl_k, hu_k⟩ := WT_int hσ0 (g := 35) (by decide +kernel) (by decide +kernel) (l := 0) (u := 3) (by decide +kernel) h_k
  have hF0 : Fr [(35, 8), (35, 9), (35, 10), (35, 11), (35, 12), (35, 13)] σ0 σ0 := Fr_rfl
  have h1 := ML_k hM h_k
  refine En_Ps 1 (pc' := 1) (lv' := [(0, .ref 159)]) (st' := [.ref 159]) rfl ?_
  refine En_ldcS (i := 8) rfl rfl rfl ?_
  refine En_callV rfl rfl rfl rfl rfl rfl rfl rfl tgz_159 (by decide +kernel) rfl (c_318s8x σ0 hσ0 f h_f hM) (by decide) (by decide) (fun v3 σ4 h2 => ?_)
  obtain ⟨h5, h6, z8, h9, z10, rfl, h7⟩ := h2
  have h11 := h7.2.2.2.2.2.2
  have h12 := Fr_trans hF0 h6 (by decide +kernel)
  have h13 := h11.2.1
  refine En_iEq _ rfl rfl (fun h14 => ?_) (fun h14 => ?_)
  · obtain rfl : σ0 = σ4 := h11.1 (by (first | exact q_d2dcd30e56 h14 | omega))
    refine En_Ps 1 (pc' := 12) (lv' := [(0, .ref 159)]) (st' := [.ref 159]) rfl ?_
    refine En_ldcS (i := 12) rfl rfl rfl ?_
    refine En_callV rfl rfl rfl rfl rfl rfl rfl rfl tgz_159 (by decide +kernel) rfl (c_286s12x σ0 hσ0 f h_f k h_k hM) (by decide) (by decide) (fun v16 σ17 h15 => ?_)
    obtain ⟨h18, h19, z21, h22, z23, h24, rfl, h20⟩ := h15
    have h25 := h20.2.2.2.2.2.2.2.2
    have h26 := Fr_trans hF0 h19 (by decide +kernel)
    obtain ⟨S27, h28⟩ : ∃ q : PS, q = pss By Nb (iW By Nb 12 Sp) Sp := ⟨_, rfl⟩
    have h29 : ML By Nb σ17 S27 := by rw [h28]; exact h25
    have h30 := ML_k h29 h24
    refine En_Ps 1 (pc' := 18) (lv' := [(0, .ref 159)]) (st' := [.int ((Int32.ofInt 0))]) rfl ?_
    refine En_top (by decide : (Int32.ofInt 0).toInt = 0) (fun z31 h32 => ?_)
    exact En_ret (v := some (Value.int z31)) rfl rfl rfl ⟨h18, h26, z21, h22, z23, h24, z31, rfl, ⟨by first | exact q_097a37c2ae h32 | omega, by first | exact q_e269517bee h32 | omega, by first | exact q_a555021d16 h20.1 | omega, by first | exact q_76190b61a3 h20.2.1 | omega, by first | exact q_d22b102a8e h20.2.2.1 | omega, by first | exact q_a555021d16 h20.2.2.2.1 | omega, by first | exact q_c733b715bf h20.2.2.2.2.1 | omega, by first | exact q_d22b102a8e h20.2.2.2.2.2.1 | omega, by first | exact q_83f4b1e050 h20.2.2.1 | omega, fun hh => by first | exact q_f10d4a2089 h20.2.2.2.2.2.1 hh | omega, ⟨ML_eq h29 (by subst h28; unfold gDeed; first | done | rfl | ((repeat' split) <;> first | rfl | (exfalso; omega) | ((try have i0 := Imp_m h20.2.2.2.2.2.2.2.1 (by omega)); exfalso; omega))), by (first | exact q_9a3da179a8 h32 h11.2.1 h14 h7.1 | omega)⟩⟩⟩
  · have h33 : Sp.1 = 0 := iW_g (i := 8) (B := By) (n := Nb) (by (first | exact q_8c31a76373 h14 h7.1 h13 h7.2.1 | omega))
    obtain ⟨S34, h35⟩ : ∃ q : PS, q = adv By Nb Sp := ⟨_, rfl⟩
    have h36 : ML By Nb σ4 S34 := by rw [h35]; exact h11.2.2 (by (first | exact q_bd6a018c53 h14 h7.1 h7.2.1 | omega))
    have h37 := ML_k h36 ((h6 _ _ (inW tgz_159 (by decide +kernel))).trans h_k)
    have h38 : S34.2.2.2 = Sp.2.2.2 := by rw [h35]; exact adv_w
    have h39 : S34.1 = 0 := by rw [h35, adv_1]; exact h33
    refine En_Ps 1 (pc' := 10) (lv' := [(0, .ref 159)]) (st' := [.int ((Int32.ofInt 1))]) rfl ?_
    refine En_top (by decide : (Int32.ofInt 1).toInt = 1) (fun z40 h41 => ?_)
    exact En_ret (v := some (Value.int z40)) rfl rfl rfl ⟨h5, h12, z8, h9, k, ((h6 _ _ (inW tgz_159 (by decide +kernel))).trans h_k), z40, rfl, ⟨by first | exact q_ad3eee31ca h41 | omega, by first | exact q_81cf297dc4 h41 | omega, by first | exact q_a555021d16 h7.2.2.1 | omega, by first | exact q_76190b61a3 h7.2.2.2.1 | omega, by first | exact q_d22b102a8e h7.2.2.2.2.1 | omega, by first | exact q_c803b490ef hl_k | omega, by first | exact q_e9a8eec0c4 hu_k | omega, by first | exact q_857069189f | omega, by first | exact q_83f4b1e050 h7.2.2.2.2.1 | omega, fun hh => by first | exact q_35a72a35ef hh | omega, ⟨ML_eq h36 (by subst h35; unfold gDeed; first | done | rfl | ((repeat' split) <;> first | rfl | (exfalso; omega) | (exfalso; omega))), by (first | exact q_fd20194ff2 h41 h13 h7.2.1 h14 h7.1 | omega)⟩⟩⟩
/-- DoorSchoolModel.isRule(II)Z -/
abbrev P_263x (σ0 : SG) (a : Int32) (b : Int32) (s : Int32) (sc : Int32) : PO := fun v σ => WT σ ∧ Fr [] σ0 σ ∧ ∃ ret : Int32, v = some (Value.int ret) ∧ -ret.toInt ≤ 0 ∧ ret.toInt - 1 ≤ 0 ∧ Imp (ret.toInt - 1 ≤ 0 ∧ -ret.toInt + 1 ≤ 0) (-a.toInt ≤ 0 ∧ a.toInt - 15 ≤ 0 ∧ -b.toInt ≤ 0 ∧ b.toInt - 15 ≤ 0) ∧ ((ret.toInt = 1 ∧ 0 < sc.toInt ∧ 0 ≤ a.toInt ∧ a.toInt < pI s.toInt ∧ 0 ≤ b.toInt ∧ b.toInt ≤ 15 ∧ sbI b.toInt a.toInt = 1) ∨ (ret.toInt = 0 ∧ (sc.toInt ≤ 0 ∨ a.toInt < 0 ∨ pI s.toInt ≤ a.toInt ∨ b.toInt < 0 ∨ 15 < b.toInt ∨ sbI b.toInt a.toInt ≠ 1)))
set_option maxRecDepth 10000 in
set_option maxHeartbeats 4000000 in
theorem c_263x (σ0 : SG) (hσ0 : WT σ0) (a : Int32) (b : Int32) (s : Int32) (h_s : (σ0 160)[(0 : Int).toNat]? = some (Value.int s)) (sc : Int32) (h_sc : (σ0 160)[(7 : Int).toNat]? = some (Value.int sc)) : En 3 62 none mr_263 (P_263x σ0 a b s sc) 0 [(0, .ref 159), (1, .int a), (2, .int b)] [] σ0 := by
  obtain ⟨hl_s, hu_s⟩ := WT_int hσ0 (g := 36) (by decide +kernel) (by decide +kernel) (l := 0) (u := 4) (by decide +kernel) h_s
  obtain ⟨hl_sc, hu_sc⟩ := WT_int hσ0 (g := 36) (by decide +kernel) (by decide +kernel) (l := 0) (u := 1600) (by decide +kernel) h_sc
  have hF0 : Fr [] σ0 σ0 := Fr_rfl
  refine En_Ps 3 (pc' := 3) (lv' := [(0, .ref 159), (1, .int a), (2, .int b)]) (st' := [.long a.toInt64, .ref 159]) rfl ?_
  have : a.toInt64.toInt = a.toInt := (i2lI rfl)
  refine En_callV rfl rfl rfl rfl rfl rfl rfl rfl tgz_159 (by decide +kernel) rfl (c_259x σ0 hσ0 a.toInt64 s h_s sc h_sc) (by decide) (by decide) (fun v2 σ3 h1 => ?_)
  obtain ⟨h4, h5, z7, rfl, h6⟩ := h1
  have h8 := h6.2.2.2
  obtain rfl : σ0 = σ3 := Fr_nil h5
  have h9 := h8
  have w10 : wf σ0 (0) = s.toInt := ci_at h_s (by (first | decide | omega))
  have w11 : wf σ0 (7) = sc.toInt := ci_at h_sc (by (first | decide | omega))
  refine En_iEq _ rfl rfl (fun h12 => ?_) (fun h12 => ?_)
  · refine En_Ps 1 (pc' := 31) (lv' := [(0, .ref 159), (1, .int a), (2, .int b)]) (st' := [.int ((Int32.ofInt 0))]) rfl ?_
    refine En_top (by decide : (Int32.ofInt 0).toInt = 0) (fun z13 h14 => ?_)
    exact En_ret (v := some (Value.int z13)) rfl rfl (retZ rfl rfl (by first | exact q_55451d0a83 h14 | omega) (by first | exact q_87849c3859 h14 | omega)) ⟨hσ0, hF0, z13, rfl, ⟨by first | exact q_097a37c2ae h14 | omega, by first | exact q_e269517bee h14 | omega, fun _ => by omega, (by first | omega | (by_cases q0 : 0 ≤ b.toInt ∧ b.toInt ≤ 15 ∧ 0 ≤ a.toInt ∧ sbI b.toInt a.toInt = 1; (have q1 := sbI_le q0.1 q0.2.2.1 q0.2.2.2; omega); omega))⟩⟩
  · have h15 := Imp_m h6.2.2.1 (by first | exact q_e3350da514 h12 h6.1 | omega)
    refine En_Ps 3 (pc' := 12) (lv' := [(0, .ref 159), (1, .int a), (2, .int b)]) (st' := [.long b.toInt64, .ref 159]) rfl ?_
    have : b.toInt64.toInt = b.toInt := (i2lI rfl)
    refine En_callV rfl rfl rfl rfl rfl rfl rfl rfl tgz_159 (by decide +kernel) rfl (c_259x σ0 hσ0 b.toInt64 s h_s sc h_sc) (by decide) (by decide) (fun v17 σ18 h16 => ?_)
    obtain ⟨h19, h20, z22, rfl, h21⟩ := h16
    have h23 := h21.2.2.2
    obtain rfl : σ0 = σ18 := Fr_nil h20
    have h24 := h23
    refine En_iEq _ rfl rfl (fun h25 => ?_) (fun h25 => ?_)
    · refine En_Ps 1 (pc' := 31) (lv' := [(0, .ref 159), (1, .int a), (2, .int b)]) (st' := [.int ((Int32.ofInt 0))]) rfl ?_
      refine En_top (by decide : (Int32.ofInt 0).toInt = 0) (fun z26 h27 => ?_)
      exact En_ret (v := some (Value.int z26)) rfl rfl (retZ rfl rfl (by first | exact q_55451d0a83 h27 | omega) (by first | exact q_87849c3859 h27 | omega)) ⟨hσ0, hF0, z26, rfl, ⟨by first | exact q_097a37c2ae h27 | omega, by first | exact q_e269517bee h27 | omega, fun _ => by omega, (by first | omega | (by_cases q0 : 0 ≤ b.toInt ∧ b.toInt ≤ 15 ∧ 0 ≤ a.toInt ∧ sbI b.toInt a.toInt = 1; (have q1 := sbI_le q0.1 q0.2.2.1 q0.2.2.2; (first | exact q_7ad7b514a0 q1 this h27 h24 h25 h9 h12 h6.1 q0.1 | exact q_a61f27b7b9 q0 h27 | omega)); (first | exact q_a61f27b7b9 q0 h27 | omega)))⟩⟩
    · have h28 := Imp_m h21.2.2.1 (by first | exact q_e3350da514 h25 h21.1 | omega)
      refine En_Ps 4 (pc' := 22) (lv' := [(0, .ref 159), (1, .int a), (2, .int b)]) (st' := [.int ((a ^^^ ((Int32.ofInt (-1))))), .int b]) rfl ?_
      refine En_nam (fun z29 h30 => ?_)
      refine En_Ps 1 (pc' := 23) (lv' := [(0, .ref 159), (1, .int a), (2, .int b)]) (st' := [.int ((b &&& z29))]) rfl ?_
      refine En_nam (fun z31 h32 => ?_)
      obtain ⟨h33, h34⟩ := andn_rng h32 rfl (by (first | exact q_bb72464225 this h28.1 | omega)) (by (first | exact q_2215209990 this h28.2 | omega) : _ ≤ (15 : Int))
      refine En_iNe _ rfl rfl (fun h35 => ?_) (fun h35 => ?_)
      · have := sub_sbw h32 h30 rfl rfl (by (first | exact q_bb72464225 this h28.1 | omega)) (by (first | exact q_bb72464225 (i2lI rfl) h15.1 | omega)) (by (first | exact q_2215209990 (i2lI rfl) h15.2 | omega))
        refine En_Ps 1 (pc' := 31) (lv' := [(0, .ref 159), (1, .int a), (2, .int b)]) (st' := [.int ((Int32.ofInt 0))]) rfl ?_
        refine En_top (by decide : (Int32.ofInt 0).toInt = 0) (fun z36 h37 => ?_)
        exact En_ret (v := some (Value.int z36)) rfl rfl (retZ rfl rfl (by first | exact q_55451d0a83 h37 | omega) (by first | exact q_87849c3859 h37 | omega)) ⟨hσ0, hF0, z36, rfl, ⟨by first | exact q_097a37c2ae h37 | omega, by first | exact q_e269517bee h37 | omega, fun _ => by (first | exact q_f0fafefc0e (i2lI rfl) h15.1 h15.2 (i2lI rfl) h28.1 h28.2 | omega), (by first | omega | (by_cases q0 : 0 ≤ b.toInt ∧ b.toInt ≤ 15 ∧ 0 ≤ a.toInt ∧ sbI b.toInt a.toInt = 1; (have q1 := sbI_le q0.1 q0.2.2.1 q0.2.2.2; omega); omega))⟩⟩
      · obtain ⟨h38, h39⟩ := andn_zero h32 h30 h35 rfl rfl (by (first | exact q_bb72464225 (i2lI rfl) h15.1 | omega))
        have := sub_sbw h32 h30 rfl rfl (by (first | exact q_58e6e51dcc h38 | omega)) (by (first | exact q_bb72464225 (i2lI rfl) h15.1 | omega)) (by (first | exact q_2215209990 (i2lI rfl) h15.2 | omega))
        refine En_Ps 2 (pc' := 31) (lv' := [(0, .ref 159), (1, .int a), (2, .int b)]) (st' := [.int ((Int32.ofInt 1))]) rfl ?_
        refine En_top (by decide : (Int32.ofInt 1).toInt = 1) (fun z40 h41 => ?_)
        exact En_ret (v := some (Value.int z40)) rfl rfl (retZ rfl rfl (by first | exact q_2b07c97645 h41 | omega) (by first | exact q_d9e7cbb253 h41 | omega)) ⟨hσ0, hF0, z40, rfl, ⟨by first | exact q_ad3eee31ca h41 | omega, by first | exact q_81cf297dc4 h41 | omega, fun _ => by (first | exact q_36fa9bbfa0 (i2lI rfl) h15.1 h15.2 h38 (i2lI rfl) h28.2 | omega), (by first | omega | (by_cases q0 : 0 ≤ b.toInt ∧ b.toInt ≤ 15 ∧ 0 ≤ a.toInt ∧ sbI b.toInt a.toInt = 1; (have q1 := sbI_le q0.1 q0.2.2.1 q0.2.2.2; omega); omega))⟩⟩
/-- DoorSchoolModel.doesFreshCopy(I)Z -/
abbrev P_217x (σ0 : SG) (a : Int32) : PO := fun v σ => WT σ ∧ Fr [] σ0 σ ∧ ∃ ret : Int32, v = some (Value.int ret) ∧ -ret.toInt ≤ 0 ∧ ret.toInt - 1 ≤ 0 ∧ ((ret.toInt = 1 → ci σ0 165 (13 + 4 * a.toInt) ≠ -1) ∧ (ret.toInt = 0 → ci σ0 165 (13 + 4 * a.toInt) = -1))
set_option maxRecDepth 10000 in
set_option maxHeartbeats 4000000 in
theorem c_217x (σ0 : SG) (hσ0 : WT σ0) (a : Int32) (hl_a : 0 ≤ a.toInt) (hu_a : a.toInt ≤ 3) : En 0 0 none mr_217 (P_217x σ0 a) 0 [(0, .ref 159), (1, .int a)] [] σ0 := by
  have hF0 : Fr [] σ0 σ0 := Fr_rfl
  refine En_Ps 1 (pc' := 1) (lv' := [(0, .ref 159), (1, .int a)]) (st' := [.ref 159]) rfl ?_
  refine En_getU (j := 14) (u := 165) (g' := 41) (q := 0) rfl rfl rfl tgz_159 (by decide +kernel) hσ0 (by decide +kernel) un_41_165 (fun h1 => ?_)
  refine En_Ps 4 (pc' := 9) (lv' := [(0, .ref 159), (1, .int a)]) (st' := [.int ((((Int32.ofInt 4)) * a)), .int (((Int8.ofInt 10).toInt32)), .ref 165]) rfl ?_
  refine En_top (mulI (by decide : (Int32.ofInt 4).toInt = 4) rfl (Z := 4 * a.toInt) (by first | exact q_8696eb12a7 | omega) (by first | exact q_be45967ac2 hl_a | omega) (by first | exact q_395a9d924c hu_a | omega)) (fun z3 h4 => ?_)
  refine En_Ps 1 (pc' := 10) (lv' := [(0, .ref 159), (1, .int a)]) (st' := [.int (((((Int8.ofInt 10).toInt32)) + z3)), .ref 165]) rfl ?_
  refine En_top (addI (by decide : ((Int8.ofInt 10).toInt32).toInt = 10) rfl (by first | exact q_7bfa00123f h4 hl_a | omega) (by first | exact q_a63fdf625c h4 hu_a | omega)) (fun z5 h6 => ?_)
  refine En_Ps 2 (pc' := 12) (lv' := [(0, .ref 159), (1, .int a)]) (st' := [.int ((z5 + ((Int32.ofInt 3)))), .ref 165]) rfl ?_
  refine En_top (addI rfl (by decide : (Int32.ofInt 3).toInt = 3) (by first | exact q_5241e58928 h6 h4 hl_a | omega) (by first | exact q_0ae01ec0e8 h6 h4 hu_a | omega)) (fun z7 h8 => ?_)
  refine En_iald (l := (-1)) (u := 3) rfl rfl tgz_165 (by decide +kernel) hσ0 (by first | exact q_9dbe57618d h8 h6 h4 hl_a | omega) (lnI (by decide +kernel : LN _ = 226) (by first | exact q_8c89d4ce54 h8 h6 h4 hu_a | omega)) (FTrow 41 13 4 4 (by decide +kernel) (by first | exact q_070b248188 h8 h6 h4 hl_a | omega) (by first | exact q_281ef74936 h8 h6 h4 hu_a | omega) (by first | exact q_090c32d68c h4 h6 h8 | omega)) (fun z10 h9 h11 h12 => ?_)
  refine En_Ps 1 (pc' := 14) (lv' := [(0, .ref 159), (1, .int a)]) (st' := [.int ((Int32.ofInt (-1))), .int z10]) rfl ?_
  refine En_icEq _ rfl (by decide : (Int32.ofInt (-1)).toInt = -1) rfl (fun h13 => ?_) (fun h13 => ?_)
  · refine En_Ps 1 (pc' := 22) (lv' := [(0, .ref 159), (1, .int a)]) (st' := [.int ((Int32.ofInt 0))]) rfl ?_
    refine En_top (by decide : (Int32.ofInt 0).toInt = 0) (fun z14 h15 => ?_)
    exact En_ret (v := some (Value.int z14)) rfl rfl (retZ rfl rfl (by first | exact q_55451d0a83 h15 | omega) (by first | exact q_87849c3859 h15 | omega)) ⟨hσ0, hF0, z14, rfl, ⟨by first | exact q_097a37c2ae h15 | omega, by first | exact q_e269517bee h15 | omega, (by have e1 := ci_at h9 (by (first | exact q_5e3d2c75d0 h8 h6 h4 | omega) : 13 + 4 * a.toInt = _); exact ⟨fun _ => by omega, fun _ => by (first | exact q_424eccd413 e1 h13 | omega)⟩)⟩⟩
  · refine En_Ps 2 (pc' := 22) (lv' := [(0, .ref 159), (1, .int a)]) (st' := [.int ((Int32.ofInt 1))]) rfl ?_
    refine En_top (by decide : (Int32.ofInt 1).toInt = 1) (fun z16 h17 => ?_)
    exact En_ret (v := some (Value.int z16)) rfl rfl (retZ rfl rfl (by first | exact q_2b07c97645 h17 | omega) (by first | exact q_d9e7cbb253 h17 | omega)) ⟨hσ0, hF0, z16, rfl, ⟨by first | exact q_ad3eee31ca h17 | omega, by first | exact q_81cf297dc4 h17 | omega, (by have e1 := ci_at h9 (by (first | exact q_5e3d2c75d0 h8 h6 h4 | omega) : 13 + 4 * a.toInt = _); exact ⟨fun _ => by (first | exact q_bfb4ee34b5 h13 h11 e1 | omega), fun _ => by omega⟩)⟩⟩
/-- DoorSchoolModel.end(I)I -/
abbrev P_221x (σ0 : SG) (a : Int32) (m : Int32) : PO := fun v σ => WT σ ∧ Fr [(35, 5)] σ0 σ ∧ ∃ m1 : Int32, (σ 159)[5]? = some (Value.int m1) ∧ ∃ ret : Int32, v = some (Value.int ret) ∧ -ret.toInt - 1 ≤ 0 ∧ ret.toInt - 1600 ≤ 0 ∧ -m1.toInt ≤ 0 ∧ m1.toInt - 1600 ≤ 0 ∧ m1.toInt - m.toInt ≤ 0 ∧ Imp (-a.toInt ≤ 0 ∧ a.toInt - m.toInt ≤ 0) (m1.toInt - a.toInt ≤ 0 ∧ -m1.toInt + a.toInt ≤ 0 ∧ ret.toInt - a.toInt ≤ 0 ∧ -ret.toInt + a.toInt ≤ 0) ∧ Imp (a.toInt + 1 ≤ 0) (m1.toInt - m.toInt ≤ 0 ∧ -m1.toInt + m.toInt ≤ 0 ∧ ret.toInt + 1 ≤ 0 ∧ -ret.toInt - 1 ≤ 0) ∧ Imp (m.toInt - a.toInt + 1 ≤ 0) (m1.toInt - m.toInt ≤ 0 ∧ -m1.toInt + m.toInt ≤ 0 ∧ ret.toInt + 1 ≤ 0 ∧ -ret.toInt - 1 ≤ 0)
set_option maxRecDepth 10000 in
set_option maxHeartbeats 4000000 in
theorem c_221x (σ0 : SG) (hσ0 : WT σ0) (a : Int32) (m : Int32) (h_m : (σ0 159)[5]? = some (Value.int m)) : En 1 25 none mr_221 (P_221x σ0 a m) 0 [(0, .ref 159), (1, .int a)] [] σ0 := by
  obtain ⟨hl_m, hu_m⟩ := WT_int hσ0 (g := 35) (by decide +kernel) (by decide +kernel) (l := 0) (u := 1600) (by decide +kernel) h_m
  have hF0 : Fr [(35, 5)] σ0 σ0 := Fr_rfl
  refine En_Ps 4 (pc' := 4) (lv' := [(0, .ref 159), (1, .int a)]) (st' := [.ref 159, .long ((Int64.ofNat 0)), .long a.toInt64]) rfl ?_
  refine En_getK (j := 5) h_m rfl rfl rfl tgz_159 (by decide +kernel) ?_
  refine En_Ps 1 (pc' := 8) (lv' := [(0, .ref 159), (1, .int a)]) (st' := [.long m.toInt64, .long ((Int64.ofNat 0)), .long a.toInt64]) rfl ?_
  have : a.toInt64.toInt = a.toInt := (i2lI rfl)
  have := (by decide : ((Int64.ofNat 0)).toInt = 0)
  have : m.toInt64.toInt = m.toInt := (i2lI rfl)
  refine En_callS rfl rfl rfl rfl rfl rfl rfl rfl rfl (c_249 σ0 hσ0 a.toInt64 ((Int64.ofNat 0)) m.toInt64) (by decide) (by decide) (fun v2 σ3 h1 => ?_)
  obtain ⟨h4, h5, z7, rfl, h6⟩ := h1
  have h8 := Fr_trans hF0 h5 (by decide +kernel)
  refine En_iNe _ rfl rfl (fun h9 => ?_) (fun h9 => ?_)
  · refine En_Ps 2 (pc' := 18) (lv' := [(0, .ref 159), (1, .int a)]) (st' := [.int a, .ref 159]) rfl ?_
    refine En_put (j := 5) rfl rfl rfl tgz_159 (by decide +kernel) rfl (vI (l := 0) (u := 1600) (by decide +kernel) rfl (by (first | exact q_bf5288a390 (i2lI rfl) h6.2.2.1 h9 h6.1 (by decide) | omega)) (by (first | exact q_9ac12430ef (i2lI rfl) h6.2.2.1 h9 h6.1 this hu_m | omega))) h4 h8 (by decide +kernel) (fun σ10 h11 h12 h13 h14 => ?_)
    refine En_Ps 1 (pc' := 22) (lv' := [(0, .ref 159), (1, .int a)]) (st' := [.int a]) rfl ?_
    exact En_ret (v := some (Value.int a)) rfl rfl rfl ⟨h11, h12, a, h13, a, rfl, ⟨by (first | exact q_3ade9baa4f (i2lI rfl) h6.2.2.1 h9 h6.1 (by decide) | omega), by (first | exact q_d4f0e64a8d (i2lI rfl) h6.2.2.1 h9 h6.1 this hu_m | omega), by (first | exact q_efc72eea30 (i2lI rfl) h6.2.2.1 h9 h6.1 (by decide) | omega), by (first | exact q_d4f0e64a8d (i2lI rfl) h6.2.2.1 h9 h6.1 this hu_m | omega), by (first | exact q_85d78e3eb1 this (i2lI rfl) h6.2.2.1 h9 h6.1 | omega), fun hh => by first | exact ⟨q_1bb76abeaf, q_857069189f, q_1bb76abeaf, q_857069189f⟩ | omega, fun _ => by omega, fun _ => by omega⟩⟩
  · refine En_Ps 1 (pc' := 15) (lv' := [(0, .ref 159), (1, .int a)]) (st' := [.int ((Int32.ofInt (-1)))]) rfl ?_
    refine En_top (by decide : (Int32.ofInt (-1)).toInt = -1) (fun z15 h16 => ?_)
    exact En_ret (v := some (Value.int z15)) rfl rfl rfl ⟨h4, h8, m, ((h5 _ _ (inW tgz_159 (by decide +kernel))).trans h_m), z15, rfl, ⟨by first | exact q_6ba54b61e9 h16 | omega, by first | exact q_99664cbdae h16 | omega, by first | exact q_c803b490ef hl_m | omega, by first | exact q_5a08281576 hu_m | omega, by first | exact q_1bb76abeaf | omega, fun _ => by omega, fun hh => by first | exact ⟨q_1bb76abeaf, q_857069189f, q_4eb6dac66d h16, q_6ba54b61e9 h16⟩ | omega, fun hh => by first | exact ⟨q_1bb76abeaf, q_857069189f, q_4eb6dac66d h16, q_6ba54b61e9 h16⟩ | omega⟩⟩
/-- DoorSchoolModel.fault(I)I -/
abbrev P_225x (σ0 : SG) (a : Int32) (fk : Int32) (fp : Int32) : PO := fun v σ => WT σ ∧ Fr [] σ0 σ ∧ ∃ ret : Int32, v = some (Value.int ret) ∧ -ret.toInt - 1 ≤ 0 ∧ ret.toInt - 1600 ≤ 0 ∧ Imp (a.toInt ≤ 0 ∧ -a.toInt ≤ 0) (ret.toInt - fk.toInt ≤ 0 ∧ -ret.toInt + fk.toInt ≤ 0) ∧ Imp (a.toInt - 1 ≤ 0 ∧ -a.toInt + 1 ≤ 0) (ret.toInt - fp.toInt ≤ 0 ∧ -ret.toInt + fp.toInt ≤ 0) ∧ Imp (a.toInt + 1 ≤ 0) (ret.toInt + 1 ≤ 0 ∧ -ret.toInt - 1 ≤ 0) ∧ Imp (-a.toInt + 2 ≤ 0) (ret.toInt + 1 ≤ 0 ∧ -ret.toInt - 1 ≤ 0)
set_option maxRecDepth 10000 in
set_option maxHeartbeats 4000000 in
theorem c_225x (σ0 : SG) (hσ0 : WT σ0) (a : Int32) (fk : Int32) (h_fk : (σ0 159)[12]? = some (Value.int fk)) (fp : Int32) (h_fp : (σ0 159)[13]? = some (Value.int fp)) : En 0 0 none mr_225 (P_225x σ0 a fk fp) 0 [(0, .ref 159), (1, .int a)] [] σ0 := by
  obtain ⟨hl_fk, hu_fk⟩ := WT_int hσ0 (g := 35) (by decide +kernel) (by decide +kernel) (l := 0) (u := 3) (by decide +kernel) h_fk
  obtain ⟨hl_fp, hu_fp⟩ := WT_int hσ0 (g := 35) (by decide +kernel) (by decide +kernel) (l := (-1)) (u := 1600) (by decide +kernel) h_fp
  have hF0 : Fr [] σ0 σ0 := Fr_rfl
  refine En_Ps 1 (pc' := 1) (lv' := [(0, .ref 159), (1, .int a)]) (st' := [.int a]) rfl ?_
  refine En_iNe _ rfl rfl (fun h1 => ?_) (fun h1 => ?_)
  · refine En_Ps 2 (pc' := 13) (lv' := [(0, .ref 159), (1, .int a)]) (st' := [.int ((Int32.ofInt 1)), .int a]) rfl ?_
    refine En_icNe _ rfl (by decide : (Int32.ofInt 1).toInt = 1) rfl (fun h2 => ?_) (fun h2 => ?_)
    · refine En_Ps 1 (pc' := 24) (lv' := [(0, .ref 159), (1, .int a)]) (st' := [.int ((Int32.ofInt (-1)))]) rfl ?_
      refine En_top (by decide : (Int32.ofInt (-1)).toInt = -1) (fun z3 h4 => ?_)
      exact En_ret (v := some (Value.int z3)) rfl rfl rfl ⟨hσ0, hF0, z3, rfl, ⟨by first | exact q_6ba54b61e9 h4 | omega, by first | exact q_99664cbdae h4 | omega, fun _ => by omega, fun _ => by omega, fun hh => by first | exact ⟨q_4eb6dac66d h4, q_6ba54b61e9 h4⟩ | omega, fun hh => by first | exact ⟨q_4eb6dac66d h4, q_6ba54b61e9 h4⟩ | omega⟩⟩
    · refine En_Ps 1 (pc' := 17) (lv' := [(0, .ref 159), (1, .int a)]) (st' := [.ref 159]) rfl ?_
      refine En_getK (j := 13) h_fp rfl rfl rfl tgz_159 (by decide +kernel) ?_
      refine En_Ps 1 (pc' := 24) (lv' := [(0, .ref 159), (1, .int a)]) (st' := [.int fp]) rfl ?_
      exact En_ret (v := some (Value.int fp)) rfl rfl rfl ⟨hσ0, hF0, fp, rfl, ⟨by first | exact q_909eef6c0e hl_fp | omega, by first | exact q_5a08281576 hu_fp | omega, fun _ => by omega, fun hh => by first | exact ⟨q_1bb76abeaf, q_857069189f⟩ | omega, fun _ => by omega, fun _ => by omega⟩⟩
  · refine En_Ps 1 (pc' := 5) (lv' := [(0, .ref 159), (1, .int a)]) (st' := [.ref 159]) rfl ?_
    refine En_getK (j := 12) h_fk rfl rfl rfl tgz_159 (by decide +kernel) ?_
    refine En_Ps 1 (pc' := 24) (lv' := [(0, .ref 159), (1, .int a)]) (st' := [.int fk]) rfl ?_
    exact En_ret (v := some (Value.int fk)) rfl rfl rfl ⟨hσ0, hF0, fk, rfl, ⟨by first | exact q_565e7b05df hl_fk | omega, by first | exact q_d82ac32af9 hu_fk | omega, fun hh => by first | exact ⟨q_1bb76abeaf, q_857069189f⟩ | omega, fun _ => by omega, fun _ => by omega, fun _ => by omega⟩⟩
/-- DoorSchoolModel.feed(IIIII)I -/
abbrev P_226x (σ0 : SG) (a : Int32) (b : Int32) (c : Int32) (d : Int32) (e : Int32) (m : Int32) : PO := fun v σ => WT σ ∧ Fr [(35, 5), (39, 0), (40, 0)] σ0 σ ∧ ∃ m1 : Int32, (σ 159)[5]? = some (Value.int m1) ∧ ∃ ret : Int32, v = some (Value.int ret) ∧ -ret.toInt - 1 ≤ 0 ∧ ret.toInt - 1600 ≤ 0 ∧ -m1.toInt + 20 ≤ 0 ∧ m1.toInt - 1600 ≤ 0 ∧ -m1.toInt + m.toInt ≤ 0 ∧ m1.toInt - m.toInt - 20 ≤ 0 ∧ Imp (m.toInt - 1580 ≤ 0) (m1.toInt - m.toInt - 20 ≤ 0 ∧ -m1.toInt + m.toInt + 20 ≤ 0 ∧ ret.toInt - m1.toInt ≤ 0 ∧ -ret.toInt + m1.toInt ≤ 0) ∧ Imp (-m.toInt + 1581 ≤ 0) (m1.toInt - m.toInt ≤ 0 ∧ -m1.toInt + m.toInt ≤ 0 ∧ ret.toInt + 1 ≤ 0 ∧ -ret.toInt - 1 ≤ 0) ∧ ((m.toInt ≤ 1580 → FDP σ0 σ 163 m.toInt 20 a b c d e) ∧ (1580 < m.toInt → ∀ i : Int, ci σ 163 i = ci σ0 163 i))
set_option maxRecDepth 10000 in
set_option maxHeartbeats 4000000 in
theorem c_226x (σ0 : SG) (hσ0 : WT σ0) (a : Int32) (b : Int32) (c : Int32) (d : Int32) (e : Int32) (m : Int32) (h_m : (σ0 159)[5]? = some (Value.int m)) : En 0 0 none mr_226 (P_226x σ0 a b c d e m) 0 [(0, .ref 159), (1, .int a), (2, .int b), (3, .int c), (4, .int d), (5, .int e)] [] σ0 := by
  obtain ⟨hl_m, hu_m⟩ := WT_int hσ0 (g := 35) (by decide +kernel) (by decide +kernel) (l := 0) (u := 1600) (by decide +kernel) h_m
  have hF0 : Fr [(35, 5), (39, 0), (40, 0)] σ0 σ0 := Fr_rfl
  refine En_Ps 1 (pc' := 1) (lv' := [(0, .ref 159), (1, .int a), (2, .int b), (3, .int c), (4, .int d), (5, .int e)]) (st' := [.ref 159]) rfl ?_
  refine En_getK (j := 5) h_m rfl rfl rfl tgz_159 (by decide +kernel) ?_
  refine En_Ps 2 (pc' := 7) (lv' := [(0, .ref 159), (1, .int a), (2, .int b), (3, .int c), (4, .int d), (5, .int e)]) (st' := [.int ((m + (((Int8.ofInt 20).toInt32))))]) rfl ?_
  refine En_top (addI rfl (by decide : ((Int8.ofInt 20).toInt32).toInt = 20) (by first | exact q_b317acd289 hl_m | omega) (by first | exact q_3065489387 hu_m | omega)) (fun z1 h2 => ?_)
  refine En_Ps 1 (pc' := 10) (lv' := [(0, .ref 159), (1, .int a), (2, .int b), (3, .int c), (4, .int d), (5, .int e)]) (st' := [.int (((Int16.ofInt 1600).toInt32)), .int z1]) rfl ?_
  refine En_icLe _ rfl (by decide : ((Int16.ofInt 1600).toInt32).toInt = 1600) rfl (fun h3 => ?_) (fun h3 => ?_)
  · refine En_Ps 1 (pc' := 16) (lv' := [(0, .ref 159), (1, .int a), (2, .int b), (3, .int c), (4, .int d), (5, .int e)]) (st' := [.ref 159]) rfl ?_
    refine En_getU (j := 6) (u := 164) (g' := 40) (q := 0) rfl rfl rfl tgz_159 (by decide +kernel) hσ0 (by decide +kernel) un_40_164 (fun h4 => ?_)
    refine En_Ps 2 (pc' := 21) (lv' := [(0, .ref 159), (1, .int a), (2, .int b), (3, .int c), (4, .int d), (5, .int e)]) (st' := [.int a, .int ((Int32.ofInt 0)), .ref 164]) rfl ?_
    refine En_iast (l := (-2147483648)) (u := 2147483647) rfl (by decide : (Int32.ofInt 0).toInt = 0) tgz_164 (by decide +kernel) (by decide) (lnI (by decide +kernel : LN _ = 5) (by decide)) (FTsgl (by decide +kernel)) (fullI _) hσ0 hF0 (by decide +kernel) (fun σ6 h7 h8 h9 h10 => ?_)
    have h11 : ∀ i : Int, ci σ6 163 i = ci σ0 163 i := fun i => (ci_ne h10 (by decide) i)
    refine En_Ps 1 (pc' := 23) (lv' := [(0, .ref 159), (1, .int a), (2, .int b), (3, .int c), (4, .int d), (5, .int e)]) (st' := [.ref 159]) rfl ?_
    refine En_getK (j := 6) ((h10 _ _ (Or.inl (neTG tgz_159 tgz_164 (by decide)))).trans h4) rfl rfl rfl tgz_159 (by decide +kernel) ?_
    refine En_Ps 2 (pc' := 28) (lv' := [(0, .ref 159), (1, .int a), (2, .int b), (3, .int c), (4, .int d), (5, .int e)]) (st' := [.int b, .int ((Int32.ofInt 1)), .ref 164]) rfl ?_
    refine En_iast (l := (-2147483648)) (u := 2147483647) rfl (by decide : (Int32.ofInt 1).toInt = 1) tgz_164 (by decide +kernel) (by decide) (lnI (by decide +kernel : LN _ = 5) (by decide)) (FTsgl (by decide +kernel)) (fullI _) h7 h8 (by decide +kernel) (fun σ12 h13 h14 h15 h16 => ?_)
    have h17 : ∀ i : Int, ci σ12 163 i = ci σ0 163 i := fun i => (ci_ne h16 (by decide) i).trans (h11 i)
    refine En_Ps 1 (pc' := 30) (lv' := [(0, .ref 159), (1, .int a), (2, .int b), (3, .int c), (4, .int d), (5, .int e)]) (st' := [.ref 159]) rfl ?_
    refine En_getK (j := 6) ((h16 _ _ (Or.inl (neTG tgz_159 tgz_164 (by decide)))).trans ((h10 _ _ (Or.inl (neTG tgz_159 tgz_164 (by decide)))).trans h4)) rfl rfl rfl tgz_159 (by decide +kernel) ?_
    refine En_Ps 2 (pc' := 35) (lv' := [(0, .ref 159), (1, .int a), (2, .int b), (3, .int c), (4, .int d), (5, .int e)]) (st' := [.int c, .int ((Int32.ofInt 2)), .ref 164]) rfl ?_
    refine En_iast (l := (-2147483648)) (u := 2147483647) rfl (by decide : (Int32.ofInt 2).toInt = 2) tgz_164 (by decide +kernel) (by decide) (lnI (by decide +kernel : LN _ = 5) (by decide)) (FTsgl (by decide +kernel)) (fullI _) h13 h14 (by decide +kernel) (fun σ18 h19 h20 h21 h22 => ?_)
    have h23 : ∀ i : Int, ci σ18 163 i = ci σ0 163 i := fun i => (ci_ne h22 (by decide) i).trans (h17 i)
    refine En_Ps 1 (pc' := 37) (lv' := [(0, .ref 159), (1, .int a), (2, .int b), (3, .int c), (4, .int d), (5, .int e)]) (st' := [.ref 159]) rfl ?_
    refine En_getK (j := 6) ((h22 _ _ (Or.inl (neTG tgz_159 tgz_164 (by decide)))).trans ((h16 _ _ (Or.inl (neTG tgz_159 tgz_164 (by decide)))).trans ((h10 _ _ (Or.inl (neTG tgz_159 tgz_164 (by decide)))).trans h4))) rfl rfl rfl tgz_159 (by decide +kernel) ?_
    refine En_Ps 2 (pc' := 43) (lv' := [(0, .ref 159), (1, .int a), (2, .int b), (3, .int c), (4, .int d), (5, .int e)]) (st' := [.int d, .int ((Int32.ofInt 3)), .ref 164]) rfl ?_
    refine En_iast (l := (-2147483648)) (u := 2147483647) rfl (by decide : (Int32.ofInt 3).toInt = 3) tgz_164 (by decide +kernel) (by decide) (lnI (by decide +kernel : LN _ = 5) (by decide)) (FTsgl (by decide +kernel)) (fullI _) h19 h20 (by decide +kernel) (fun σ24 h25 h26 h27 h28 => ?_)
    have h29 : ∀ i : Int, ci σ24 163 i = ci σ0 163 i := fun i => (ci_ne h28 (by decide) i).trans (h23 i)
    refine En_Ps 1 (pc' := 45) (lv' := [(0, .ref 159), (1, .int a), (2, .int b), (3, .int c), (4, .int d), (5, .int e)]) (st' := [.ref 159]) rfl ?_
    refine En_getK (j := 6) ((h28 _ _ (Or.inl (neTG tgz_159 tgz_164 (by decide)))).trans ((h22 _ _ (Or.inl (neTG tgz_159 tgz_164 (by decide)))).trans ((h16 _ _ (Or.inl (neTG tgz_159 tgz_164 (by decide)))).trans ((h10 _ _ (Or.inl (neTG tgz_159 tgz_164 (by decide)))).trans h4)))) rfl rfl rfl tgz_159 (by decide +kernel) ?_
    refine En_Ps 2 (pc' := 51) (lv' := [(0, .ref 159), (1, .int a), (2, .int b), (3, .int c), (4, .int d), (5, .int e)]) (st' := [.int e, .int ((Int32.ofInt 4)), .ref 164]) rfl ?_
    refine En_iast (l := (-2147483648)) (u := 2147483647) rfl (by decide : (Int32.ofInt 4).toInt = 4) tgz_164 (by decide +kernel) (by decide) (lnI (by decide +kernel : LN _ = 5) (by decide)) (FTsgl (by decide +kernel)) (fullI _) h25 h26 (by decide +kernel) (fun σ30 h31 h32 h33 h34 => ?_)
    have h35 : ∀ i : Int, ci σ30 163 i = ci σ0 163 i := fun i => (ci_ne h34 (by decide) i).trans (h29 i)
    refine En_Ps 2 (pc' := 55) (lv' := [(6, .int ((Int32.ofInt 0))), (0, .ref 159), (1, .int a), (2, .int b), (3, .int c), (4, .int d), (5, .int e)]) (st' := []) rfl ?_
    have key55 : ∀ (n55 : Nat) (σ37 : SG) (y36 : Int32), WT σ37 → Fr [(35, 5), (39, 0), (40, 0)] σ0 σ37 → (σ37 159)[5]? = some (Value.int m) → (σ37 159)[6]? = some (Value.ref 164) → (σ37 164)[(0 : Int).toNat]? = some (Value.int a) → (σ37 164)[(1 : Int).toNat]? = some (Value.int b) → (σ37 164)[(2 : Int).toNat]? = some (Value.int c) → (σ37 164)[(3 : Int).toNat]? = some (Value.int d) → (σ37 164)[(4 : Int).toNat]? = some (Value.int e) → 0 ≤ y36.toInt → y36.toInt ≤ 20 → -y36.toInt + 20 < (n55 : Int) → FDP σ0 σ37 163 m.toInt y36.toInt a b c d e → En 0 0 none mr_226 (P_226x σ0 a b c d e m) 55 [(0, .ref 159), (1, .int a), (2, .int b), (3, .int c), (4, .int d), (5, .int e), (6, .int y36)] [] σ37 := by
      intro n55
      induction n55 with
      | zero =>
        intro σ37 y36 h38 h39 h40 h41 h42 h43 h44 h45 h46 h47 h48 h49 h50
        first | exact (q_486bbb0b97 h49 h48).elim | (exfalso; omega)
      | succ n55 ih55 =>
        intro σ37 y36 h38 h39 h40 h41 h42 h43 h44 h45 h46 h47 h48 h49 h50
        refine En_Ps 2 (pc' := 59) (lv' := [(0, .ref 159), (1, .int a), (2, .int b), (3, .int c), (4, .int d), (5, .int e), (6, .int y36)]) (st' := [.int (((Int8.ofInt 20).toInt32)), .int y36]) rfl ?_
        refine En_icGe _ rfl (by decide : ((Int8.ofInt 20).toInt32).toInt = 20) rfl (fun h51 => ?_) (fun h51 => ?_)
        · refine En_Ps 2 (pc' := 103) (lv' := [(0, .ref 159), (1, .int a), (2, .int b), (3, .int c), (4, .int d), (5, .int e), (6, .int y36)]) (st' := [.ref 159, .ref 159]) rfl ?_
          refine En_getK (j := 5) h40 rfl rfl rfl tgz_159 (by decide +kernel) ?_
          refine En_Ps 2 (pc' := 109) (lv' := [(0, .ref 159), (1, .int a), (2, .int b), (3, .int c), (4, .int d), (5, .int e), (6, .int y36)]) (st' := [.int ((m + (((Int8.ofInt 20).toInt32)))), .ref 159]) rfl ?_
          refine En_top (addI rfl (by decide : ((Int8.ofInt 20).toInt32).toInt = 20) (by first | exact q_b317acd289 hl_m | omega) (by first | exact q_3065489387 hu_m | omega)) (fun z52 h53 => ?_)
          refine En_put (j := 5) rfl rfl rfl tgz_159 (by decide +kernel) rfl (vI (l := 0) (u := 1600) (by decide +kernel) rfl (by first | exact q_fed787b40f h53 hl_m | omega) (by first | exact q_9373b94a1e h53 h2 h3 | omega)) h38 h39 (by decide +kernel) (fun σ54 h55 h56 h57 h58 => ?_)
          have h59 := FDP_ne h50 h58 (by decide)
          refine En_Ps 1 (pc' := 113) (lv' := [(0, .ref 159), (1, .int a), (2, .int b), (3, .int c), (4, .int d), (5, .int e), (6, .int y36)]) (st' := [.ref 159]) rfl ?_
          refine En_getK (j := 5) h57 rfl rfl rfl tgz_159 (by decide +kernel) ?_
          exact En_ret (v := some (Value.int z52)) rfl rfl rfl ⟨h55, h56, z52, h57, z52, rfl, ⟨by first | exact q_dc325e5e81 h53 hl_m | omega, by first | exact q_085671a812 h53 h2 h3 | omega, by first | exact q_e81d57acca h53 hl_m | omega, by first | exact q_085671a812 h53 h2 h3 | omega, by first | exact q_97006d3506 h53 | omega, by first | exact q_815c5659af h53 | omega, fun hh => by first | exact ⟨q_815c5659af h53, q_96eaa2a5fa h53, q_1bb76abeaf, q_857069189f⟩ | omega, fun hh => by first | exact ⟨q_c96239e5db hh h2 h3, q_97006d3506 h53, q_0a5c54d24c hh h2 h3, q_8923f6e04e h53 hh⟩ | omega, ⟨fun _ => FDP_c h59 (by (first | exact q_9f6c78b924 h48 h51 | omega)), fun h => absurd h (by (first | exact q_b7478a5c42 h h2 h3 | omega))⟩⟩⟩
        · refine En_Ps 1 (pc' := 63) (lv' := [(0, .ref 159), (1, .int a), (2, .int b), (3, .int c), (4, .int d), (5, .int e), (6, .int y36)]) (st' := [.ref 159]) rfl ?_
          refine En_getU (j := 4) (u := 163) (g' := 39) (q := 0) rfl rfl rfl tgz_159 (by decide +kernel) h38 (by decide +kernel) un_39_163 (fun h60 => ?_)
          refine En_Ps 1 (pc' := 67) (lv' := [(0, .ref 159), (1, .int a), (2, .int b), (3, .int c), (4, .int d), (5, .int e), (6, .int y36)]) (st' := [.ref 159, .ref 163]) rfl ?_
          refine En_getK (j := 5) h40 rfl rfl rfl tgz_159 (by decide +kernel) ?_
          refine En_Ps 2 (pc' := 73) (lv' := [(0, .ref 159), (1, .int a), (2, .int b), (3, .int c), (4, .int d), (5, .int e), (6, .int y36)]) (st' := [.int ((m + y36)), .ref 163]) rfl ?_
          refine En_top (addI rfl rfl (by first | exact q_3bb374bebc hl_m h47 | omega) (by first | exact q_7d53970f0c hu_m h51 | omega)) (fun z62 h63 => ?_)
          refine En_Ps 1 (pc' := 74) (lv' := [(0, .ref 159), (1, .int a), (2, .int b), (3, .int c), (4, .int d), (5, .int e), (6, .int y36)]) (st' := [.ref 159, .int z62, .ref 163]) rfl ?_
          refine En_getK (j := 6) h41 rfl rfl rfl tgz_159 (by decide +kernel) ?_
          refine En_Ps 2 (pc' := 80) (lv' := [(0, .ref 159), (1, .int a), (2, .int b), (3, .int c), (4, .int d), (5, .int e), (6, .int y36)]) (st' := [.int ((Int32.ofInt 4)), .int y36, .ref 164, .int z62, .ref 163]) rfl ?_
          refine En_idiv (c := 4) rfl rfl (by decide : (Int32.ofInt 4).toInt = 4) (by (first | exact q_58e6e51dcc h47 | omega)) (by decide) (fun z64 h65 => ?_)
          refine En_iald (l := (-2147483648)) (u := 2147483647) rfl rfl tgz_164 (by decide +kernel) h38 (by first | exact q_8c50407b74 h65 h47 | omega) (lnI (by decide +kernel : LN _ = 5) (by first | exact q_9da1f9200b h65 h51 | omega)) (FTsgl (by decide +kernel)) (fun z67 h66 h68 h69 => ?_)
          have h70 := FV_sel h42 h43 h44 h45 h46 h66 (by omega) (by omega)
          refine En_Ps 4 (pc' := 89) (lv' := [(0, .ref 159), (1, .int a), (2, .int b), (3, .int c), (4, .int d), (5, .int e), (6, .int y36)]) (st' := [.int ((Int32.ofInt 4)), .int y36, .int (((Int8.ofInt 8).toInt32)), .int (((Int8.ofInt 24).toInt32)), .int z67, .int z62, .ref 163]) rfl ?_
          refine En_irem (c := 4) rfl rfl (by decide : (Int32.ofInt 4).toInt = 4) (by (first | exact q_58e6e51dcc h47 | omega)) (by decide) (fun z71 h72 => ?_)
          refine En_Ps 1 (pc' := 91) (lv' := [(0, .ref 159), (1, .int a), (2, .int b), (3, .int c), (4, .int d), (5, .int e), (6, .int y36)]) (st' := [.int (((((Int8.ofInt 8).toInt32)) * z71)), .int (((Int8.ofInt 24).toInt32)), .int z67, .int z62, .ref 163]) rfl ?_
          refine En_top (mulI (by decide : ((Int8.ofInt 8).toInt32).toInt = 8) rfl (Z := 8 * z71.toInt) (by first | exact q_ca12f5b330 | omega) (by first | exact q_95451853f0 h72 | omega) (by first | exact q_5b91ed2f15 h72 | omega)) (fun z73 h74 => ?_)
          refine En_Ps 1 (pc' := 92) (lv' := [(0, .ref 159), (1, .int a), (2, .int b), (3, .int c), (4, .int d), (5, .int e), (6, .int y36)]) (st' := [.int (((((Int8.ofInt 24).toInt32)) - z73)), .int z67, .int z62, .ref 163]) rfl ?_
          refine En_top (subI (by decide : ((Int8.ofInt 24).toInt32).toInt = 24) rfl (by first | exact q_d4d43185f8 h74 h72 | omega) (by first | exact q_36dedaffd8 h74 h72 | omega)) (fun z75 h76 => ?_)
          refine En_Ps 2 (pc' := 94) (lv' := [(0, .ref 159), (1, .int a), (2, .int b), (3, .int c), (4, .int d), (5, .int e), (6, .int y36)]) (st' := [.int (((z67 >>> (z75 &&& 31)).toInt8.toInt32)), .int z62, .ref 163]) rfl ?_
          refine En_nam (fun z77 h78 => ?_)
          have h79 := b4_s (j := y36.toInt % 4) h78 (by omega)
          have h80 := b4_rng z67 (y36.toInt % 4)
          refine En_bast (l := (-128)) (u := 127) rfl rfl tgz_163 (by decide +kernel) (narB rfl (by (first | exact q_a6dfc9308f h79 h80.1 | omega)) (by (first | exact q_f699f50254 h79 h80.2 | omega))) (by first | exact q_21ab7eaff6 h63 h72 h47 hl_m | omega) (lnI (by decide +kernel : LN _ = 1600) (by first | exact q_2c366902ac h63 h2 h3 h51 | omega)) (FTsgl (by decide +kernel)) (rngI rfl (by (first | exact q_a6dfc9308f h79 h80.1 | omega)) (by (first | exact q_f699f50254 h79 h80.2 | omega))) h38 h39 (by decide +kernel) (fun σ81 h82 h83 h84 h85 => ?_)
          have h86 := FDP_s (J := z62.toInt) (y := y36.toInt) (y' := y36.toInt + 1) h50 h84 h85 (by (first | exact q_5868494ea9 h63 | omega)) (by (first | exact q_58e6e51dcc hl_m | omega)) (by (first | exact q_58e6e51dcc h47 | omega)) h70 h79 (by omega) (by omega) rfl
          refine En_Ps 1 (pc' := 98) (lv' := [(6, .int ((y36 + Int32.ofInt 1))), (0, .ref 159), (1, .int a), (2, .int b), (3, .int c), (4, .int d), (5, .int e)]) (st' := []) rfl ?_
          refine En_lv1 (addI rfl (by decide : (Int32.ofInt 1).toInt = 1) (by first | exact q_465ab79ac1 h47 | omega) (by first | exact q_8ccf04c880 h51 | omega)) (fun z87 h88 => ?_)
          refine En_Ps 1 (pc' := 55) (lv' := [(6, .int z87), (0, .ref 159), (1, .int a), (2, .int b), (3, .int c), (4, .int d), (5, .int e)]) (st' := []) rfl ?_
          refine En_lv (lv := [(0, .ref 159), (1, .int a), (2, .int b), (3, .int c), (4, .int d), (5, .int e), (6, .int z87)]) ⟨rfl, rfl, rfl, rfl, rfl, rfl, rfl, trivial⟩ ?_
          exact ih55 σ81 z87 h82 h83 ((h85 _ _ (Or.inl (neTG tgz_159 tgz_163 (by decide)))).trans h40) ((h85 _ _ (Or.inl (neTG tgz_159 tgz_163 (by decide)))).trans h41) ((h85 _ _ (Or.inl (neTG tgz_164 tgz_163 (by decide)))).trans h42) ((h85 _ _ (Or.inl (neTG tgz_164 tgz_163 (by decide)))).trans h43) ((h85 _ _ (Or.inl (neTG tgz_164 tgz_163 (by decide)))).trans h44) ((h85 _ _ (Or.inl (neTG tgz_164 tgz_163 (by decide)))).trans h45) ((h85 _ _ (Or.inl (neTG tgz_164 tgz_163 (by decide)))).trans h46) (by first | exact q_35104ce9d3 h88 h47 | omega) (by first | exact q_99973c5546 h88 h51 | omega) (by first | exact q_b6756d9ca4 h88 h49 | omega) (FDP_c h86 (by (first | exact q_ba1b2c713b h88 | omega)))
    have := (by decide : (Int32.ofInt 0).toInt = 0)
    refine En_lv (lv := [(0, .ref 159), (1, .int a), (2, .int b), (3, .int c), (4, .int d), (5, .int e), (6, .int ((Int32.ofInt 0)))]) ⟨rfl, rfl, rfl, rfl, rfl, rfl, rfl, trivial⟩ ?_
    exact key55 (Int.toNat (20) + 1) σ30 ((Int32.ofInt 0)) h31 h32 ((h34 _ _ (Or.inl (neTG tgz_159 tgz_164 (by decide)))).trans ((h28 _ _ (Or.inl (neTG tgz_159 tgz_164 (by decide)))).trans ((h22 _ _ (Or.inl (neTG tgz_159 tgz_164 (by decide)))).trans ((h16 _ _ (Or.inl (neTG tgz_159 tgz_164 (by decide)))).trans ((h10 _ _ (Or.inl (neTG tgz_159 tgz_164 (by decide)))).trans h_m))))) ((h34 _ _ (Or.inl (neTG tgz_159 tgz_164 (by decide)))).trans ((h28 _ _ (Or.inl (neTG tgz_159 tgz_164 (by decide)))).trans ((h22 _ _ (Or.inl (neTG tgz_159 tgz_164 (by decide)))).trans ((h16 _ _ (Or.inl (neTG tgz_159 tgz_164 (by decide)))).trans ((h10 _ _ (Or.inl (neTG tgz_159 tgz_164 (by decide)))).trans h4))))) ((h34 _ _ (Or.inr (by (first | decide | omega)))).trans ((h28 _ _ (Or.inr (by (first | decide | omega)))).trans ((h22 _ _ (Or.inr (by (first | decide | omega)))).trans ((h16 _ _ (Or.inr (by (first | decide | omega)))).trans h9)))) ((h34 _ _ (Or.inr (by (first | decide | omega)))).trans ((h28 _ _ (Or.inr (by (first | decide | omega)))).trans ((h22 _ _ (Or.inr (by (first | decide | omega)))).trans h15))) ((h34 _ _ (Or.inr (by (first | decide | omega)))).trans ((h28 _ _ (Or.inr (by (first | decide | omega)))).trans h21)) ((h34 _ _ (Or.inr (by (first | decide | omega)))).trans h27) h33 (by decide) (by decide) (by first | exact toN_lt _ | omega) (FDP_0 (by decide) h35)
  · refine En_Ps 1 (pc' := 14) (lv' := [(0, .ref 159), (1, .int a), (2, .int b), (3, .int c), (4, .int d), (5, .int e)]) (st' := [.int ((Int32.ofInt (-1)))]) rfl ?_
    refine En_top (by decide : (Int32.ofInt (-1)).toInt = -1) (fun z89 h90 => ?_)
    exact En_ret (v := some (Value.int z89)) rfl rfl rfl ⟨hσ0, hF0, m, h_m, z89, rfl, ⟨by first | exact q_6ba54b61e9 h90 | omega, by first | exact q_99664cbdae h90 | omega, by first | exact q_abdabe92bc h2 h3 | omega, by first | exact q_5a08281576 hu_m | omega, by first | exact q_857069189f | omega, by first | exact q_b37250a010 | omega, fun _ => by omega, fun hh => by first | exact ⟨q_1bb76abeaf, q_857069189f, q_4eb6dac66d h90, q_6ba54b61e9 h90⟩ | omega, ⟨fun h => absurd h (by (first | exact q_485fc563e3 h h2 h3 | omega)), fun _ _ => rfl⟩⟩⟩
end
