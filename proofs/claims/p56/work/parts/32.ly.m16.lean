/-- DoorSchoolModel.rest(I)I -/
abbrev P_306 (σ0 : SG) (a : Int32) : PO := fun v σ => WT σ ∧ Fr [(35, 18), (35, 21), (42, 0), (43, 0), (44, 0), (45, 0), (46, 0)] σ0 σ ∧ ∃ ret : Int32, v = some (.int ret) ∧ -ret.toInt - 2 ≤ 0 ∧ ret.toInt - 215 ≤ 0
set_option maxRecDepth 10000 in
set_option maxHeartbeats 4000000 in
theorem c_306 (σ0 : SG) (hσ0 : WT σ0) (a : Int32) : En 6 138 none mr_306 (P_306 σ0 a) 0 [(0, .ref 159), (1, .int a)] [] σ0 := by
  have hF0 : Fr [(35, 18), (35, 21), (42, 0), (43, 0), (44, 0), (45, 0), (46, 0)] σ0 σ0 := Fr_rfl
  refine En_Ps 2 (pc' := 2) (lv' := [(0, .ref 159), (1, .int a)]) (st' := [.int a, .ref 159]) rfl ?_
  obtain ⟨z2, h1, h3, h4⟩ := WT_peekI hσ0 tgz_160 (by decide +kernel : FT 36 (2 : Int).toNat = (0, 0, 4)) (by decide +kernel)
  refine En_callV rfl rfl rfl rfl rfl rfl rfl rfl tgz_159 (by decide +kernel) rfl (c_254 σ0 hσ0 a z2 h1) (by decide) (by decide) (fun v6 σ7 h5 => ?_)
  obtain ⟨h8, h9, z11, rfl, h10⟩ := h5
  have h12 := Fr_trans hF0 h9 (by decide +kernel)
  refine En_iNe _ rfl rfl (fun h13 => ?_) (fun h13 => ?_)
  · refine En_Ps 2 (pc' := 13) (lv' := [(2, .int ((Int32.ofInt 0))), (0, .ref 159), (1, .int a)]) (st' := []) rfl ?_
    have key13 : ∀ (n13 : Nat) (σ15 : SG) (y14 : Int32), WT σ15 → Fr [(35, 18), (35, 21), (42, 0), (43, 0), (44, 0), (45, 0), (46, 0)] σ0 σ15 → (σ15 160)[(2 : Int).toNat]? = some (.int z2) → 0 ≤ y14.toInt → y14.toInt ≤ 3 → -y14.toInt + 3 < (n13 : Int) → En 6 138 none mr_306 (P_306 σ0 a) 13 [(0, .ref 159), (1, .int a), (2, .int y14)] [] σ15 := by
      intro n13
      induction n13 with
      | zero =>
        intro σ15 y14 h16 h17 h18 h19 h20 h21
        first | exact (q_9f1e7068c9 h21 h20).elim | (exfalso; omega)
      | succ n13 ih13 =>
        intro σ15 y14 h16 h17 h18 h19 h20 h21
        refine En_Ps 2 (pc' := 15) (lv' := [(0, .ref 159), (1, .int a), (2, .int y14)]) (st' := [.int ((Int32.ofInt 3)), .int y14]) rfl ?_
        refine En_icGe _ rfl (by decide : (Int32.ofInt 3).toInt = 3) rfl (fun h22 => ?_) (fun h22 => ?_)
        · refine En_Ps 1 (pc' := 66) (lv' := [(0, .ref 159), (1, .int a), (2, .int y14)]) (st' := [.int ((Int32.ofInt (-1)))]) rfl ?_
          refine En_top (by decide : (Int32.ofInt (-1)).toInt = -1) (fun z23 h24 => ?_)
          exact En_ret (v := some (.int z23)) rfl rfl rfl ⟨h16, h17, z23, rfl, ⟨by first | exact q_e1de8c7867 h24 | omega, by first | exact q_bfbda685e5 h24 | omega⟩⟩
        · refine En_Ps 2 (pc' := 20) (lv' := [(3, .int ((Int32.ofInt 0))), (0, .ref 159), (1, .int a), (2, .int y14)]) (st' := []) rfl ?_
          have key20 : ∀ (n20 : Nat) (σ26 : SG) (y25 : Int32), WT σ26 → Fr [(35, 18), (35, 21), (42, 0), (43, 0), (44, 0), (45, 0), (46, 0)] σ0 σ26 → (σ26 160)[(2 : Int).toNat]? = some (.int z2) → 0 ≤ y25.toInt → y25.toInt ≤ 16 → -y25.toInt + 16 < (n20 : Int) → En 6 138 none mr_306 (P_306 σ0 a) 20 [(0, .ref 159), (1, .int a), (2, .int y14), (3, .int y25)] [] σ26 := by
            intro n20
            induction n20 with
            | zero =>
              intro σ26 y25 h27 h28 h29 h30 h31 h32
              first | exact (q_511f6d33ac h32 h31).elim | (exfalso; omega)
            | succ n20 ih20 =>
              intro σ26 y25 h27 h28 h29 h30 h31 h32
              refine En_Ps 2 (pc' := 22) (lv' := [(0, .ref 159), (1, .int a), (2, .int y14), (3, .int y25)]) (st' := [.ref 159, .int y25]) rfl ?_
              obtain ⟨z34, h33, h35, h36⟩ := WT_peekI h27 tgz_160 (by decide +kernel : FT 36 (0 : Int).toNat = (0, 0, 4)) (by decide +kernel)
              obtain ⟨z38, h37, h39, h40⟩ := WT_peekI h27 tgz_160 (by decide +kernel : FT 36 (7 : Int).toNat = (0, 0, 1600)) (by decide +kernel)
              refine En_callV rfl rfl rfl rfl rfl rfl rfl rfl tgz_159 (by decide +kernel) rfl (c_269 σ26 h27 z34 h33 z38 h37) (by decide) (by decide) (fun v42 σ43 h41 => ?_)
              obtain ⟨h44, h45, z47, rfl, h46⟩ := h41
              have h48 := h46.2.2
              have h49 := Fr_trans h28 h45 (by decide +kernel)
              refine En_icGe _ rfl rfl rfl (fun h50 => ?_) (fun h50 => ?_)
              · refine En_Ps 1 (pc' := 62) (lv' := [(2, .int ((y14 + Int32.ofInt 1))), (0, .ref 159), (1, .int a), (3, .int y25)]) (st' := []) rfl ?_
                refine En_lv1 (addI rfl (by decide : (Int32.ofInt 1).toInt = 1) (by first | exact q_465ab79ac1 h19 | omega) (by first | exact q_6ae830b01d h22 | omega)) (fun z51 h52 => ?_)
                refine En_Ps 1 (pc' := 13) (lv' := [(2, .int z51), (0, .ref 159), (1, .int a), (3, .int y25)]) (st' := []) rfl ?_
                refine En_lv (lv := [(0, .ref 159), (1, .int a), (2, .int z51)]) ⟨rfl, rfl, rfl, trivial⟩ ?_
                exact ih13 σ43 z51 h44 h49 ((h45 _ _ (inWa tgz_160 (by decide +kernel))).trans h29) (by first | exact q_35104ce9d3 h52 h19 | omega) (by first | exact q_84805d5d8e h52 h22 | omega) (by first | exact q_6272716eb4 h52 h21 | omega)
              · refine En_Ps 2 (pc' := 30) (lv' := [(0, .ref 159), (1, .int a), (2, .int y14), (3, .int y25)]) (st' := [.int y25, .ref 159]) rfl ?_
                refine En_callV rfl rfl rfl rfl rfl rfl rfl rfl tgz_159 (by decide +kernel) rfl (c_267 σ43 h44 y25) (by decide) (by decide) (fun v54 σ55 h53 => ?_)
                obtain ⟨h56, h57, z59, rfl, h58⟩ := h53
                have h60 := Fr_trans h49 h57 (by decide +kernel)
                refine En_iEq _ rfl rfl (fun h61 => ?_) (fun h61 => ?_)
                · refine En_Ps 1 (pc' := 56) (lv' := [(3, .int ((y25 + Int32.ofInt 1))), (0, .ref 159), (1, .int a), (2, .int y14)]) (st' := []) rfl ?_
                  refine En_lv1 (addI rfl (by decide : (Int32.ofInt 1).toInt = 1) (by first | exact q_465ab79ac1 h30 | omega) (by first | exact q_f3f8e04381 h31 | omega)) (fun z62 h63 => ?_)
                  refine En_Ps 1 (pc' := 20) (lv' := [(3, .int z62), (0, .ref 159), (1, .int a), (2, .int y14)]) (st' := []) rfl ?_
                  refine En_lv (lv := [(0, .ref 159), (1, .int a), (2, .int y14), (3, .int z62)]) ⟨rfl, rfl, rfl, rfl, trivial⟩ ?_
                  exact ih20 σ55 z62 h56 h60 ((h57 _ _ (inWa tgz_160 (by decide +kernel))).trans ((h45 _ _ (inWa tgz_160 (by decide +kernel))).trans h29)) (by first | exact q_35104ce9d3 h63 h30 | omega) (by first | exact q_34dc714687 h63 h50 h46.2.1 | omega) (by first | exact q_c5d740bdff h63 h32 | omega)
                · refine En_Ps 4 (pc' := 40) (lv' := [(0, .ref 159), (1, .int a), (2, .int y14), (3, .int y25)]) (st' := [.int y25, .int y14, .int a, .ref 159]) rfl ?_
                  refine En_callV rfl rfl rfl rfl rfl rfl rfl rfl tgz_159 (by decide +kernel) rfl (c_261 σ55 h56 a y14 y25 (geI rfl (by omega)) (leI rfl (by omega)) (geI rfl (by first | exact q_58e6e51dcc h19 | omega)) (leI rfl (by first | exact q_f1519f12c0 h22 | omega)) (geI rfl (by first | exact q_58e6e51dcc h30 | omega)) (leI rfl (by first | exact q_c15b485600 h50 h46.2.1 | omega))) (by decide) (by decide) (fun v65 σ66 h64 => ?_)
                  obtain ⟨h67, h68, z70, rfl, h69⟩ := h64
                  have h71 := Fr_trans h60 h68 (by decide +kernel)
                  refine En_iEq _ rfl rfl (fun h72 => ?_) (fun h72 => ?_)
                  · refine En_Ps 1 (pc' := 56) (lv' := [(3, .int ((y25 + Int32.ofInt 1))), (0, .ref 159), (1, .int a), (2, .int y14)]) (st' := []) rfl ?_
                    refine En_lv1 (addI rfl (by decide : (Int32.ofInt 1).toInt = 1) (by first | exact q_465ab79ac1 h30 | omega) (by first | exact q_f3f8e04381 h31 | omega)) (fun z73 h74 => ?_)
                    refine En_Ps 1 (pc' := 20) (lv' := [(3, .int z73), (0, .ref 159), (1, .int a), (2, .int y14)]) (st' := []) rfl ?_
                    refine En_lv (lv := [(0, .ref 159), (1, .int a), (2, .int y14), (3, .int z73)]) ⟨rfl, rfl, rfl, rfl, trivial⟩ ?_
                    exact ih20 σ66 z73 h67 h71 ((h68 _ _ (inWa tgz_160 (by decide +kernel))).trans ((h57 _ _ (inWa tgz_160 (by decide +kernel))).trans ((h45 _ _ (inWa tgz_160 (by decide +kernel))).trans h29))) (by first | exact q_35104ce9d3 h74 h30 | omega) (by first | exact q_34dc714687 h74 h50 h46.2.1 | omega) (by first | exact q_c5d740bdff h74 h32 | omega)
                  · refine En_Ps 3 (pc' := 50) (lv' := [(0, .ref 159), (1, .int a), (2, .int y14), (3, .int y25)]) (st' := [.int (((((Int8.ofInt 100).toInt32)) * y14))]) rfl ?_
                    refine En_top (mulI (by decide : ((Int8.ofInt 100).toInt32).toInt = 100) rfl (Z := 100 * y14.toInt) (by first | exact q_ec6b471118 | omega) (by first | exact q_c2dc73a4d1 h19 | omega) (by first | exact q_4849263c2c h22 | omega)) (fun z75 h76 => ?_)
                    refine En_Ps 2 (pc' := 52) (lv' := [(0, .ref 159), (1, .int a), (2, .int y14), (3, .int y25)]) (st' := [.int ((z75 + y25))]) rfl ?_
                    refine En_top (addI rfl rfl (by first | exact q_5f97f9cf0f h30 h76 h19 | omega) (by first | exact q_969932ee8b h50 h76 h22 h46.2.1 | omega)) (fun z77 h78 => ?_)
                    exact En_ret (v := some (.int z77)) rfl rfl rfl ⟨h67, h71, z77, rfl, ⟨by first | exact q_89fb32ea47 h78 h30 h76 h19 | omega, by first | exact q_f0f33d7539 h78 h50 h76 h22 h46.2.1 | omega⟩⟩
          have := (by decide : (Int32.ofInt 0).toInt = 0)
          refine En_lv (lv := [(0, .ref 159), (1, .int a), (2, .int y14), (3, .int ((Int32.ofInt 0)))]) ⟨rfl, rfl, rfl, rfl, trivial⟩ ?_
          exact key20 (Int.toNat (16) + 1) σ15 ((Int32.ofInt 0)) h16 h17 h18 (by decide) (by decide) (by first | exact toN_lt _ | omega)
    have := (by decide : (Int32.ofInt 0).toInt = 0)
    refine En_lv (lv := [(0, .ref 159), (1, .int a), (2, .int ((Int32.ofInt 0)))]) ⟨rfl, rfl, rfl, trivial⟩ ?_
    exact key13 (Int.toNat (3) + 1) σ7 ((Int32.ofInt 0)) h8 h12 ((h9 _ _ (inWa tgz_160 (by decide +kernel))).trans h1) (by decide) (by decide) (by first | exact toN_lt _ | omega)
  · refine En_Ps 1 (pc' := 10) (lv' := [(0, .ref 159), (1, .int a)]) (st' := [.int (((Int8.ofInt (-2)).toInt32))]) rfl ?_
    refine En_top (by decide : ((Int8.ofInt (-2)).toInt32).toInt = -2) (fun z79 h80 => ?_)
    exact En_ret (v := some (.int z79)) rfl rfl rfl ⟨h8, h12, z79, rfl, ⟨by first | exact q_f35c5d346c h80 | omega, by first | exact q_45d2ac33e5 h80 | omega⟩⟩
/-- DoorSchoolModel.rests(I)I -/
abbrev P_307 (σ0 : SG) (a : Int32) : PO := fun v σ => WT σ ∧ Fr [(35, 18), (35, 21), (42, 0), (43, 0), (44, 0), (45, 0), (46, 0)] σ0 σ ∧ ∃ ret : Int32, v = some (.int ret) ∧ True
set_option maxRecDepth 10000 in
set_option maxHeartbeats 4000000 in
theorem c_307 (σ0 : SG) (hσ0 : WT σ0) (a : Int32) : En 6 138 none mr_307 (P_307 σ0 a) 0 [(0, .ref 159), (1, .int a)] [] σ0 := by
  have hF0 : Fr [(35, 18), (35, 21), (42, 0), (43, 0), (44, 0), (45, 0), (46, 0)] σ0 σ0 := Fr_rfl
  refine En_Ps 2 (pc' := 2) (lv' := [(0, .ref 159), (1, .int a)]) (st' := [.int a, .ref 159]) rfl ?_
  obtain ⟨z2, h1, h3, h4⟩ := WT_peekI hσ0 tgz_160 (by decide +kernel : FT 36 (2 : Int).toNat = (0, 0, 4)) (by decide +kernel)
  refine En_callV rfl rfl rfl rfl rfl rfl rfl rfl tgz_159 (by decide +kernel) rfl (c_254 σ0 hσ0 a z2 h1) (by decide) (by decide) (fun v6 σ7 h5 => ?_)
  obtain ⟨h8, h9, z11, rfl, h10⟩ := h5
  have h12 := Fr_trans hF0 h9 (by decide +kernel)
  refine En_iNe _ rfl rfl (fun h13 => ?_) (fun h13 => ?_)
  · refine En_Ps 4 (pc' := 15) (lv' := [(3, .int ((Int32.ofInt 0))), (2, .int ((Int32.ofInt 0))), (0, .ref 159), (1, .int a)]) (st' := []) rfl ?_
    have key15 : ∀ (n15 : Nat) (σ16 : SG) (y14 : Int32) (y15 : Int32), WT σ16 → Fr [(35, 18), (35, 21), (42, 0), (43, 0), (44, 0), (45, 0), (46, 0)] σ0 σ16 → (σ16 160)[(2 : Int).toNat]? = some (.int z2) → 0 ≤ y15.toInt → y15.toInt ≤ 3 → -y15.toInt + 3 < (n15 : Int) → En 6 138 none mr_307 (P_307 σ0 a) 15 [(0, .ref 159), (1, .int a), (2, .int y14), (3, .int y15)] [] σ16 := by
      intro n15
      induction n15 with
      | zero =>
        intro σ16 y14 y15 h17 h18 h19 h20 h21 h22
        first | exact (q_9f1e7068c9 h22 h21).elim | (exfalso; omega)
      | succ n15 ih15 =>
        intro σ16 y14 y15 h17 h18 h19 h20 h21 h22
        refine En_Ps 2 (pc' := 17) (lv' := [(0, .ref 159), (1, .int a), (2, .int y14), (3, .int y15)]) (st' := [.int ((Int32.ofInt 3)), .int y15]) rfl ?_
        refine En_icGe _ rfl (by decide : (Int32.ofInt 3).toInt = 3) rfl (fun h23 => ?_) (fun h23 => ?_)
        · refine En_Ps 1 (pc' := 73) (lv' := [(0, .ref 159), (1, .int a), (2, .int y14), (3, .int y15)]) (st' := [.int y14]) rfl ?_
          exact En_ret (v := some (.int y14)) rfl rfl rfl ⟨h17, h18, y14, rfl, trivial⟩
        · refine En_Ps 2 (pc' := 23) (lv' := [(4, .int ((Int32.ofInt 0))), (0, .ref 159), (1, .int a), (2, .int y14), (3, .int y15)]) (st' := []) rfl ?_
          have key23 : ∀ (n23 : Nat) (σ26 : SG) (y24 : Int32) (y25 : Int32), WT σ26 → Fr [(35, 18), (35, 21), (42, 0), (43, 0), (44, 0), (45, 0), (46, 0)] σ0 σ26 → (σ26 160)[(2 : Int).toNat]? = some (.int z2) → 0 ≤ y25.toInt → y25.toInt ≤ 16 → -y25.toInt + 16 < (n23 : Int) → En 6 138 none mr_307 (P_307 σ0 a) 23 [(0, .ref 159), (1, .int a), (2, .int y24), (3, .int y15), (4, .int y25)] [] σ26 := by
            intro n23
            induction n23 with
            | zero =>
              intro σ26 y24 y25 h27 h28 h29 h30 h31 h32
              first | exact (q_511f6d33ac h32 h31).elim | (exfalso; omega)
            | succ n23 ih23 =>
              intro σ26 y24 y25 h27 h28 h29 h30 h31 h32
              refine En_Ps 2 (pc' := 26) (lv' := [(0, .ref 159), (1, .int a), (2, .int y24), (3, .int y15), (4, .int y25)]) (st' := [.ref 159, .int y25]) rfl ?_
              obtain ⟨z34, h33, h35, h36⟩ := WT_peekI h27 tgz_160 (by decide +kernel : FT 36 (0 : Int).toNat = (0, 0, 4)) (by decide +kernel)
              obtain ⟨z38, h37, h39, h40⟩ := WT_peekI h27 tgz_160 (by decide +kernel : FT 36 (7 : Int).toNat = (0, 0, 1600)) (by decide +kernel)
              refine En_callV rfl rfl rfl rfl rfl rfl rfl rfl tgz_159 (by decide +kernel) rfl (c_269 σ26 h27 z34 h33 z38 h37) (by decide) (by decide) (fun v42 σ43 h41 => ?_)
              obtain ⟨h44, h45, z47, rfl, h46⟩ := h41
              have h48 := h46.2.2
              have h49 := Fr_trans h28 h45 (by decide +kernel)
              refine En_icGe _ rfl rfl rfl (fun h50 => ?_) (fun h50 => ?_)
              · refine En_Ps 1 (pc' := 69) (lv' := [(3, .int ((y15 + Int32.ofInt 1))), (0, .ref 159), (1, .int a), (2, .int y24), (4, .int y25)]) (st' := []) rfl ?_
                refine En_lv1 (addI rfl (by decide : (Int32.ofInt 1).toInt = 1) (by first | exact q_465ab79ac1 h20 | omega) (by first | exact q_6ae830b01d h23 | omega)) (fun z51 h52 => ?_)
                refine En_Ps 1 (pc' := 15) (lv' := [(3, .int z51), (0, .ref 159), (1, .int a), (2, .int y24), (4, .int y25)]) (st' := []) rfl ?_
                refine En_lv (lv := [(0, .ref 159), (1, .int a), (2, .int y24), (3, .int z51)]) ⟨rfl, rfl, rfl, rfl, trivial⟩ ?_
                exact ih15 σ43 y24 z51 h44 h49 ((h45 _ _ (inWa tgz_160 (by decide +kernel))).trans h29) (by first | exact q_35104ce9d3 h52 h20 | omega) (by first | exact q_84805d5d8e h52 h23 | omega) (by first | exact q_6272716eb4 h52 h22 | omega)
              · refine En_Ps 3 (pc' := 36) (lv' := [(0, .ref 159), (1, .int a), (2, .int y24), (3, .int y15), (4, .int y25)]) (st' := [.int y25, .ref 159, .int y24]) rfl ?_
                refine En_callV rfl rfl rfl rfl rfl rfl rfl rfl tgz_159 (by decide +kernel) rfl (c_267 σ43 h44 y25) (by decide) (by decide) (fun v54 σ55 h53 => ?_)
                obtain ⟨h56, h57, z59, rfl, h58⟩ := h53
                have h60 := Fr_trans h49 h57 (by decide +kernel)
                refine En_iEq _ rfl rfl (fun h61 => ?_) (fun h61 => ?_)
                · refine En_Ps 2 (pc' := 59) (lv' := [(0, .ref 159), (1, .int a), (2, .int y24), (3, .int y15), (4, .int y25)]) (st' := [.int ((y24 + ((Int32.ofInt 0))))]) rfl ?_
                  refine En_hav (fun z62 => ?_)
                  refine En_Ps 2 (pc' := 63) (lv' := [(4, .int ((y25 + Int32.ofInt 1))), (2, .int z62), (0, .ref 159), (1, .int a), (3, .int y15)]) (st' := []) rfl ?_
                  refine En_lv1 (addI rfl (by decide : (Int32.ofInt 1).toInt = 1) (by first | exact q_465ab79ac1 h30 | omega) (by first | exact q_f3f8e04381 h31 | omega)) (fun z63 h64 => ?_)
                  refine En_Ps 1 (pc' := 23) (lv' := [(4, .int z63), (2, .int z62), (0, .ref 159), (1, .int a), (3, .int y15)]) (st' := []) rfl ?_
                  refine En_lv (lv := [(0, .ref 159), (1, .int a), (2, .int z62), (3, .int y15), (4, .int z63)]) ⟨rfl, rfl, rfl, rfl, rfl, trivial⟩ ?_
                  exact ih23 σ55 z62 z63 h56 h60 ((h57 _ _ (inWa tgz_160 (by decide +kernel))).trans ((h45 _ _ (inWa tgz_160 (by decide +kernel))).trans h29)) (by first | exact q_35104ce9d3 h64 h30 | omega) (by first | exact q_34dc714687 h64 h50 h46.2.1 | omega) (by first | exact q_c5d740bdff h64 h32 | omega)
                · refine En_Ps 4 (pc' := 47) (lv' := [(0, .ref 159), (1, .int a), (2, .int y24), (3, .int y15), (4, .int y25)]) (st' := [.int y25, .int y15, .int a, .ref 159, .int y24]) rfl ?_
                  refine En_callV rfl rfl rfl rfl rfl rfl rfl rfl tgz_159 (by decide +kernel) rfl (c_261 σ55 h56 a y15 y25 (geI rfl (by omega)) (leI rfl (by omega)) (geI rfl (by first | exact q_58e6e51dcc h20 | omega)) (leI rfl (by first | exact q_f1519f12c0 h23 | omega)) (geI rfl (by first | exact q_58e6e51dcc h30 | omega)) (leI rfl (by first | exact q_c15b485600 h50 h46.2.1 | omega))) (by decide) (by decide) (fun v66 σ67 h65 => ?_)
                  obtain ⟨h68, h69, z71, rfl, h70⟩ := h65
                  have h72 := Fr_trans h60 h69 (by decide +kernel)
                  refine En_iEq _ rfl rfl (fun h73 => ?_) (fun h73 => ?_)
                  · refine En_Ps 2 (pc' := 59) (lv' := [(0, .ref 159), (1, .int a), (2, .int y24), (3, .int y15), (4, .int y25)]) (st' := [.int ((y24 + ((Int32.ofInt 0))))]) rfl ?_
                    refine En_hav (fun z74 => ?_)
                    refine En_Ps 2 (pc' := 63) (lv' := [(4, .int ((y25 + Int32.ofInt 1))), (2, .int z74), (0, .ref 159), (1, .int a), (3, .int y15)]) (st' := []) rfl ?_
                    refine En_lv1 (addI rfl (by decide : (Int32.ofInt 1).toInt = 1) (by first | exact q_465ab79ac1 h30 | omega) (by first | exact q_f3f8e04381 h31 | omega)) (fun z75 h76 => ?_)
                    refine En_Ps 1 (pc' := 23) (lv' := [(4, .int z75), (2, .int z74), (0, .ref 159), (1, .int a), (3, .int y15)]) (st' := []) rfl ?_
                    refine En_lv (lv := [(0, .ref 159), (1, .int a), (2, .int z74), (3, .int y15), (4, .int z75)]) ⟨rfl, rfl, rfl, rfl, rfl, trivial⟩ ?_
                    exact ih23 σ67 z74 z75 h68 h72 ((h69 _ _ (inWa tgz_160 (by decide +kernel))).trans ((h57 _ _ (inWa tgz_160 (by decide +kernel))).trans ((h45 _ _ (inWa tgz_160 (by decide +kernel))).trans h29))) (by first | exact q_35104ce9d3 h76 h30 | omega) (by first | exact q_34dc714687 h76 h50 h46.2.1 | omega) (by first | exact q_c5d740bdff h76 h32 | omega)
                  · refine En_Ps 3 (pc' := 59) (lv' := [(0, .ref 159), (1, .int a), (2, .int y24), (3, .int y15), (4, .int y25)]) (st' := [.int ((y24 + ((Int32.ofInt 1))))]) rfl ?_
                    refine En_hav (fun z77 => ?_)
                    refine En_Ps 2 (pc' := 63) (lv' := [(4, .int ((y25 + Int32.ofInt 1))), (2, .int z77), (0, .ref 159), (1, .int a), (3, .int y15)]) (st' := []) rfl ?_
                    refine En_lv1 (addI rfl (by decide : (Int32.ofInt 1).toInt = 1) (by first | exact q_465ab79ac1 h30 | omega) (by first | exact q_f3f8e04381 h31 | omega)) (fun z78 h79 => ?_)
                    refine En_Ps 1 (pc' := 23) (lv' := [(4, .int z78), (2, .int z77), (0, .ref 159), (1, .int a), (3, .int y15)]) (st' := []) rfl ?_
                    refine En_lv (lv := [(0, .ref 159), (1, .int a), (2, .int z77), (3, .int y15), (4, .int z78)]) ⟨rfl, rfl, rfl, rfl, rfl, trivial⟩ ?_
                    exact ih23 σ67 z77 z78 h68 h72 ((h69 _ _ (inWa tgz_160 (by decide +kernel))).trans ((h57 _ _ (inWa tgz_160 (by decide +kernel))).trans ((h45 _ _ (inWa tgz_160 (by decide +kernel))).trans h29))) (by first | exact q_35104ce9d3 h79 h30 | omega) (by first | exact q_34dc714687 h79 h50 h46.2.1 | omega) (by first | exact q_c5d740bdff h79 h32 | omega)
          have := (by decide : (Int32.ofInt 0).toInt = 0)
          refine En_lv (lv := [(0, .ref 159), (1, .int a), (2, .int y14), (3, .int y15), (4, .int ((Int32.ofInt 0)))]) ⟨rfl, rfl, rfl, rfl, rfl, trivial⟩ ?_
          exact key23 (Int.toNat (16) + 1) σ16 y14 ((Int32.ofInt 0)) h17 h18 h19 (by decide) (by decide) (by first | exact toN_lt _ | omega)
    have := (by decide : (Int32.ofInt 0).toInt = 0)
    have := (by decide : (Int32.ofInt 0).toInt = 0)
    refine En_lv (lv := [(0, .ref 159), (1, .int a), (2, .int ((Int32.ofInt 0))), (3, .int ((Int32.ofInt 0)))]) ⟨rfl, rfl, rfl, rfl, trivial⟩ ?_
    exact key15 (Int.toNat (3) + 1) σ7 ((Int32.ofInt 0)) ((Int32.ofInt 0)) h8 h12 ((h9 _ _ (inWa tgz_160 (by decide +kernel))).trans h1) (by decide) (by decide) (by first | exact toN_lt _ | omega)
  · refine En_Ps 1 (pc' := 10) (lv' := [(0, .ref 159), (1, .int a)]) (st' := [.int (((Int8.ofInt (-2)).toInt32))]) rfl ?_
    refine En_top (by decide : ((Int8.ofInt (-2)).toInt32).toInt = -2) (fun z80 h81 => ?_)
    exact En_ret (v := some (.int z80)) rfl rfl rfl ⟨h8, h12, z80, rfl, trivial⟩
/-- DoorSchoolModel.rule(II)I -/
abbrev P_309 (σ0 : SG) (a : Int32) (b : Int32) : PO := fun v σ => WT σ ∧ Fr [(35, 18), (35, 21), (42, 0), (43, 0), (44, 0), (45, 0), (46, 0)] σ0 σ ∧ ∃ ret : Int32, v = some (.int ret) ∧ -ret.toInt - 2 ≤ 0 ∧ ret.toInt - 80 ≤ 0
set_option maxRecDepth 10000 in
set_option maxHeartbeats 4000000 in
theorem c_309 (σ0 : SG) (hσ0 : WT σ0) (a : Int32) (b : Int32) : En 4 87 none mr_309 (P_309 σ0 a b) 0 [(0, .ref 159), (1, .int a), (2, .int b)] [] σ0 := by
  have hF0 : Fr [(35, 18), (35, 21), (42, 0), (43, 0), (44, 0), (45, 0), (46, 0)] σ0 σ0 := Fr_rfl
  refine En_Ps 2 (pc' := 2) (lv' := [(0, .ref 159), (1, .int a), (2, .int b)]) (st' := [.int a, .ref 159]) rfl ?_
  obtain ⟨z2, h1, h3, h4⟩ := WT_peekI hσ0 tgz_160 (by decide +kernel : FT 36 (2 : Int).toNat = (0, 0, 4)) (by decide +kernel)
  refine En_callV rfl rfl rfl rfl rfl rfl rfl rfl tgz_159 (by decide +kernel) rfl (c_254 σ0 hσ0 a z2 h1) (by decide) (by decide) (fun v6 σ7 h5 => ?_)
  obtain ⟨h8, h9, z11, rfl, h10⟩ := h5
  have h12 := Fr_trans hF0 h9 (by decide +kernel)
  refine En_iEq _ rfl rfl (fun h13 => ?_) (fun h13 => ?_)
  · refine En_Ps 1 (pc' := 22) (lv' := [(0, .ref 159), (1, .int a), (2, .int b)]) (st' := [.int (((Int8.ofInt (-2)).toInt32))]) rfl ?_
    refine En_top (by decide : ((Int8.ofInt (-2)).toInt32).toInt = -2) (fun z14 h15 => ?_)
    exact En_ret (v := some (.int z14)) rfl rfl rfl ⟨h8, h12, z14, rfl, ⟨by first | exact q_f35c5d346c h15 | omega, by first | exact q_e35b2e457c h15 | omega⟩⟩
  · refine En_Ps 4 (pc' := 14) (lv' := [(0, .ref 159), (1, .int a), (2, .int b)]) (st' := [.long ((2 : Int64)), .long ((Int64.ofNat 0)), .long b.toInt64]) rfl ?_
    have : b.toInt64.toInt = b.toInt := (i2lI rfl)
    have := (by decide : ((Int64.ofNat 0)).toInt = 0)
    have := (by decide : ((2 : Int64)).toInt = 2)
    refine En_callS rfl rfl rfl rfl rfl rfl rfl rfl rfl (c_249 σ7 h8 b.toInt64 ((Int64.ofNat 0)) ((2 : Int64))) (by decide) (by decide) (fun v17 σ18 h16 => ?_)
    obtain ⟨h19, h20, z22, rfl, h21⟩ := h16
    have h23 := Fr_trans h12 h20 (by decide +kernel)
    refine En_iNe _ rfl rfl (fun h24 => ?_) (fun h24 => ?_)
    · refine En_Ps 1 (pc' := 24) (lv' := [(0, .ref 159), (1, .int a), (2, .int b)]) (st' := [.ref 159]) rfl ?_
      obtain ⟨z26, h25, h27, h28⟩ := WT_peekI h19 tgz_160 (by decide +kernel : FT 36 (0 : Int).toNat = (0, 0, 4)) (by decide +kernel)
      obtain ⟨z30, h29, h31, h32⟩ := WT_peekI h19 tgz_160 (by decide +kernel : FT 36 (7 : Int).toNat = (0, 0, 1600)) (by decide +kernel)
      refine En_callV rfl rfl rfl rfl rfl rfl rfl rfl tgz_159 (by decide +kernel) rfl (c_272 σ18 h19 z26 h25 z30 h29) (by decide) (by decide) (fun v34 σ35 h33 => ?_)
      obtain ⟨h36, h37, rfl, h38⟩ := h33
      have h39 := Fr_trans h23 h37 (by decide +kernel)
      refine En_Ps 2 (pc' := 29) (lv' := [(0, .ref 159), (1, .int a), (2, .int b)]) (st' := [.int a, .ref 159]) rfl ?_
      refine En_callV rfl rfl rfl rfl rfl rfl rfl rfl tgz_159 (by decide +kernel) rfl (c_271 σ35 h36 a (geI rfl (by omega)) (leI rfl (by omega))) (by decide) (by decide) (fun v41 σ42 h40 => ?_)
      obtain ⟨h43, h44, z46, h47, rfl, h45⟩ := h40
      have h48 := Fr_trans h39 h44 (by decide +kernel)
      refine En_Ps 1 (pc' := 33) (lv' := [(0, .ref 159), (1, .int a), (2, .int b)]) (st' := [.ref 159]) rfl ?_
      refine En_callV rfl rfl rfl rfl rfl rfl rfl rfl tgz_159 (by decide +kernel) rfl (c_229 σ42 h43) (by decide) (by decide) (fun v50 σ51 h49 => ?_)
      obtain ⟨h52, h53, z55, rfl, h54⟩ := h49
      have h56 := Fr_trans h48 h53 (by decide +kernel)
      refine En_Ps 3 (pc' := 39) (lv' := [(3, .int z55), (0, .ref 159), (1, .int a), (2, .int b)]) (st' := [.int ((Int32.ofInt (-1))), .int z55]) rfl ?_
      refine En_icEq _ rfl (by decide : (Int32.ofInt (-1)).toInt = -1) rfl (fun h57 => ?_) (fun h57 => ?_)
      · refine En_Ps 2 (pc' := 70) (lv' := [(3, .int z55), (0, .ref 159), (1, .int a), (2, .int b)]) (st' := [.int z55]) rfl ?_
        exact En_ret (v := some (.int z55)) rfl rfl rfl ⟨h52, h56, z55, rfl, ⟨by first | exact q_108dc72d76 h54.1 | omega, by first | exact q_ed1bd306dd h57 | omega⟩⟩
      · refine En_Ps 2 (pc' := 44) (lv' := [(3, .int z55), (0, .ref 159), (1, .int a), (2, .int b)]) (st' := [.int ((Int32.ofInt 2)), .int b]) rfl ?_
        refine En_icNe _ rfl (by decide : (Int32.ofInt 2).toInt = 2) rfl (fun h58 => ?_) (fun h58 => ?_)
        · refine En_Ps 1 (pc' := 52) (lv' := [(3, .int z55), (0, .ref 159), (1, .int a), (2, .int b)]) (st' := [.int b]) rfl ?_
          refine En_iNe _ rfl rfl (fun h59 => ?_) (fun h59 => ?_)
          · refine En_Ps 1 (pc' := 65) (lv' := [(3, .int z55), (0, .ref 159), (1, .int a), (2, .int b)]) (st' := [.ref 159]) rfl ?_
            refine En_getU (j := 16) (u := 167) (g' := 43) (q := 0) rfl rfl rfl tgz_159 (by decide +kernel) h52 (by decide +kernel) (by decide +kernel) (fun h60 => ?_)
            refine En_Ps 1 (pc' := 69) (lv' := [(3, .int z55), (0, .ref 159), (1, .int a), (2, .int b)]) (st' := [.int z55, .ref 167]) rfl ?_
            refine En_iald (l := 0) (u := 15) rfl rfl tgz_167 (by decide +kernel) h52 (by first | exact q_b1cade0df5 h57 h54.1 | omega) (lnI (by decide +kernel : LN _ = 81) (by first | exact q_3ac9ed8367 h54.2 | omega)) (FTsgl (by decide +kernel)) (fun z63 h62 h64 h65 => ?_)
            exact En_ret (v := some (.int z63)) rfl rfl rfl ⟨h52, h56, z63, rfl, ⟨by first | exact q_ea7f0ffdb1 h64 | omega, by first | exact q_8ed889c819 h65 | omega⟩⟩
          · refine En_Ps 1 (pc' := 56) (lv' := [(3, .int z55), (0, .ref 159), (1, .int a), (2, .int b)]) (st' := [.ref 159]) rfl ?_
            refine En_getU (j := 15) (u := 166) (g' := 42) (q := 0) rfl rfl rfl tgz_159 (by decide +kernel) h52 (by decide +kernel) (by decide +kernel) (fun h66 => ?_)
            refine En_Ps 1 (pc' := 60) (lv' := [(3, .int z55), (0, .ref 159), (1, .int a), (2, .int b)]) (st' := [.int z55, .ref 166]) rfl ?_
            refine En_iald (l := 0) (u := 15) rfl rfl tgz_166 (by decide +kernel) h52 (by first | exact q_b1cade0df5 h57 h54.1 | omega) (lnI (by decide +kernel : LN _ = 81) (by first | exact q_3ac9ed8367 h54.2 | omega)) (FTsgl (by decide +kernel)) (fun z69 h68 h70 h71 => ?_)
            refine En_Ps 1 (pc' := 70) (lv' := [(3, .int z55), (0, .ref 159), (1, .int a), (2, .int b)]) (st' := [.int z69]) rfl ?_
            exact En_ret (v := some (.int z69)) rfl rfl rfl ⟨h52, h56, z69, rfl, ⟨by first | exact q_ea7f0ffdb1 h70 | omega, by first | exact q_8ed889c819 h71 | omega⟩⟩
        · refine En_Ps 2 (pc' := 70) (lv' := [(3, .int z55), (0, .ref 159), (1, .int a), (2, .int b)]) (st' := [.int z55]) rfl ?_
          exact En_ret (v := some (.int z55)) rfl rfl rfl ⟨h52, h56, z55, rfl, ⟨by first | exact q_3d8d12402f h57 h54.1 | omega, by first | exact q_370493a97e h54.2 | omega⟩⟩
    · refine En_Ps 1 (pc' := 22) (lv' := [(0, .ref 159), (1, .int a), (2, .int b)]) (st' := [.int (((Int8.ofInt (-2)).toInt32))]) rfl ?_
      refine En_top (by decide : ((Int8.ofInt (-2)).toInt32).toInt = -2) (fun z72 h73 => ?_)
      exact En_ret (v := some (.int z72)) rfl rfl rfl ⟨h19, h23, z72, rfl, ⟨by first | exact q_f35c5d346c h73 | omega, by first | exact q_e35b2e457c h73 | omega⟩⟩
/-- DoorSchoolModel.rules(I)I -/
abbrev P_310 (σ0 : SG) (a : Int32) : PO := fun v σ => WT σ ∧ Fr [(35, 18), (35, 21), (42, 0), (43, 0), (44, 0), (45, 0), (46, 0)] σ0 σ ∧ ∃ ret : Int32, v = some (.int ret) ∧ -ret.toInt - 2 ≤ 0 ∧ ret.toInt - 81 ≤ 0
set_option maxRecDepth 10000 in
set_option maxHeartbeats 4000000 in
theorem c_310 (σ0 : SG) (hσ0 : WT σ0) (a : Int32) : En 4 87 none mr_310 (P_310 σ0 a) 0 [(0, .ref 159), (1, .int a)] [] σ0 := by
  have hF0 : Fr [(35, 18), (35, 21), (42, 0), (43, 0), (44, 0), (45, 0), (46, 0)] σ0 σ0 := Fr_rfl
  refine En_Ps 2 (pc' := 2) (lv' := [(0, .ref 159), (1, .int a)]) (st' := [.int a, .ref 159]) rfl ?_
  obtain ⟨z2, h1, h3, h4⟩ := WT_peekI hσ0 tgz_160 (by decide +kernel : FT 36 (2 : Int).toNat = (0, 0, 4)) (by decide +kernel)
  refine En_callV rfl rfl rfl rfl rfl rfl rfl rfl tgz_159 (by decide +kernel) rfl (c_254 σ0 hσ0 a z2 h1) (by decide) (by decide) (fun v6 σ7 h5 => ?_)
  obtain ⟨h8, h9, z11, rfl, h10⟩ := h5
  have h12 := Fr_trans hF0 h9 (by decide +kernel)
  refine En_iNe _ rfl rfl (fun h13 => ?_) (fun h13 => ?_)
  · refine En_Ps 1 (pc' := 12) (lv' := [(0, .ref 159), (1, .int a)]) (st' := [.ref 159]) rfl ?_
    obtain ⟨z15, h14, h16, h17⟩ := WT_peekI h8 tgz_160 (by decide +kernel : FT 36 (0 : Int).toNat = (0, 0, 4)) (by decide +kernel)
    obtain ⟨z19, h18, h20, h21⟩ := WT_peekI h8 tgz_160 (by decide +kernel : FT 36 (7 : Int).toNat = (0, 0, 1600)) (by decide +kernel)
    refine En_callV rfl rfl rfl rfl rfl rfl rfl rfl tgz_159 (by decide +kernel) rfl (c_272 σ7 h8 z15 h14 z19 h18) (by decide) (by decide) (fun v23 σ24 h22 => ?_)
    obtain ⟨h25, h26, rfl, h27⟩ := h22
    have h28 := Fr_trans h12 h26 (by decide +kernel)
    refine En_Ps 2 (pc' := 17) (lv' := [(0, .ref 159), (1, .int a)]) (st' := [.int a, .ref 159]) rfl ?_
    refine En_callV rfl rfl rfl rfl rfl rfl rfl rfl tgz_159 (by decide +kernel) rfl (c_271 σ24 h25 a (geI rfl (by omega)) (leI rfl (by omega))) (by decide) (by decide) (fun v30 σ31 h29 => ?_)
    obtain ⟨h32, h33, z35, h36, rfl, h34⟩ := h29
    have h37 := Fr_trans h28 h33 (by decide +kernel)
    refine En_Ps 4 (pc' := 24) (lv' := [(3, .int ((Int32.ofInt 0))), (2, .int ((Int32.ofInt 0))), (0, .ref 159), (1, .int a)]) (st' := []) rfl ?_
    have key24 : ∀ (n24 : Nat) (σ40 : SG) (y38 : Int32) (y39 : Int32), WT σ40 → Fr [(35, 18), (35, 21), (42, 0), (43, 0), (44, 0), (45, 0), (46, 0)] σ0 σ40 → (σ40 160)[(2 : Int).toNat]? = some (.int z2) → (σ40 160)[(0 : Int).toNat]? = some (.int z15) → (σ40 160)[(7 : Int).toNat]? = some (.int z19) → (σ40 159)[21]? = some (.int z35) → 0 ≤ y38.toInt → y38.toInt ≤ 81 → 0 ≤ y39.toInt → y39.toInt ≤ 81 → y38.toInt - y39.toInt ≤ 0 → -y39.toInt + 81 < (n24 : Int) → En 4 87 none mr_310 (P_310 σ0 a) 24 [(0, .ref 159), (1, .int a), (2, .int y38), (3, .int y39)] [] σ40 := by
      intro n24
      induction n24 with
      | zero =>
        intro σ40 y38 y39 h41 h42 h43 h44 h45 h46 h47 h48 h49 h50 h51 h52
        first | exact (q_ffef14d449 h52 h50).elim | (exfalso; omega)
      | succ n24 ih24 =>
        intro σ40 y38 y39 h41 h42 h43 h44 h45 h46 h47 h48 h49 h50 h51 h52
        refine En_Ps 2 (pc' := 26) (lv' := [(0, .ref 159), (1, .int a), (2, .int y38), (3, .int y39)]) (st' := [.ref 159, .int y39]) rfl ?_
        refine En_getI (j := 18) (l := 0) (u := 81) rfl rfl rfl tgz_159 (by decide +kernel) h41 (by decide +kernel) (fun z54 h53 h55 h56 => ?_)
        refine En_icGe _ rfl rfl rfl (fun h57 => ?_) (fun h57 => ?_)
        · refine En_Ps 1 (pc' := 60) (lv' := [(0, .ref 159), (1, .int a), (2, .int y38), (3, .int y39)]) (st' := [.int y38]) rfl ?_
          exact En_ret (v := some (.int y38)) rfl rfl rfl ⟨h41, h42, y38, rfl, ⟨by first | exact q_ea7f0ffdb1 h47 | omega, by first | exact q_96a57adcaf h48 | omega⟩⟩
        · refine En_Ps 3 (pc' := 35) (lv' := [(0, .ref 159), (1, .int a), (2, .int y38), (3, .int y39)]) (st' := [.ref 159, .ref 159, .int y38]) rfl ?_
          refine En_getU (j := 17) (u := 168) (g' := 44) (q := 0) rfl rfl rfl tgz_159 (by decide +kernel) h41 (by decide +kernel) (by decide +kernel) (fun h58 => ?_)
          refine En_Ps 1 (pc' := 39) (lv' := [(0, .ref 159), (1, .int a), (2, .int y38), (3, .int y39)]) (st' := [.int y39, .ref 168, .ref 159, .int y38]) rfl ?_
          refine En_iald (l := (-2147483648)) (u := 2147483647) rfl rfl tgz_168 (by decide +kernel) h41 (by first | exact q_58e6e51dcc h49 | omega) (lnI (by decide +kernel : LN _ = 81) (by first | exact q_a0e855914a h57 h56 | omega)) (FTsgl (by decide +kernel)) (fun z61 h60 h62 h63 => ?_)
          refine En_callV rfl rfl rfl rfl rfl rfl rfl rfl tgz_159 (by decide +kernel) rfl (c_252 σ40 h41 z61) (by decide) (by decide) (fun v65 σ66 h64 => ?_)
          obtain ⟨h67, h68, z70, rfl, h69⟩ := h64
          have h71 := Fr_trans h42 h68 (by decide +kernel)
          refine En_iEq _ rfl rfl (fun h72 => ?_) (fun h72 => ?_)
          · refine En_Ps 2 (pc' := 52) (lv' := [(0, .ref 159), (1, .int a), (2, .int y38), (3, .int y39)]) (st' := [.int ((y38 + ((Int32.ofInt 0))))]) rfl ?_
            refine En_top (addI rfl (by decide : (Int32.ofInt 0).toInt = 0) (by first | exact q_2f569dfca1 h47 | omega) (by first | exact q_a21129f50f h48 | omega)) (fun z73 h74 => ?_)
            refine En_Ps 2 (pc' := 56) (lv' := [(3, .int ((y39 + Int32.ofInt 1))), (2, .int z73), (0, .ref 159), (1, .int a)]) (st' := []) rfl ?_
            refine En_lv1 (addI rfl (by decide : (Int32.ofInt 1).toInt = 1) (by first | exact q_465ab79ac1 h49 | omega) (by first | exact q_d778ff18c8 h50 | omega)) (fun z75 h76 => ?_)
            refine En_Ps 1 (pc' := 24) (lv' := [(3, .int z75), (2, .int z73), (0, .ref 159), (1, .int a)]) (st' := []) rfl ?_
            refine En_lv (lv := [(0, .ref 159), (1, .int a), (2, .int z73), (3, .int z75)]) ⟨rfl, rfl, rfl, rfl, trivial⟩ ?_
            exact ih24 σ66 z73 z75 h67 h71 ((h68 _ _ (inWa tgz_160 (by decide +kernel))).trans h43) ((h68 _ _ (inWa tgz_160 (by decide +kernel))).trans h44) ((h68 _ _ (inWa tgz_160 (by decide +kernel))).trans h45) ((h68 _ _ (inW tgz_159 (by decide +kernel))).trans h46) (by first | exact q_771c4e5138 h74 h47 | omega) (by first | exact q_18b5268c76 h74 h48 | omega) (by first | exact q_35104ce9d3 h76 h49 | omega) (by first | exact q_798b104d48 h76 h57 h56 | omega) (by first | exact q_969c4fd5e6 h74 h76 h51 | omega) (by first | exact q_4ff790945b h76 h52 | omega)
          · refine En_Ps 3 (pc' := 52) (lv' := [(0, .ref 159), (1, .int a), (2, .int y38), (3, .int y39)]) (st' := [.int ((y38 + ((Int32.ofInt 1))))]) rfl ?_
            refine En_top (addI rfl (by decide : (Int32.ofInt 1).toInt = 1) (by first | exact q_465ab79ac1 h47 | omega) (by first | exact q_d778ff18c8 h48 | omega)) (fun z77 h78 => ?_)
            refine En_Ps 2 (pc' := 56) (lv' := [(3, .int ((y39 + Int32.ofInt 1))), (2, .int z77), (0, .ref 159), (1, .int a)]) (st' := []) rfl ?_
            refine En_lv1 (addI rfl (by decide : (Int32.ofInt 1).toInt = 1) (by first | exact q_465ab79ac1 h49 | omega) (by first | exact q_d778ff18c8 h50 | omega)) (fun z79 h80 => ?_)
            refine En_Ps 1 (pc' := 24) (lv' := [(3, .int z79), (2, .int z77), (0, .ref 159), (1, .int a)]) (st' := []) rfl ?_
            refine En_lv (lv := [(0, .ref 159), (1, .int a), (2, .int z77), (3, .int z79)]) ⟨rfl, rfl, rfl, rfl, trivial⟩ ?_
            exact ih24 σ66 z77 z79 h67 h71 ((h68 _ _ (inWa tgz_160 (by decide +kernel))).trans h43) ((h68 _ _ (inWa tgz_160 (by decide +kernel))).trans h44) ((h68 _ _ (inWa tgz_160 (by decide +kernel))).trans h45) ((h68 _ _ (inW tgz_159 (by decide +kernel))).trans h46) (by first | exact q_35104ce9d3 h78 h47 | omega) (by first | exact q_d53ed2728c h78 h51 h57 h56 | omega) (by first | exact q_35104ce9d3 h80 h49 | omega) (by first | exact q_798b104d48 h80 h57 h56 | omega) (by first | exact q_1ff421e7a2 h78 h80 h51 | omega) (by first | exact q_4ff790945b h80 h52 | omega)
    have := (by decide : (Int32.ofInt 0).toInt = 0)
    have := (by decide : (Int32.ofInt 0).toInt = 0)
    refine En_lv (lv := [(0, .ref 159), (1, .int a), (2, .int ((Int32.ofInt 0))), (3, .int ((Int32.ofInt 0)))]) ⟨rfl, rfl, rfl, rfl, trivial⟩ ?_
    exact key24 (Int.toNat (81) + 1) σ31 ((Int32.ofInt 0)) ((Int32.ofInt 0)) h32 h37 ((h33 _ _ (inWa tgz_160 (by decide +kernel))).trans ((h26 _ _ (inWa tgz_160 (by decide +kernel))).trans ((h9 _ _ (inWa tgz_160 (by decide +kernel))).trans h1))) ((h33 _ _ (inWa tgz_160 (by decide +kernel))).trans ((h26 _ _ (inWa tgz_160 (by decide +kernel))).trans h14)) ((h33 _ _ (inWa tgz_160 (by decide +kernel))).trans ((h26 _ _ (inWa tgz_160 (by decide +kernel))).trans h18)) h36 (by decide) (by decide) (by decide) (by decide) (by omega) (by first | exact toN_lt _ | omega)
  · refine En_Ps 1 (pc' := 10) (lv' := [(0, .ref 159), (1, .int a)]) (st' := [.int (((Int8.ofInt (-2)).toInt32))]) rfl ?_
    refine En_top (by decide : ((Int8.ofInt (-2)).toInt32).toInt = -2) (fun z81 h82 => ?_)
    exact En_ret (v := some (.int z81)) rfl rfl rfl ⟨h8, h12, z81, rfl, ⟨by first | exact q_f35c5d346c h82 | omega, by first | exact q_a224a6b9a0 h82 | omega⟩⟩
/-- DoorSchoolModel.same(I)I -/
abbrev P_311 (σ0 : SG) (a : Int32) : PO := fun v σ => WT σ ∧ Fr [(35, 18), (35, 21), (42, 0), (43, 0), (44, 0), (45, 0), (46, 0)] σ0 σ ∧ ∃ ret : Int32, v = some (.int ret) ∧ -ret.toInt - 6 ≤ 0 ∧ ret.toInt - 15 ≤ 0
set_option maxRecDepth 10000 in
set_option maxHeartbeats 4000000 in
theorem c_311 (σ0 : SG) (hσ0 : WT σ0) (a : Int32) : En 5 112 none mr_311 (P_311 σ0 a) 0 [(0, .ref 159), (1, .int a)] [] σ0 := by
  have hF0 : Fr [(35, 18), (35, 21), (42, 0), (43, 0), (44, 0), (45, 0), (46, 0)] σ0 σ0 := Fr_rfl
  refine En_Ps 3 (pc' := 3) (lv' := [(0, .ref 159), (1, .int a)]) (st' := [.int ((Int32.ofInt 1)), .int a, .ref 159]) rfl ?_
  have := (by decide : ((Int32.ofInt 1)).toInt = 1)
  refine En_callV rfl rfl rfl rfl rfl rfl rfl rfl tgz_159 (by decide +kernel) rfl (c_198 σ0 hσ0 a ((Int32.ofInt 1)) (geI (by decide : (Int32.ofInt 1).toInt = 1) (by decide)) (leI (by decide : (Int32.ofInt 1).toInt = 1) (by decide))) (by decide) (by decide) (fun v2 σ3 h1 => ?_)
  obtain ⟨h4, h5, z7, rfl, h6⟩ := h1
  have h8 := Fr_trans hF0 h5 (by decide +kernel)
  refine En_Ps 2 (pc' := 8) (lv' := [(2, .int z7), (0, .ref 159), (1, .int a)]) (st' := [.int z7]) rfl ?_
  refine En_iGe _ rfl rfl (fun h9 => ?_) (fun h9 => ?_)
  · refine En_Ps 4 (pc' := 18) (lv' := [(4, .int ((Int32.ofInt 0))), (3, .int ((Int32.ofInt 0))), (2, .int z7), (0, .ref 159), (1, .int a)]) (st' := []) rfl ?_
    have key18 : ∀ (n18 : Nat) (σ12 : SG) (y10 : Int32) (y11 : Int32), WT σ12 → Fr [(35, 18), (35, 21), (42, 0), (43, 0), (44, 0), (45, 0), (46, 0)] σ0 σ12 → 0 ≤ y10.toInt → y10.toInt ≤ 15 → 0 ≤ y11.toInt → y11.toInt ≤ 4 → -y11.toInt + 4 < (n18 : Int) → En 5 112 none mr_311 (P_311 σ0 a) 18 [(0, .ref 159), (1, .int a), (2, .int z7), (3, .int y10), (4, .int y11)] [] σ12 := by
      intro n18
      induction n18 with
      | zero =>
        intro σ12 y10 y11 h13 h14 h15 h16 h17 h18 h19
        first | exact (q_20d6385c6f h19 h18).elim | (exfalso; omega)
      | succ n18 ih18 =>
        intro σ12 y10 y11 h13 h14 h15 h16 h17 h18 h19
        refine En_Ps 2 (pc' := 21) (lv' := [(0, .ref 159), (1, .int a), (2, .int z7), (3, .int y10), (4, .int y11)]) (st' := [.ref 159, .int y11]) rfl ?_
        refine En_getU (j := 1) (u := 160) (g' := 36) (q := 0) rfl rfl rfl tgz_159 (by decide +kernel) h13 (by decide +kernel) (by decide +kernel) (fun h20 => ?_)
        refine En_Ps 1 (pc' := 25) (lv' := [(0, .ref 159), (1, .int a), (2, .int z7), (3, .int y10), (4, .int y11)]) (st' := [.int ((Int32.ofInt 2)), .ref 160, .int y11]) rfl ?_
        refine En_iald (l := 0) (u := 4) rfl (by decide : (Int32.ofInt 2).toInt = 2) tgz_160 (by decide +kernel) h13 (by decide) (lnI (by decide +kernel : LN _ = 226) (by decide)) (by decide +kernel) (fun z23 h22 h24 h25 => ?_)
        refine En_icGe _ rfl rfl rfl (fun h26 => ?_) (fun h26 => ?_)
        · refine En_Ps 1 (pc' := 61) (lv' := [(0, .ref 159), (1, .int a), (2, .int z7), (3, .int y10), (4, .int y11)]) (st' := [.int y10]) rfl ?_
          exact En_ret (v := some (.int y10)) rfl rfl rfl ⟨h13, h14, y10, rfl, ⟨by first | exact q_7430e21245 h15 | omega, by first | exact q_867a9ac627 h16 | omega⟩⟩
        · refine En_Ps 5 (pc' := 35) (lv' := [(0, .ref 159), (1, .int a), (2, .int z7), (3, .int y10), (4, .int y11)]) (st' := [.int y11, .ref 159, .int a, .ref 159, .int y10]) rfl ?_
          refine En_callV rfl rfl rfl rfl rfl rfl rfl rfl tgz_159 (by decide +kernel) rfl (c_213 σ12 h13 y11 (geI rfl (by first | exact q_58e6e51dcc h17 | omega)) (leI rfl (by first | exact q_5ab2e90ecc h26 h25 | omega))) (by decide) (by decide) (fun v28 σ29 h27 => ?_)
          obtain ⟨h30, h31, z33, h34, z35, rfl, h32⟩ := h27
          have h36 := Fr_trans h14 h31 (by decide +kernel)
          refine En_callV rfl rfl rfl rfl rfl rfl rfl rfl tgz_159 (by decide +kernel) rfl (c_218 σ29 h30 a z35 (geI rfl (by omega)) (leI rfl (by omega))) (by decide) (by decide) (fun v38 σ39 h37 => ?_)
          obtain ⟨h40, h41, z43, rfl, h42⟩ := h37
          have h44 := Fr_trans h36 h41 (by decide +kernel)
          refine En_iEq _ rfl rfl (fun h45 => ?_) (fun h45 => ?_)
          · refine En_Ps 2 (pc' := 53) (lv' := [(0, .ref 159), (1, .int a), (2, .int z7), (3, .int y10), (4, .int y11)]) (st' := [.int ((y10 ||| ((Int32.ofInt 0))))]) rfl ?_
            refine En_rng (l := 0) (u := 15) (or_rng 4 rfl (by decide : (Int32.ofInt 0).toInt = 0) (by omega) (by omega) (by omega) (by omega) (by decide)) (fun z46 h47 h48 => ?_)
            refine En_Ps 2 (pc' := 57) (lv' := [(4, .int ((y11 + Int32.ofInt 1))), (3, .int z46), (0, .ref 159), (1, .int a), (2, .int z7)]) (st' := []) rfl ?_
            refine En_lv1 (addI rfl (by decide : (Int32.ofInt 1).toInt = 1) (by first | exact q_465ab79ac1 h17 | omega) (by first | exact q_f7282962fd h18 | omega)) (fun z49 h50 => ?_)
            refine En_Ps 1 (pc' := 18) (lv' := [(4, .int z49), (3, .int z46), (0, .ref 159), (1, .int a), (2, .int z7)]) (st' := []) rfl ?_
            refine En_lv (lv := [(0, .ref 159), (1, .int a), (2, .int z7), (3, .int z46), (4, .int z49)]) ⟨rfl, rfl, rfl, rfl, rfl, trivial⟩ ?_
            exact ih18 σ39 z46 z49 h40 h44 (by first | exact q_58e6e51dcc h47 | omega) (by first | exact q_5a4d8a7e08 h48 | omega) (by first | exact q_35104ce9d3 h50 h17 | omega) (by first | exact q_de42116b63 h50 h26 h25 | omega) (by first | exact q_3d8d70ace2 h50 h19 | omega)
          · refine En_Ps 3 (pc' := 48) (lv' := [(0, .ref 159), (1, .int a), (2, .int z7), (3, .int y10), (4, .int y11)]) (st' := [.int ((((Int32.ofInt 1)) <<< (y11 &&& 31))), .int y10]) rfl ?_
            refine En_rng (shl1_p 3 rfl (by omega) (by omega) (by decide)) (fun z51 h52 h53 => ?_)
            refine En_Ps 2 (pc' := 53) (lv' := [(0, .ref 159), (1, .int a), (2, .int z7), (3, .int y10), (4, .int y11)]) (st' := [.int ((y10 ||| z51))]) rfl ?_
            refine En_rng (l := 0) (u := 15) (or_rng 4 rfl rfl (by omega) (by omega) (by omega) (by omega) (by decide)) (fun z54 h55 h56 => ?_)
            refine En_Ps 2 (pc' := 57) (lv' := [(4, .int ((y11 + Int32.ofInt 1))), (3, .int z54), (0, .ref 159), (1, .int a), (2, .int z7)]) (st' := []) rfl ?_
            refine En_lv1 (addI rfl (by decide : (Int32.ofInt 1).toInt = 1) (by first | exact q_465ab79ac1 h17 | omega) (by first | exact q_f7282962fd h18 | omega)) (fun z57 h58 => ?_)
            refine En_Ps 1 (pc' := 18) (lv' := [(4, .int z57), (3, .int z54), (0, .ref 159), (1, .int a), (2, .int z7)]) (st' := []) rfl ?_
            refine En_lv (lv := [(0, .ref 159), (1, .int a), (2, .int z7), (3, .int z54), (4, .int z57)]) ⟨rfl, rfl, rfl, rfl, rfl, trivial⟩ ?_
            exact ih18 σ39 z54 z57 h40 h44 (by first | exact q_58e6e51dcc h55 | omega) (by first | exact q_5a4d8a7e08 h56 | omega) (by first | exact q_35104ce9d3 h58 h17 | omega) (by first | exact q_de42116b63 h58 h26 h25 | omega) (by first | exact q_3d8d70ace2 h58 h19 | omega)
    have := (by decide : (Int32.ofInt 0).toInt = 0)
    have := (by decide : (Int32.ofInt 0).toInt = 0)
    refine En_lv (lv := [(0, .ref 159), (1, .int a), (2, .int z7), (3, .int ((Int32.ofInt 0))), (4, .int ((Int32.ofInt 0)))]) ⟨rfl, rfl, rfl, rfl, rfl, trivial⟩ ?_
    exact key18 (Int.toNat (4) + 1) σ3 ((Int32.ofInt 0)) ((Int32.ofInt 0)) h4 h8 (by decide) (by decide) (by decide) (by decide) (by first | exact toN_lt _ | omega)
  · refine En_Ps 1 (pc' := 12) (lv' := [(2, .int z7), (0, .ref 159), (1, .int a)]) (st' := [.int z7]) rfl ?_
    exact En_ret (v := some (.int z7)) rfl rfl rfl ⟨h4, h8, z7, rfl, ⟨by first | exact q_629d629181 h6.1 | omega, by first | exact q_ee93ba13c8 h9 | omega⟩⟩

