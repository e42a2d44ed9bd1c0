/-- DoorSchool$Timetable.placeFrom(LDoorSchool$Timetable;LDoorSchool$Plan;III)V -/
abbrev P_96c (σ0 : SG) (p : Nat) (a : Int32) (b : Int32) (c : Int32) : PO := fun v σ => WT σ ∧ Fr [(14, 4), (15, 0), (16, 0), (17, 0)] σ0 σ ∧ v = none ∧ True
set_option maxRecDepth 10000 in
set_option maxHeartbeats 4000000 in
theorem c_96c (σ0 : SG) (hσ0 : WT σ0) (p : Nat) (hp : TG p = 18) (a : Int32) (b : Int32) (c : Int32) (hl_a : 4 ≤ a.toInt) (hu_a : a.toInt ≤ 6) (hl_c : 0 ≤ c.toInt) (hu_c : c.toInt ≤ 1000) : En 5 135 none mr_96 (P_96c σ0 p a b c) 0 [(0, .ref 14), (1, .ref p), (2, .int a), (3, .int b), (4, .int c)] [] σ0 := by
  have hF0 : Fr [(14, 4), (15, 0), (16, 0), (17, 0)] σ0 σ0 := Fr_rfl
  refine En_Ps 2 (pc' := 2) (lv' := [(0, .ref 14), (1, .ref p), (2, .int a), (3, .int b), (4, .int c)]) (st' := [.ref p, .int a]) rfl ?_
  refine En_getI (j := 11) (l := 0) (u := 6) rfl rfl rfl hp (by decide +kernel) hσ0 (by decide +kernel) (fun z2 h1 h3 h4 => ?_)
  refine En_icGe _ rfl rfl rfl (fun h5 => ?_) (fun h5 => ?_)
  · refine En_Ps 2 (pc' := 17) (lv' := [(0, .ref 14), (1, .ref p), (2, .int a), (3, .int b), (4, .int c)]) (st' := [.int c, .ref 14]) rfl ?_
    refine En_callV rfl rfl rfl rfl rfl rfl rfl rfl tgz_14 (by decide +kernel) rfl (c_95 σ0 hσ0 c (geI rfl (by first | exact q_58e6e51dcc hl_c | omega)) (leI rfl (by first | exact q_2a7c2c8d7c hu_c | omega))) (by decide) (by decide) (fun v7 σ8 h6 => ?_)
    obtain ⟨h9, h10, rfl, h11⟩ := h6
    have h12 := Fr_trans hF0 h10 (by decide +kernel)
    exact En_ret (v := none) rfl rfl rfl ⟨h9, h12, rfl, trivial⟩
  · refine En_Ps 2 (pc' := 11) (lv' := [(0, .ref 14), (1, .ref p), (2, .int a), (3, .int b), (4, .int c)]) (st' := [.int (((Int8.ofInt 6).toInt32)), .int a]) rfl ?_
    refine En_icLt _ rfl (by decide : ((Int8.ofInt 6).toInt32).toInt = 6) rfl (fun h13 => ?_) (fun hx => by first | exact (q_071bc28013 hx h4 h5).elim | (exfalso; omega))
    refine En_Ps 2 (pc' := 24) (lv' := [(5, .int ((Int32.ofInt 0))), (0, .ref 14), (1, .ref p), (2, .int a), (3, .int b), (4, .int c)]) (st' := []) rfl ?_
    have key24 : ∀ (n24 : Nat) (σ15 : SG) (y14 : Int32), WT σ15 → Fr [(14, 4), (15, 0), (16, 0), (17, 0)] σ0 σ15 → (σ15 p)[11]? = some (.int z2) → 0 ≤ y14.toInt → y14.toInt ≤ 6 → y14.toInt - z2.toInt ≤ 0 → z2.toInt - y14.toInt < (n24 : Int) → En 5 135 none mr_96 (P_96c σ0 p a b c) 24 [(0, .ref 14), (1, .ref p), (2, .int a), (3, .int b), (4, .int c), (5, .int y14)] [] σ15 := by
      intro n24
      induction n24 with
      | zero =>
        intro σ15 y14 h16 h17 h18 h19 h20 h21 h22
        first | exact (q_14257feae7 h21 h22).elim | (exfalso; omega)
      | succ n24 ih24 =>
        intro σ15 y14 h16 h17 h18 h19 h20 h21 h22
        refine En_Ps 2 (pc' := 27) (lv' := [(0, .ref 14), (1, .ref p), (2, .int a), (3, .int b), (4, .int c), (5, .int y14)]) (st' := [.ref p, .int y14]) rfl ?_
        refine En_getK (j := 11) h18 rfl rfl rfl hp (by decide +kernel) ?_
        refine En_icGe _ rfl rfl rfl (fun h23 => ?_) (fun h23 => ?_)
        · exact En_ret (v := none) rfl rfl rfl ⟨h16, h17, rfl, trivial⟩
        · refine En_Ps 2 (pc' := 36) (lv' := [(0, .ref 14), (1, .ref p), (2, .int a), (3, .int b), (4, .int c), (5, .int y14)]) (st' := [.int y14, .int b]) rfl ?_
          refine En_callS rfl rfl rfl rfl rfl rfl rfl rfl rfl (c_108 σ15 h16 b y14) (by decide) (by decide) (fun v25 σ26 h24 => ?_)
          obtain ⟨h27, h28, z30, rfl, h29⟩ := h24
          have h31 := Fr_trans h17 h28 (by decide +kernel)
          refine En_iNe _ rfl rfl (fun h32 => ?_) (fun h32 => ?_)
          · refine En_Ps 1 (pc' := 144) (lv' := [(5, .int ((y14 + Int32.ofInt 1))), (0, .ref 14), (1, .ref p), (2, .int a), (3, .int b), (4, .int c)]) (st' := []) rfl ?_
            refine En_lv1 (addI rfl (by decide : (Int32.ofInt 1).toInt = 1) (by first | exact q_465ab79ac1 h19 | omega) (by first | exact q_9a865ca0e4 h20 | omega)) (fun z33 h34 => ?_)
            refine En_Ps 1 (pc' := 24) (lv' := [(5, .int z33), (0, .ref 14), (1, .ref p), (2, .int a), (3, .int b), (4, .int c)]) (st' := []) rfl ?_
            refine En_lv (lv := [(0, .ref 14), (1, .ref p), (2, .int a), (3, .int b), (4, .int c), (5, .int z33)]) ⟨rfl, rfl, rfl, rfl, rfl, rfl, trivial⟩ ?_
            exact ih24 σ26 z33 h27 h31 ((h28 _ _ (inW hp (by decide +kernel))).trans h18) (by first | exact q_35104ce9d3 h34 h19 | omega) (by first | exact q_c76cfd8d15 h34 h23 h4 | omega) (by first | exact q_ae2dbf4292 h23 h34 | omega) (by first | exact q_8d03a5a7cb h34 h22 | omega)
          · refine En_Ps 1 (pc' := 43) (lv' := [(0, .ref 14), (1, .ref p), (2, .int a), (3, .int b), (4, .int c), (5, .int y14)]) (st' := [.ref p]) rfl ?_
            refine En_getR (j := 13) (g' := 26) (u := 0) rfl rfl rfl hp (by decide +kernel) h27 (by decide +kernel) (fun a36 h35 ha36 => ?_)
            refine En_Ps 1 (pc' := 48) (lv' := [(0, .ref 14), (1, .ref p), (2, .int a), (3, .int b), (4, .int c), (5, .int y14)]) (st' := [.int y14, .ref a36]) rfl ?_
            refine En_iald (l := 0) (u := 63) rfl rfl ha36 (by decide +kernel) h27 (by first | exact q_58e6e51dcc h19 | omega) (lnI (by decide +kernel : LN _ = 6) (by first | exact q_f252e21553 h23 h4 | omega)) (FTsgl (by decide +kernel)) (fun z38 h37 h39 h40 => ?_)
            refine En_Ps 3 (pc' := 52) (lv' := [(0, .ref 14), (1, .ref p), (2, .int a), (3, .int b), (4, .int c), (5, .int y14)]) (st' := [.int ((b ^^^ ((Int32.ofInt (-1))))), .int z38]) rfl ?_
            refine En_nam (fun z41 h42 => ?_)
            refine En_Ps 1 (pc' := 53) (lv' := [(0, .ref 14), (1, .ref p), (2, .int a), (3, .int b), (4, .int c), (5, .int y14)]) (st' := [.int ((z38 &&& z41))]) rfl ?_
            refine En_nam (fun z43 h44 => ?_)
            obtain ⟨h45, h46⟩ := andn_rng h44 rfl (by omega) (by omega : _ ≤ (63 : Int))
            refine En_iNe _ rfl rfl (fun h47 => ?_) (fun h47 => ?_)
            · refine En_Ps 1 (pc' := 144) (lv' := [(5, .int ((y14 + Int32.ofInt 1))), (0, .ref 14), (1, .ref p), (2, .int a), (3, .int b), (4, .int c)]) (st' := []) rfl ?_
              refine En_lv1 (addI rfl (by decide : (Int32.ofInt 1).toInt = 1) (by first | exact q_465ab79ac1 h19 | omega) (by first | exact q_9a865ca0e4 h20 | omega)) (fun z48 h49 => ?_)
              refine En_Ps 1 (pc' := 24) (lv' := [(5, .int z48), (0, .ref 14), (1, .ref p), (2, .int a), (3, .int b), (4, .int c)]) (st' := []) rfl ?_
              refine En_lv (lv := [(0, .ref 14), (1, .ref p), (2, .int a), (3, .int b), (4, .int c), (5, .int z48)]) ⟨rfl, rfl, rfl, rfl, rfl, rfl, trivial⟩ ?_
              exact ih24 σ26 z48 h27 h31 ((h28 _ _ (inW hp (by decide +kernel))).trans h18) (by first | exact q_35104ce9d3 h49 h19 | omega) (by first | exact q_c76cfd8d15 h49 h23 h4 | omega) (by first | exact q_ae2dbf4292 h23 h49 | omega) (by first | exact q_8d03a5a7cb h49 h22 | omega)
            · refine En_Ps 3 (pc' := 60) (lv' := [(0, .ref 14), (1, .ref p), (2, .int a), (3, .int b), (4, .int c), (5, .int y14)]) (st' := [.int y14, .ref p, .ref 14]) rfl ?_
              refine En_callV rfl rfl rfl rfl rfl rfl rfl rfl tgz_14 (by decide +kernel) rfl (c_92 σ26 h27 p hp y14 (geI rfl (by first | exact q_58e6e51dcc h19 | omega)) (leI rfl (by first | exact q_2c6b8d4bd3 h23 h4 | omega))) (by decide) (by decide) (fun v51 σ52 h50 => ?_)
              obtain ⟨h53, h54, z56, rfl, h55⟩ := h50
              have h57 := Fr_trans h31 h54 (by decide +kernel)
              refine En_Ps 3 (pc' := 68) (lv' := [(6, .int z56), (0, .ref 14), (1, .ref p), (2, .int a), (3, .int b), (4, .int c), (5, .int y14)]) (st' := [.ref p, .int z56]) rfl ?_
              refine En_getR (j := 12) (g' := 25) (u := 0) rfl rfl rfl hp (by decide +kernel) h53 (by decide +kernel) (fun a59 h58 ha59 => ?_)
              refine En_Ps 1 (pc' := 73) (lv' := [(6, .int z56), (0, .ref 14), (1, .ref p), (2, .int a), (3, .int b), (4, .int c), (5, .int y14)]) (st' := [.int y14, .ref a59, .int z56]) rfl ?_
              refine En_iald (l := 0) (u := 9) rfl rfl ha59 (by decide +kernel) h53 (by first | exact q_58e6e51dcc h19 | omega) (lnI (by decide +kernel : LN _ = 6) (by first | exact q_f252e21553 h23 h4 | omega)) (FTsgl (by decide +kernel)) (fun z61 h60 h62 h63 => ?_)
              refine En_Ps 1 (pc' := 75) (lv' := [(6, .int z56), (0, .ref 14), (1, .ref p), (2, .int a), (3, .int b), (4, .int c), (5, .int y14)]) (st' := [.int ((z56 + z61))]) rfl ?_
              refine En_top (addI rfl rfl (by first | exact q_2027e39019 h55.1 h62 | omega) (by first | exact q_66d03a076a h55.2 h63 | omega)) (fun z64 h65 => ?_)
              refine En_Ps 3 (pc' := 80) (lv' := [(7, .int z64), (6, .int z56), (0, .ref 14), (1, .ref p), (2, .int a), (3, .int b), (4, .int c), (5, .int y14)]) (st' := [.ref 14, .int z64]) rfl ?_
              refine En_getI (j := 4) (l := 0) (u := 1000) rfl rfl rfl tgz_14 (by decide +kernel) h53 (by decide +kernel) (fun z67 h66 h68 h69 => ?_)
              refine En_icGt _ rfl rfl rfl (fun h70 => ?_) (fun h70 => ?_)
              · refine En_Ps 1 (pc' := 144) (lv' := [(5, .int ((y14 + Int32.ofInt 1))), (7, .int z64), (6, .int z56), (0, .ref 14), (1, .ref p), (2, .int a), (3, .int b), (4, .int c)]) (st' := []) rfl ?_
                refine En_lv1 (addI rfl (by decide : (Int32.ofInt 1).toInt = 1) (by first | exact q_465ab79ac1 h19 | omega) (by first | exact q_9a865ca0e4 h20 | omega)) (fun z71 h72 => ?_)
                refine En_Ps 1 (pc' := 24) (lv' := [(5, .int z71), (7, .int z64), (6, .int z56), (0, .ref 14), (1, .ref p), (2, .int a), (3, .int b), (4, .int c)]) (st' := []) rfl ?_
                refine En_lv (lv := [(0, .ref 14), (1, .ref p), (2, .int a), (3, .int b), (4, .int c), (5, .int z71)]) ⟨rfl, rfl, rfl, rfl, rfl, rfl, trivial⟩ ?_
                exact ih24 σ52 z71 h53 h57 ((h54 _ _ (inW hp (by decide +kernel))).trans ((h28 _ _ (inW hp (by decide +kernel))).trans h18)) (by first | exact q_35104ce9d3 h72 h19 | omega) (by first | exact q_c76cfd8d15 h72 h23 h4 | omega) (by first | exact q_ae2dbf4292 h23 h72 | omega) (by first | exact q_8d03a5a7cb h72 h22 | omega)
              · refine En_Ps 2 (pc' := 90) (lv' := [(7, .int z64), (6, .int z56), (0, .ref 14), (1, .ref p), (2, .int a), (3, .int b), (4, .int c), (5, .int y14)]) (st' := [.int (((Int8.ofInt 54).toInt32)), .int z64]) rfl ?_
                refine En_icGt _ rfl (by decide : ((Int8.ofInt 54).toInt32).toInt = 54) rfl (fun h73 => ?_) (fun h73 => ?_)
                · refine En_Ps 1 (pc' := 144) (lv' := [(5, .int ((y14 + Int32.ofInt 1))), (7, .int z64), (6, .int z56), (0, .ref 14), (1, .ref p), (2, .int a), (3, .int b), (4, .int c)]) (st' := []) rfl ?_
                  refine En_lv1 (addI rfl (by decide : (Int32.ofInt 1).toInt = 1) (by first | exact q_465ab79ac1 h19 | omega) (by first | exact q_9a865ca0e4 h20 | omega)) (fun z74 h75 => ?_)
                  refine En_Ps 1 (pc' := 24) (lv' := [(5, .int z74), (7, .int z64), (6, .int z56), (0, .ref 14), (1, .ref p), (2, .int a), (3, .int b), (4, .int c)]) (st' := []) rfl ?_
                  refine En_lv (lv := [(0, .ref 14), (1, .ref p), (2, .int a), (3, .int b), (4, .int c), (5, .int z74)]) ⟨rfl, rfl, rfl, rfl, rfl, rfl, trivial⟩ ?_
                  exact ih24 σ52 z74 h53 h57 ((h54 _ _ (inW hp (by decide +kernel))).trans ((h28 _ _ (inW hp (by decide +kernel))).trans h18)) (by first | exact q_35104ce9d3 h75 h19 | omega) (by first | exact q_c76cfd8d15 h75 h23 h4 | omega) (by first | exact q_ae2dbf4292 h23 h75 | omega) (by first | exact q_8d03a5a7cb h75 h22 | omega)
                · refine En_Ps 1 (pc' := 94) (lv' := [(7, .int z64), (6, .int z56), (0, .ref 14), (1, .ref p), (2, .int a), (3, .int b), (4, .int c), (5, .int y14)]) (st' := [.ref 14]) rfl ?_
                  refine En_getU (j := 1) (u := 16) (g' := 16) (q := 0) rfl rfl rfl tgz_14 (by decide +kernel) h53 (by decide +kernel) (by decide +kernel) (fun h76 => ?_)
                  refine En_Ps 2 (pc' := 101) (lv' := [(7, .int z64), (6, .int z56), (0, .ref 14), (1, .ref p), (2, .int a), (3, .int b), (4, .int c), (5, .int y14)]) (st' := [.int z56, .int y14, .ref 16]) rfl ?_
                  refine En_iast (l := 0) (u := 54) rfl rfl tgz_16 (by decide +kernel) (by first | exact q_58e6e51dcc h19 | omega) (lnI (by decide +kernel : LN _ = 6) (by first | exact q_f252e21553 h23 h4 | omega)) (FTsgl (by decide +kernel)) (rngI rfl (by first | exact q_ef1e8e38bf h55.1 | omega) (by first | exact q_f1c8c7c399 h55.2 | omega)) h53 h57 (by decide +kernel) (fun σ78 h79 h80 h81 h82 => ?_)
                  refine En_Ps 4 (pc' := 108) (lv' := [(7, .int z64), (6, .int z56), (0, .ref 14), (1, .ref p), (2, .int a), (3, .int b), (4, .int c), (5, .int y14)]) (st' := [.int ((Int32.ofInt 1)), .int z64, .int z56, .ref 14]) rfl ?_
                  have := (by decide : ((Int32.ofInt 1)).toInt = 1)
                  refine En_callV rfl rfl rfl rfl rfl rfl rfl rfl tgz_14 (by decide +kernel) rfl (c_99 σ78 h79 z56 z64 ((Int32.ofInt 1)) (geI rfl (by first | exact q_ef1e8e38bf h55.1 | omega)) (leI rfl (by first | exact q_f1c8c7c399 h55.2 | omega))) (by decide) (by decide) (fun v84 σ85 h83 => ?_)
                  obtain ⟨h86, h87, rfl, h88⟩ := h83
                  have h89 := Fr_trans h80 h87 (by decide +kernel)
                  refine En_Ps 5 (pc' := 116) (lv' := [(7, .int z64), (6, .int z56), (0, .ref 14), (1, .ref p), (2, .int a), (3, .int b), (4, .int c), (5, .int y14)]) (st' := [.int ((a + ((Int32.ofInt 1)))), .ref p, .ref 14]) rfl ?_
                  refine En_top (addI rfl (by decide : (Int32.ofInt 1).toInt = 1) (by first | exact q_85d77b4496 hl_a | omega) (by first | exact q_2918abfa70 h13 | omega)) (fun z90 h91 => ?_)
                  refine En_Ps 4 (pc' := 121) (lv' := [(7, .int z64), (6, .int z56), (0, .ref 14), (1, .ref p), (2, .int a), (3, .int b), (4, .int c), (5, .int y14)]) (st' := [.int ((((Int32.ofInt 1)) <<< (y14 &&& 31))), .int b, .int z90, .ref p, .ref 14]) rfl ?_
                  refine En_rng (shl1_p 5 rfl (by omega) (by omega) (by decide)) (fun z92 h93 h94 => ?_)
                  refine En_Ps 1 (pc' := 122) (lv' := [(7, .int z64), (6, .int z56), (0, .ref 14), (1, .ref p), (2, .int a), (3, .int b), (4, .int c), (5, .int y14)]) (st' := [.int ((b ||| z92)), .int z90, .ref p, .ref 14]) rfl ?_
                  refine En_hav (fun z95 => ?_)
                  refine En_Ps 2 (pc' := 126) (lv' := [(7, .int z64), (6, .int z56), (0, .ref 14), (1, .ref p), (2, .int a), (3, .int b), (4, .int c), (5, .int y14)]) (st' := [.int z64, .int c, .int z95, .int z90, .ref p, .ref 14]) rfl ?_
                  refine En_callS rfl rfl rfl rfl rfl rfl rfl rfl rfl (c_10 σ85 h86 c z64) (by decide) (by decide) (fun v97 σ98 h96 => ?_)
                  obtain ⟨h99, h100, z102, rfl, h101⟩ := h96
                  have h103 := Fr_trans h89 h100 (by decide +kernel)
                  refine En_callS rfl rfl rfl rfl rfl rfl rfl rfl rfl (c_96b σ98 h99 p hp z90 z95 z102 (geI rfl (by first | exact q_c90b6e32f1 h91 hl_a | omega)) (leI rfl (by first | exact q_13d1e79bb8 h91 h13 | omega)) (geI rfl (by first | exact q_f062bc8aa8 h101.1 hl_c | omega)) (leI rfl (by omega))) (by decide) (by decide) (fun v105 σ106 h104 => ?_)
                  obtain ⟨h107, h108, rfl, h109⟩ := h104
                  have h110 := Fr_trans h103 h108 (by decide +kernel)
                  refine En_Ps 4 (pc' := 138) (lv' := [(7, .int z64), (6, .int z56), (0, .ref 14), (1, .ref p), (2, .int a), (3, .int b), (4, .int c), (5, .int y14)]) (st' := [.int ((Int32.ofInt (-1))), .int z64, .int z56, .ref 14]) rfl ?_
                  have := (by decide : ((Int32.ofInt (-1))).toInt = -1)
                  refine En_callV rfl rfl rfl rfl rfl rfl rfl rfl tgz_14 (by decide +kernel) rfl (c_99 σ106 h107 z56 z64 ((Int32.ofInt (-1))) (geI rfl (by first | exact q_ef1e8e38bf h55.1 | omega)) (leI rfl (by first | exact q_f1c8c7c399 h55.2 | omega))) (by decide) (by decide) (fun v112 σ113 h111 => ?_)
                  obtain ⟨h114, h115, rfl, h116⟩ := h111
                  have h117 := Fr_trans h110 h115 (by decide +kernel)
                  refine En_Ps 1 (pc' := 144) (lv' := [(5, .int ((y14 + Int32.ofInt 1))), (7, .int z64), (6, .int z56), (0, .ref 14), (1, .ref p), (2, .int a), (3, .int b), (4, .int c)]) (st' := []) rfl ?_
                  refine En_lv1 (addI rfl (by decide : (Int32.ofInt 1).toInt = 1) (by first | exact q_465ab79ac1 h19 | omega) (by first | exact q_9a865ca0e4 h20 | omega)) (fun z118 h119 => ?_)
                  refine En_Ps 1 (pc' := 24) (lv' := [(5, .int z118), (7, .int z64), (6, .int z56), (0, .ref 14), (1, .ref p), (2, .int a), (3, .int b), (4, .int c)]) (st' := []) rfl ?_
                  refine En_lv (lv := [(0, .ref 14), (1, .ref p), (2, .int a), (3, .int b), (4, .int c), (5, .int z118)]) ⟨rfl, rfl, rfl, rfl, rfl, rfl, trivial⟩ ?_
                  exact ih24 σ113 z118 h114 h117 ((h115 _ _ (inW hp (by decide +kernel))).trans ((h108 _ _ (inW hp (by decide +kernel))).trans ((h100 _ _ (inW hp (by decide +kernel))).trans ((h87 _ _ (inW hp (by decide +kernel))).trans ((h82 _ _ (Or.inl (neTG hp tgz_16 (by decide)))).trans ((h54 _ _ (inW hp (by decide +kernel))).trans ((h28 _ _ (inW hp (by decide +kernel))).trans h18))))))) (by first | exact q_35104ce9d3 h119 h19 | omega) (by first | exact q_c76cfd8d15 h119 h23 h4 | omega) (by first | exact q_ae2dbf4292 h23 h119 | omega) (by first | exact q_8d03a5a7cb h119 h22 | omega)
    have := (by decide : (Int32.ofInt 0).toInt = 0)
    refine En_lv (lv := [(0, .ref 14), (1, .ref p), (2, .int a), (3, .int b), (4, .int c), (5, .int ((Int32.ofInt 0)))]) ⟨rfl, rfl, rfl, rfl, rfl, rfl, trivial⟩ ?_
    exact key24 (Int.toNat (z2.toInt) + 1) σ0 ((Int32.ofInt 0)) hσ0 hF0 h1 (by decide) (by decide) (by omega) (by first | exact toN_lt _ | omega)
/-- DoorSchool$Timetable.placeFrom(LDoorSchool$Timetable;LDoorSchool$Plan;III)V -/
abbrev P_96d (σ0 : SG) (p : Nat) (a : Int32) (b : Int32) (c : Int32) : PO := fun v σ => WT σ ∧ Fr [(14, 4), (15, 0), (16, 0), (17, 0)] σ0 σ ∧ v = none ∧ True
set_option maxRecDepth 10000 in
set_option maxHeartbeats 4000000 in
theorem c_96d (σ0 : SG) (hσ0 : WT σ0) (p : Nat) (hp : TG p = 18) (a : Int32) (b : Int32) (c : Int32) (hl_a : 3 ≤ a.toInt) (hu_a : a.toInt ≤ 6) (hl_c : 0 ≤ c.toInt) (hu_c : c.toInt ≤ 1000) : En 6 162 none mr_96 (P_96d σ0 p a b c) 0 [(0, .ref 14), (1, .ref p), (2, .int a), (3, .int b), (4, .int c)] [] σ0 := by
  have hF0 : Fr [(14, 4), (15, 0), (16, 0), (17, 0)] σ0 σ0 := Fr_rfl
  refine En_Ps 2 (pc' := 2) (lv' := [(0, .ref 14), (1, .ref p), (2, .int a), (3, .int b), (4, .int c)]) (st' := [.ref p, .int a]) rfl ?_
  refine En_getI (j := 11) (l := 0) (u := 6) rfl rfl rfl hp (by decide +kernel) hσ0 (by decide +kernel) (fun z2 h1 h3 h4 => ?_)
  refine En_icGe _ rfl rfl rfl (fun h5 => ?_) (fun h5 => ?_)
  · refine En_Ps 2 (pc' := 17) (lv' := [(0, .ref 14), (1, .ref p), (2, .int a), (3, .int b), (4, .int c)]) (st' := [.int c, .ref 14]) rfl ?_
    refine En_callV rfl rfl rfl rfl rfl rfl rfl rfl tgz_14 (by decide +kernel) rfl (c_95 σ0 hσ0 c (geI rfl (by first | exact q_58e6e51dcc hl_c | omega)) (leI rfl (by first | exact q_2a7c2c8d7c hu_c | omega))) (by decide) (by decide) (fun v7 σ8 h6 => ?_)
    obtain ⟨h9, h10, rfl, h11⟩ := h6
    have h12 := Fr_trans hF0 h10 (by decide +kernel)
    exact En_ret (v := none) rfl rfl rfl ⟨h9, h12, rfl, trivial⟩
  · refine En_Ps 2 (pc' := 11) (lv' := [(0, .ref 14), (1, .ref p), (2, .int a), (3, .int b), (4, .int c)]) (st' := [.int (((Int8.ofInt 6).toInt32)), .int a]) rfl ?_
    refine En_icLt _ rfl (by decide : ((Int8.ofInt 6).toInt32).toInt = 6) rfl (fun h13 => ?_) (fun hx => by first | exact (q_071bc28013 hx h4 h5).elim | (exfalso; omega))
    refine En_Ps 2 (pc' := 24) (lv' := [(5, .int ((Int32.ofInt 0))), (0, .ref 14), (1, .ref p), (2, .int a), (3, .int b), (4, .int c)]) (st' := []) rfl ?_
    have key24 : ∀ (n24 : Nat) (σ15 : SG) (y14 : Int32), WT σ15 → Fr [(14, 4), (15, 0), (16, 0), (17, 0)] σ0 σ15 → (σ15 p)[11]? = some (.int z2) → 0 ≤ y14.toInt → y14.toInt ≤ 6 → y14.toInt - z2.toInt ≤ 0 → z2.toInt - y14.toInt < (n24 : Int) → En 6 162 none mr_96 (P_96d σ0 p a b c) 24 [(0, .ref 14), (1, .ref p), (2, .int a), (3, .int b), (4, .int c), (5, .int y14)] [] σ15 := by
      intro n24
      induction n24 with
      | zero =>
        intro σ15 y14 h16 h17 h18 h19 h20 h21 h22
        first | exact (q_14257feae7 h21 h22).elim | (exfalso; omega)
      | succ n24 ih24 =>
        intro σ15 y14 h16 h17 h18 h19 h20 h21 h22
        refine En_Ps 2 (pc' := 27) (lv' := [(0, .ref 14), (1, .ref p), (2, .int a), (3, .int b), (4, .int c), (5, .int y14)]) (st' := [.ref p, .int y14]) rfl ?_
        refine En_getK (j := 11) h18 rfl rfl rfl hp (by decide +kernel) ?_
        refine En_icGe _ rfl rfl rfl (fun h23 => ?_) (fun h23 => ?_)
        · exact En_ret (v := none) rfl rfl rfl ⟨h16, h17, rfl, trivial⟩
        · refine En_Ps 2 (pc' := 36) (lv' := [(0, .ref 14), (1, .ref p), (2, .int a), (3, .int b), (4, .int c), (5, .int y14)]) (st' := [.int y14, .int b]) rfl ?_
          refine En_callS rfl rfl rfl rfl rfl rfl rfl rfl rfl (c_108 σ15 h16 b y14) (by decide) (by decide) (fun v25 σ26 h24 => ?_)
          obtain ⟨h27, h28, z30, rfl, h29⟩ := h24
          have h31 := Fr_trans h17 h28 (by decide +kernel)
          refine En_iNe _ rfl rfl (fun h32 => ?_) (fun h32 => ?_)
          · refine En_Ps 1 (pc' := 144) (lv' := [(5, .int ((y14 + Int32.ofInt 1))), (0, .ref 14), (1, .ref p), (2, .int a), (3, .int b), (4, .int c)]) (st' := []) rfl ?_
            refine En_lv1 (addI rfl (by decide : (Int32.ofInt 1).toInt = 1) (by first | exact q_465ab79ac1 h19 | omega) (by first | exact q_9a865ca0e4 h20 | omega)) (fun z33 h34 => ?_)
            refine En_Ps 1 (pc' := 24) (lv' := [(5, .int z33), (0, .ref 14), (1, .ref p), (2, .int a), (3, .int b), (4, .int c)]) (st' := []) rfl ?_
            refine En_lv (lv := [(0, .ref 14), (1, .ref p), (2, .int a), (3, .int b), (4, .int c), (5, .int z33)]) ⟨rfl, rfl, rfl, rfl, rfl, rfl, trivial⟩ ?_
            exact ih24 σ26 z33 h27 h31 ((h28 _ _ (inW hp (by decide +kernel))).trans h18) (by first | exact q_35104ce9d3 h34 h19 | omega) (by first | exact q_c76cfd8d15 h34 h23 h4 | omega) (by first | exact q_ae2dbf4292 h23 h34 | omega) (by first | exact q_8d03a5a7cb h34 h22 | omega)
          · refine En_Ps 1 (pc' := 43) (lv' := [(0, .ref 14), (1, .ref p), (2, .int a), (3, .int b), (4, .int c), (5, .int y14)]) (st' := [.ref p]) rfl ?_
            refine En_getR (j := 13) (g' := 26) (u := 0) rfl rfl rfl hp (by decide +kernel) h27 (by decide +kernel) (fun a36 h35 ha36 => ?_)
            refine En_Ps 1 (pc' := 48) (lv' := [(0, .ref 14), (1, .ref p), (2, .int a), (3, .int b), (4, .int c), (5, .int y14)]) (st' := [.int y14, .ref a36]) rfl ?_
            refine En_iald (l := 0) (u := 63) rfl rfl ha36 (by decide +kernel) h27 (by first | exact q_58e6e51dcc h19 | omega) (lnI (by decide +kernel : LN _ = 6) (by first | exact q_f252e21553 h23 h4 | omega)) (FTsgl (by decide +kernel)) (fun z38 h37 h39 h40 => ?_)
            refine En_Ps 3 (pc' := 52) (lv' := [(0, .ref 14), (1, .ref p), (2, .int a), (3, .int b), (4, .int c), (5, .int y14)]) (st' := [.int ((b ^^^ ((Int32.ofInt (-1))))), .int z38]) rfl ?_
            refine En_nam (fun z41 h42 => ?_)
            refine En_Ps 1 (pc' := 53) (lv' := [(0, .ref 14), (1, .ref p), (2, .int a), (3, .int b), (4, .int c), (5, .int y14)]) (st' := [.int ((z38 &&& z41))]) rfl ?_
            refine En_nam (fun z43 h44 => ?_)
            obtain ⟨h45, h46⟩ := andn_rng h44 rfl (by omega) (by omega : _ ≤ (63 : Int))
            refine En_iNe _ rfl rfl (fun h47 => ?_) (fun h47 => ?_)
            · refine En_Ps 1 (pc' := 144) (lv' := [(5, .int ((y14 + Int32.ofInt 1))), (0, .ref 14), (1, .ref p), (2, .int a), (3, .int b), (4, .int c)]) (st' := []) rfl ?_
              refine En_lv1 (addI rfl (by decide : (Int32.ofInt 1).toInt = 1) (by first | exact q_465ab79ac1 h19 | omega) (by first | exact q_9a865ca0e4 h20 | omega)) (fun z48 h49 => ?_)
              refine En_Ps 1 (pc' := 24) (lv' := [(5, .int z48), (0, .ref 14), (1, .ref p), (2, .int a), (3, .int b), (4, .int c)]) (st' := []) rfl ?_
              refine En_lv (lv := [(0, .ref 14), (1, .ref p), (2, .int a), (3, .int b), (4, .int c), (5, .int z48)]) ⟨rfl, rfl, rfl, rfl, rfl, rfl, trivial⟩ ?_
              exact ih24 σ26 z48 h27 h31 ((h28 _ _ (inW hp (by decide +kernel))).trans h18) (by first | exact q_35104ce9d3 h49 h19 | omega) (by first | exact q_c76cfd8d15 h49 h23 h4 | omega) (by first | exact q_ae2dbf4292 h23 h49 | omega) (by first | exact q_8d03a5a7cb h49 h22 | omega)
            · refine En_Ps 3 (pc' := 60) (lv' := [(0, .ref 14), (1, .ref p), (2, .int a), (3, .int b), (4, .int c), (5, .int y14)]) (st' := [.int y14, .ref p, .ref 14]) rfl ?_
              refine En_callV rfl rfl rfl rfl rfl rfl rfl rfl tgz_14 (by decide +kernel) rfl (c_92 σ26 h27 p hp y14 (geI rfl (by first | exact q_58e6e51dcc h19 | omega)) (leI rfl (by first | exact q_2c6b8d4bd3 h23 h4 | omega))) (by decide) (by decide) (fun v51 σ52 h50 => ?_)
              obtain ⟨h53, h54, z56, rfl, h55⟩ := h50
              have h57 := Fr_trans h31 h54 (by decide +kernel)
              refine En_Ps 3 (pc' := 68) (lv' := [(6, .int z56), (0, .ref 14), (1, .ref p), (2, .int a), (3, .int b), (4, .int c), (5, .int y14)]) (st' := [.ref p, .int z56]) rfl ?_
              refine En_getR (j := 12) (g' := 25) (u := 0) rfl rfl rfl hp (by decide +kernel) h53 (by decide +kernel) (fun a59 h58 ha59 => ?_)
              refine En_Ps 1 (pc' := 73) (lv' := [(6, .int z56), (0, .ref 14), (1, .ref p), (2, .int a), (3, .int b), (4, .int c), (5, .int y14)]) (st' := [.int y14, .ref a59, .int z56]) rfl ?_
              refine En_iald (l := 0) (u := 9) rfl rfl ha59 (by decide +kernel) h53 (by first | exact q_58e6e51dcc h19 | omega) (lnI (by decide +kernel : LN _ = 6) (by first | exact q_f252e21553 h23 h4 | omega)) (FTsgl (by decide +kernel)) (fun z61 h60 h62 h63 => ?_)
              refine En_Ps 1 (pc' := 75) (lv' := [(6, .int z56), (0, .ref 14), (1, .ref p), (2, .int a), (3, .int b), (4, .int c), (5, .int y14)]) (st' := [.int ((z56 + z61))]) rfl ?_
              refine En_top (addI rfl rfl (by first | exact q_2027e39019 h55.1 h62 | omega) (by first | exact q_66d03a076a h55.2 h63 | omega)) (fun z64 h65 => ?_)
              refine En_Ps 3 (pc' := 80) (lv' := [(7, .int z64), (6, .int z56), (0, .ref 14), (1, .ref p), (2, .int a), (3, .int b), (4, .int c), (5, .int y14)]) (st' := [.ref 14, .int z64]) rfl ?_
              refine En_getI (j := 4) (l := 0) (u := 1000) rfl rfl rfl tgz_14 (by decide +kernel) h53 (by decide +kernel) (fun z67 h66 h68 h69 => ?_)
              refine En_icGt _ rfl rfl rfl (fun h70 => ?_) (fun h70 => ?_)
              · refine En_Ps 1 (pc' := 144) (lv' := [(5, .int ((y14 + Int32.ofInt 1))), (7, .int z64), (6, .int z56), (0, .ref 14), (1, .ref p), (2, .int a), (3, .int b), (4, .int c)]) (st' := []) rfl ?_
                refine En_lv1 (addI rfl (by decide : (Int32.ofInt 1).toInt = 1) (by first | exact q_465ab79ac1 h19 | omega) (by first | exact q_9a865ca0e4 h20 | omega)) (fun z71 h72 => ?_)
                refine En_Ps 1 (pc' := 24) (lv' := [(5, .int z71), (7, .int z64), (6, .int z56), (0, .ref 14), (1, .ref p), (2, .int a), (3, .int b), (4, .int c)]) (st' := []) rfl ?_
                refine En_lv (lv := [(0, .ref 14), (1, .ref p), (2, .int a), (3, .int b), (4, .int c), (5, .int z71)]) ⟨rfl, rfl, rfl, rfl, rfl, rfl, trivial⟩ ?_
                exact ih24 σ52 z71 h53 h57 ((h54 _ _ (inW hp (by decide +kernel))).trans ((h28 _ _ (inW hp (by decide +kernel))).trans h18)) (by first | exact q_35104ce9d3 h72 h19 | omega) (by first | exact q_c76cfd8d15 h72 h23 h4 | omega) (by first | exact q_ae2dbf4292 h23 h72 | omega) (by first | exact q_8d03a5a7cb h72 h22 | omega)
              · refine En_Ps 2 (pc' := 90) (lv' := [(7, .int z64), (6, .int z56), (0, .ref 14), (1, .ref p), (2, .int a), (3, .int b), (4, .int c), (5, .int y14)]) (st' := [.int (((Int8.ofInt 54).toInt32)), .int z64]) rfl ?_
                refine En_icGt _ rfl (by decide : ((Int8.ofInt 54).toInt32).toInt = 54) rfl (fun h73 => ?_) (fun h73 => ?_)
                · refine En_Ps 1 (pc' := 144) (lv' := [(5, .int ((y14 + Int32.ofInt 1))), (7, .int z64), (6, .int z56), (0, .ref 14), (1, .ref p), (2, .int a), (3, .int b), (4, .int c)]) (st' := []) rfl ?_
                  refine En_lv1 (addI rfl (by decide : (Int32.ofInt 1).toInt = 1) (by first | exact q_465ab79ac1 h19 | omega) (by first | exact q_9a865ca0e4 h20 | omega)) (fun z74 h75 => ?_)
                  refine En_Ps 1 (pc' := 24) (lv' := [(5, .int z74), (7, .int z64), (6, .int z56), (0, .ref 14), (1, .ref p), (2, .int a), (3, .int b), (4, .int c)]) (st' := []) rfl ?_
                  refine En_lv (lv := [(0, .ref 14), (1, .ref p), (2, .int a), (3, .int b), (4, .int c), (5, .int z74)]) ⟨rfl, rfl, rfl, rfl, rfl, rfl, trivial⟩ ?_
                  exact ih24 σ52 z74 h53 h57 ((h54 _ _ (inW hp (by decide +kernel))).trans ((h28 _ _ (inW hp (by decide +kernel))).trans h18)) (by first | exact q_35104ce9d3 h75 h19 | omega) (by first | exact q_c76cfd8d15 h75 h23 h4 | omega) (by first | exact q_ae2dbf4292 h23 h75 | omega) (by first | exact q_8d03a5a7cb h75 h22 | omega)
                · refine En_Ps 1 (pc' := 94) (lv' := [(7, .int z64), (6, .int z56), (0, .ref 14), (1, .ref p), (2, .int a), (3, .int b), (4, .int c), (5, .int y14)]) (st' := [.ref 14]) rfl ?_
                  refine En_getU (j := 1) (u := 16) (g' := 16) (q := 0) rfl rfl rfl tgz_14 (by decide +kernel) h53 (by decide +kernel) (by decide +kernel) (fun h76 => ?_)
                  refine En_Ps 2 (pc' := 101) (lv' := [(7, .int z64), (6, .int z56), (0, .ref 14), (1, .ref p), (2, .int a), (3, .int b), (4, .int c), (5, .int y14)]) (st' := [.int z56, .int y14, .ref 16]) rfl ?_
                  refine En_iast (l := 0) (u := 54) rfl rfl tgz_16 (by decide +kernel) (by first | exact q_58e6e51dcc h19 | omega) (lnI (by decide +kernel : LN _ = 6) (by first | exact q_f252e21553 h23 h4 | omega)) (FTsgl (by decide +kernel)) (rngI rfl (by first | exact q_ef1e8e38bf h55.1 | omega) (by first | exact q_f1c8c7c399 h55.2 | omega)) h53 h57 (by decide +kernel) (fun σ78 h79 h80 h81 h82 => ?_)
                  refine En_Ps 4 (pc' := 108) (lv' := [(7, .int z64), (6, .int z56), (0, .ref 14), (1, .ref p), (2, .int a), (3, .int b), (4, .int c), (5, .int y14)]) (st' := [.int ((Int32.ofInt 1)), .int z64, .int z56, .ref 14]) rfl ?_
                  have := (by decide : ((Int32.ofInt 1)).toInt = 1)
                  refine En_callV rfl rfl rfl rfl rfl rfl rfl rfl tgz_14 (by decide +kernel) rfl (c_99 σ78 h79 z56 z64 ((Int32.ofInt 1)) (geI rfl (by first | exact q_ef1e8e38bf h55.1 | omega)) (leI rfl (by first | exact q_f1c8c7c399 h55.2 | omega))) (by decide) (by decide) (fun v84 σ85 h83 => ?_)
                  obtain ⟨h86, h87, rfl, h88⟩ := h83
                  have h89 := Fr_trans h80 h87 (by decide +kernel)
                  refine En_Ps 5 (pc' := 116) (lv' := [(7, .int z64), (6, .int z56), (0, .ref 14), (1, .ref p), (2, .int a), (3, .int b), (4, .int c), (5, .int y14)]) (st' := [.int ((a + ((Int32.ofInt 1)))), .ref p, .ref 14]) rfl ?_
                  refine En_top (addI rfl (by decide : (Int32.ofInt 1).toInt = 1) (by first | exact q_d115ba6b9f hl_a | omega) (by first | exact q_2918abfa70 h13 | omega)) (fun z90 h91 => ?_)
                  refine En_Ps 4 (pc' := 121) (lv' := [(7, .int z64), (6, .int z56), (0, .ref 14), (1, .ref p), (2, .int a), (3, .int b), (4, .int c), (5, .int y14)]) (st' := [.int ((((Int32.ofInt 1)) <<< (y14 &&& 31))), .int b, .int z90, .ref p, .ref 14]) rfl ?_
                  refine En_rng (shl1_p 5 rfl (by omega) (by omega) (by decide)) (fun z92 h93 h94 => ?_)
                  refine En_Ps 1 (pc' := 122) (lv' := [(7, .int z64), (6, .int z56), (0, .ref 14), (1, .ref p), (2, .int a), (3, .int b), (4, .int c), (5, .int y14)]) (st' := [.int ((b ||| z92)), .int z90, .ref p, .ref 14]) rfl ?_
                  refine En_hav (fun z95 => ?_)
                  refine En_Ps 2 (pc' := 126) (lv' := [(7, .int z64), (6, .int z56), (0, .ref 14), (1, .ref p), (2, .int a), (3, .int b), (4, .int c), (5, .int y14)]) (st' := [.int z64, .int c, .int z95, .int z90, .ref p, .ref 14]) rfl ?_
                  refine En_callS rfl rfl rfl rfl rfl rfl rfl rfl rfl (c_10 σ85 h86 c z64) (by decide) (by decide) (fun v97 σ98 h96 => ?_)
                  obtain ⟨h99, h100, z102, rfl, h101⟩ := h96
                  have h103 := Fr_trans h89 h100 (by decide +kernel)
                  refine En_callS rfl rfl rfl rfl rfl rfl rfl rfl rfl (c_96c σ98 h99 p hp z90 z95 z102 (geI rfl (by first | exact q_aa5623a688 h91 hl_a | omega)) (leI rfl (by first | exact q_13d1e79bb8 h91 h13 | omega)) (geI rfl (by first | exact q_f062bc8aa8 h101.1 hl_c | omega)) (leI rfl (by omega))) (by decide) (by decide) (fun v105 σ106 h104 => ?_)
                  obtain ⟨h107, h108, rfl, h109⟩ := h104
                  have h110 := Fr_trans h103 h108 (by decide +kernel)
                  refine En_Ps 4 (pc' := 138) (lv' := [(7, .int z64), (6, .int z56), (0, .ref 14), (1, .ref p), (2, .int a), (3, .int b), (4, .int c), (5, .int y14)]) (st' := [.int ((Int32.ofInt (-1))), .int z64, .int z56, .ref 14]) rfl ?_
                  have := (by decide : ((Int32.ofInt (-1))).toInt = -1)
                  refine En_callV rfl rfl rfl rfl rfl rfl rfl rfl tgz_14 (by decide +kernel) rfl (c_99 σ106 h107 z56 z64 ((Int32.ofInt (-1))) (geI rfl (by first | exact q_ef1e8e38bf h55.1 | omega)) (leI rfl (by first | exact q_f1c8c7c399 h55.2 | omega))) (by decide) (by decide) (fun v112 σ113 h111 => ?_)
                  obtain ⟨h114, h115, rfl, h116⟩ := h111
                  have h117 := Fr_trans h110 h115 (by decide +kernel)
                  refine En_Ps 1 (pc' := 144) (lv' := [(5, .int ((y14 + Int32.ofInt 1))), (7, .int z64), (6, .int z56), (0, .ref 14), (1, .ref p), (2, .int a), (3, .int b), (4, .int c)]) (st' := []) rfl ?_
                  refine En_lv1 (addI rfl (by decide : (Int32.ofInt 1).toInt = 1) (by first | exact q_465ab79ac1 h19 | omega) (by first | exact q_9a865ca0e4 h20 | omega)) (fun z118 h119 => ?_)
                  refine En_Ps 1 (pc' := 24) (lv' := [(5, .int z118), (7, .int z64), (6, .int z56), (0, .ref 14), (1, .ref p), (2, .int a), (3, .int b), (4, .int c)]) (st' := []) rfl ?_
                  refine En_lv (lv := [(0, .ref 14), (1, .ref p), (2, .int a), (3, .int b), (4, .int c), (5, .int z118)]) ⟨rfl, rfl, rfl, rfl, rfl, rfl, trivial⟩ ?_
                  exact ih24 σ113 z118 h114 h117 ((h115 _ _ (inW hp (by decide +kernel))).trans ((h108 _ _ (inW hp (by decide +kernel))).trans ((h100 _ _ (inW hp (by decide +kernel))).trans ((h87 _ _ (inW hp (by decide +kernel))).trans ((h82 _ _ (Or.inl (neTG hp tgz_16 (by decide)))).trans ((h54 _ _ (inW hp (by decide +kernel))).trans ((h28 _ _ (inW hp (by decide +kernel))).trans h18))))))) (by first | exact q_35104ce9d3 h119 h19 | omega) (by first | exact q_c76cfd8d15 h119 h23 h4 | omega) (by first | exact q_ae2dbf4292 h23 h119 | omega) (by first | exact q_8d03a5a7cb h119 h22 | omega)
    have := (by decide : (Int32.ofInt 0).toInt = 0)
    refine En_lv (lv := [(0, .ref 14), (1, .ref p), (2, .int a), (3, .int b), (4, .int c), (5, .int ((Int32.ofInt 0)))]) ⟨rfl, rfl, rfl, rfl, rfl, rfl, trivial⟩ ?_
    exact key24 (Int.toNat (z2.toInt) + 1) σ0 ((Int32.ofInt 0)) hσ0 hF0 h1 (by decide) (by decide) (by omega) (by first | exact toN_lt _ | omega)
/-- DoorSchool$Timetable.placeFrom(LDoorSchool$Timetable;LDoorSchool$Plan;III)V -/
abbrev P_96e (σ0 : SG) (p : Nat) (a : Int32) (b : Int32) (c : Int32) : PO := fun v σ => WT σ ∧ Fr [(14, 4), (15, 0), (16, 0), (17, 0)] σ0 σ ∧ v = none ∧ True
set_option maxRecDepth 10000 in
set_option maxHeartbeats 4000000 in
theorem c_96e (σ0 : SG) (hσ0 : WT σ0) (p : Nat) (hp : TG p = 18) (a : Int32) (b : Int32) (c : Int32) (hl_a : 2 ≤ a.toInt) (hu_a : a.toInt ≤ 6) (hl_c : 0 ≤ c.toInt) (hu_c : c.toInt ≤ 1000) : En 7 189 none mr_96 (P_96e σ0 p a b c) 0 [(0, .ref 14), (1, .ref p), (2, .int a), (3, .int b), (4, .int c)] [] σ0 := by
  have hF0 : Fr [(14, 4), (15, 0), (16, 0), (17, 0)] σ0 σ0 := Fr_rfl
  refine En_Ps 2 (pc' := 2) (lv' := [(0, .ref 14), (1, .ref p), (2, .int a), (3, .int b), (4, .int c)]) (st' := [.ref p, .int a]) rfl ?_
  refine En_getI (j := 11) (l := 0) (u := 6) rfl rfl rfl hp (by decide +kernel) hσ0 (by decide +kernel) (fun z2 h1 h3 h4 => ?_)
  refine En_icGe _ rfl rfl rfl (fun h5 => ?_) (fun h5 => ?_)
  · refine En_Ps 2 (pc' := 17) (lv' := [(0, .ref 14), (1, .ref p), (2, .int a), (3, .int b), (4, .int c)]) (st' := [.int c, .ref 14]) rfl ?_
    refine En_callV rfl rfl rfl rfl rfl rfl rfl rfl tgz_14 (by decide +kernel) rfl (c_95 σ0 hσ0 c (geI rfl (by first | exact q_58e6e51dcc hl_c | omega)) (leI rfl (by first | exact q_2a7c2c8d7c hu_c | omega))) (by decide) (by decide) (fun v7 σ8 h6 => ?_)
    obtain ⟨h9, h10, rfl, h11⟩ := h6
    have h12 := Fr_trans hF0 h10 (by decide +kernel)
    exact En_ret (v := none) rfl rfl rfl ⟨h9, h12, rfl, trivial⟩
  · refine En_Ps 2 (pc' := 11) (lv' := [(0, .ref 14), (1, .ref p), (2, .int a), (3, .int b), (4, .int c)]) (st' := [.int (((Int8.ofInt 6).toInt32)), .int a]) rfl ?_
    refine En_icLt _ rfl (by decide : ((Int8.ofInt 6).toInt32).toInt = 6) rfl (fun h13 => ?_) (fun hx => by first | exact (q_071bc28013 hx h4 h5).elim | (exfalso; omega))
    refine En_Ps 2 (pc' := 24) (lv' := [(5, .int ((Int32.ofInt 0))), (0, .ref 14), (1, .ref p), (2, .int a), (3, .int b), (4, .int c)]) (st' := []) rfl ?_
    have key24 : ∀ (n24 : Nat) (σ15 : SG) (y14 : Int32), WT σ15 → Fr [(14, 4), (15, 0), (16, 0), (17, 0)] σ0 σ15 → (σ15 p)[11]? = some (.int z2) → 0 ≤ y14.toInt → y14.toInt ≤ 6 → y14.toInt - z2.toInt ≤ 0 → z2.toInt - y14.toInt < (n24 : Int) → En 7 189 none mr_96 (P_96e σ0 p a b c) 24 [(0, .ref 14), (1, .ref p), (2, .int a), (3, .int b), (4, .int c), (5, .int y14)] [] σ15 := by
      intro n24
      induction n24 with
      | zero =>
        intro σ15 y14 h16 h17 h18 h19 h20 h21 h22
        first | exact (q_14257feae7 h21 h22).elim | (exfalso; omega)
      | succ n24 ih24 =>
        intro σ15 y14 h16 h17 h18 h19 h20 h21 h22
        refine En_Ps 2 (pc' := 27) (lv' := [(0, .ref 14), (1, .ref p), (2, .int a), (3, .int b), (4, .int c), (5, .int y14)]) (st' := [.ref p, .int y14]) rfl ?_
        refine En_getK (j := 11) h18 rfl rfl rfl hp (by decide +kernel) ?_
        refine En_icGe _ rfl rfl rfl (fun h23 => ?_) (fun h23 => ?_)
        · exact En_ret (v := none) rfl rfl rfl ⟨h16, h17, rfl, trivial⟩
        · refine En_Ps 2 (pc' := 36) (lv' := [(0, .ref 14), (1, .ref p), (2, .int a), (3, .int b), (4, .int c), (5, .int y14)]) (st' := [.int y14, .int b]) rfl ?_
          refine En_callS rfl rfl rfl rfl rfl rfl rfl rfl rfl (c_108 σ15 h16 b y14) (by decide) (by decide) (fun v25 σ26 h24 => ?_)
          obtain ⟨h27, h28, z30, rfl, h29⟩ := h24
          have h31 := Fr_trans h17 h28 (by decide +kernel)
          refine En_iNe _ rfl rfl (fun h32 => ?_) (fun h32 => ?_)
          · refine En_Ps 1 (pc' := 144) (lv' := [(5, .int ((y14 + Int32.ofInt 1))), (0, .ref 14), (1, .ref p), (2, .int a), (3, .int b), (4, .int c)]) (st' := []) rfl ?_
            refine En_lv1 (addI rfl (by decide : (Int32.ofInt 1).toInt = 1) (by first | exact q_465ab79ac1 h19 | omega) (by first | exact q_9a865ca0e4 h20 | omega)) (fun z33 h34 => ?_)
            refine En_Ps 1 (pc' := 24) (lv' := [(5, .int z33), (0, .ref 14), (1, .ref p), (2, .int a), (3, .int b), (4, .int c)]) (st' := []) rfl ?_
            refine En_lv (lv := [(0, .ref 14), (1, .ref p), (2, .int a), (3, .int b), (4, .int c), (5, .int z33)]) ⟨rfl, rfl, rfl, rfl, rfl, rfl, trivial⟩ ?_
            exact ih24 σ26 z33 h27 h31 ((h28 _ _ (inW hp (by decide +kernel))).trans h18) (by first | exact q_35104ce9d3 h34 h19 | omega) (by first | exact q_c76cfd8d15 h34 h23 h4 | omega) (by first | exact q_ae2dbf4292 h23 h34 | omega) (by first | exact q_8d03a5a7cb h34 h22 | omega)
          · refine En_Ps 1 (pc' := 43) (lv' := [(0, .ref 14), (1, .ref p), (2, .int a), (3, .int b), (4, .int c), (5, .int y14)]) (st' := [.ref p]) rfl ?_
            refine En_getR (j := 13) (g' := 26) (u := 0) rfl rfl rfl hp (by decide +kernel) h27 (by decide +kernel) (fun a36 h35 ha36 => ?_)
            refine En_Ps 1 (pc' := 48) (lv' := [(0, .ref 14), (1, .ref p), (2, .int a), (3, .int b), (4, .int c), (5, .int y14)]) (st' := [.int y14, .ref a36]) rfl ?_
            refine En_iald (l := 0) (u := 63) rfl rfl ha36 (by decide +kernel) h27 (by first | exact q_58e6e51dcc h19 | omega) (lnI (by decide +kernel : LN _ = 6) (by first | exact q_f252e21553 h23 h4 | omega)) (FTsgl (by decide +kernel)) (fun z38 h37 h39 h40 => ?_)
            refine En_Ps 3 (pc' := 52) (lv' := [(0, .ref 14), (1, .ref p), (2, .int a), (3, .int b), (4, .int c), (5, .int y14)]) (st' := [.int ((b ^^^ ((Int32.ofInt (-1))))), .int z38]) rfl ?_
            refine En_nam (fun z41 h42 => ?_)
            refine En_Ps 1 (pc' := 53) (lv' := [(0, .ref 14), (1, .ref p), (2, .int a), (3, .int b), (4, .int c), (5, .int y14)]) (st' := [.int ((z38 &&& z41))]) rfl ?_
            refine En_nam (fun z43 h44 => ?_)
            obtain ⟨h45, h46⟩ := andn_rng h44 rfl (by omega) (by omega : _ ≤ (63 : Int))
            refine En_iNe _ rfl rfl (fun h47 => ?_) (fun h47 => ?_)
            · refine En_Ps 1 (pc' := 144) (lv' := [(5, .int ((y14 + Int32.ofInt 1))), (0, .ref 14), (1, .ref p), (2, .int a), (3, .int b), (4, .int c)]) (st' := []) rfl ?_
              refine En_lv1 (addI rfl (by decide : (Int32.ofInt 1).toInt = 1) (by first | exact q_465ab79ac1 h19 | omega) (by first | exact q_9a865ca0e4 h20 | omega)) (fun z48 h49 => ?_)
              refine En_Ps 1 (pc' := 24) (lv' := [(5, .int z48), (0, .ref 14), (1, .ref p), (2, .int a), (3, .int b), (4, .int c)]) (st' := []) rfl ?_
              refine En_lv (lv := [(0, .ref 14), (1, .ref p), (2, .int a), (3, .int b), (4, .int c), (5, .int z48)]) ⟨rfl, rfl, rfl, rfl, rfl, rfl, trivial⟩ ?_
              exact ih24 σ26 z48 h27 h31 ((h28 _ _ (inW hp (by decide +kernel))).trans h18) (by first | exact q_35104ce9d3 h49 h19 | omega) (by first | exact q_c76cfd8d15 h49 h23 h4 | omega) (by first | exact q_ae2dbf4292 h23 h49 | omega) (by first | exact q_8d03a5a7cb h49 h22 | omega)
            · refine En_Ps 3 (pc' := 60) (lv' := [(0, .ref 14), (1, .ref p), (2, .int a), (3, .int b), (4, .int c), (5, .int y14)]) (st' := [.int y14, .ref p, .ref 14]) rfl ?_
              refine En_callV rfl rfl rfl rfl rfl rfl rfl rfl tgz_14 (by decide +kernel) rfl (c_92 σ26 h27 p hp y14 (geI rfl (by first | exact q_58e6e51dcc h19 | omega)) (leI rfl (by first | exact q_2c6b8d4bd3 h23 h4 | omega))) (by decide) (by decide) (fun v51 σ52 h50 => ?_)
              obtain ⟨h53, h54, z56, rfl, h55⟩ := h50
              have h57 := Fr_trans h31 h54 (by decide +kernel)
              refine En_Ps 3 (pc' := 68) (lv' := [(6, .int z56), (0, .ref 14), (1, .ref p), (2, .int a), (3, .int b), (4, .int c), (5, .int y14)]) (st' := [.ref p, .int z56]) rfl ?_
              refine En_getR (j := 12) (g' := 25) (u := 0) rfl rfl rfl hp (by decide +kernel) h53 (by decide +kernel) (fun a59 h58 ha59 => ?_)
              refine En_Ps 1 (pc' := 73) (lv' := [(6, .int z56), (0, .ref 14), (1, .ref p), (2, .int a), (3, .int b), (4, .int c), (5, .int y14)]) (st' := [.int y14, .ref a59, .int z56]) rfl ?_
              refine En_iald (l := 0) (u := 9) rfl rfl ha59 (by decide +kernel) h53 (by first | exact q_58e6e51dcc h19 | omega) (lnI (by decide +kernel : LN _ = 6) (by first | exact q_f252e21553 h23 h4 | omega)) (FTsgl (by decide +kernel)) (fun z61 h60 h62 h63 => ?_)
              refine En_Ps 1 (pc' := 75) (lv' := [(6, .int z56), (0, .ref 14), (1, .ref p), (2, .int a), (3, .int b), (4, .int c), (5, .int y14)]) (st' := [.int ((z56 + z61))]) rfl ?_
              refine En_top (addI rfl rfl (by first | exact q_2027e39019 h55.1 h62 | omega) (by first | exact q_66d03a076a h55.2 h63 | omega)) (fun z64 h65 => ?_)
              refine En_Ps 3 (pc' := 80) (lv' := [(7, .int z64), (6, .int z56), (0, .ref 14), (1, .ref p), (2, .int a), (3, .int b), (4, .int c), (5, .int y14)]) (st' := [.ref 14, .int z64]) rfl ?_
              refine En_getI (j := 4) (l := 0) (u := 1000) rfl rfl rfl tgz_14 (by decide +kernel) h53 (by decide +kernel) (fun z67 h66 h68 h69 => ?_)
              refine En_icGt _ rfl rfl rfl (fun h70 => ?_) (fun h70 => ?_)
              · refine En_Ps 1 (pc' := 144) (lv' := [(5, .int ((y14 + Int32.ofInt 1))), (7, .int z64), (6, .int z56), (0, .ref 14), (1, .ref p), (2, .int a), (3, .int b), (4, .int c)]) (st' := []) rfl ?_
                refine En_lv1 (addI rfl (by decide : (Int32.ofInt 1).toInt = 1) (by first | exact q_465ab79ac1 h19 | omega) (by first | exact q_9a865ca0e4 h20 | omega)) (fun z71 h72 => ?_)
                refine En_Ps 1 (pc' := 24) (lv' := [(5, .int z71), (7, .int z64), (6, .int z56), (0, .ref 14), (1, .ref p), (2, .int a), (3, .int b), (4, .int c)]) (st' := []) rfl ?_
                refine En_lv (lv := [(0, .ref 14), (1, .ref p), (2, .int a), (3, .int b), (4, .int c), (5, .int z71)]) ⟨rfl, rfl, rfl, rfl, rfl, rfl, trivial⟩ ?_
                exact ih24 σ52 z71 h53 h57 ((h54 _ _ (inW hp (by decide +kernel))).trans ((h28 _ _ (inW hp (by decide +kernel))).trans h18)) (by first | exact q_35104ce9d3 h72 h19 | omega) (by first | exact q_c76cfd8d15 h72 h23 h4 | omega) (by first | exact q_ae2dbf4292 h23 h72 | omega) (by first | exact q_8d03a5a7cb h72 h22 | omega)
              · refine En_Ps 2 (pc' := 90) (lv' := [(7, .int z64), (6, .int z56), (0, .ref 14), (1, .ref p), (2, .int a), (3, .int b), (4, .int c), (5, .int y14)]) (st' := [.int (((Int8.ofInt 54).toInt32)), .int z64]) rfl ?_
                refine En_icGt _ rfl (by decide : ((Int8.ofInt 54).toInt32).toInt = 54) rfl (fun h73 => ?_) (fun h73 => ?_)
                · refine En_Ps 1 (pc' := 144) (lv' := [(5, .int ((y14 + Int32.ofInt 1))), (7, .int z64), (6, .int z56), (0, .ref 14), (1, .ref p), (2, .int a), (3, .int b), (4, .int c)]) (st' := []) rfl ?_
                  refine En_lv1 (addI rfl (by decide : (Int32.ofInt 1).toInt = 1) (by first | exact q_465ab79ac1 h19 | omega) (by first | exact q_9a865ca0e4 h20 | omega)) (fun z74 h75 => ?_)
                  refine En_Ps 1 (pc' := 24) (lv' := [(5, .int z74), (7, .int z64), (6, .int z56), (0, .ref 14), (1, .ref p), (2, .int a), (3, .int b), (4, .int c)]) (st' := []) rfl ?_
                  refine En_lv (lv := [(0, .ref 14), (1, .ref p), (2, .int a), (3, .int b), (4, .int c), (5, .int z74)]) ⟨rfl, rfl, rfl, rfl, rfl, rfl, trivial⟩ ?_
                  exact ih24 σ52 z74 h53 h57 ((h54 _ _ (inW hp (by decide +kernel))).trans ((h28 _ _ (inW hp (by decide +kernel))).trans h18)) (by first | exact q_35104ce9d3 h75 h19 | omega) (by first | exact q_c76cfd8d15 h75 h23 h4 | omega) (by first | exact q_ae2dbf4292 h23 h75 | omega) (by first | exact q_8d03a5a7cb h75 h22 | omega)
                · refine En_Ps 1 (pc' := 94) (lv' := [(7, .int z64), (6, .int z56), (0, .ref 14), (1, .ref p), (2, .int a), (3, .int b), (4, .int c), (5, .int y14)]) (st' := [.ref 14]) rfl ?_
                  refine En_getU (j := 1) (u := 16) (g' := 16) (q := 0) rfl rfl rfl tgz_14 (by decide +kernel) h53 (by decide +kernel) (by decide +kernel) (fun h76 => ?_)
                  refine En_Ps 2 (pc' := 101) (lv' := [(7, .int z64), (6, .int z56), (0, .ref 14), (1, .ref p), (2, .int a), (3, .int b), (4, .int c), (5, .int y14)]) (st' := [.int z56, .int y14, .ref 16]) rfl ?_
                  refine En_iast (l := 0) (u := 54) rfl rfl tgz_16 (by decide +kernel) (by first | exact q_58e6e51dcc h19 | omega) (lnI (by decide +kernel : LN _ = 6) (by first | exact q_f252e21553 h23 h4 | omega)) (FTsgl (by decide +kernel)) (rngI rfl (by first | exact q_ef1e8e38bf h55.1 | omega) (by first | exact q_f1c8c7c399 h55.2 | omega)) h53 h57 (by decide +kernel) (fun σ78 h79 h80 h81 h82 => ?_)
                  refine En_Ps 4 (pc' := 108) (lv' := [(7, .int z64), (6, .int z56), (0, .ref 14), (1, .ref p), (2, .int a), (3, .int b), (4, .int c), (5, .int y14)]) (st' := [.int ((Int32.ofInt 1)), .int z64, .int z56, .ref 14]) rfl ?_
                  have := (by decide : ((Int32.ofInt 1)).toInt = 1)
                  refine En_callV rfl rfl rfl rfl rfl rfl rfl rfl tgz_14 (by decide +kernel) rfl (c_99 σ78 h79 z56 z64 ((Int32.ofInt 1)) (geI rfl (by first | exact q_ef1e8e38bf h55.1 | omega)) (leI rfl (by first | exact q_f1c8c7c399 h55.2 | omega))) (by decide) (by decide) (fun v84 σ85 h83 => ?_)
                  obtain ⟨h86, h87, rfl, h88⟩ := h83
                  have h89 := Fr_trans h80 h87 (by decide +kernel)
                  refine En_Ps 5 (pc' := 116) (lv' := [(7, .int z64), (6, .int z56), (0, .ref 14), (1, .ref p), (2, .int a), (3, .int b), (4, .int c), (5, .int y14)]) (st' := [.int ((a + ((Int32.ofInt 1)))), .ref p, .ref 14]) rfl ?_
                  refine En_top (addI rfl (by decide : (Int32.ofInt 1).toInt = 1) (by first | exact q_b7dadf652e hl_a | omega) (by first | exact q_2918abfa70 h13 | omega)) (fun z90 h91 => ?_)
                  refine En_Ps 4 (pc' := 121) (lv' := [(7, .int z64), (6, .int z56), (0, .ref 14), (1, .ref p), (2, .int a), (3, .int b), (4, .int c), (5, .int y14)]) (st' := [.int ((((Int32.ofInt 1)) <<< (y14 &&& 31))), .int b, .int z90, .ref p, .ref 14]) rfl ?_
                  refine En_rng (shl1_p 5 rfl (by omega) (by omega) (by decide)) (fun z92 h93 h94 => ?_)
                  refine En_Ps 1 (pc' := 122) (lv' := [(7, .int z64), (6, .int z56), (0, .ref 14), (1, .ref p), (2, .int a), (3, .int b), (4, .int c), (5, .int y14)]) (st' := [.int ((b ||| z92)), .int z90, .ref p, .ref 14]) rfl ?_
                  refine En_hav (fun z95 => ?_)
                  refine En_Ps 2 (pc' := 126) (lv' := [(7, .int z64), (6, .int z56), (0, .ref 14), (1, .ref p), (2, .int a), (3, .int b), (4, .int c), (5, .int y14)]) (st' := [.int z64, .int c, .int z95, .int z90, .ref p, .ref 14]) rfl ?_
                  refine En_callS rfl rfl rfl rfl rfl rfl rfl rfl rfl (c_10 σ85 h86 c z64) (by decide) (by decide) (fun v97 σ98 h96 => ?_)
                  obtain ⟨h99, h100, z102, rfl, h101⟩ := h96
                  have h103 := Fr_trans h89 h100 (by decide +kernel)
                  refine En_callS rfl rfl rfl rfl rfl rfl rfl rfl rfl (c_96d σ98 h99 p hp z90 z95 z102 (geI rfl (by first | exact q_ee554783ee h91 hl_a | omega)) (leI rfl (by first | exact q_13d1e79bb8 h91 h13 | omega)) (geI rfl (by first | exact q_f062bc8aa8 h101.1 hl_c | omega)) (leI rfl (by omega))) (by decide) (by decide) (fun v105 σ106 h104 => ?_)
                  obtain ⟨h107, h108, rfl, h109⟩ := h104
                  have h110 := Fr_trans h103 h108 (by decide +kernel)
                  refine En_Ps 4 (pc' := 138) (lv' := [(7, .int z64), (6, .int z56), (0, .ref 14), (1, .ref p), (2, .int a), (3, .int b), (4, .int c), (5, .int y14)]) (st' := [.int ((Int32.ofInt (-1))), .int z64, .int z56, .ref 14]) rfl ?_
                  have := (by decide : ((Int32.ofInt (-1))).toInt = -1)
                  refine En_callV rfl rfl rfl rfl rfl rfl rfl rfl tgz_14 (by decide +kernel) rfl (c_99 σ106 h107 z56 z64 ((Int32.ofInt (-1))) (geI rfl (by first | exact q_ef1e8e38bf h55.1 | omega)) (leI rfl (by first | exact q_f1c8c7c399 h55.2 | omega))) (by decide) (by decide) (fun v112 σ113 h111 => ?_)
                  obtain ⟨h114, h115, rfl, h116⟩ := h111
                  have h117 := Fr_trans h110 h115 (by decide +kernel)
                  refine En_Ps 1 (pc' := 144) (lv' := [(5, .int ((y14 + Int32.ofInt 1))), (7, .int z64), (6, .int z56), (0, .ref 14), (1, .ref p), (2, .int a), (3, .int b), (4, .int c)]) (st' := []) rfl ?_
                  refine En_lv1 (addI rfl (by decide : (Int32.ofInt 1).toInt = 1) (by first | exact q_465ab79ac1 h19 | omega) (by first | exact q_9a865ca0e4 h20 | omega)) (fun z118 h119 => ?_)
                  refine En_Ps 1 (pc' := 24) (lv' := [(5, .int z118), (7, .int z64), (6, .int z56), (0, .ref 14), (1, .ref p), (2, .int a), (3, .int b), (4, .int c)]) (st' := []) rfl ?_
                  refine En_lv (lv := [(0, .ref 14), (1, .ref p), (2, .int a), (3, .int b), (4, .int c), (5, .int z118)]) ⟨rfl, rfl, rfl, rfl, rfl, rfl, trivial⟩ ?_
                  exact ih24 σ113 z118 h114 h117 ((h115 _ _ (inW hp (by decide +kernel))).trans ((h108 _ _ (inW hp (by decide +kernel))).trans ((h100 _ _ (inW hp (by decide +kernel))).trans ((h87 _ _ (inW hp (by decide +kernel))).trans ((h82 _ _ (Or.inl (neTG hp tgz_16 (by decide)))).trans ((h54 _ _ (inW hp (by decide +kernel))).trans ((h28 _ _ (inW hp (by decide +kernel))).trans h18))))))) (by first | exact q_35104ce9d3 h119 h19 | omega) (by first | exact q_c76cfd8d15 h119 h23 h4 | omega) (by first | exact q_ae2dbf4292 h23 h119 | omega) (by first | exact q_8d03a5a7cb h119 h22 | omega)
    have := (by decide : (Int32.ofInt 0).toInt = 0)
    refine En_lv (lv := [(0, .ref 14), (1, .ref p), (2, .int a), (3, .int b), (4, .int c), (5, .int ((Int32.ofInt 0)))]) ⟨rfl, rfl, rfl, rfl, rfl, rfl, trivial⟩ ?_
    exact key24 (Int.toNat (z2.toInt) + 1) σ0 ((Int32.ofInt 0)) hσ0 hF0 h1 (by decide) (by decide) (by omega) (by first | exact toN_lt _ | omega)
/-- DoorSchool$Timetable.placeFrom(LDoorSchool$Timetable;LDoorSchool$Plan;III)V -/
abbrev P_96f (σ0 : SG) (p : Nat) (a : Int32) (b : Int32) (c : Int32) : PO := fun v σ => WT σ ∧ Fr [(14, 4), (15, 0), (16, 0), (17, 0)] σ0 σ ∧ v = none ∧ True
set_option maxRecDepth 10000 in
set_option maxHeartbeats 4000000 in
theorem c_96f (σ0 : SG) (hσ0 : WT σ0) (p : Nat) (hp : TG p = 18) (a : Int32) (b : Int32) (c : Int32) (hl_a : 1 ≤ a.toInt) (hu_a : a.toInt ≤ 6) (hl_c : 0 ≤ c.toInt) (hu_c : c.toInt ≤ 1000) : En 8 216 none mr_96 (P_96f σ0 p a b c) 0 [(0, .ref 14), (1, .ref p), (2, .int a), (3, .int b), (4, .int c)] [] σ0 := by
  have hF0 : Fr [(14, 4), (15, 0), (16, 0), (17, 0)] σ0 σ0 := Fr_rfl
  refine En_Ps 2 (pc' := 2) (lv' := [(0, .ref 14), (1, .ref p), (2, .int a), (3, .int b), (4, .int c)]) (st' := [.ref p, .int a]) rfl ?_
  refine En_getI (j := 11) (l := 0) (u := 6) rfl rfl rfl hp (by decide +kernel) hσ0 (by decide +kernel) (fun z2 h1 h3 h4 => ?_)
  refine En_icGe _ rfl rfl rfl (fun h5 => ?_) (fun h5 => ?_)
  · refine En_Ps 2 (pc' := 17) (lv' := [(0, .ref 14), (1, .ref p), (2, .int a), (3, .int b), (4, .int c)]) (st' := [.int c, .ref 14]) rfl ?_
    refine En_callV rfl rfl rfl rfl rfl rfl rfl rfl tgz_14 (by decide +kernel) rfl (c_95 σ0 hσ0 c (geI rfl (by first | exact q_58e6e51dcc hl_c | omega)) (leI rfl (by first | exact q_2a7c2c8d7c hu_c | omega))) (by decide) (by decide) (fun v7 σ8 h6 => ?_)
    obtain ⟨h9, h10, rfl, h11⟩ := h6
    have h12 := Fr_trans hF0 h10 (by decide +kernel)
    exact En_ret (v := none) rfl rfl rfl ⟨h9, h12, rfl, trivial⟩
  · refine En_Ps 2 (pc' := 11) (lv' := [(0, .ref 14), (1, .ref p), (2, .int a), (3, .int b), (4, .int c)]) (st' := [.int (((Int8.ofInt 6).toInt32)), .int a]) rfl ?_
    refine En_icLt _ rfl (by decide : ((Int8.ofInt 6).toInt32).toInt = 6) rfl (fun h13 => ?_) (fun hx => by first | exact (q_071bc28013 hx h4 h5).elim | (exfalso; omega))
    refine En_Ps 2 (pc' := 24) (lv' := [(5, .int ((Int32.ofInt 0))), (0, .ref 14), (1, .ref p), (2, .int a), (3, .int b), (4, .int c)]) (st' := []) rfl ?_
    have key24 : ∀ (n24 : Nat) (σ15 : SG) (y14 : Int32), WT σ15 → Fr [(14, 4), (15, 0), (16, 0), (17, 0)] σ0 σ15 → (σ15 p)[11]? = some (.int z2) → 0 ≤ y14.toInt → y14.toInt ≤ 6 → y14.toInt - z2.toInt ≤ 0 → z2.toInt - y14.toInt < (n24 : Int) → En 8 216 none mr_96 (P_96f σ0 p a b c) 24 [(0, .ref 14), (1, .ref p), (2, .int a), (3, .int b), (4, .int c), (5, .int y14)] [] σ15 := by
      intro n24
      induction n24 with
      | zero =>
        intro σ15 y14 h16 h17 h18 h19 h20 h21 h22
        first | exact (q_14257feae7 h21 h22).elim | (exfalso; omega)
      | succ n24 ih24 =>
        intro σ15 y14 h16 h17 h18 h19 h20 h21 h22
        refine En_Ps 2 (pc' := 27) (lv' := [(0, .ref 14), (1, .ref p), (2, .int a), (3, .int b), (4, .int c), (5, .int y14)]) (st' := [.ref p, .int y14]) rfl ?_
        refine En_getK (j := 11) h18 rfl rfl rfl hp (by decide +kernel) ?_
        refine En_icGe _ rfl rfl rfl (fun h23 => ?_) (fun h23 => ?_)
        · exact En_ret (v := none) rfl rfl rfl ⟨h16, h17, rfl, trivial⟩
        · refine En_Ps 2 (pc' := 36) (lv' := [(0, .ref 14), (1, .ref p), (2, .int a), (3, .int b), (4, .int c), (5, .int y14)]) (st' := [.int y14, .int b]) rfl ?_
          refine En_callS rfl rfl rfl rfl rfl rfl rfl rfl rfl (c_108 σ15 h16 b y14) (by decide) (by decide) (fun v25 σ26 h24 => ?_)
          obtain ⟨h27, h28, z30, rfl, h29⟩ := h24
          have h31 := Fr_trans h17 h28 (by decide +kernel)
          refine En_iNe _ rfl rfl (fun h32 => ?_) (fun h32 => ?_)
          · refine En_Ps 1 (pc' := 144) (lv' := [(5, .int ((y14 + Int32.ofInt 1))), (0, .ref 14), (1, .ref p), (2, .int a), (3, .int b), (4, .int c)]) (st' := []) rfl ?_
            refine En_lv1 (addI rfl (by decide : (Int32.ofInt 1).toInt = 1) (by first | exact q_465ab79ac1 h19 | omega) (by first | exact q_9a865ca0e4 h20 | omega)) (fun z33 h34 => ?_)
            refine En_Ps 1 (pc' := 24) (lv' := [(5, .int z33), (0, .ref 14), (1, .ref p), (2, .int a), (3, .int b), (4, .int c)]) (st' := []) rfl ?_
            refine En_lv (lv := [(0, .ref 14), (1, .ref p), (2, .int a), (3, .int b), (4, .int c), (5, .int z33)]) ⟨rfl, rfl, rfl, rfl, rfl, rfl, trivial⟩ ?_
            exact ih24 σ26 z33 h27 h31 ((h28 _ _ (inW hp (by decide +kernel))).trans h18) (by first | exact q_35104ce9d3 h34 h19 | omega) (by first | exact q_c76cfd8d15 h34 h23 h4 | omega) (by first | exact q_ae2dbf4292 h23 h34 | omega) (by first | exact q_8d03a5a7cb h34 h22 | omega)
          · refine En_Ps 1 (pc' := 43) (lv' := [(0, .ref 14), (1, .ref p), (2, .int a), (3, .int b), (4, .int c), (5, .int y14)]) (st' := [.ref p]) rfl ?_
            refine En_getR (j := 13) (g' := 26) (u := 0) rfl rfl rfl hp (by decide +kernel) h27 (by decide +kernel) (fun a36 h35 ha36 => ?_)
            refine En_Ps 1 (pc' := 48) (lv' := [(0, .ref 14), (1, .ref p), (2, .int a), (3, .int b), (4, .int c), (5, .int y14)]) (st' := [.int y14, .ref a36]) rfl ?_
            refine En_iald (l := 0) (u := 63) rfl rfl ha36 (by decide +kernel) h27 (by first | exact q_58e6e51dcc h19 | omega) (lnI (by decide +kernel : LN _ = 6) (by first | exact q_f252e21553 h23 h4 | omega)) (FTsgl (by decide +kernel)) (fun z38 h37 h39 h40 => ?_)
            refine En_Ps 3 (pc' := 52) (lv' := [(0, .ref 14), (1, .ref p), (2, .int a), (3, .int b), (4, .int c), (5, .int y14)]) (st' := [.int ((b ^^^ ((Int32.ofInt (-1))))), .int z38]) rfl ?_
            refine En_nam (fun z41 h42 => ?_)
            refine En_Ps 1 (pc' := 53) (lv' := [(0, .ref 14), (1, .ref p), (2, .int a), (3, .int b), (4, .int c), (5, .int y14)]) (st' := [.int ((z38 &&& z41))]) rfl ?_
            refine En_nam (fun z43 h44 => ?_)
            obtain ⟨h45, h46⟩ := andn_rng h44 rfl (by omega) (by omega : _ ≤ (63 : Int))
            refine En_iNe _ rfl rfl (fun h47 => ?_) (fun h47 => ?_)
            · refine En_Ps 1 (pc' := 144) (lv' := [(5, .int ((y14 + Int32.ofInt 1))), (0, .ref 14), (1, .ref p), (2, .int a), (3, .int b), (4, .int c)]) (st' := []) rfl ?_
              refine En_lv1 (addI rfl (by decide : (Int32.ofInt 1).toInt = 1) (by first | exact q_465ab79ac1 h19 | omega) (by first | exact q_9a865ca0e4 h20 | omega)) (fun z48 h49 => ?_)
              refine En_Ps 1 (pc' := 24) (lv' := [(5, .int z48), (0, .ref 14), (1, .ref p), (2, .int a), (3, .int b), (4, .int c)]) (st' := []) rfl ?_
              refine En_lv (lv := [(0, .ref 14), (1, .ref p), (2, .int a), (3, .int b), (4, .int c), (5, .int z48)]) ⟨rfl, rfl, rfl, rfl, rfl, rfl, trivial⟩ ?_
              exact ih24 σ26 z48 h27 h31 ((h28 _ _ (inW hp (by decide +kernel))).trans h18) (by first | exact q_35104ce9d3 h49 h19 | omega) (by first | exact q_c76cfd8d15 h49 h23 h4 | omega) (by first | exact q_ae2dbf4292 h23 h49 | omega) (by first | exact q_8d03a5a7cb h49 h22 | omega)
            · refine En_Ps 3 (pc' := 60) (lv' := [(0, .ref 14), (1, .ref p), (2, .int a), (3, .int b), (4, .int c), (5, .int y14)]) (st' := [.int y14, .ref p, .ref 14]) rfl ?_
              refine En_callV rfl rfl rfl rfl rfl rfl rfl rfl tgz_14 (by decide +kernel) rfl (c_92 σ26 h27 p hp y14 (geI rfl (by first | exact q_58e6e51dcc h19 | omega)) (leI rfl (by first | exact q_2c6b8d4bd3 h23 h4 | omega))) (by decide) (by decide) (fun v51 σ52 h50 => ?_)
              obtain ⟨h53, h54, z56, rfl, h55⟩ := h50
              have h57 := Fr_trans h31 h54 (by decide +kernel)
              refine En_Ps 3 (pc' := 68) (lv' := [(6, .int z56), (0, .ref 14), (1, .ref p), (2, .int a), (3, .int b), (4, .int c), (5, .int y14)]) (st' := [.ref p, .int z56]) rfl ?_
              refine En_getR (j := 12) (g' := 25) (u := 0) rfl rfl rfl hp (by decide +kernel) h53 (by decide +kernel) (fun a59 h58 ha59 => ?_)
              refine En_Ps 1 (pc' := 73) (lv' := [(6, .int z56), (0, .ref 14), (1, .ref p), (2, .int a), (3, .int b), (4, .int c), (5, .int y14)]) (st' := [.int y14, .ref a59, .int z56]) rfl ?_
              refine En_iald (l := 0) (u := 9) rfl rfl ha59 (by decide +kernel) h53 (by first | exact q_58e6e51dcc h19 | omega) (lnI (by decide +kernel : LN _ = 6) (by first | exact q_f252e21553 h23 h4 | omega)) (FTsgl (by decide +kernel)) (fun z61 h60 h62 h63 => ?_)
              refine En_Ps 1 (pc' := 75) (lv' := [(6, .int z56), (0, .ref 14), (1, .ref p), (2, .int a), (3, .int b), (4, .int c), (5, .int y14)]) (st' := [.int ((z56 + z61))]) rfl ?_
              refine En_top (addI rfl rfl (by first | exact q_2027e39019 h55.1 h62 | omega) (by first | exact q_66d03a076a h55.2 h63 | omega)) (fun z64 h65 => ?_)
              refine En_Ps 3 (pc' := 80) (lv' := [(7, .int z64), (6, .int z56), (0, .ref 14), (1, .ref p), (2, .int a), (3, .int b), (4, .int c), (5, .int y14)]) (st' := [.ref 14, .int z64]) rfl ?_
              refine En_getI (j := 4) (l := 0) (u := 1000) rfl rfl rfl tgz_14 (by decide +kernel) h53 (by decide +kernel) (fun z67 h66 h68 h69 => ?_)
              refine En_icGt _ rfl rfl rfl (fun h70 => ?_) (fun h70 => ?_)
              · refine En_Ps 1 (pc' := 144) (lv' := [(5, .int ((y14 + Int32.ofInt 1))), (7, .int z64), (6, .int z56), (0, .ref 14), (1, .ref p), (2, .int a), (3, .int b), (4, .int c)]) (st' := []) rfl ?_
                refine En_lv1 (addI rfl (by decide : (Int32.ofInt 1).toInt = 1) (by first | exact q_465ab79ac1 h19 | omega) (by first | exact q_9a865ca0e4 h20 | omega)) (fun z71 h72 => ?_)
                refine En_Ps 1 (pc' := 24) (lv' := [(5, .int z71), (7, .int z64), (6, .int z56), (0, .ref 14), (1, .ref p), (2, .int a), (3, .int b), (4, .int c)]) (st' := []) rfl ?_
                refine En_lv (lv := [(0, .ref 14), (1, .ref p), (2, .int a), (3, .int b), (4, .int c), (5, .int z71)]) ⟨rfl, rfl, rfl, rfl, rfl, rfl, trivial⟩ ?_
                exact ih24 σ52 z71 h53 h57 ((h54 _ _ (inW hp (by decide +kernel))).trans ((h28 _ _ (inW hp (by decide +kernel))).trans h18)) (by first | exact q_35104ce9d3 h72 h19 | omega) (by first | exact q_c76cfd8d15 h72 h23 h4 | omega) (by first | exact q_ae2dbf4292 h23 h72 | omega) (by first | exact q_8d03a5a7cb h72 h22 | omega)
              · refine En_Ps 2 (pc' := 90) (lv' := [(7, .int z64), (6, .int z56), (0, .ref 14), (1, .ref p), (2, .int a), (3, .int b), (4, .int c), (5, .int y14)]) (st' := [.int (((Int8.ofInt 54).toInt32)), .int z64]) rfl ?_
                refine En_icGt _ rfl (by decide : ((Int8.ofInt 54).toInt32).toInt = 54) rfl (fun h73 => ?_) (fun h73 => ?_)
                · refine En_Ps 1 (pc' := 144) (lv' := [(5, .int ((y14 + Int32.ofInt 1))), (7, .int z64), (6, .int z56), (0, .ref 14), (1, .ref p), (2, .int a), (3, .int b), (4, .int c)]) (st' := []) rfl ?_
                  refine En_lv1 (addI rfl (by decide : (Int32.ofInt 1).toInt = 1) (by first | exact q_465ab79ac1 h19 | omega) (by first | exact q_9a865ca0e4 h20 | omega)) (fun z74 h75 => ?_)
                  refine En_Ps 1 (pc' := 24) (lv' := [(5, .int z74), (7, .int z64), (6, .int z56), (0, .ref 14), (1, .ref p), (2, .int a), (3, .int b), (4, .int c)]) (st' := []) rfl ?_
                  refine En_lv (lv := [(0, .ref 14), (1, .ref p), (2, .int a), (3, .int b), (4, .int c), (5, .int z74)]) ⟨rfl, rfl, rfl, rfl, rfl, rfl, trivial⟩ ?_
                  exact ih24 σ52 z74 h53 h57 ((h54 _ _ (inW hp (by decide +kernel))).trans ((h28 _ _ (inW hp (by decide +kernel))).trans h18)) (by first | exact q_35104ce9d3 h75 h19 | omega) (by first | exact q_c76cfd8d15 h75 h23 h4 | omega) (by first | exact q_ae2dbf4292 h23 h75 | omega) (by first | exact q_8d03a5a7cb h75 h22 | omega)
                · refine En_Ps 1 (pc' := 94) (lv' := [(7, .int z64), (6, .int z56), (0, .ref 14), (1, .ref p), (2, .int a), (3, .int b), (4, .int c), (5, .int y14)]) (st' := [.ref 14]) rfl ?_
                  refine En_getU (j := 1) (u := 16) (g' := 16) (q := 0) rfl rfl rfl tgz_14 (by decide +kernel) h53 (by decide +kernel) (by decide +kernel) (fun h76 => ?_)
                  refine En_Ps 2 (pc' := 101) (lv' := [(7, .int z64), (6, .int z56), (0, .ref 14), (1, .ref p), (2, .int a), (3, .int b), (4, .int c), (5, .int y14)]) (st' := [.int z56, .int y14, .ref 16]) rfl ?_
                  refine En_iast (l := 0) (u := 54) rfl rfl tgz_16 (by decide +kernel) (by first | exact q_58e6e51dcc h19 | omega) (lnI (by decide +kernel : LN _ = 6) (by first | exact q_f252e21553 h23 h4 | omega)) (FTsgl (by decide +kernel)) (rngI rfl (by first | exact q_ef1e8e38bf h55.1 | omega) (by first | exact q_f1c8c7c399 h55.2 | omega)) h53 h57 (by decide +kernel) (fun σ78 h79 h80 h81 h82 => ?_)
                  refine En_Ps 4 (pc' := 108) (lv' := [(7, .int z64), (6, .int z56), (0, .ref 14), (1, .ref p), (2, .int a), (3, .int b), (4, .int c), (5, .int y14)]) (st' := [.int ((Int32.ofInt 1)), .int z64, .int z56, .ref 14]) rfl ?_
                  have := (by decide : ((Int32.ofInt 1)).toInt = 1)
                  refine En_callV rfl rfl rfl rfl rfl rfl rfl rfl tgz_14 (by decide +kernel) rfl (c_99 σ78 h79 z56 z64 ((Int32.ofInt 1)) (geI rfl (by first | exact q_ef1e8e38bf h55.1 | omega)) (leI rfl (by first | exact q_f1c8c7c399 h55.2 | omega))) (by decide) (by decide) (fun v84 σ85 h83 => ?_)
                  obtain ⟨h86, h87, rfl, h88⟩ := h83
                  have h89 := Fr_trans h80 h87 (by decide +kernel)
                  refine En_Ps 5 (pc' := 116) (lv' := [(7, .int z64), (6, .int z56), (0, .ref 14), (1, .ref p), (2, .int a), (3, .int b), (4, .int c), (5, .int y14)]) (st' := [.int ((a + ((Int32.ofInt 1)))), .ref p, .ref 14]) rfl ?_
                  refine En_top (addI rfl (by decide : (Int32.ofInt 1).toInt = 1) (by first | exact q_e6d8d315b7 hl_a | omega) (by first | exact q_2918abfa70 h13 | omega)) (fun z90 h91 => ?_)
                  refine En_Ps 4 (pc' := 121) (lv' := [(7, .int z64), (6, .int z56), (0, .ref 14), (1, .ref p), (2, .int a), (3, .int b), (4, .int c), (5, .int y14)]) (st' := [.int ((((Int32.ofInt 1)) <<< (y14 &&& 31))), .int b, .int z90, .ref p, .ref 14]) rfl ?_
                  refine En_rng (shl1_p 5 rfl (by omega) (by omega) (by decide)) (fun z92 h93 h94 => ?_)
                  refine En_Ps 1 (pc' := 122) (lv' := [(7, .int z64), (6, .int z56), (0, .ref 14), (1, .ref p), (2, .int a), (3, .int b), (4, .int c), (5, .int y14)]) (st' := [.int ((b ||| z92)), .int z90, .ref p, .ref 14]) rfl ?_
                  refine En_hav (fun z95 => ?_)
                  refine En_Ps 2 (pc' := 126) (lv' := [(7, .int z64), (6, .int z56), (0, .ref 14), (1, .ref p), (2, .int a), (3, .int b), (4, .int c), (5, .int y14)]) (st' := [.int z64, .int c, .int z95, .int z90, .ref p, .ref 14]) rfl ?_
                  refine En_callS rfl rfl rfl rfl rfl rfl rfl rfl rfl (c_10 σ85 h86 c z64) (by decide) (by decide) (fun v97 σ98 h96 => ?_)
                  obtain ⟨h99, h100, z102, rfl, h101⟩ := h96
                  have h103 := Fr_trans h89 h100 (by decide +kernel)
                  refine En_callS rfl rfl rfl rfl rfl rfl rfl rfl rfl (c_96e σ98 h99 p hp z90 z95 z102 (geI rfl (by first | exact q_06a5bb0b7c h91 hl_a | omega)) (leI rfl (by first | exact q_13d1e79bb8 h91 h13 | omega)) (geI rfl (by first | exact q_f062bc8aa8 h101.1 hl_c | omega)) (leI rfl (by omega))) (by decide) (by decide) (fun v105 σ106 h104 => ?_)
                  obtain ⟨h107, h108, rfl, h109⟩ := h104
                  have h110 := Fr_trans h103 h108 (by decide +kernel)
                  refine En_Ps 4 (pc' := 138) (lv' := [(7, .int z64), (6, .int z56), (0, .ref 14), (1, .ref p), (2, .int a), (3, .int b), (4, .int c), (5, .int y14)]) (st' := [.int ((Int32.ofInt (-1))), .int z64, .int z56, .ref 14]) rfl ?_
                  have := (by decide : ((Int32.ofInt (-1))).toInt = -1)
                  refine En_callV rfl rfl rfl rfl rfl rfl rfl rfl tgz_14 (by decide +kernel) rfl (c_99 σ106 h107 z56 z64 ((Int32.ofInt (-1))) (geI rfl (by first | exact q_ef1e8e38bf h55.1 | omega)) (leI rfl (by first | exact q_f1c8c7c399 h55.2 | omega))) (by decide) (by decide) (fun v112 σ113 h111 => ?_)
                  obtain ⟨h114, h115, rfl, h116⟩ := h111
                  have h117 := Fr_trans h110 h115 (by decide +kernel)
                  refine En_Ps 1 (pc' := 144) (lv' := [(5, .int ((y14 + Int32.ofInt 1))), (7, .int z64), (6, .int z56), (0, .ref 14), (1, .ref p), (2, .int a), (3, .int b), (4, .int c)]) (st' := []) rfl ?_
                  refine En_lv1 (addI rfl (by decide : (Int32.ofInt 1).toInt = 1) (by first | exact q_465ab79ac1 h19 | omega) (by first | exact q_9a865ca0e4 h20 | omega)) (fun z118 h119 => ?_)
                  refine En_Ps 1 (pc' := 24) (lv' := [(5, .int z118), (7, .int z64), (6, .int z56), (0, .ref 14), (1, .ref p), (2, .int a), (3, .int b), (4, .int c)]) (st' := []) rfl ?_
                  refine En_lv (lv := [(0, .ref 14), (1, .ref p), (2, .int a), (3, .int b), (4, .int c), (5, .int z118)]) ⟨rfl, rfl, rfl, rfl, rfl, rfl, trivial⟩ ?_
                  exact ih24 σ113 z118 h114 h117 ((h115 _ _ (inW hp (by decide +kernel))).trans ((h108 _ _ (inW hp (by decide +kernel))).trans ((h100 _ _ (inW hp (by decide +kernel))).trans ((h87 _ _ (inW hp (by decide +kernel))).trans ((h82 _ _ (Or.inl (neTG hp tgz_16 (by decide)))).trans ((h54 _ _ (inW hp (by decide +kernel))).trans ((h28 _ _ (inW hp (by decide +kernel))).trans h18))))))) (by first | exact q_35104ce9d3 h119 h19 | omega) (by first | exact q_c76cfd8d15 h119 h23 h4 | omega) (by first | exact q_ae2dbf4292 h23 h119 | omega) (by first | exact q_8d03a5a7cb h119 h22 | omega)
    have := (by decide : (Int32.ofInt 0).toInt = 0)
    refine En_lv (lv := [(0, .ref 14), (1, .ref p), (2, .int a), (3, .int b), (4, .int c), (5, .int ((Int32.ofInt 0)))]) ⟨rfl, rfl, rfl, rfl, rfl, rfl, trivial⟩ ?_
    exact key24 (Int.toNat (z2.toInt) + 1) σ0 ((Int32.ofInt 0)) hσ0 hF0 h1 (by decide) (by decide) (by omega) (by first | exact toN_lt _ | omega)
/-- DoorSchool$Timetable.placeFrom(LDoorSchool$Timetable;LDoorSchool$Plan;III)V -/
abbrev P_96g (σ0 : SG) (p : Nat) (a : Int32) (b : Int32) (c : Int32) : PO := fun v σ => WT σ ∧ Fr [(14, 4), (15, 0), (16, 0), (17, 0)] σ0 σ ∧ v = none ∧ True
set_option maxRecDepth 10000 in
set_option maxHeartbeats 4000000 in
theorem c_96g (σ0 : SG) (hσ0 : WT σ0) (p : Nat) (hp : TG p = 18) (a : Int32) (b : Int32) (c : Int32) (hl_a : 0 ≤ a.toInt) (hu_a : a.toInt ≤ 6) (hl_c : 0 ≤ c.toInt) (hu_c : c.toInt ≤ 1000) : En 9 243 none mr_96 (P_96g σ0 p a b c) 0 [(0, .ref 14), (1, .ref p), (2, .int a), (3, .int b), (4, .int c)] [] σ0 := by
  have hF0 : Fr [(14, 4), (15, 0), (16, 0), (17, 0)] σ0 σ0 := Fr_rfl
  refine En_Ps 2 (pc' := 2) (lv' := [(0, .ref 14), (1, .ref p), (2, .int a), (3, .int b), (4, .int c)]) (st' := [.ref p, .int a]) rfl ?_
  refine En_getI (j := 11) (l := 0) (u := 6) rfl rfl rfl hp (by decide +kernel) hσ0 (by decide +kernel) (fun z2 h1 h3 h4 => ?_)
  refine En_icGe _ rfl rfl rfl (fun h5 => ?_) (fun h5 => ?_)
  · refine En_Ps 2 (pc' := 17) (lv' := [(0, .ref 14), (1, .ref p), (2, .int a), (3, .int b), (4, .int c)]) (st' := [.int c, .ref 14]) rfl ?_
    refine En_callV rfl rfl rfl rfl rfl rfl rfl rfl tgz_14 (by decide +kernel) rfl (c_95 σ0 hσ0 c (geI rfl (by first | exact q_58e6e51dcc hl_c | omega)) (leI rfl (by first | exact q_2a7c2c8d7c hu_c | omega))) (by decide) (by decide) (fun v7 σ8 h6 => ?_)
    obtain ⟨h9, h10, rfl, h11⟩ := h6
    have h12 := Fr_trans hF0 h10 (by decide +kernel)
    exact En_ret (v := none) rfl rfl rfl ⟨h9, h12, rfl, trivial⟩
  · refine En_Ps 2 (pc' := 11) (lv' := [(0, .ref 14), (1, .ref p), (2, .int a), (3, .int b), (4, .int c)]) (st' := [.int (((Int8.ofInt 6).toInt32)), .int a]) rfl ?_
    refine En_icLt _ rfl (by decide : ((Int8.ofInt 6).toInt32).toInt = 6) rfl (fun h13 => ?_) (fun hx => by first | exact (q_071bc28013 hx h4 h5).elim | (exfalso; omega))
    refine En_Ps 2 (pc' := 24) (lv' := [(5, .int ((Int32.ofInt 0))), (0, .ref 14), (1, .ref p), (2, .int a), (3, .int b), (4, .int c)]) (st' := []) rfl ?_
    have key24 : ∀ (n24 : Nat) (σ15 : SG) (y14 : Int32), WT σ15 → Fr [(14, 4), (15, 0), (16, 0), (17, 0)] σ0 σ15 → (σ15 p)[11]? = some (.int z2) → 0 ≤ y14.toInt → y14.toInt ≤ 6 → y14.toInt - z2.toInt ≤ 0 → z2.toInt - y14.toInt < (n24 : Int) → En 9 243 none mr_96 (P_96g σ0 p a b c) 24 [(0, .ref 14), (1, .ref p), (2, .int a), (3, .int b), (4, .int c), (5, .int y14)] [] σ15 := by
      intro n24
      induction n24 with
      | zero =>
        intro σ15 y14 h16 h17 h18 h19 h20 h21 h22
        first | exact (q_14257feae7 h21 h22).elim | (exfalso; omega)
      | succ n24 ih24 =>
        intro σ15 y14 h16 h17 h18 h19 h20 h21 h22
        refine En_Ps 2 (pc' := 27) (lv' := [(0, .ref 14), (1, .ref p), (2, .int a), (3, .int b), (4, .int c), (5, .int y14)]) (st' := [.ref p, .int y14]) rfl ?_
        refine En_getK (j := 11) h18 rfl rfl rfl hp (by decide +kernel) ?_
        refine En_icGe _ rfl rfl rfl (fun h23 => ?_) (fun h23 => ?_)
        · exact En_ret (v := none) rfl rfl rfl ⟨h16, h17, rfl, trivial⟩
        · refine En_Ps 2 (pc' := 36) (lv' := [(0, .ref 14), (1, .ref p), (2, .int a), (3, .int b), (4, .int c), (5, .int y14)]) (st' := [.int y14, .int b]) rfl ?_
          refine En_callS rfl rfl rfl rfl rfl rfl rfl rfl rfl (c_108 σ15 h16 b y14) (by decide) (by decide) (fun v25 σ26 h24 => ?_)
          obtain ⟨h27, h28, z30, rfl, h29⟩ := h24
          have h31 := Fr_trans h17 h28 (by decide +kernel)
          refine En_iNe _ rfl rfl (fun h32 => ?_) (fun h32 => ?_)
          · refine En_Ps 1 (pc' := 144) (lv' := [(5, .int ((y14 + Int32.ofInt 1))), (0, .ref 14), (1, .ref p), (2, .int a), (3, .int b), (4, .int c)]) (st' := []) rfl ?_
            refine En_lv1 (addI rfl (by decide : (Int32.ofInt 1).toInt = 1) (by first | exact q_465ab79ac1 h19 | omega) (by first | exact q_9a865ca0e4 h20 | omega)) (fun z33 h34 => ?_)
            refine En_Ps 1 (pc' := 24) (lv' := [(5, .int z33), (0, .ref 14), (1, .ref p), (2, .int a), (3, .int b), (4, .int c)]) (st' := []) rfl ?_
            refine En_lv (lv := [(0, .ref 14), (1, .ref p), (2, .int a), (3, .int b), (4, .int c), (5, .int z33)]) ⟨rfl, rfl, rfl, rfl, rfl, rfl, trivial⟩ ?_
            exact ih24 σ26 z33 h27 h31 ((h28 _ _ (inW hp (by decide +kernel))).trans h18) (by first | exact q_35104ce9d3 h34 h19 | omega) (by first | exact q_c76cfd8d15 h34 h23 h4 | omega) (by first | exact q_ae2dbf4292 h23 h34 | omega) (by first | exact q_8d03a5a7cb h34 h22 | omega)
          · refine En_Ps 1 (pc' := 43) (lv' := [(0, .ref 14), (1, .ref p), (2, .int a), (3, .int b), (4, .int c), (5, .int y14)]) (st' := [.ref p]) rfl ?_
            refine En_getR (j := 13) (g' := 26) (u := 0) rfl rfl rfl hp (by decide +kernel) h27 (by decide +kernel) (fun a36 h35 ha36 => ?_)
            refine En_Ps 1 (pc' := 48) (lv' := [(0, .ref 14), (1, .ref p), (2, .int a), (3, .int b), (4, .int c), (5, .int y14)]) (st' := [.int y14, .ref a36]) rfl ?_
            refine En_iald (l := 0) (u := 63) rfl rfl ha36 (by decide +kernel) h27 (by first | exact q_58e6e51dcc h19 | omega) (lnI (by decide +kernel : LN _ = 6) (by first | exact q_f252e21553 h23 h4 | omega)) (FTsgl (by decide +kernel)) (fun z38 h37 h39 h40 => ?_)
            refine En_Ps 3 (pc' := 52) (lv' := [(0, .ref 14), (1, .ref p), (2, .int a), (3, .int b), (4, .int c), (5, .int y14)]) (st' := [.int ((b ^^^ ((Int32.ofInt (-1))))), .int z38]) rfl ?_
            refine En_nam (fun z41 h42 => ?_)
            refine En_Ps 1 (pc' := 53) (lv' := [(0, .ref 14), (1, .ref p), (2, .int a), (3, .int b), (4, .int c), (5, .int y14)]) (st' := [.int ((z38 &&& z41))]) rfl ?_
            refine En_nam (fun z43 h44 => ?_)
            obtain ⟨h45, h46⟩ := andn_rng h44 rfl (by omega) (by omega : _ ≤ (63 : Int))
            refine En_iNe _ rfl rfl (fun h47 => ?_) (fun h47 => ?_)
            · refine En_Ps 1 (pc' := 144) (lv' := [(5, .int ((y14 + Int32.ofInt 1))), (0, .ref 14), (1, .ref p), (2, .int a), (3, .int b), (4, .int c)]) (st' := []) rfl ?_
              refine En_lv1 (addI rfl (by decide : (Int32.ofInt 1).toInt = 1) (by first | exact q_465ab79ac1 h19 | omega) (by first | exact q_9a865ca0e4 h20 | omega)) (fun z48 h49 => ?_)
              refine En_Ps 1 (pc' := 24) (lv' := [(5, .int z48), (0, .ref 14), (1, .ref p), (2, .int a), (3, .int b), (4, .int c)]) (st' := []) rfl ?_
              refine En_lv (lv := [(0, .ref 14), (1, .ref p), (2, .int a), (3, .int b), (4, .int c), (5, .int z48)]) ⟨rfl, rfl, rfl, rfl, rfl, rfl, trivial⟩ ?_
              exact ih24 σ26 z48 h27 h31 ((h28 _ _ (inW hp (by decide +kernel))).trans h18) (by first | exact q_35104ce9d3 h49 h19 | omega) (by first | exact q_c76cfd8d15 h49 h23 h4 | omega) (by first | exact q_ae2dbf4292 h23 h49 | omega) (by first | exact q_8d03a5a7cb h49 h22 | omega)
            · refine En_Ps 3 (pc' := 60) (lv' := [(0, .ref 14), (1, .ref p), (2, .int a), (3, .int b), (4, .int c), (5, .int y14)]) (st' := [.int y14, .ref p, .ref 14]) rfl ?_
              refine En_callV rfl rfl rfl rfl rfl rfl rfl rfl tgz_14 (by decide +kernel) rfl (c_92 σ26 h27 p hp y14 (geI rfl (by first | exact q_58e6e51dcc h19 | omega)) (leI rfl (by first | exact q_2c6b8d4bd3 h23 h4 | omega))) (by decide) (by decide) (fun v51 σ52 h50 => ?_)
              obtain ⟨h53, h54, z56, rfl, h55⟩ := h50
              have h57 := Fr_trans h31 h54 (by decide +kernel)
              refine En_Ps 3 (pc' := 68) (lv' := [(6, .int z56), (0, .ref 14), (1, .ref p), (2, .int a), (3, .int b), (4, .int c), (5, .int y14)]) (st' := [.ref p, .int z56]) rfl ?_
              refine En_getR (j := 12) (g' := 25) (u := 0) rfl rfl rfl hp (by decide +kernel) h53 (by decide +kernel) (fun a59 h58 ha59 => ?_)
              refine En_Ps 1 (pc' := 73) (lv' := [(6, .int z56), (0, .ref 14), (1, .ref p), (2, .int a), (3, .int b), (4, .int c), (5, .int y14)]) (st' := [.int y14, .ref a59, .int z56]) rfl ?_
              refine En_iald (l := 0) (u := 9) rfl rfl ha59 (by decide +kernel) h53 (by first | exact q_58e6e51dcc h19 | omega) (lnI (by decide +kernel : LN _ = 6) (by first | exact q_f252e21553 h23 h4 | omega)) (FTsgl (by decide +kernel)) (fun z61 h60 h62 h63 => ?_)
              refine En_Ps 1 (pc' := 75) (lv' := [(6, .int z56), (0, .ref 14), (1, .ref p), (2, .int a), (3, .int b), (4, .int c), (5, .int y14)]) (st' := [.int ((z56 + z61))]) rfl ?_
              refine En_top (addI rfl rfl (by first | exact q_2027e39019 h55.1 h62 | omega) (by first | exact q_66d03a076a h55.2 h63 | omega)) (fun z64 h65 => ?_)
              refine En_Ps 3 (pc' := 80) (lv' := [(7, .int z64), (6, .int z56), (0, .ref 14), (1, .ref p), (2, .int a), (3, .int b), (4, .int c), (5, .int y14)]) (st' := [.ref 14, .int z64]) rfl ?_
              refine En_getI (j := 4) (l := 0) (u := 1000) rfl rfl rfl tgz_14 (by decide +kernel) h53 (by decide +kernel) (fun z67 h66 h68 h69 => ?_)
              refine En_icGt _ rfl rfl rfl (fun h70 => ?_) (fun h70 => ?_)
              · refine En_Ps 1 (pc' := 144) (lv' := [(5, .int ((y14 + Int32.ofInt 1))), (7, .int z64), (6, .int z56), (0, .ref 14), (1, .ref p), (2, .int a), (3, .int b), (4, .int c)]) (st' := []) rfl ?_
                refine En_lv1 (addI rfl (by decide : (Int32.ofInt 1).toInt = 1) (by first | exact q_465ab79ac1 h19 | omega) (by first | exact q_9a865ca0e4 h20 | omega)) (fun z71 h72 => ?_)
                refine En_Ps 1 (pc' := 24) (lv' := [(5, .int z71), (7, .int z64), (6, .int z56), (0, .ref 14), (1, .ref p), (2, .int a), (3, .int b), (4, .int c)]) (st' := []) rfl ?_
                refine En_lv (lv := [(0, .ref 14), (1, .ref p), (2, .int a), (3, .int b), (4, .int c), (5, .int z71)]) ⟨rfl, rfl, rfl, rfl, rfl, rfl, trivial⟩ ?_
                exact ih24 σ52 z71 h53 h57 ((h54 _ _ (inW hp (by decide +kernel))).trans ((h28 _ _ (inW hp (by decide +kernel))).trans h18)) (by first | exact q_35104ce9d3 h72 h19 | omega) (by first | exact q_c76cfd8d15 h72 h23 h4 | omega) (by first | exact q_ae2dbf4292 h23 h72 | omega) (by first | exact q_8d03a5a7cb h72 h22 | omega)
              · refine En_Ps 2 (pc' := 90) (lv' := [(7, .int z64), (6, .int z56), (0, .ref 14), (1, .ref p), (2, .int a), (3, .int b), (4, .int c), (5, .int y14)]) (st' := [.int (((Int8.ofInt 54).toInt32)), .int z64]) rfl ?_
                refine En_icGt _ rfl (by decide : ((Int8.ofInt 54).toInt32).toInt = 54) rfl (fun h73 => ?_) (fun h73 => ?_)
                · refine En_Ps 1 (pc' := 144) (lv' := [(5, .int ((y14 + Int32.ofInt 1))), (7, .int z64), (6, .int z56), (0, .ref 14), (1, .ref p), (2, .int a), (3, .int b), (4, .int c)]) (st' := []) rfl ?_
                  refine En_lv1 (addI rfl (by decide : (Int32.ofInt 1).toInt = 1) (by first | exact q_465ab79ac1 h19 | omega) (by first | exact q_9a865ca0e4 h20 | omega)) (fun z74 h75 => ?_)
                  refine En_Ps 1 (pc' := 24) (lv' := [(5, .int z74), (7, .int z64), (6, .int z56), (0, .ref 14), (1, .ref p), (2, .int a), (3, .int b), (4, .int c)]) (st' := []) rfl ?_
                  refine En_lv (lv := [(0, .ref 14), (1, .ref p), (2, .int a), (3, .int b), (4, .int c), (5, .int z74)]) ⟨rfl, rfl, rfl, rfl, rfl, rfl, trivial⟩ ?_
                  exact ih24 σ52 z74 h53 h57 ((h54 _ _ (inW hp (by decide +kernel))).trans ((h28 _ _ (inW hp (by decide +kernel))).trans h18)) (by first | exact q_35104ce9d3 h75 h19 | omega) (by first | exact q_c76cfd8d15 h75 h23 h4 | omega) (by first | exact q_ae2dbf4292 h23 h75 | omega) (by first | exact q_8d03a5a7cb h75 h22 | omega)
                · refine En_Ps 1 (pc' := 94) (lv' := [(7, .int z64), (6, .int z56), (0, .ref 14), (1, .ref p), (2, .int a), (3, .int b), (4, .int c), (5, .int y14)]) (st' := [.ref 14]) rfl ?_
                  refine En_getU (j := 1) (u := 16) (g' := 16) (q := 0) rfl rfl rfl tgz_14 (by decide +kernel) h53 (by decide +kernel) (by decide +kernel) (fun h76 => ?_)
                  refine En_Ps 2 (pc' := 101) (lv' := [(7, .int z64), (6, .int z56), (0, .ref 14), (1, .ref p), (2, .int a), (3, .int b), (4, .int c), (5, .int y14)]) (st' := [.int z56, .int y14, .ref 16]) rfl ?_
                  refine En_iast (l := 0) (u := 54) rfl rfl tgz_16 (by decide +kernel) (by first | exact q_58e6e51dcc h19 | omega) (lnI (by decide +kernel : LN _ = 6) (by first | exact q_f252e21553 h23 h4 | omega)) (FTsgl (by decide +kernel)) (rngI rfl (by first | exact q_ef1e8e38bf h55.1 | omega) (by first | exact q_f1c8c7c399 h55.2 | omega)) h53 h57 (by decide +kernel) (fun σ78 h79 h80 h81 h82 => ?_)
                  refine En_Ps 4 (pc' := 108) (lv' := [(7, .int z64), (6, .int z56), (0, .ref 14), (1, .ref p), (2, .int a), (3, .int b), (4, .int c), (5, .int y14)]) (st' := [.int ((Int32.ofInt 1)), .int z64, .int z56, .ref 14]) rfl ?_
                  have := (by decide : ((Int32.ofInt 1)).toInt = 1)
                  refine En_callV rfl rfl rfl rfl rfl rfl rfl rfl tgz_14 (by decide +kernel) rfl (c_99 σ78 h79 z56 z64 ((Int32.ofInt 1)) (geI rfl (by first | exact q_ef1e8e38bf h55.1 | omega)) (leI rfl (by first | exact q_f1c8c7c399 h55.2 | omega))) (by decide) (by decide) (fun v84 σ85 h83 => ?_)
                  obtain ⟨h86, h87, rfl, h88⟩ := h83
                  have h89 := Fr_trans h80 h87 (by decide +kernel)
                  refine En_Ps 5 (pc' := 116) (lv' := [(7, .int z64), (6, .int z56), (0, .ref 14), (1, .ref p), (2, .int a), (3, .int b), (4, .int c), (5, .int y14)]) (st' := [.int ((a + ((Int32.ofInt 1)))), .ref p, .ref 14]) rfl ?_
                  refine En_top (addI rfl (by decide : (Int32.ofInt 1).toInt = 1) (by first | exact q_465ab79ac1 hl_a | omega) (by first | exact q_2918abfa70 h13 | omega)) (fun z90 h91 => ?_)
                  refine En_Ps 4 (pc' := 121) (lv' := [(7, .int z64), (6, .int z56), (0, .ref 14), (1, .ref p), (2, .int a), (3, .int b), (4, .int c), (5, .int y14)]) (st' := [.int ((((Int32.ofInt 1)) <<< (y14 &&& 31))), .int b, .int z90, .ref p, .ref 14]) rfl ?_
                  refine En_rng (shl1_p 5 rfl (by omega) (by omega) (by decide)) (fun z92 h93 h94 => ?_)
                  refine En_Ps 1 (pc' := 122) (lv' := [(7, .int z64), (6, .int z56), (0, .ref 14), (1, .ref p), (2, .int a), (3, .int b), (4, .int c), (5, .int y14)]) (st' := [.int ((b ||| z92)), .int z90, .ref p, .ref 14]) rfl ?_
                  refine En_hav (fun z95 => ?_)
                  refine En_Ps 2 (pc' := 126) (lv' := [(7, .int z64), (6, .int z56), (0, .ref 14), (1, .ref p), (2, .int a), (3, .int b), (4, .int c), (5, .int y14)]) (st' := [.int z64, .int c, .int z95, .int z90, .ref p, .ref 14]) rfl ?_
                  refine En_callS rfl rfl rfl rfl rfl rfl rfl rfl rfl (c_10 σ85 h86 c z64) (by decide) (by decide) (fun v97 σ98 h96 => ?_)
                  obtain ⟨h99, h100, z102, rfl, h101⟩ := h96
                  have h103 := Fr_trans h89 h100 (by decide +kernel)
                  refine En_callS rfl rfl rfl rfl rfl rfl rfl rfl rfl (c_96f σ98 h99 p hp z90 z95 z102 (geI rfl (by first | exact q_246139cee3 h91 hl_a | omega)) (leI rfl (by first | exact q_13d1e79bb8 h91 h13 | omega)) (geI rfl (by first | exact q_f062bc8aa8 h101.1 hl_c | omega)) (leI rfl (by omega))) (by decide) (by decide) (fun v105 σ106 h104 => ?_)
                  obtain ⟨h107, h108, rfl, h109⟩ := h104
                  have h110 := Fr_trans h103 h108 (by decide +kernel)
                  refine En_Ps 4 (pc' := 138) (lv' := [(7, .int z64), (6, .int z56), (0, .ref 14), (1, .ref p), (2, .int a), (3, .int b), (4, .int c), (5, .int y14)]) (st' := [.int ((Int32.ofInt (-1))), .int z64, .int z56, .ref 14]) rfl ?_
                  have := (by decide : ((Int32.ofInt (-1))).toInt = -1)
                  refine En_callV rfl rfl rfl rfl rfl rfl rfl rfl tgz_14 (by decide +kernel) rfl (c_99 σ106 h107 z56 z64 ((Int32.ofInt (-1))) (geI rfl (by first | exact q_ef1e8e38bf h55.1 | omega)) (leI rfl (by first | exact q_f1c8c7c399 h55.2 | omega))) (by decide) (by decide) (fun v112 σ113 h111 => ?_)
                  obtain ⟨h114, h115, rfl, h116⟩ := h111
                  have h117 := Fr_trans h110 h115 (by decide +kernel)
                  refine En_Ps 1 (pc' := 144) (lv' := [(5, .int ((y14 + Int32.ofInt 1))), (7, .int z64), (6, .int z56), (0, .ref 14), (1, .ref p), (2, .int a), (3, .int b), (4, .int c)]) (st' := []) rfl ?_
                  refine En_lv1 (addI rfl (by decide : (Int32.ofInt 1).toInt = 1) (by first | exact q_465ab79ac1 h19 | omega) (by first | exact q_9a865ca0e4 h20 | omega)) (fun z118 h119 => ?_)
                  refine En_Ps 1 (pc' := 24) (lv' := [(5, .int z118), (7, .int z64), (6, .int z56), (0, .ref 14), (1, .ref p), (2, .int a), (3, .int b), (4, .int c)]) (st' := []) rfl ?_
                  refine En_lv (lv := [(0, .ref 14), (1, .ref p), (2, .int a), (3, .int b), (4, .int c), (5, .int z118)]) ⟨rfl, rfl, rfl, rfl, rfl, rfl, trivial⟩ ?_
                  exact ih24 σ113 z118 h114 h117 ((h115 _ _ (inW hp (by decide +kernel))).trans ((h108 _ _ (inW hp (by decide +kernel))).trans ((h100 _ _ (inW hp (by decide +kernel))).trans ((h87 _ _ (inW hp (by decide +kernel))).trans ((h82 _ _ (Or.inl (neTG hp tgz_16 (by decide)))).trans ((h54 _ _ (inW hp (by decide +kernel))).trans ((h28 _ _ (inW hp (by decide +kernel))).trans h18))))))) (by first | exact q_35104ce9d3 h119 h19 | omega) (by first | exact q_c76cfd8d15 h119 h23 h4 | omega) (by first | exact q_ae2dbf4292 h23 h119 | omega) (by first | exact q_8d03a5a7cb h119 h22 | omega)
    have := (by decide : (Int32.ofInt 0).toInt = 0)
    refine En_lv (lv := [(0, .ref 14), (1, .ref p), (2, .int a), (3, .int b), (4, .int c), (5, .int ((Int32.ofInt 0)))]) ⟨rfl, rfl, rfl, rfl, rfl, rfl, trivial⟩ ?_
    exact key24 (Int.toNat (z2.toInt) + 1) σ0 ((Int32.ofInt 0)) hσ0 hF0 h1 (by decide) (by decide) (by omega) (by first | exact toN_lt _ | omega)
/-- DoorSchool$Timetable.solve(LDoorSchool$Plan;I)I -/
abbrev P_98 (σ0 : SG) (a : Nat) (b : Int32) : PO := fun v σ => WT σ ∧ Fr [(14, 3), (14, 4), (15, 0), (16, 0), (17, 0)] σ0 σ ∧ ∃ ret : Int32, v = some (.int ret) ∧ -ret.toInt ≤ 0 ∧ ret.toInt - 1000 ≤ 0
set_option maxRecDepth 10000 in
set_option maxHeartbeats 4000000 in
theorem c_98 (σ0 : SG) (hσ0 : WT σ0) (a : Nat) (ha : TG a = 18) (b : Int32) (hl_b : (-1) ≤ b.toInt) (hu_b : b.toInt ≤ 4) : En 10 270 none mr_98 (P_98 σ0 a b) 0 [(0, .ref 14), (1, .ref a), (2, .int b)] [] σ0 := by
  have hF0 : Fr [(14, 3), (14, 4), (15, 0), (16, 0), (17, 0)] σ0 σ0 := Fr_rfl
  refine En_Ps 2 (pc' := 2) (lv' := [(0, .ref 14), (1, .ref a), (2, .int b)]) (st' := [.int b, .ref 14]) rfl ?_
  refine En_put (j := 3) rfl rfl rfl tgz_14 (by decide +kernel) rfl (vI (l := (-1)) (u := 4) (by decide +kernel) rfl (by first | exact q_77b189e83d hl_b | omega) (by first | exact q_c82ed93a8c hu_b | omega)) hσ0 hF0 (by decide +kernel) (fun σ1 h2 h3 h4 h5 => ?_)
  refine En_Ps 2 (pc' := 8) (lv' := [(0, .ref 14), (1, .ref a), (2, .int b)]) (st' := [.int (((Int8.ofInt 55).toInt32)), .ref 14]) rfl ?_
  refine En_put (j := 4) rfl rfl rfl tgz_14 (by decide +kernel) rfl (vI (l := 0) (u := 1000) (by decide +kernel) (by decide : ((Int8.ofInt 55).toInt32).toInt = 55) (by decide) (by decide)) h2 h3 (by decide +kernel) (fun σ6 h7 h8 h9 h10 => ?_)
  refine En_Ps 1 (pc' := 12) (lv' := [(0, .ref 14), (1, .ref a), (2, .int b)]) (st' := [.ref 14]) rfl ?_
  refine En_getU (j := 1) (u := 16) (g' := 16) (q := 0) rfl rfl rfl tgz_14 (by decide +kernel) h7 (by decide +kernel) (by decide +kernel) (fun h11 => ?_)
  refine En_Ps 1 (pc' := 16) (lv' := [(0, .ref 14), (1, .ref a), (2, .int b)]) (st' := [.int ((Int32.ofInt 0)), .ref 16]) rfl ?_
  have := (by decide : ((Int32.ofInt 0)).toInt = 0)
  refine En_callS rfl rfl rfl rfl rfl rfl rfl rfl rfl (c_8b σ6 h7 16 tgz_16 ((Int32.ofInt 0)) (geI (by decide : (Int32.ofInt 0).toInt = 0) (by decide)) (leI (by decide : (Int32.ofInt 0).toInt = 0) (by decide))) (by decide) (by decide) (fun v14 σ15 h13 => ?_)
  obtain ⟨h16, h17, rfl, h18⟩ := h13
  have h19 := Fr_trans h8 h17 (by decide +kernel)
  refine En_Ps 5 (pc' := 24) (lv' := [(0, .ref 14), (1, .ref a), (2, .int b)]) (st' := [.int ((Int32.ofInt 0)), .int ((Int32.ofInt 0)), .int ((Int32.ofInt 0)), .ref a, .ref 14]) rfl ?_
  have := (by decide : ((Int32.ofInt 0)).toInt = 0)
  have := (by decide : ((Int32.ofInt 0)).toInt = 0)
  have := (by decide : ((Int32.ofInt 0)).toInt = 0)
  refine En_callS rfl rfl rfl rfl rfl rfl rfl rfl rfl (c_96g σ15 h16 a ha ((Int32.ofInt 0)) ((Int32.ofInt 0)) ((Int32.ofInt 0)) (geI (by decide : (Int32.ofInt 0).toInt = 0) (by decide)) (leI (by decide : (Int32.ofInt 0).toInt = 0) (by decide)) (geI (by decide : (Int32.ofInt 0).toInt = 0) (by decide)) (leI (by decide : (Int32.ofInt 0).toInt = 0) (by decide))) (by decide) (by decide) (fun v21 σ22 h20 => ?_)
  obtain ⟨h23, h24, rfl, h25⟩ := h20
  have h26 := Fr_trans h19 h24 (by decide +kernel)
  refine En_Ps 1 (pc' := 28) (lv' := [(0, .ref 14), (1, .ref a), (2, .int b)]) (st' := [.ref 14]) rfl ?_
  refine En_getI (j := 4) (l := 0) (u := 1000) rfl rfl rfl tgz_14 (by decide +kernel) h23 (by decide +kernel) (fun z28 h27 h29 h30 => ?_)
  exact En_ret (v := some (.int z28)) rfl rfl rfl ⟨h23, h26, z28, rfl, ⟨by first | exact q_c803b490ef h29 | omega, by first | exact q_4e46b9e1ab h30 | omega⟩⟩
/-- DoorSchool.doneBy(I)I -/
abbrev P_114 (σ0 : SG) (a : Int32) (p : Nat) (sg : Int32) : PO := fun v σ => WT σ ∧ Fr [] σ0 σ ∧ ∃ ret : Int32, v = some (.int ret) ∧ True
set_option maxRecDepth 10000 in
set_option maxHeartbeats 4000000 in
theorem c_114 (σ0 : SG) (hσ0 : WT σ0) (a : Int32) (hl_a : 0 ≤ a.toInt) (hu_a : a.toInt ≤ 3) (p : Nat) (hp : TG p = 18) (h_p : (σ0 0)[9]? = some (.ref p)) (sg : Int32) (h_sg : (σ0 p)[1]? = some (.int sg)) (hp0 : -sg.toInt ≤ 0) : En 3 70 none mr_114 (P_114 σ0 a p sg) 0 [(0, .ref 0), (1, .int a)] [] σ0 := by
  obtain ⟨hl_sg, hu_sg⟩ := WT_int hσ0 (g := 18) hp (by decide +kernel) (l := (-1)) (u := 4) (by decide +kernel) h_sg
  have hF0 : Fr [] σ0 σ0 := Fr_rfl
  refine En_Ps 1 (pc' := 1) (lv' := [(0, .ref 0), (1, .int a)]) (st' := [.ref 0]) rfl ?_
  refine En_getK (j := 9) h_p rfl rfl rfl tgz_0 (by decide +kernel) ?_
  refine En_Ps 1 (pc' := 5) (lv' := [(0, .ref 0), (1, .int a)]) (st' := [.int a, .ref p]) rfl ?_
  refine En_callV rfl rfl rfl rfl rfl rfl rfl rfl hp (by decide +kernel) rfl (c_52 σ0 hσ0 p hp a (geI rfl (by first | exact q_58e6e51dcc hl_a | omega)) (leI rfl (by first | exact q_da5e9b976f hu_a | omega))) (by decide) (by decide) (fun v2 σ3 h1 => ?_)
  obtain ⟨h4, h5, a7, ha7, rfl, h6⟩ := h1
  have h8 := Fr_trans hF0 h5 (by decide +kernel)
  refine En_Ps 2 (pc' := 10) (lv' := [(2, .ref a7), (0, .ref 0), (1, .int a)]) (st' := [.ref 0]) rfl ?_
  refine En_getU (j := 3) (u := 8) (g' := 8) (q := 0) rfl rfl rfl tgz_0 (by decide +kernel) h4 (by decide +kernel) (by decide +kernel) (fun h9 => ?_)
  refine En_Ps 1 (pc' := 14) (lv' := [(2, .ref a7), (0, .ref 0), (1, .int a)]) (st' := [.ref a7, .ref 8]) rfl ?_
  refine En_getI (j := 1) (l := 0) (u := 2) rfl rfl rfl ha7 (by decide +kernel) h4 (by decide +kernel) (fun z12 h11 h13 h14 => ?_)
  refine En_Ps 1 (pc' := 18) (lv' := [(2, .ref a7), (0, .ref 0), (1, .int a)]) (st' := [.ref a7, .int z12, .ref 8]) rfl ?_
  refine En_getR (j := 0) (g' := 20) (u := 0) rfl rfl rfl ha7 (by decide +kernel) h4 (by decide +kernel) (fun a16 h15 ha16 => ?_)
  refine En_callV rfl rfl rfl rfl rfl rfl rfl rfl tgz_8 (by decide +kernel) rfl (c_22 σ3 h4 z12 a16 ha16) (by decide) (by decide) (fun v18 σ19 h17 => ?_)
  obtain ⟨h20, h21, z23, rfl, h22⟩ := h17
  have h24 := Fr_trans h8 h21 (by decide +kernel)
  exact En_ret (v := some (.int z23)) rfl rfl rfl ⟨h20, h24, z23, rfl, trivial⟩
/-- DoorSchool.alike(I)I -/
abbrev P_101 (σ0 : SG) (a : Int32) (p : Nat) (sg : Int32) : PO := fun v σ => WT σ ∧ Fr [] σ0 σ ∧ ∃ ret : Int32, v = some (.int ret) ∧ -ret.toInt - 2 ≤ 0 ∧ ret.toInt - 15 ≤ 0
set_option maxRecDepth 10000 in
set_option maxHeartbeats 4000000 in
theorem c_101 (σ0 : SG) (hσ0 : WT σ0) (a : Int32) (p : Nat) (hp : TG p = 18) (h_p : (σ0 0)[9]? = some (.ref p)) (sg : Int32) (h_sg : (σ0 p)[1]? = some (.int sg)) (hp0 : -sg.toInt ≤ 0) : En 4 92 none mr_101 (P_101 σ0 a p sg) 0 [(0, .ref 0), (1, .int a)] [] σ0 := by
  obtain ⟨hl_sg, hu_sg⟩ := WT_int hσ0 (g := 18) hp (by decide +kernel) (l := (-1)) (u := 4) (by decide +kernel) h_sg
  have hF0 : Fr [] σ0 σ0 := Fr_rfl
  refine En_Ps 1 (pc' := 1) (lv' := [(0, .ref 0), (1, .int a)]) (st' := [.ref 0]) rfl ?_
  refine En_getK (j := 9) h_p rfl rfl rfl tgz_0 (by decide +kernel) ?_
  refine En_Ps 1 (pc' := 5) (lv' := [(0, .ref 0), (1, .int a)]) (st' := [.int a, .ref p]) rfl ?_
  refine En_callV rfl rfl rfl rfl rfl rfl rfl rfl hp (by decide +kernel) rfl (c_47 σ0 hσ0 p hp a) (by decide) (by decide) (fun v2 σ3 h1 => ?_)
  obtain ⟨h4, h5, z7, rfl, h6⟩ := h1
  have h8 := Fr_trans hF0 h5 (by decide +kernel)
  refine En_iNe _ rfl rfl (fun h9 => ?_) (fun h9 => ?_)
  · refine En_Ps 4 (pc' := 18) (lv' := [(3, .int ((Int32.ofInt 0))), (2, .int ((Int32.ofInt 0))), (0, .ref 0), (1, .int a)]) (st' := []) rfl ?_
    have key18 : ∀ (n18 : Nat) (σ12 : SG) (y10 : Int32) (y11 : Int32), WT σ12 → Fr [] σ0 σ12 → (σ12 0)[9]? = some (.ref p) → (σ12 p)[1]? = some (.int sg) → 0 ≤ y10.toInt → y10.toInt ≤ 15 → 0 ≤ y11.toInt → y11.toInt ≤ 4 → -y11.toInt + 4 < (n18 : Int) → En 4 92 none mr_101 (P_101 σ0 a p sg) 18 [(0, .ref 0), (1, .int a), (2, .int y10), (3, .int y11)] [] σ12 := by
      intro n18
      induction n18 with
      | zero =>
        intro σ12 y10 y11 h13 h14 h15 h16 h17 h18 h19 h20 h21
        first | exact (q_20d6385c6f h21 h20).elim | (exfalso; omega)
      | succ n18 ih18 =>
        intro σ12 y10 y11 h13 h14 h15 h16 h17 h18 h19 h20 h21
        refine En_Ps 2 (pc' := 20) (lv' := [(0, .ref 0), (1, .int a), (2, .int y10), (3, .int y11)]) (st' := [.ref 0, .int y11]) rfl ?_
        refine En_getK (j := 9) h15 rfl rfl rfl tgz_0 (by decide +kernel) ?_
        refine En_getI (j := 3) (l := 0) (u := 4) rfl rfl rfl hp (by decide +kernel) h13 (by decide +kernel) (fun z23 h22 h24 h25 => ?_)
        refine En_icGe _ rfl rfl rfl (fun h26 => ?_) (fun h26 => ?_)
        · refine En_Ps 1 (pc' := 60) (lv' := [(0, .ref 0), (1, .int a), (2, .int y10), (3, .int y11)]) (st' := [.int y10]) rfl ?_
          exact En_ret (v := some (.int y10)) rfl rfl rfl ⟨h13, h14, y10, rfl, ⟨by first | exact q_ea7f0ffdb1 h17 | omega, by first | exact q_867a9ac627 h18 | omega⟩⟩
        · refine En_Ps 2 (pc' := 31) (lv' := [(0, .ref 0), (1, .int a), (2, .int y10), (3, .int y11)]) (st' := [.int a, .int y11]) rfl ?_
          refine En_icEq _ rfl rfl rfl (fun h27 => ?_) (fun h27 => ?_)
          · refine En_Ps 1 (pc' := 56) (lv' := [(3, .int ((y11 + Int32.ofInt 1))), (0, .ref 0), (1, .int a), (2, .int y10)]) (st' := []) rfl ?_
            refine En_lv1 (addI rfl (by decide : (Int32.ofInt 1).toInt = 1) (by first | exact q_465ab79ac1 h19 | omega) (by first | exact q_f7282962fd h20 | omega)) (fun z28 h29 => ?_)
            refine En_Ps 1 (pc' := 18) (lv' := [(3, .int z28), (0, .ref 0), (1, .int a), (2, .int y10)]) (st' := []) rfl ?_
            refine En_lv (lv := [(0, .ref 0), (1, .int a), (2, .int y10), (3, .int z28)]) ⟨rfl, rfl, rfl, rfl, trivial⟩ ?_
            exact ih18 σ12 y10 z28 h13 h14 h15 h16 (by first | exact q_58e6e51dcc h17 | omega) (by first | exact q_5a4d8a7e08 h18 | omega) (by first | exact q_35104ce9d3 h29 h19 | omega) (by first | exact q_de42116b63 h29 h26 h25 | omega) (by first | exact q_3d8d70ace2 h29 h21 | omega)
          · refine En_Ps 2 (pc' := 36) (lv' := [(0, .ref 0), (1, .int a), (2, .int y10), (3, .int y11)]) (st' := [.int y11, .ref 0]) rfl ?_
            refine En_callV rfl rfl rfl rfl rfl rfl rfl rfl tgz_0 (by decide +kernel) rfl (c_114 σ12 h13 y11 (geI rfl (by first | exact q_58e6e51dcc h19 | omega)) (leI rfl (by first | exact q_5ab2e90ecc h26 h25 | omega)) p hp h15 sg h16 (by first | exact q_a555021d16 hp0 | omega)) (by decide) (by decide) (fun v31 σ32 h30 => ?_)
            obtain ⟨h33, h34, z36, rfl, h35⟩ := h30
            have h37 := Fr_trans h14 h34 (by decide +kernel)
            refine En_Ps 2 (pc' := 41) (lv' := [(0, .ref 0), (1, .int a), (2, .int y10), (3, .int y11)]) (st' := [.int a, .ref 0, .int z36]) rfl ?_
            refine En_callV rfl rfl rfl rfl rfl rfl rfl rfl tgz_0 (by decide +kernel) rfl (c_114 σ32 h33 a (geI rfl (by omega)) (leI rfl (by omega)) p hp ((h34 _ _ (inW tgz_0 (by decide +kernel))).trans h15) sg ((h34 _ _ (inW hp (by decide +kernel))).trans h16) (by first | exact q_a555021d16 hp0 | omega)) (by decide) (by decide) (fun v39 σ40 h38 => ?_)
            obtain ⟨h41, h42, z44, rfl, h43⟩ := h38
            have h45 := Fr_trans h37 h42 (by decide +kernel)
            refine En_icNe _ rfl rfl rfl (fun h46 => ?_) (fun h46 => ?_)
            · refine En_Ps 1 (pc' := 56) (lv' := [(3, .int ((y11 + Int32.ofInt 1))), (0, .ref 0), (1, .int a), (2, .int y10)]) (st' := []) rfl ?_
              refine En_lv1 (addI rfl (by decide : (Int32.ofInt 1).toInt = 1) (by first | exact q_465ab79ac1 h19 | omega) (by first | exact q_f7282962fd h20 | omega)) (fun z47 h48 => ?_)
              refine En_Ps 1 (pc' := 18) (lv' := [(3, .int z47), (0, .ref 0), (1, .int a), (2, .int y10)]) (st' := []) rfl ?_
              refine En_lv (lv := [(0, .ref 0), (1, .int a), (2, .int y10), (3, .int z47)]) ⟨rfl, rfl, rfl, rfl, trivial⟩ ?_
              exact ih18 σ40 y10 z47 h41 h45 ((h42 _ _ (inW tgz_0 (by decide +kernel))).trans ((h34 _ _ (inW tgz_0 (by decide +kernel))).trans h15)) ((h42 _ _ (inW hp (by decide +kernel))).trans ((h34 _ _ (inW hp (by decide +kernel))).trans h16)) (by first | exact q_58e6e51dcc h17 | omega) (by first | exact q_5a4d8a7e08 h18 | omega) (by first | exact q_35104ce9d3 h48 h19 | omega) (by first | exact q_de42116b63 h48 h26 h25 | omega) (by first | exact q_3d8d70ace2 h48 h21 | omega)
            · refine En_Ps 4 (pc' := 51) (lv' := [(0, .ref 0), (1, .int a), (2, .int y10), (3, .int y11)]) (st' := [.int ((((Int32.ofInt 1)) <<< (y11 &&& 31))), .int y10]) rfl ?_
              refine En_rng (shl1_p 3 rfl (by omega) (by omega) (by decide)) (fun z49 h50 h51 => ?_)
              refine En_Ps 1 (pc' := 52) (lv' := [(0, .ref 0), (1, .int a), (2, .int y10), (3, .int y11)]) (st' := [.int ((y10 ||| z49))]) rfl ?_
              refine En_rng (l := 0) (u := 15) (or_rng 4 rfl rfl (by omega) (by omega) (by omega) (by omega) (by decide)) (fun z52 h53 h54 => ?_)
              refine En_Ps 2 (pc' := 56) (lv' := [(3, .int ((y11 + Int32.ofInt 1))), (2, .int z52), (0, .ref 0), (1, .int a)]) (st' := []) rfl ?_
              refine En_lv1 (addI rfl (by decide : (Int32.ofInt 1).toInt = 1) (by first | exact q_465ab79ac1 h19 | omega) (by first | exact q_f7282962fd h20 | omega)) (fun z55 h56 => ?_)
              refine En_Ps 1 (pc' := 18) (lv' := [(3, .int z55), (2, .int z52), (0, .ref 0), (1, .int a)]) (st' := []) rfl ?_
              refine En_lv (lv := [(0, .ref 0), (1, .int a), (2, .int z52), (3, .int z55)]) ⟨rfl, rfl, rfl, rfl, trivial⟩ ?_
              exact ih18 σ40 z52 z55 h41 h45 ((h42 _ _ (inW tgz_0 (by decide +kernel))).trans ((h34 _ _ (inW tgz_0 (by decide +kernel))).trans h15)) ((h42 _ _ (inW hp (by decide +kernel))).trans ((h34 _ _ (inW hp (by decide +kernel))).trans h16)) (by first | exact q_58e6e51dcc h53 | omega) (by first | exact q_5a4d8a7e08 h54 | omega) (by first | exact q_35104ce9d3 h56 h19 | omega) (by first | exact q_de42116b63 h56 h26 h25 | omega) (by first | exact q_3d8d70ace2 h56 h21 | omega)
    have := (by decide : (Int32.ofInt 0).toInt = 0)
    have := (by decide : (Int32.ofInt 0).toInt = 0)
    refine En_lv (lv := [(0, .ref 0), (1, .int a), (2, .int ((Int32.ofInt 0))), (3, .int ((Int32.ofInt 0)))]) ⟨rfl, rfl, rfl, rfl, trivial⟩ ?_
    exact key18 (Int.toNat (4) + 1) σ3 ((Int32.ofInt 0)) ((Int32.ofInt 0)) h4 h8 ((h5 _ _ (inW tgz_0 (by decide +kernel))).trans h_p) ((h5 _ _ (inW hp (by decide +kernel))).trans h_sg) (by decide) (by decide) (by decide) (by decide) (by first | exact toN_lt _ | omega)
  · refine En_Ps 1 (pc' := 13) (lv' := [(0, .ref 0), (1, .int a)]) (st' := [.int (((Int8.ofInt (-2)).toInt32))]) rfl ?_
    refine En_top (by decide : ((Int8.ofInt (-2)).toInt32).toInt = -2) (fun z57 h58 => ?_)
    exact En_ret (v := some (.int z57)) rfl rfl rfl ⟨h4, h8, z57, rfl, ⟨by first | exact q_f35c5d346c h58 | omega, by first | exact q_12a74e12a3 h58 | omega⟩⟩
/-- DoorSchool.houseDeeds(I)I -/
abbrev P_139 (σ0 : SG) (a : Int32) (p : Nat) (sg : Int32) : PO := fun v σ => WT σ ∧ Fr [] σ0 σ ∧ ∃ ret : Int32, v = some (.int ret) ∧ -ret.toInt ≤ 0 ∧ ret.toInt - 65535 ≤ 0
set_option maxRecDepth 10000 in
set_option maxHeartbeats 4000000 in
theorem c_139 (σ0 : SG) (hσ0 : WT σ0) (a : Int32) (hl_a : 0 ≤ a.toInt) (hu_a : a.toInt ≤ 3) (p : Nat) (hp : TG p = 18) (h_p : (σ0 0)[9]? = some (.ref p)) (sg : Int32) (h_sg : (σ0 p)[1]? = some (.int sg)) (hp0 : -sg.toInt ≤ 0) : En 1 24 none mr_139 (P_139 σ0 a p sg) 0 [(0, .ref 0), (1, .int a)] [] σ0 := by
  obtain ⟨hl_sg, hu_sg⟩ := WT_int hσ0 (g := 18) hp (by decide +kernel) (l := (-1)) (u := 4) (by decide +kernel) h_sg
  have hF0 : Fr [] σ0 σ0 := Fr_rfl
  refine En_Ps 1 (pc' := 1) (lv' := [(0, .ref 0), (1, .int a)]) (st' := [.ref 0]) rfl ?_
  refine En_getU (j := 2) (u := 4) (g' := 4) (q := 0) rfl rfl rfl tgz_0 (by decide +kernel) hσ0 (by decide +kernel) (by decide +kernel) (fun h1 => ?_)
  refine En_Ps 1 (pc' := 5) (lv' := [(0, .ref 0), (1, .int a)]) (st' := [.ref 0, .ref 4]) rfl ?_
  refine En_getK (j := 9) h_p rfl rfl rfl tgz_0 (by decide +kernel) ?_
  refine En_getR (j := 9) (g' := 23) (u := 0) rfl rfl rfl hp (by decide +kernel) hσ0 (by decide +kernel) (fun a4 h3 ha4 => ?_)
  refine En_Ps 1 (pc' := 12) (lv' := [(0, .ref 0), (1, .int a)]) (st' := [.int a, .ref a4, .ref 4]) rfl ?_
  refine En_iald (l := 0) (u := 15) rfl rfl ha4 (by decide +kernel) hσ0 (by first | exact q_58e6e51dcc hl_a | omega) (lnI (by decide +kernel : LN _ = 4) (by first | exact q_f3bb6f88f7 hu_a | omega)) (FTsgl (by decide +kernel)) (fun z6 h5 h7 h8 => ?_)
  refine En_Ps 1 (pc' := 14) (lv' := [(0, .ref 0), (1, .int a)]) (st' := [.ref 0, .int z6, .ref 4]) rfl ?_
  refine En_getK (j := 9) h_p rfl rfl rfl tgz_0 (by decide +kernel) ?_
  refine En_getR (j := 10) (g' := 24) (u := 0) rfl rfl rfl hp (by decide +kernel) hσ0 (by decide +kernel) (fun a10 h9 ha10 => ?_)
  refine En_Ps 1 (pc' := 21) (lv' := [(0, .ref 0), (1, .int a)]) (st' := [.int a, .ref a10, .int z6, .ref 4]) rfl ?_
  refine En_iald (l := 0) (u := 15) rfl rfl ha10 (by decide +kernel) hσ0 (by first | exact q_58e6e51dcc hl_a | omega) (lnI (by decide +kernel : LN _ = 4) (by first | exact q_f3bb6f88f7 hu_a | omega)) (FTsgl (by decide +kernel)) (fun z12 h11 h13 h14 => ?_)
  refine En_callV rfl rfl rfl rfl rfl rfl rfl rfl tgz_4 (by decide +kernel) rfl (c_77 σ0 hσ0 z6 z12) (by decide) (by decide) (fun v16 σ17 h15 => ?_)
  obtain ⟨h18, h19, z21, rfl, h20⟩ := h15
  have h22 := Fr_trans hF0 h19 (by decide +kernel)
  exact En_ret (v := some (.int z21)) rfl rfl rfl ⟨h18, h22, z21, rfl, ⟨by first | exact q_a555021d16 h20.1 | omega, by first | exact q_ef123ba13c h20.2 | omega⟩⟩

