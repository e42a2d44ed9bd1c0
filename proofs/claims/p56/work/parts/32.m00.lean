/-- DoorSchoolModel.see(I)I -/
abbrev P_313ax (σ0 : SG) (By : Int → Int) (Nb : Int) (a : Int32) (n : Int32) : PO := fun v σ => WT σ ∧ Fr [] σ0 σ ∧ ∃ ret : Int32, v = some (.int ret) ∧ -ret.toInt - 1 ≤ 0 ∧ ret.toInt - 255 ≤ 0 ∧ Imp (-ret.toInt ≤ 0) (a.toInt - n.toInt + 1 ≤ 0) ∧ Imp (a.toInt - n.toInt + 1 ≤ 0) (-ret.toInt ≤ 0) ∧ ret.toInt = sN By Nb a.toInt
set_option maxRecDepth 10000 in
set_option maxHeartbeats 4000000 in
theorem c_313ax {By : Int → Int} {Nb : Int} (σ0 : SG) (hσ0 : WT σ0) (a : Int32) (hl_a : 0 ≤ a.toInt) (hu_a : a.toInt ≤ 1600) (n : Int32) (h_n : (σ0 159)[7]? = some (.int n)) (hT : TPm By Nb σ0) : En 0 0 none mr_313 (P_313ax σ0 By Nb a n) 0 [(0, .ref 159), (1, .int a)] [] σ0 := by
  obtain ⟨hl_n, hu_n⟩ := WT_int hσ0 (g := 35) (by decide +kernel) (by decide +kernel) (l := 0) (u := 1600) (by decide +kernel) h_n
  have hF0 : Fr [] σ0 σ0 := Fr_rfl
  refine En_Ps 2 (pc' := 2) (lv' := [(0, .ref 159), (1, .int a)]) (st' := [.ref 159, .int a]) rfl ?_
  refine En_getK (j := 7) h_n rfl rfl rfl tgz_159 (by decide +kernel) ?_
  refine En_icGe _ rfl rfl rfl (fun h1 => ?_) (fun h1 => ?_)
  · refine En_Ps 1 (pc' := 22) (lv' := [(0, .ref 159), (1, .int a)]) (st' := [.int ((Int32.ofInt (-1)))]) rfl ?_
    refine En_top (by decide : (Int32.ofInt (-1)).toInt = -1) (fun z2 h3 => ?_)
    exact En_ret (v := some (.int z2)) rfl rfl rfl ⟨hσ0, hF0, z2, rfl, ⟨by first | exact q_6ba54b61e9 h3 | omega, by first | exact q_4cc0346bde h3 | omega, fun _ => by omega, fun _ => by omega, sN_none hT h_n (by omega) (by omega)⟩⟩
  · refine En_Ps 1 (pc' := 9) (lv' := [(0, .ref 159), (1, .int a)]) (st' := [.ref 159]) rfl ?_
    refine En_getU (j := 4) (u := 163) (g' := 39) (q := 0) rfl rfl rfl tgz_159 (by decide +kernel) hσ0 (by decide +kernel) (by decide +kernel) (fun h4 => ?_)
    refine En_Ps 1 (pc' := 13) (lv' := [(0, .ref 159), (1, .int a)]) (st' := [.int a, .ref 163]) rfl ?_
    refine En_bald (l := (-128)) (u := 127) rfl rfl tgz_163 (by decide +kernel) hσ0 (by first | exact q_58e6e51dcc hl_a | omega) (lnI (by decide +kernel : LN _ = 1600) (by first | exact q_dde7d71509 h1 hu_n | omega)) (FTsgl (by decide +kernel)) (fun z7 h6 h8 h9 => ?_)
    refine En_Ps 2 (pc' := 18) (lv' := [(0, .ref 159), (1, .int a)]) (st' := [.int ((z7 &&& (((Int16.ofInt 255).toInt32))))]) rfl ?_
    refine En_nam (fun z10 h11 => ?_)
    have h12 := andR_rng (x := z7) (by decide : ((Int16.ofInt 255).toInt32).toInt = 255) (by decide)
    rw [← h11] at h12
    refine En_Ps 1 (pc' := 22) (lv' := [(0, .ref 159), (1, .int a)]) (st' := [.int z10]) rfl ?_
    exact En_ret (v := some (.int z10)) rfl rfl rfl ⟨hσ0, hF0, z10, rfl, ⟨by omega, by omega, fun hh => by first | exact q_1be5a5166e h1 | omega, fun _ => by omega, sN_some hT h_n (by omega) (by omega) h6 h11⟩⟩
/-- DoorSchoolModel.advance()V -/
abbrev P_189x (σ0 : SG) (By : Int → Int) (Nb : Int) (f : Int32) : PO := fun v σ => WT σ ∧ Fr [(35, 8), (35, 9), (35, 10), (35, 11)] σ0 σ ∧ ∃ f1 : Int32, (σ 159)[8]? = some (.int f1) ∧ ∃ t1 : Int32, (σ 159)[10]? = some (.int t1) ∧ v = none ∧ -f1.toInt ≤ 0 ∧ f1.toInt - 1600 ≤ 0 ∧ -f1.toInt + f.toInt ≤ 0 ∧ -t1.toInt ≤ 0 ∧ t1.toInt - 4 ≤ 0 ∧ f.toInt - f1.toInt ≤ 0 ∧ Imp (-t1.toInt + 1 ≤ 0) (f.toInt - f1.toInt + 1 ≤ 0) ∧ (TPm By Nb σ ∧ TKm By Nb f.toInt σ)
set_option maxRecDepth 10000 in
set_option maxHeartbeats 4000000 in
theorem c_189x {By : Int → Int} {Nb : Int} (σ0 : SG) (hσ0 : WT σ0) (f : Int32) (h_f : (σ0 159)[8]? = some (.int f)) (hT : TPm By Nb σ0) (hf : f.toInt ≤ Nb) : En 1 25 none mr_189 (P_189x σ0 By Nb f) 0 [(0, .ref 159)] [] σ0 := by
  obtain ⟨hl_f, hu_f⟩ := WT_int hσ0 (g := 35) (by decide +kernel) (by decide +kernel) (l := 0) (u := 1600) (by decide +kernel) h_f
  have hF0 : Fr [(35, 8), (35, 9), (35, 10), (35, 11)] σ0 σ0 := Fr_rfl
  have key0 : ∀ (n0 : Nat) (σ2 : SG) (y1 : Int32), WT σ2 → Fr [(35, 8), (35, 9), (35, 10), (35, 11)] σ0 σ2 → (σ2 159)[8]? = some (.int y1) → 0 ≤ y1.toInt → y1.toInt ≤ 1600 → f.toInt - y1.toInt ≤ 0 → -y1.toInt + 1600 < (n0 : Int) → tS By Nb (y1.toInt) = tS By Nb f.toInt → y1.toInt ≤ Nb → En 1 25 none mr_189 (P_189x σ0 By Nb f) 0 [(0, .ref 159)] [] σ2 := by
    intro n0
    induction n0 with
    | zero =>
      intro σ2 y1 h3 h4 h5 h6 h7 h8 h9 h10 h11
      first | exact (q_46bc035002 h9 h7).elim | (exfalso; omega)
    | succ n0 ih0 =>
      intro σ2 y1 h3 h4 h5 h6 h7 h8 h9 h10 h11
      refine En_Ps 2 (pc' := 2) (lv' := [(0, .ref 159)]) (st' := [.ref 159, .ref 159]) rfl ?_
      refine En_getK (j := 8) h5 rfl rfl rfl tgz_159 (by decide +kernel) ?_
      obtain ⟨z13, h12, h14, h15⟩ := WT_peekI h3 tgz_159 (by decide +kernel : FT 35 7 = (0, 0, 1600)) (by decide +kernel)
      refine En_callV rfl rfl rfl rfl rfl rfl rfl rfl tgz_159 (by decide +kernel) rfl (c_313ax σ2 h3 y1 (geI rfl (by first | exact q_58e6e51dcc h6 | omega)) (leI rfl (by first | exact q_246f9048f8 h7 | omega)) z13 h12 (TPm_fr hT h4 (by decide +kernel))) (by decide) (by decide) (fun v17 σ18 h16 => ?_)
      obtain ⟨h19, h20, z22, rfl, h21⟩ := h16
      have h23 := h21.2.2.2.2
      obtain rfl : σ2 = σ18 := Fr_nil h20
      refine En_Ps 1 (pc' := 10) (lv' := [(0, .ref 159)]) (st' := [.int (((Int8.ofInt 32).toInt32)), .int z22]) rfl ?_
      refine En_icEq _ rfl (by decide : ((Int8.ofInt 32).toInt32).toInt = 32) rfl (fun h24 => ?_) (fun h24 => ?_)
      · have h25 := Imp_m h21.2.2.1 (by first | exact q_cb1d6b5e1f h24 | omega)
        have h26 := Imp_m h21.2.2.2.1 (by first | exact q_ef157b5a0e h25 | omega)
        refine En_Ps 2 (pc' := 28) (lv' := [(0, .ref 159)]) (st' := [.ref 159, .ref 159]) rfl ?_
        refine En_getK (j := 8) h5 rfl rfl rfl tgz_159 (by decide +kernel) ?_
        refine En_Ps 2 (pc' := 33) (lv' := [(0, .ref 159)]) (st' := [.int ((y1 + ((Int32.ofInt 1)))), .ref 159]) rfl ?_
        refine En_top (addI rfl (by decide : (Int32.ofInt 1).toInt = 1) (by first | exact q_465ab79ac1 h6 | omega) (by first | exact q_1c9c6c18a7 h7 | omega)) (fun z27 h28 => ?_)
        refine En_put (j := 8) rfl rfl rfl tgz_159 (by decide +kernel) rfl (vI (l := 0) (u := 1600) (by decide +kernel) rfl (by first | exact q_35104ce9d3 h28 h6 | omega) (by first | exact q_02c0cd8258 h28 h25 h15 | omega)) h3 h4 (by decide +kernel) (fun σ29 h30 h31 h32 h33 => ?_)
        have h34 := BL_go (y := y1.toInt) (z := z27.toInt) hT (by omega) (by omega) (by omega) h10
        refine En_Ps 1 (pc' := 0) (lv' := [(0, .ref 159)]) (st' := []) rfl ?_
        exact ih0 σ29 z27 h30 h31 h32 (by first | exact q_35104ce9d3 h28 h6 | omega) (by first | exact q_02c0cd8258 h28 h25 h15 | omega) (by first | exact q_3a5e225620 h8 h28 | omega) (by first | exact q_98eaa778fc h28 h9 | omega) (h34.1) (h34.2)
      · refine En_Ps 2 (pc' := 15) (lv' := [(0, .ref 159)]) (st' := [.ref 159, .ref 159]) rfl ?_
        refine En_getK (j := 8) h5 rfl rfl rfl tgz_159 (by decide +kernel) ?_
        refine En_callV rfl rfl rfl rfl rfl rfl rfl rfl tgz_159 (by decide +kernel) rfl (c_313ax σ2 h3 y1 (geI rfl (by first | exact q_58e6e51dcc h6 | omega)) (leI rfl (by first | exact q_246f9048f8 h7 | omega)) z13 h12 (TPm_fr hT h4 (by decide +kernel))) (by decide) (by decide) (fun v36 σ37 h35 => ?_)
        obtain ⟨h38, h39, z41, rfl, h40⟩ := h35
        have h42 := h40.2.2.2.2
        obtain rfl : σ2 = σ37 := Fr_nil h39
        refine En_Ps 1 (pc' := 23) (lv' := [(0, .ref 159)]) (st' := [.int (((Int8.ofInt 10).toInt32)), .int z41]) rfl ?_
        refine En_icNe _ rfl (by decide : ((Int8.ofInt 10).toInt32).toInt = 10) rfl (fun h43 => ?_) (fun h43 => ?_)
        · refine En_Ps 2 (pc' := 41) (lv' := [(0, .ref 159)]) (st' := [.ref 159, .ref 159]) rfl ?_
          refine En_getK (j := 8) h5 rfl rfl rfl tgz_159 (by decide +kernel) ?_
          refine En_put (j := 9) rfl rfl rfl tgz_159 (by decide +kernel) rfl (vI (l := 0) (u := 1600) (by decide +kernel) rfl (by first | exact q_58e6e51dcc h6 | omega) (by first | exact q_246f9048f8 h7 | omega)) h3 h4 (by decide +kernel) (fun σ44 h45 h46 h47 h48 => ?_)
          refine En_Ps 2 (pc' := 49) (lv' := [(0, .ref 159)]) (st' := [.ref 159, .ref 159]) rfl ?_
          refine En_getK (j := 8) ((h48 _ _ (Or.inr (by decide))).trans h5) rfl rfl rfl tgz_159 (by decide +kernel) ?_
          refine En_callV rfl rfl rfl rfl rfl rfl rfl rfl tgz_159 (by decide +kernel) rfl (c_313ax σ44 h45 y1 (geI rfl (by first | exact q_58e6e51dcc h6 | omega)) (leI rfl (by first | exact q_246f9048f8 h7 | omega)) z13 ((h48 _ _ (Or.inr (by decide))).trans h12) (TPm_fr hT h46 (by decide +kernel))) (by decide) (by decide) (fun v50 σ51 h49 => ?_)
          obtain ⟨h52, h53, z55, rfl, h54⟩ := h49
          have h56 := h54.2.2.2.2
          obtain rfl : σ44 = σ51 := Fr_nil h53
          refine En_Ps 3 (pc' := 58) (lv' := [(1, .int z55), (0, .ref 159)]) (st' := [.int ((Int32.ofInt (-1))), .int z55]) rfl ?_
          refine En_icNe _ rfl (by decide : (Int32.ofInt (-1)).toInt = -1) rfl (fun h57 => ?_) (fun h57 => ?_)
          · have h58 := Imp_m h21.2.2.1 (by omega)
            have h59 := Imp_m h21.2.2.2.1 (by first | exact q_ef157b5a0e h58 | omega)
            have h60 := Imp_m h40.2.2.1 (by omega)
            have h61 := Imp_m h40.2.2.2.1 (by first | exact q_ef157b5a0e h58 | omega)
            have h62 := Imp_m h54.2.2.1 (by first | exact q_9aa41b2499 h57 h54.1 | omega)
            have h63 := Imp_m h54.2.2.2.1 (by first | exact q_ef157b5a0e h58 | omega)
            refine En_Ps 4 (pc' := 77) (lv' := [(1, .int z55), (0, .ref 159)]) (st' := [.long ((122 : Int64)), .long ((97 : Int64)), .long z55.toInt64]) rfl ?_
            have : z55.toInt64.toInt = z55.toInt := (i2lI rfl)
            have := (by decide : ((97 : Int64)).toInt = 97)
            have := (by decide : ((122 : Int64)).toInt = 122)
            refine En_callS rfl rfl rfl rfl rfl rfl rfl rfl rfl (c_249 σ44 h45 z55.toInt64 ((97 : Int64)) ((122 : Int64))) (by decide) (by decide) (fun v65 σ66 h64 => ?_)
            obtain ⟨h67, h68, z70, rfl, h69⟩ := h64
            obtain rfl : σ44 = σ66 := Fr_nil h68
            refine En_iEq _ rfl rfl (fun h71 => ?_) (fun h71 => ?_)
            · refine En_Ps 4 (pc' := 133) (lv' := [(1, .int z55), (0, .ref 159)]) (st' := [.long ((57 : Int64)), .long ((48 : Int64)), .long z55.toInt64]) rfl ?_
              have : z55.toInt64.toInt = z55.toInt := (i2lI rfl)
              have := (by decide : ((48 : Int64)).toInt = 48)
              have := (by decide : ((57 : Int64)).toInt = 57)
              refine En_callS rfl rfl rfl rfl rfl rfl rfl rfl rfl (c_249 σ44 h45 z55.toInt64 ((48 : Int64)) ((57 : Int64))) (by decide) (by decide) (fun v73 σ74 h72 => ?_)
              obtain ⟨h75, h76, z78, rfl, h77⟩ := h72
              obtain rfl : σ44 = σ74 := Fr_nil h76
              refine En_iEq _ rfl rfl (fun h79 => ?_) (fun h79 => ?_)
              · refine En_Ps 3 (pc' := 218) (lv' := [(1, .int z55), (0, .ref 159)]) (st' := [.int (((Int8.ofInt 59).toInt32)), .int z55, .ref 159]) rfl ?_
                refine En_icNe _ rfl (by decide : ((Int8.ofInt 59).toInt32).toInt = 59) rfl (fun h80 => ?_) (fun h80 => ?_)
                · refine En_Ps 1 (pc' := 226) (lv' := [(1, .int z55), (0, .ref 159)]) (st' := [.int ((Int32.ofInt 4)), .ref 159]) rfl ?_
                  refine En_put (j := 10) rfl rfl rfl tgz_159 (by decide +kernel) rfl (vI (l := 0) (u := 4) (by decide +kernel) (by decide : (Int32.ofInt 4).toInt = 4) (by decide) (by decide)) h45 h46 (by decide +kernel) (fun σ81 h82 h83 h84 h85 => ?_)
                  refine En_Ps 2 (pc' := 231) (lv' := [(1, .int z55), (0, .ref 159)]) (st' := [.ref 159, .ref 159]) rfl ?_
                  refine En_getK (j := 8) ((h85 _ _ (Or.inr (by decide))).trans ((h48 _ _ (Or.inr (by decide))).trans h5)) rfl rfl rfl tgz_159 (by decide +kernel) ?_
                  refine En_Ps 2 (pc' := 236) (lv' := [(1, .int z55), (0, .ref 159)]) (st' := [.int ((y1 + ((Int32.ofInt 1)))), .ref 159]) rfl ?_
                  refine En_top (addI rfl (by decide : (Int32.ofInt 1).toInt = 1) (by first | exact q_465ab79ac1 h6 | omega) (by first | exact q_1c9c6c18a7 h7 | omega)) (fun z86 h87 => ?_)
                  refine En_put (j := 8) rfl rfl rfl tgz_159 (by decide +kernel) rfl (vI (l := 0) (u := 1600) (by decide +kernel) rfl (by first | exact q_35104ce9d3 h87 h6 | omega) (by first | exact q_02c0cd8258 h87 h58 h15 | omega)) h82 h83 (by decide +kernel) (fun σ88 h89 h90 h91 h92 => ?_)
                  have := (by decide : (Int32.ofInt 4).toInt = 4)
                  exact En_ret (v := none) rfl rfl rfl ⟨h89, h90, z86, h91, (Int32.ofInt 4), ((h92 _ _ (Or.inr (by decide))).trans h84), rfl, ⟨by first | exact q_e1eb333c37 h87 h6 | omega, by first | exact q_48b789729f h87 h58 h15 | omega, by first | exact q_d3066aae82 h8 h87 | omega, by decide, by decide, by first | exact q_3a5e225620 h8 h87 | omega, fun hh => by first | exact q_b2aca50e06 h8 h87 | omega, ⟨(TPm_fr hT h90 (by decide +kernel)), TKm_4 (y := y1.toInt) hT (by omega) hf (by omega) (BL_no hT (by omega) (by omega) h10) (by omega) ((ci_at (j := 8) h91 rfl).trans (by omega)) ((ci_at (j := 9) ((h92 _ _ (Or.inr (by decide))).trans ((h85 _ _ (Or.inr (by decide))).trans h47)) rfl).trans (by omega)) ((ci_at (j := 10) ((h92 _ _ (Or.inr (by decide))).trans h84) rfl).trans (by omega))⟩⟩⟩
                · refine En_Ps 2 (pc' := 226) (lv' := [(1, .int z55), (0, .ref 159)]) (st' := [.int ((Int32.ofInt 3)), .ref 159]) rfl ?_
                  refine En_put (j := 10) rfl rfl rfl tgz_159 (by decide +kernel) rfl (vI (l := 0) (u := 4) (by decide +kernel) (by decide : (Int32.ofInt 3).toInt = 3) (by decide) (by decide)) h45 h46 (by decide +kernel) (fun σ93 h94 h95 h96 h97 => ?_)
                  refine En_Ps 2 (pc' := 231) (lv' := [(1, .int z55), (0, .ref 159)]) (st' := [.ref 159, .ref 159]) rfl ?_
                  refine En_getK (j := 8) ((h97 _ _ (Or.inr (by decide))).trans ((h48 _ _ (Or.inr (by decide))).trans h5)) rfl rfl rfl tgz_159 (by decide +kernel) ?_
                  refine En_Ps 2 (pc' := 236) (lv' := [(1, .int z55), (0, .ref 159)]) (st' := [.int ((y1 + ((Int32.ofInt 1)))), .ref 159]) rfl ?_
                  refine En_top (addI rfl (by decide : (Int32.ofInt 1).toInt = 1) (by first | exact q_465ab79ac1 h6 | omega) (by first | exact q_1c9c6c18a7 h7 | omega)) (fun z98 h99 => ?_)
                  refine En_put (j := 8) rfl rfl rfl tgz_159 (by decide +kernel) rfl (vI (l := 0) (u := 1600) (by decide +kernel) rfl (by first | exact q_35104ce9d3 h99 h6 | omega) (by first | exact q_02c0cd8258 h99 h58 h15 | omega)) h94 h95 (by decide +kernel) (fun σ100 h101 h102 h103 h104 => ?_)
                  have := (by decide : (Int32.ofInt 3).toInt = 3)
                  exact En_ret (v := none) rfl rfl rfl ⟨h101, h102, z98, h103, (Int32.ofInt 3), ((h104 _ _ (Or.inr (by decide))).trans h96), rfl, ⟨by first | exact q_e1eb333c37 h99 h6 | omega, by first | exact q_48b789729f h99 h58 h15 | omega, by first | exact q_d3066aae82 h8 h99 | omega, by decide, by decide, by first | exact q_3a5e225620 h8 h99 | omega, fun hh => by first | exact q_b2aca50e06 h8 h99 | omega, ⟨(TPm_fr hT h102 (by decide +kernel)), TKm_3 (y := y1.toInt) hT (by omega) hf (by omega) (BL_no hT (by omega) (by omega) h10) (by omega) ((ci_at (j := 8) h103 rfl).trans (by omega)) ((ci_at (j := 9) ((h104 _ _ (Or.inr (by decide))).trans ((h97 _ _ (Or.inr (by decide))).trans h47)) rfl).trans (by omega)) ((ci_at (j := 10) ((h104 _ _ (Or.inr (by decide))).trans h96) rfl).trans (by omega))⟩⟩⟩
              · refine En_Ps 2 (pc' := 141) (lv' := [(1, .int z55), (0, .ref 159)]) (st' := [.int ((Int32.ofInt 0)), .ref 159]) rfl ?_
                refine En_put (j := 11) rfl rfl rfl tgz_159 (by decide +kernel) rfl (vI (l := 0) (u := 99999) (by decide +kernel) (by decide : (Int32.ofInt 0).toInt = 0) (by decide) (by decide)) h45 h46 (by decide +kernel) (fun σ105 h106 h107 h108 h109 => ?_)
                refine En_Ps 2 (pc' := 146) (lv' := [(1, .int z55), (0, .ref 159)]) (st' := [.ref 159, .ref 159]) rfl ?_
                refine En_getK (j := 8) ((h109 _ _ (Or.inr (by decide))).trans ((h48 _ _ (Or.inr (by decide))).trans h5)) rfl rfl rfl tgz_159 (by decide +kernel) ?_
                refine En_callV rfl rfl rfl rfl rfl rfl rfl rfl tgz_159 (by decide +kernel) rfl (c_313ax σ105 h106 y1 (geI rfl (by first | exact q_58e6e51dcc h6 | omega)) (leI rfl (by first | exact q_246f9048f8 h7 | omega)) z13 ((h109 _ _ (Or.inr (by decide))).trans ((h48 _ _ (Or.inr (by decide))).trans h12)) (TPm_fr hT h107 (by decide +kernel))) (by decide) (by decide) (fun v111 σ112 h110 => ?_)
                obtain ⟨h113, h114, z116, rfl, h115⟩ := h110
                have h117 := h115.2.2.2.2
                obtain rfl : σ105 = σ112 := Fr_nil h114
                have h118 := Imp_m h115.2.2.1 (by omega)
                have h119 := Imp_m h115.2.2.2.1 (by first | exact q_ef157b5a0e h58 | omega)
                refine En_Ps 3 (pc' := 159) (lv' := [(1, .int z55), (0, .ref 159)]) (st' := [.long ((57 : Int64)), .long ((48 : Int64)), .long z116.toInt64]) rfl ?_
                have : z116.toInt64.toInt = z116.toInt := (i2lI rfl)
                have := (by decide : ((48 : Int64)).toInt = 48)
                have := (by decide : ((57 : Int64)).toInt = 57)
                refine En_callS rfl rfl rfl rfl rfl rfl rfl rfl rfl (c_249 σ105 h106 z116.toInt64 ((48 : Int64)) ((57 : Int64))) (by decide) (by decide) (fun v121 σ122 h120 => ?_)
                obtain ⟨h123, h124, z126, rfl, h125⟩ := h120
                obtain rfl : σ105 = σ122 := Fr_nil h124
                refine En_iEq _ rfl rfl (fun hx => by exfalso; omega) (fun h127 => ?_)
                refine En_Ps 4 (pc' := 171) (lv' := [(1, .int z55), (0, .ref 159)]) (st' := [.ref 159, .int (((Int8.ofInt 10).toInt32)), .int ((99999 : Int32)), .ref 159]) rfl ?_
                refine En_getK (j := 11) h108 rfl rfl rfl tgz_159 (by decide +kernel) ?_
                refine En_Ps 1 (pc' := 175) (lv' := [(1, .int z55), (0, .ref 159)]) (st' := [.int (((((Int8.ofInt 10).toInt32)) * ((Int32.ofInt 0)))), .int ((99999 : Int32)), .ref 159]) rfl ?_
                refine En_top (mulI (by decide : ((Int8.ofInt 10).toInt32).toInt = 10) (by decide : (Int32.ofInt 0).toInt = 0) (Z := 0) (by first | exact q_7a801dc1c2 | omega) (by decide) (by decide)) (fun z128 h129 => ?_)
                refine En_Ps 2 (pc' := 177) (lv' := [(1, .int z55), (0, .ref 159)]) (st' := [.ref 159, .ref 159, .int z128, .int ((99999 : Int32)), .ref 159]) rfl ?_
                refine En_getK (j := 8) ((h109 _ _ (Or.inr (by decide))).trans ((h48 _ _ (Or.inr (by decide))).trans h5)) rfl rfl rfl tgz_159 (by decide +kernel) ?_
                refine En_callV rfl rfl rfl rfl rfl rfl rfl rfl tgz_159 (by decide +kernel) rfl (c_313ax σ105 h106 y1 (geI rfl (by first | exact q_58e6e51dcc h6 | omega)) (leI rfl (by first | exact q_246f9048f8 h7 | omega)) z13 ((h109 _ _ (Or.inr (by decide))).trans ((h48 _ _ (Or.inr (by decide))).trans h12)) (TPm_fr hT h107 (by decide +kernel))) (by decide) (by decide) (fun v131 σ132 h130 => ?_)
                obtain ⟨h133, h134, z136, rfl, h135⟩ := h130
                have h137 := h135.2.2.2.2
                obtain rfl : σ105 = σ132 := Fr_nil h134
                have h138 := Imp_m h135.2.2.1 (by omega)
                have h139 := Imp_m h135.2.2.2.1 (by first | exact q_ef157b5a0e h58 | omega)
                refine En_Ps 1 (pc' := 184) (lv' := [(1, .int z55), (0, .ref 159)]) (st' := [.int ((z128 + z136)), .int ((99999 : Int32)), .ref 159]) rfl ?_
                refine En_top (addI rfl rfl (by first | exact q_5e8186b26d h129 h139 | omega) (by first | exact q_b06503e6ab h129 h135.2.1 | omega)) (fun z140 h141 => ?_)
                refine En_Ps 2 (pc' := 187) (lv' := [(1, .int z55), (0, .ref 159)]) (st' := [.int ((z140 - (((Int8.ofInt 48).toInt32)))), .int ((99999 : Int32)), .ref 159]) rfl ?_
                refine En_top (subI rfl (by decide : ((Int8.ofInt 48).toInt32).toInt = 48) (by first | exact q_57a02b7c1a h141 h129 h139 | omega) (by first | exact q_09b582373b h141 h129 h135.2.1 | omega)) (fun z142 h143 => ?_)
                have := (by decide : ((99999 : Int32)).toInt = 99999)
                refine En_callS rfl rfl rfl rfl rfl rfl rfl rfl rfl (c_11 σ105 h106 ((99999 : Int32)) z142) (by decide) (by decide) (fun v145 σ146 h144 => ?_)
                obtain ⟨h147, h148, z150, rfl, h149⟩ := h144
                obtain rfl : σ105 = σ146 := Fr_nil h148
                refine En_put (j := 11) rfl rfl rfl tgz_159 (by decide +kernel) rfl (vI (l := 0) (u := 99999) (by decide +kernel) rfl (by omega) (by first | exact q_d82d3967f0 h149.2.1 h143 h141 h129 h135.2.1 | omega)) h106 h107 (by decide +kernel) (fun σ151 h152 h153 h154 h155 => ?_)
                refine En_Ps 2 (pc' := 195) (lv' := [(1, .int z55), (0, .ref 159)]) (st' := [.ref 159, .ref 159]) rfl ?_
                refine En_getK (j := 8) ((h155 _ _ (Or.inr (by decide))).trans ((h109 _ _ (Or.inr (by decide))).trans ((h48 _ _ (Or.inr (by decide))).trans h5))) rfl rfl rfl tgz_159 (by decide +kernel) ?_
                refine En_Ps 2 (pc' := 200) (lv' := [(1, .int z55), (0, .ref 159)]) (st' := [.int ((y1 + ((Int32.ofInt 1)))), .ref 159]) rfl ?_
                refine En_top (addI rfl (by decide : (Int32.ofInt 1).toInt = 1) (by first | exact q_465ab79ac1 h6 | omega) (by first | exact q_1c9c6c18a7 h7 | omega)) (fun z156 h157 => ?_)
                refine En_put (j := 8) rfl rfl rfl tgz_159 (by decide +kernel) rfl (vI (l := 0) (u := 1600) (by decide +kernel) rfl (by first | exact q_35104ce9d3 h157 h6 | omega) (by first | exact q_02c0cd8258 h157 h58 h15 | omega)) h152 h153 (by decide +kernel) (fun σ158 h159 h160 h161 h162 => ?_)
                have h163 := DG_go (y := y1.toInt) (z := z156.toInt) hT (by omega) (by omega) (by omega)
                have h164 : z150.toInt = vl By 99999 (y1.toInt) (z156.toInt) := VL_go (y := y1.toInt) (v := 0) (by omega) (by omega) (vl_0 (B := By) (c := 99999) (s := y1.toInt)).symm (by omega)
                refine En_Ps 1 (pc' := 144) (lv' := [(1, .int z55), (0, .ref 159)]) (st' := []) rfl ?_
                have key144 : ∀ (n144 : Nat) (σ167 : SG) (y165 : Int32) (y166 : Int32), WT σ167 → Fr [(35, 8), (35, 9), (35, 10), (35, 11)] σ0 σ167 → (σ167 159)[7]? = some (.int z13) → (σ167 159)[9]? = some (.int y1) → (σ167 159)[11]? = some (.int y165) → (σ167 159)[8]? = some (.int y166) → 0 ≤ y165.toInt → y165.toInt ≤ 99999 → 1 ≤ y166.toInt → y166.toInt ≤ 1600 → y166.toInt - z13.toInt ≤ 0 → z156.toInt - y166.toInt ≤ 0 → z13.toInt - y166.toInt < (n144 : Int) → rnx By Nb 2 (y166.toInt) = rnx By Nb 2 (y1.toInt) → y166.toInt ≤ Nb → y165.toInt = vl By 99999 (y1.toInt) (y166.toInt) → En 1 25 none mr_189 (P_189x σ0 By Nb f) 144 [(0, .ref 159), (1, .int z55)] [] σ167 := by
                  intro n144
                  induction n144 with
                  | zero =>
                    intro σ167 y165 y166 h168 h169 h170 h171 h172 h173 h174 h175 h176 h177 h178 h179 h180 h181 h182 h183
                    first | exact (q_14257feae7 h178 h180).elim | (exfalso; omega)
                  | succ n144 ih144 =>
                    intro σ167 y165 y166 h168 h169 h170 h171 h172 h173 h174 h175 h176 h177 h178 h179 h180 h181 h182 h183
                    refine En_Ps 2 (pc' := 146) (lv' := [(0, .ref 159), (1, .int z55)]) (st' := [.ref 159, .ref 159]) rfl ?_
                    refine En_getK (j := 8) h173 rfl rfl rfl tgz_159 (by decide +kernel) ?_
                    refine En_callV rfl rfl rfl rfl rfl rfl rfl rfl tgz_159 (by decide +kernel) rfl (c_313ax σ167 h168 y166 (geI rfl (by first | exact q_337a85e294 h176 | omega)) (leI rfl (by first | exact q_246f9048f8 h177 | omega)) z13 h170 (TPm_fr hT h169 (by decide +kernel))) (by decide) (by decide) (fun v185 σ186 h184 => ?_)
                    obtain ⟨h187, h188, z190, rfl, h189⟩ := h184
                    have h191 := h189.2.2.2.2
                    obtain rfl : σ167 = σ186 := Fr_nil h188
                    refine En_Ps 3 (pc' := 159) (lv' := [(0, .ref 159), (1, .int z55)]) (st' := [.long ((57 : Int64)), .long ((48 : Int64)), .long z190.toInt64]) rfl ?_
                    have : z190.toInt64.toInt = z190.toInt := (i2lI rfl)
                    have := (by decide : ((48 : Int64)).toInt = 48)
                    have := (by decide : ((57 : Int64)).toInt = 57)
                    refine En_callS rfl rfl rfl rfl rfl rfl rfl rfl rfl (c_249 σ167 h168 z190.toInt64 ((48 : Int64)) ((57 : Int64))) (by decide) (by decide) (fun v193 σ194 h192 => ?_)
                    obtain ⟨h195, h196, z198, rfl, h197⟩ := h192
                    obtain rfl : σ167 = σ194 := Fr_nil h196
                    refine En_iEq _ rfl rfl (fun h199 => ?_) (fun h199 => ?_)
                    · refine En_Ps 2 (pc' := 208) (lv' := [(0, .ref 159), (1, .int z55)]) (st' := [.int ((Int32.ofInt 2)), .ref 159]) rfl ?_
                      refine En_put (j := 10) rfl rfl rfl tgz_159 (by decide +kernel) rfl (vI (l := 0) (u := 4) (by decide +kernel) (by decide : (Int32.ofInt 2).toInt = 2) (by decide) (by decide)) h168 h169 (by decide +kernel) (fun σ200 h201 h202 h203 h204 => ?_)
                      refine En_Ps 1 (pc' := 239) (lv' := [(0, .ref 159), (1, .int z55)]) (st' := []) rfl ?_
                      have := (by decide : (Int32.ofInt 2).toInt = 2)
                      exact En_ret (v := none) rfl rfl rfl ⟨h201, h202, y166, ((h204 _ _ (Or.inr (by decide))).trans h173), (Int32.ofInt 2), h203, rfl, ⟨by first | exact q_43cac120cc h176 | omega, by first | exact q_5a08281576 h177 | omega, by first | exact q_850945eed1 h8 h157 h179 | omega, by decide, by decide, by first | exact q_5488d9fc23 h8 h157 h179 | omega, fun hh => by first | exact q_88763b3d99 h8 h157 h179 | omega, ⟨(TPm_fr hT h202 (by decide +kernel)), TKm_2 (y := y1.toInt) (e := y166.toInt) hT (by omega) hf (by omega) (BL_no hT (by omega) (by omega) h10) (by omega) (by omega) h181 (by omega) ((ci_at (j := 8) ((h204 _ _ (Or.inr (by decide))).trans h173) rfl).trans (by omega)) ((ci_at (j := 9) ((h204 _ _ (Or.inr (by decide))).trans h171) rfl).trans (by omega)) ((ci_at (j := 10) h203 rfl).trans (by omega)) ((ci_at (j := 11) ((h204 _ _ (Or.inr (by decide))).trans h172) rfl).trans h183)⟩⟩⟩
                    · have h205 := Imp_m h189.2.2.1 (by omega)
                      have h206 := Imp_m h189.2.2.2.1 (by first | exact q_ef157b5a0e h205 | omega)
                      refine En_Ps 4 (pc' := 171) (lv' := [(0, .ref 159), (1, .int z55)]) (st' := [.ref 159, .int (((Int8.ofInt 10).toInt32)), .int ((99999 : Int32)), .ref 159]) rfl ?_
                      refine En_getK (j := 11) h172 rfl rfl rfl tgz_159 (by decide +kernel) ?_
                      refine En_Ps 1 (pc' := 175) (lv' := [(0, .ref 159), (1, .int z55)]) (st' := [.int (((((Int8.ofInt 10).toInt32)) * y165)), .int ((99999 : Int32)), .ref 159]) rfl ?_
                      refine En_top (mulI (by decide : ((Int8.ofInt 10).toInt32).toInt = 10) rfl (Z := 10 * y165.toInt) (by first | exact q_9f72b99036 | omega) (by first | exact q_66aa5f5af3 h174 | omega) (by first | exact q_b62f261964 h175 | omega)) (fun z207 h208 => ?_)
                      refine En_Ps 2 (pc' := 177) (lv' := [(0, .ref 159), (1, .int z55)]) (st' := [.ref 159, .ref 159, .int z207, .int ((99999 : Int32)), .ref 159]) rfl ?_
                      refine En_getK (j := 8) h173 rfl rfl rfl tgz_159 (by decide +kernel) ?_
                      refine En_callV rfl rfl rfl rfl rfl rfl rfl rfl tgz_159 (by decide +kernel) rfl (c_313ax σ167 h168 y166 (geI rfl (by first | exact q_337a85e294 h176 | omega)) (leI rfl (by first | exact q_246f9048f8 h177 | omega)) z13 h170 (TPm_fr hT h169 (by decide +kernel))) (by decide) (by decide) (fun v210 σ211 h209 => ?_)
                      obtain ⟨h212, h213, z215, rfl, h214⟩ := h209
                      have h216 := h214.2.2.2.2
                      obtain rfl : σ167 = σ211 := Fr_nil h213
                      have h217 := Imp_m h214.2.2.1 (by omega)
                      have h218 := Imp_m h214.2.2.2.1 (by first | exact q_ef157b5a0e h205 | omega)
                      refine En_Ps 1 (pc' := 184) (lv' := [(0, .ref 159), (1, .int z55)]) (st' := [.int ((z207 + z215)), .int ((99999 : Int32)), .ref 159]) rfl ?_
                      refine En_top (addI rfl rfl (by first | exact q_db83736b23 h208 h218 h174 | omega) (by first | exact q_bafc1b40c9 h208 h214.2.1 h175 | omega)) (fun z219 h220 => ?_)
                      refine En_Ps 2 (pc' := 187) (lv' := [(0, .ref 159), (1, .int z55)]) (st' := [.int ((z219 - (((Int8.ofInt 48).toInt32)))), .int ((99999 : Int32)), .ref 159]) rfl ?_
                      refine En_top (subI rfl (by decide : ((Int8.ofInt 48).toInt32).toInt = 48) (by first | exact q_fa95d3a10b h220 h208 h218 h174 | omega) (by first | exact q_17eb69d6a3 h220 h208 h214.2.1 h175 | omega)) (fun z221 h222 => ?_)
                      have := (by decide : ((99999 : Int32)).toInt = 99999)
                      refine En_callS rfl rfl rfl rfl rfl rfl rfl rfl rfl (c_11 σ167 h168 ((99999 : Int32)) z221) (by decide) (by decide) (fun v224 σ225 h223 => ?_)
                      obtain ⟨h226, h227, z229, rfl, h228⟩ := h223
                      obtain rfl : σ167 = σ225 := Fr_nil h227
                      refine En_put (j := 11) rfl rfl rfl tgz_159 (by decide +kernel) rfl (vI (l := 0) (u := 99999) (by decide +kernel) rfl (by omega) (by omega)) h168 h169 (by decide +kernel) (fun σ230 h231 h232 h233 h234 => ?_)
                      refine En_Ps 2 (pc' := 195) (lv' := [(0, .ref 159), (1, .int z55)]) (st' := [.ref 159, .ref 159]) rfl ?_
                      refine En_getK (j := 8) ((h234 _ _ (Or.inr (by decide))).trans h173) rfl rfl rfl tgz_159 (by decide +kernel) ?_
                      refine En_Ps 2 (pc' := 200) (lv' := [(0, .ref 159), (1, .int z55)]) (st' := [.int ((y166 + ((Int32.ofInt 1)))), .ref 159]) rfl ?_
                      refine En_top (addI rfl (by decide : (Int32.ofInt 1).toInt = 1) (by first | exact q_e6d8d315b7 h176 | omega) (by first | exact q_1c9c6c18a7 h177 | omega)) (fun z235 h236 => ?_)
                      refine En_put (j := 8) rfl rfl rfl tgz_159 (by decide +kernel) rfl (vI (l := 0) (u := 1600) (by decide +kernel) rfl (by first | exact q_44c325ea65 h236 h176 | omega) (by first | exact q_02c0cd8258 h236 h205 h15 | omega)) h231 h232 (by decide +kernel) (fun σ237 h238 h239 h240 h241 => ?_)
                      have h242 := DG_go (y := y166.toInt) (z := z235.toInt) hT (by omega) (by omega) (by omega)
                      have h243 : z229.toInt = vl By 99999 (y1.toInt) (z235.toInt) := VL_go (y := y166.toInt) (v := y165.toInt) (by omega) (by omega) h183 (by omega)
                      refine En_Ps 1 (pc' := 144) (lv' := [(0, .ref 159), (1, .int z55)]) (st' := []) rfl ?_
                      exact ih144 σ237 z229 z235 h238 h239 ((h241 _ _ (Or.inr (by decide))).trans ((h234 _ _ (Or.inr (by decide))).trans h170)) ((h241 _ _ (Or.inr (by decide))).trans ((h234 _ _ (Or.inr (by decide))).trans h171)) ((h241 _ _ (Or.inr (by decide))).trans h233) h240 (by omega) (by omega) (by first | exact q_7518dd5232 h236 h176 | omega) (by first | exact q_02c0cd8258 h236 h205 h15 | omega) (by first | exact q_d701165c21 h205 h236 | omega) (by first | exact q_3a5e225620 h179 h236 | omega) (by first | exact q_8d03a5a7cb h236 h180 | omega) (h242.1.trans h181) (h242.2.1) (h243)
                refine En_lv (lv := [(0, .ref 159), (1, .int z55)]) ⟨rfl, rfl, trivial⟩ ?_
                exact key144 (Int.toNat (z13.toInt - z156.toInt) + 1) σ158 z150 z156 h159 h160 ((h162 _ _ (Or.inr (by decide))).trans ((h155 _ _ (Or.inr (by decide))).trans ((h109 _ _ (Or.inr (by decide))).trans ((h48 _ _ (Or.inr (by decide))).trans h12)))) ((h162 _ _ (Or.inr (by decide))).trans ((h155 _ _ (Or.inr (by decide))).trans ((h109 _ _ (Or.inr (by decide))).trans h47))) ((h162 _ _ (Or.inr (by decide))).trans h154) h161 (by omega) (by first | exact q_d82d3967f0 h149.2.1 h143 h141 h129 h135.2.1 | omega) (by first | exact q_246139cee3 h157 h6 | omega) (by first | exact q_02c0cd8258 h157 h58 h15 | omega) (by first | exact q_d701165c21 h58 h157 | omega) (by first | exact q_1bb76abeaf | omega) (by first | exact toN_lt _ | omega) (h163.1) (h163.2.1) (h164)
            · refine En_Ps 2 (pc' := 85) (lv' := [(1, .int z55), (0, .ref 159)]) (st' := [.ref 159, .ref 159]) rfl ?_
              refine En_getK (j := 8) ((h48 _ _ (Or.inr (by decide))).trans h5) rfl rfl rfl tgz_159 (by decide +kernel) ?_
              refine En_callV rfl rfl rfl rfl rfl rfl rfl rfl tgz_159 (by decide +kernel) rfl (c_313ax σ44 h45 y1 (geI rfl (by first | exact q_58e6e51dcc h6 | omega)) (leI rfl (by first | exact q_246f9048f8 h7 | omega)) z13 ((h48 _ _ (Or.inr (by decide))).trans h12) (TPm_fr hT h46 (by decide +kernel))) (by decide) (by decide) (fun v245 σ246 h244 => ?_)
              obtain ⟨h247, h248, z250, rfl, h249⟩ := h244
              have h251 := h249.2.2.2.2
              obtain rfl : σ44 = σ246 := Fr_nil h248
              have h252 := Imp_m h249.2.2.1 (by omega)
              have h253 := Imp_m h249.2.2.2.1 (by first | exact q_ef157b5a0e h58 | omega)
              refine En_Ps 3 (pc' := 98) (lv' := [(1, .int z55), (0, .ref 159)]) (st' := [.long ((122 : Int64)), .long ((97 : Int64)), .long z250.toInt64]) rfl ?_
              have : z250.toInt64.toInt = z250.toInt := (i2lI rfl)
              have := (by decide : ((97 : Int64)).toInt = 97)
              have := (by decide : ((122 : Int64)).toInt = 122)
              refine En_callS rfl rfl rfl rfl rfl rfl rfl rfl rfl (c_249 σ44 h45 z250.toInt64 ((97 : Int64)) ((122 : Int64))) (by decide) (by decide) (fun v255 σ256 h254 => ?_)
              obtain ⟨h257, h258, z260, rfl, h259⟩ := h254
              obtain rfl : σ44 = σ256 := Fr_nil h258
              refine En_iEq _ rfl rfl (fun hx => by exfalso; omega) (fun h261 => ?_)
              refine En_Ps 2 (pc' := 106) (lv' := [(1, .int z55), (0, .ref 159)]) (st' := [.ref 159, .ref 159]) rfl ?_
              refine En_getK (j := 8) ((h48 _ _ (Or.inr (by decide))).trans h5) rfl rfl rfl tgz_159 (by decide +kernel) ?_
              refine En_Ps 2 (pc' := 111) (lv' := [(1, .int z55), (0, .ref 159)]) (st' := [.int ((y1 + ((Int32.ofInt 1)))), .ref 159]) rfl ?_
              refine En_top (addI rfl (by decide : (Int32.ofInt 1).toInt = 1) (by first | exact q_465ab79ac1 h6 | omega) (by first | exact q_1c9c6c18a7 h7 | omega)) (fun z262 h263 => ?_)
              refine En_put (j := 8) rfl rfl rfl tgz_159 (by decide +kernel) rfl (vI (l := 0) (u := 1600) (by decide +kernel) rfl (by first | exact q_35104ce9d3 h263 h6 | omega) (by first | exact q_02c0cd8258 h263 h58 h15 | omega)) h45 h46 (by decide +kernel) (fun σ264 h265 h266 h267 h268 => ?_)
              have h269 := LT_go (y := y1.toInt) (z := z262.toInt) hT (by omega) (by omega) (by omega)
              refine En_Ps 1 (pc' := 83) (lv' := [(1, .int z55), (0, .ref 159)]) (st' := []) rfl ?_
              have key83 : ∀ (n83 : Nat) (σ271 : SG) (y270 : Int32), WT σ271 → Fr [(35, 8), (35, 9), (35, 10), (35, 11)] σ0 σ271 → (σ271 159)[7]? = some (.int z13) → (σ271 159)[9]? = some (.int y1) → (σ271 159)[8]? = some (.int y270) → 1 ≤ y270.toInt → y270.toInt ≤ 1600 → y270.toInt - z13.toInt ≤ 0 → z262.toInt - y270.toInt ≤ 0 → z13.toInt - y270.toInt < (n83 : Int) → rnx By Nb 1 (y270.toInt) = rnx By Nb 1 (y1.toInt) → y270.toInt ≤ Nb → En 1 25 none mr_189 (P_189x σ0 By Nb f) 83 [(0, .ref 159), (1, .int z55)] [] σ271 := by
                intro n83
                induction n83 with
                | zero =>
                  intro σ271 y270 h272 h273 h274 h275 h276 h277 h278 h279 h280 h281 h282 h283
                  first | exact (q_14257feae7 h279 h281).elim | (exfalso; omega)
                | succ n83 ih83 =>
                  intro σ271 y270 h272 h273 h274 h275 h276 h277 h278 h279 h280 h281 h282 h283
                  refine En_Ps 2 (pc' := 85) (lv' := [(0, .ref 159), (1, .int z55)]) (st' := [.ref 159, .ref 159]) rfl ?_
                  refine En_getK (j := 8) h276 rfl rfl rfl tgz_159 (by decide +kernel) ?_
                  refine En_callV rfl rfl rfl rfl rfl rfl rfl rfl tgz_159 (by decide +kernel) rfl (c_313ax σ271 h272 y270 (geI rfl (by first | exact q_337a85e294 h277 | omega)) (leI rfl (by first | exact q_246f9048f8 h278 | omega)) z13 h274 (TPm_fr hT h273 (by decide +kernel))) (by decide) (by decide) (fun v285 σ286 h284 => ?_)
                  obtain ⟨h287, h288, z290, rfl, h289⟩ := h284
                  have h291 := h289.2.2.2.2
                  obtain rfl : σ271 = σ286 := Fr_nil h288
                  refine En_Ps 3 (pc' := 98) (lv' := [(0, .ref 159), (1, .int z55)]) (st' := [.long ((122 : Int64)), .long ((97 : Int64)), .long z290.toInt64]) rfl ?_
                  have : z290.toInt64.toInt = z290.toInt := (i2lI rfl)
                  have := (by decide : ((97 : Int64)).toInt = 97)
                  have := (by decide : ((122 : Int64)).toInt = 122)
                  refine En_callS rfl rfl rfl rfl rfl rfl rfl rfl rfl (c_249 σ271 h272 z290.toInt64 ((97 : Int64)) ((122 : Int64))) (by decide) (by decide) (fun v293 σ294 h292 => ?_)
                  obtain ⟨h295, h296, z298, rfl, h297⟩ := h292
                  obtain rfl : σ271 = σ294 := Fr_nil h296
                  refine En_iEq _ rfl rfl (fun h299 => ?_) (fun h299 => ?_)
                  · refine En_Ps 2 (pc' := 119) (lv' := [(0, .ref 159), (1, .int z55)]) (st' := [.int ((Int32.ofInt 1)), .ref 159]) rfl ?_
                    refine En_put (j := 10) rfl rfl rfl tgz_159 (by decide +kernel) rfl (vI (l := 0) (u := 4) (by decide +kernel) (by decide : (Int32.ofInt 1).toInt = 1) (by decide) (by decide)) h272 h273 (by decide +kernel) (fun σ300 h301 h302 h303 h304 => ?_)
                    refine En_Ps 1 (pc' := 239) (lv' := [(0, .ref 159), (1, .int z55)]) (st' := []) rfl ?_
                    have := (by decide : (Int32.ofInt 1).toInt = 1)
                    exact En_ret (v := none) rfl rfl rfl ⟨h301, h302, y270, ((h304 _ _ (Or.inr (by decide))).trans h276), (Int32.ofInt 1), h303, rfl, ⟨by first | exact q_43cac120cc h277 | omega, by first | exact q_5a08281576 h278 | omega, by first | exact q_850945eed1 h8 h263 h280 | omega, by decide, by decide, by first | exact q_5488d9fc23 h8 h263 h280 | omega, fun hh => by first | exact q_88763b3d99 h8 h263 h280 | omega, ⟨(TPm_fr hT h302 (by decide +kernel)), TKm_1 (y := y1.toInt) (e := y270.toInt) hT (by omega) hf (by omega) (BL_no hT (by omega) (by omega) h10) (by omega) (by omega) h282 (by omega) ((ci_at (j := 8) ((h304 _ _ (Or.inr (by decide))).trans h276) rfl).trans (by omega)) ((ci_at (j := 9) ((h304 _ _ (Or.inr (by decide))).trans h275) rfl).trans (by omega)) ((ci_at (j := 10) h303 rfl).trans (by omega))⟩⟩⟩
                  · have h305 := Imp_m h289.2.2.1 (by omega)
                    have h306 := Imp_m h289.2.2.2.1 (by first | exact q_ef157b5a0e h305 | omega)
                    refine En_Ps 2 (pc' := 106) (lv' := [(0, .ref 159), (1, .int z55)]) (st' := [.ref 159, .ref 159]) rfl ?_
                    refine En_getK (j := 8) h276 rfl rfl rfl tgz_159 (by decide +kernel) ?_
                    refine En_Ps 2 (pc' := 111) (lv' := [(0, .ref 159), (1, .int z55)]) (st' := [.int ((y270 + ((Int32.ofInt 1)))), .ref 159]) rfl ?_
                    refine En_top (addI rfl (by decide : (Int32.ofInt 1).toInt = 1) (by first | exact q_e6d8d315b7 h277 | omega) (by first | exact q_1c9c6c18a7 h278 | omega)) (fun z307 h308 => ?_)
                    refine En_put (j := 8) rfl rfl rfl tgz_159 (by decide +kernel) rfl (vI (l := 0) (u := 1600) (by decide +kernel) rfl (by first | exact q_44c325ea65 h308 h277 | omega) (by first | exact q_02c0cd8258 h308 h305 h15 | omega)) h272 h273 (by decide +kernel) (fun σ309 h310 h311 h312 h313 => ?_)
                    have h314 := LT_go (y := y270.toInt) (z := z307.toInt) hT (by omega) (by omega) (by omega)
                    refine En_Ps 1 (pc' := 83) (lv' := [(0, .ref 159), (1, .int z55)]) (st' := []) rfl ?_
                    exact ih83 σ309 z307 h310 h311 ((h313 _ _ (Or.inr (by decide))).trans h274) ((h313 _ _ (Or.inr (by decide))).trans h275) h312 (by first | exact q_7518dd5232 h308 h277 | omega) (by first | exact q_02c0cd8258 h308 h305 h15 | omega) (by first | exact q_d701165c21 h305 h308 | omega) (by first | exact q_3a5e225620 h280 h308 | omega) (by first | exact q_8d03a5a7cb h308 h281 | omega) (h314.1.trans h282) (h314.2)
              refine En_lv (lv := [(0, .ref 159), (1, .int z55)]) ⟨rfl, rfl, trivial⟩ ?_
              exact key83 (Int.toNat (z13.toInt - z262.toInt) + 1) σ264 z262 h265 h266 ((h268 _ _ (Or.inr (by decide))).trans ((h48 _ _ (Or.inr (by decide))).trans h12)) ((h268 _ _ (Or.inr (by decide))).trans h47) h267 (by first | exact q_246139cee3 h263 h6 | omega) (by first | exact q_02c0cd8258 h263 h58 h15 | omega) (by first | exact q_d701165c21 h58 h263 | omega) (by first | exact q_1bb76abeaf | omega) (by first | exact toN_lt _ | omega) (h269.1) (h269.2)
          · refine En_Ps 2 (pc' := 63) (lv' := [(1, .int z55), (0, .ref 159)]) (st' := [.int ((Int32.ofInt 0)), .ref 159]) rfl ?_
            refine En_put (j := 10) rfl rfl rfl tgz_159 (by decide +kernel) rfl (vI (l := 0) (u := 4) (by decide +kernel) (by decide : (Int32.ofInt 0).toInt = 0) (by decide) (by decide)) h45 h46 (by decide +kernel) (fun σ315 h316 h317 h318 h319 => ?_)
            refine En_Ps 1 (pc' := 239) (lv' := [(1, .int z55), (0, .ref 159)]) (st' := []) rfl ?_
            have := (by decide : (Int32.ofInt 0).toInt = 0)
            exact En_ret (v := none) rfl rfl rfl ⟨h316, h317, y1, ((h319 _ _ (Or.inr (by decide))).trans ((h48 _ _ (Or.inr (by decide))).trans h5)), (Int32.ofInt 0), h318, rfl, ⟨by first | exact q_c803b490ef h6 | omega, by first | exact q_5a08281576 h7 | omega, by first | exact q_10d278d690 h8 | omega, by decide, by decide, by first | exact q_f67127b06c h8 | omega, fun _ => by omega, ⟨(TPm_fr hT h317 (by decide +kernel)), TKm_0 (y := y1.toInt) hT (by omega) hf (by omega) (BL_no hT (by omega) (by omega) h10) (by omega) ((ci_at (j := 8) ((h319 _ _ (Or.inr (by decide))).trans ((h48 _ _ (Or.inr (by decide))).trans h5)) rfl).trans (by omega)) ((ci_at (j := 9) ((h319 _ _ (Or.inr (by decide))).trans h47) rfl).trans (by omega)) ((ci_at (j := 10) h318 rfl).trans (by omega))⟩⟩⟩
        · have h320 := Imp_m h21.2.2.1 (by omega)
          have h321 := Imp_m h21.2.2.2.1 (by first | exact q_ef157b5a0e h320 | omega)
          have h322 := Imp_m h40.2.2.1 (by first | exact q_6ce9b4f471 h43 | omega)
          have h323 := Imp_m h40.2.2.2.1 (by first | exact q_ef157b5a0e h320 | omega)
          refine En_Ps 2 (pc' := 28) (lv' := [(0, .ref 159)]) (st' := [.ref 159, .ref 159]) rfl ?_
          refine En_getK (j := 8) h5 rfl rfl rfl tgz_159 (by decide +kernel) ?_
          refine En_Ps 2 (pc' := 33) (lv' := [(0, .ref 159)]) (st' := [.int ((y1 + ((Int32.ofInt 1)))), .ref 159]) rfl ?_
          refine En_top (addI rfl (by decide : (Int32.ofInt 1).toInt = 1) (by first | exact q_465ab79ac1 h6 | omega) (by first | exact q_1c9c6c18a7 h7 | omega)) (fun z324 h325 => ?_)
          refine En_put (j := 8) rfl rfl rfl tgz_159 (by decide +kernel) rfl (vI (l := 0) (u := 1600) (by decide +kernel) rfl (by first | exact q_35104ce9d3 h325 h6 | omega) (by first | exact q_02c0cd8258 h325 h320 h15 | omega)) h3 h4 (by decide +kernel) (fun σ326 h327 h328 h329 h330 => ?_)
          have h331 := BL_go (y := y1.toInt) (z := z324.toInt) hT (by omega) (by omega) (by omega) h10
          refine En_Ps 1 (pc' := 0) (lv' := [(0, .ref 159)]) (st' := []) rfl ?_
          exact ih0 σ326 z324 h327 h328 h329 (by first | exact q_35104ce9d3 h325 h6 | omega) (by first | exact q_02c0cd8258 h325 h320 h15 | omega) (by first | exact q_3a5e225620 h8 h325 | omega) (by first | exact q_98eaa778fc h325 h9 | omega) (h331.1) (h331.2)
  exact key0 (Int.toNat (-f.toInt + 1600) + 1) σ0 f hσ0 hF0 h_f (by first | exact q_58e6e51dcc hl_f | omega) (by first | exact q_246f9048f8 hu_f | omega) (by first | exact q_1bb76abeaf | omega) (by first | exact toN_lt _ | omega) (rfl) (hf)
/-- DoorSchoolModel.isKnock(J)Z -/
abbrev P_259x (σ0 : SG) (a : Int64) (s : Int32) (sc : Int32) : PO := fun v σ => WT σ ∧ Fr [] σ0 σ ∧ ∃ ret : Int32, v = some (.int ret) ∧ -ret.toInt ≤ 0 ∧ ret.toInt - 1 ≤ 0 ∧ Imp (-ret.toInt + 1 ≤ 0) (-a.toInt ≤ 0 ∧ a.toInt - 15 ≤ 0) ∧ ((ret.toInt = 1 ∧ 0 < sc.toInt ∧ 0 ≤ a.toInt ∧ a.toInt < pI s.toInt) ∨ (ret.toInt = 0 ∧ (sc.toInt ≤ 0 ∨ a.toInt < 0 ∨ pI s.toInt ≤ a.toInt)))
set_option maxRecDepth 10000 in
set_option maxHeartbeats 4000000 in
theorem c_259x (σ0 : SG) (hσ0 : WT σ0) (a : Int64) (s : Int32) (h_s : (σ0 160)[(0 : Int).toNat]? = some (.int s)) (sc : Int32) (h_sc : (σ0 160)[(7 : Int).toNat]? = some (.int sc)) : En 2 40 none mr_259 (P_259x σ0 a s sc) 0 [(0, .ref 159), (1, .long a)] [] σ0 := by
  obtain ⟨hl_s, hu_s⟩ := WT_int hσ0 (g := 36) (by decide +kernel) (by decide +kernel) (l := 0) (u := 4) (by decide +kernel) h_s
  obtain ⟨hl_sc, hu_sc⟩ := WT_int hσ0 (g := 36) (by decide +kernel) (by decide +kernel) (l := 0) (u := 1600) (by decide +kernel) h_sc
  have hF0 : Fr [] σ0 σ0 := Fr_rfl
  have := kI_val sc.toInt s.toInt
  refine En_Ps 3 (pc' := 3) (lv' := [(0, .ref 159), (1, .long a)]) (st' := [.ref 159, .long ((Int64.ofNat 0)), .long a]) rfl ?_
  refine En_callV rfl rfl rfl rfl rfl rfl rfl rfl tgz_159 (by decide +kernel) rfl (c_269 σ0 hσ0 s h_s sc h_sc) (by decide) (by decide) (fun v2 σ3 h1 => ?_)
  obtain ⟨h4, h5, z7, rfl, h6⟩ := h1
  have h8 := h6.2.2
  have h9 := Fr_trans hF0 h5 (by decide +kernel)
  have h10 := h8
  refine En_Ps 2 (pc' := 8) (lv' := [(0, .ref 159), (1, .long a)]) (st' := [.int ((z7 - ((Int32.ofInt 1)))), .long ((Int64.ofNat 0)), .long a]) rfl ?_
  refine En_top (subI rfl (by decide : (Int32.ofInt 1).toInt = 1) (by first | exact q_89a3f9d69a h6.1 | omega) (by first | exact q_9b40fa289d h6.2.1 | omega)) (fun z11 h12 => ?_)
  refine En_Ps 1 (pc' := 9) (lv' := [(0, .ref 159), (1, .long a)]) (st' := [.long z11.toInt64, .long ((Int64.ofNat 0)), .long a]) rfl ?_
  have := (by decide : ((Int64.ofNat 0)).toInt = 0)
  have : z11.toInt64.toInt = z11.toInt := (i2lI rfl)
  refine En_callS rfl rfl rfl rfl rfl rfl rfl rfl rfl (c_249 σ3 h4 a ((Int64.ofNat 0)) z11.toInt64) (by decide) (by decide) (fun v14 σ15 h13 => ?_)
  obtain ⟨h16, h17, z19, rfl, h18⟩ := h13
  have h20 := Fr_trans h9 h17 (by decide +kernel)
  exact En_ret (v := some (.int z19)) rfl rfl (retZ rfl rfl (by first | exact q_ef1e8e38bf h18.1 | omega) (by first | exact q_733c8bfbae h18.2.1 | omega)) ⟨h16, h20, z19, rfl, ⟨by first | exact q_a555021d16 h18.1 | omega, by first | exact q_ad5b726bf8 h18.2.1 | omega, fun _ => by omega, (by omega)⟩⟩
/-- DoorSchoolModel.back(I)I -/
abbrev P_199x (σ0 : SG) (a : Int32) : PO := fun v σ => WT σ ∧ Fr [(36, 0)] σ0 σ ∧ ∃ ret : Int32, v = some (.int ret) ∧ -ret.toInt - 6 ≤ 0 ∧ ret.toInt ≤ 0 ∧ (WI σ ∧ BCK (ci σ0 162 a.toInt) a.toInt ret.toInt ∧ BKM σ0 σ a.toInt (ci σ0 162 a.toInt))
set_option maxRecDepth 10000 in
set_option maxHeartbeats 4000000 in
theorem c_199x (σ0 : SG) (hσ0 : WT σ0) (a : Int32) (hI : WI σ0) : En 1 25 none mr_199 (P_199x σ0 a) 0 [(0, .ref 159), (1, .int a)] [] σ0 := by
  have hF0 : Fr [(36, 0)] σ0 σ0 := Fr_rfl
  refine En_Ps 4 (pc' := 6) (lv' := [(0, .ref 159), (1, .int a)]) (st' := [.long ((2 : Int64)), .long ((Int64.ofNat 0)), .long a.toInt64]) rfl ?_
  have : a.toInt64.toInt = a.toInt := (i2lI rfl)
  have := (by decide : ((Int64.ofNat 0)).toInt = 0)
  have := (by decide : ((2 : Int64)).toInt = 2)
  refine En_callS rfl rfl rfl rfl rfl rfl rfl rfl rfl (c_249 σ0 hσ0 a.toInt64 ((Int64.ofNat 0)) ((2 : Int64))) (by decide) (by decide) (fun v2 σ3 h1 => ?_)
  obtain ⟨h4, h5, z7, rfl, h6⟩ := h1
  obtain rfl : σ0 = σ3 := Fr_nil h5
  refine En_iNe _ rfl rfl (fun h8 => ?_) (fun h8 => ?_)
  · refine En_Ps 1 (pc' := 16) (lv' := [(0, .ref 159), (1, .int a)]) (st' := [.ref 159]) rfl ?_
    refine En_getU (j := 3) (u := 162) (g' := 38) (q := 0) rfl rfl rfl tgz_159 (by decide +kernel) hσ0 (by decide +kernel) (by decide +kernel) (fun h9 => ?_)
    refine En_Ps 1 (pc' := 20) (lv' := [(0, .ref 159), (1, .int a)]) (st' := [.int a, .ref 162]) rfl ?_
    refine En_bald (l := 0) (u := 1) rfl rfl tgz_162 (by decide +kernel) hσ0 (by omega) (lnI (by decide +kernel : LN _ = 3) (by omega)) (FTsgl (by decide +kernel)) (fun z12 h11 h13 h14 => ?_)
    have h15 := ci_at h11 (rfl : a.toInt = a.toInt)
    refine En_iNe _ rfl rfl (fun h16 => ?_) (fun h16 => ?_)
    · refine En_Ps 2 (pc' := 29) (lv' := [(2, .int ((Int32.ofInt 0))), (0, .ref 159), (1, .int a)]) (st' := []) rfl ?_
      have key29 : ∀ (n29 : Nat) (σ18 : SG) (y17 : Int32), WT σ18 → Fr [(36, 0)] σ0 σ18 → (σ18 159)[3]? = some (.ref 162) → (σ18 162)[(a.toInt).toNat]? = some (.int z12) → 0 ≤ y17.toInt → y17.toInt ≤ 226 → -y17.toInt + 226 < (n29 : Int) → CPB σ0 σ18 a.toInt y17.toInt → En 1 25 none mr_199 (P_199x σ0 a) 29 [(0, .ref 159), (1, .int a), (2, .int y17)] [] σ18 := by
        intro n29
        induction n29 with
        | zero =>
          intro σ18 y17 h19 h20 h21 h22 h23 h24 h25 h26
          first | exact (q_93df7d31ea h25 h24).elim | (exfalso; omega)
        | succ n29 ih29 =>
          intro σ18 y17 h19 h20 h21 h22 h23 h24 h25 h26
          refine En_Ps 2 (pc' := 33) (lv' := [(0, .ref 159), (1, .int a), (2, .int y17)]) (st' := [.int (((Int16.ofInt 226).toInt32)), .int y17]) rfl ?_
          refine En_icGe _ rfl (by decide : ((Int16.ofInt 226).toInt32).toInt = 226) rfl (fun h27 => ?_) (fun h27 => ?_)
          · refine En_Ps 1 (pc' := 61) (lv' := [(0, .ref 159), (1, .int a), (2, .int y17)]) (st' := [.int ((Int32.ofInt 0))]) rfl ?_
            refine En_top (by decide : (Int32.ofInt 0).toInt = 0) (fun z28 h29 => ?_)
            exact En_ret (v := some (.int z28)) rfl rfl rfl ⟨h19, h20, z28, rfl, ⟨by first | exact q_49fb6350c2 h29 | omega, by first | exact q_c5d285f1b9 h29 | omega, ⟨CPB_x h26 (by omega) h20 (by decide +kernel) (by omega) (by omega) hI, BCK_0 (by omega) (by omega) (by omega) (by omega), BKM_ok h26 (by omega) (by omega) (by omega) (by omega)⟩⟩⟩
          · refine En_Ps 1 (pc' := 37) (lv' := [(0, .ref 159), (1, .int a), (2, .int y17)]) (st' := [.ref 159]) rfl ?_
            refine En_getU (j := 1) (u := 160) (g' := 36) (q := 0) rfl rfl rfl tgz_159 (by decide +kernel) h19 (by decide +kernel) (by decide +kernel) (fun h30 => ?_)
            refine En_Ps 2 (pc' := 42) (lv' := [(0, .ref 159), (1, .int a), (2, .int y17)]) (st' := [.ref 159, .int y17, .ref 160]) rfl ?_
            refine En_getU (j := 2) (u := 161) (g' := 37) (q := 0) rfl rfl rfl tgz_159 (by decide +kernel) h19 (by decide +kernel) (by decide +kernel) (fun h32 => ?_)
            refine En_Ps 3 (pc' := 50) (lv' := [(0, .ref 159), (1, .int a), (2, .int y17)]) (st' := [.int (((((Int16.ofInt 226).toInt32)) * a)), .ref 161, .int y17, .ref 160]) rfl ?_
            refine En_top (mulI (by decide : ((Int16.ofInt 226).toInt32).toInt = 226) rfl (Z := 226 * a.toInt) (by first | exact q_97a90f3e95 | omega) (by omega) (by omega)) (fun z34 h35 => ?_)
            refine En_Ps 2 (pc' := 52) (lv' := [(0, .ref 159), (1, .int a), (2, .int y17)]) (st' := [.int ((z34 + y17)), .ref 161, .int y17, .ref 160]) rfl ?_
            refine En_top (addI rfl rfl (by omega) (by omega)) (fun z36 h37 => ?_)
            refine En_ialdW (n := 678) rfl rfl tgz_161 (by decide +kernel) h19 (by omega) (by decide +kernel) (by omega) (by decide +kernel) (fun z38 h39 h40 => ?_)
            refine En_iastW (n := 226) rfl rfl tgz_160 (by decide +kernel) (by omega) (by decide +kernel) (by omega) (ft_iw h40 (by omega) (by omega) (k := a.toInt) (by omega) (by omega) (by omega)) h19 h20 (by decide +kernel) (fun σ41 h42 h43 h44 h45 => ?_)
            refine En_Ps 1 (pc' := 57) (lv' := [(2, .int ((y17 + Int32.ofInt 1))), (0, .ref 159), (1, .int a)]) (st' := []) rfl ?_
            refine En_lv1 (addI rfl (by decide : (Int32.ofInt 1).toInt = 1) (by first | exact q_465ab79ac1 h23 | omega) (by first | exact q_00ca1b1d9b h27 | omega)) (fun z46 h47 => ?_)
            refine En_Ps 1 (pc' := 29) (lv' := [(2, .int z46), (0, .ref 159), (1, .int a)]) (st' := []) rfl ?_
            refine En_lv (lv := [(0, .ref 159), (1, .int a), (2, .int z46)]) ⟨rfl, rfl, rfl, trivial⟩ ?_
            exact ih29 σ41 z46 h42 h43 ((h45 _ _ (Or.inl (neTG tgz_159 tgz_160 (by decide)))).trans h21) ((h45 _ _ (Or.inl (neTG tgz_162 tgz_160 (by decide)))).trans h22) (by first | exact q_35104ce9d3 h47 h23 | omega) (by first | exact q_5bd245720d h47 h27 | omega) (by first | exact q_6929b92474 h47 h25 | omega) (CPB_s h26 h20 (by decide +kernel) h39 h44 h45 (by omega) (by omega) (by omega))
      have := (by decide : (Int32.ofInt 0).toInt = 0)
      refine En_lv (lv := [(0, .ref 159), (1, .int a), (2, .int ((Int32.ofInt 0)))]) ⟨rfl, rfl, rfl, trivial⟩ ?_
      exact key29 (Int.toNat (226) + 1) σ0 ((Int32.ofInt 0)) hσ0 hF0 h9 h11 (by decide) (by decide) (by first | exact toN_lt _ | omega) (CPB_0 (by decide))
    · refine En_Ps 1 (pc' := 26) (lv' := [(0, .ref 159), (1, .int a)]) (st' := [.int (((Int8.ofInt (-6)).toInt32))]) rfl ?_
      refine En_top (by decide : ((Int8.ofInt (-6)).toInt32).toInt = -6) (fun z48 h49 => ?_)
      exact En_ret (v := some (.int z48)) rfl rfl rfl ⟨hσ0, hF0, z48, rfl, ⟨by first | exact q_597c727cce h49 | omega, by first | exact q_9bcb887de1 h49 | omega, ⟨hI, BCK_6 (by omega) (by omega) (by omega) (by omega), BKM_no (by omega)⟩⟩⟩
  · refine En_Ps 1 (pc' := 14) (lv' := [(0, .ref 159), (1, .int a)]) (st' := [.int (((Int8.ofInt (-2)).toInt32))]) rfl ?_
    refine En_top (by decide : ((Int8.ofInt (-2)).toInt32).toInt = -2) (fun z50 h51 => ?_)
    exact En_ret (v := some (.int z50)) rfl rfl rfl ⟨hσ0, hF0, z50, rfl, ⟨by first | exact q_2583522324 h51 | omega, by first | exact q_bbb39ffa1e h51 | omega, ⟨hI, BCK_2 (by omega) (by omega), BKM_no (by omega)⟩⟩⟩
/-- DoorSchoolModel.isCopied(I)Z -/
abbrev P_253x (σ0 : SG) (a : Int32) : PO := fun v σ => WT σ ∧ Fr [] σ0 σ ∧ ∃ ret : Int32, v = some (.int ret) ∧ -ret.toInt ≤ 0 ∧ ret.toInt - 1 ≤ 0 ∧ Imp (ret.toInt - 1 ≤ 0 ∧ -ret.toInt + 1 ≤ 0) (-a.toInt - 1 ≤ 0 ∧ a.toInt - 3 ≤ 0) ∧ ret.toInt = cpI (wf σ0) a.toInt
set_option maxRecDepth 10000 in
set_option maxHeartbeats 4000000 in
theorem c_253x (σ0 : SG) (hσ0 : WT σ0) (a : Int32) : En 1 22 none mr_253 (P_253x σ0 a) 0 [(0, .ref 159), (1, .int a)] [] σ0 := by
  have hF0 : Fr [] σ0 σ0 := Fr_rfl
  refine En_Ps 2 (pc' := 2) (lv' := [(2, .int ((Int32.ofInt 0))), (0, .ref 159), (1, .int a)]) (st' := []) rfl ?_
  have key2 : ∀ (n2 : Nat) (y1 : Int32), 0 ≤ y1.toInt → y1.toInt ≤ 4 → -y1.toInt + 4 < (n2 : Int) → NCw (wf σ0) a.toInt y1.toInt → En 1 22 none mr_253 (P_253x σ0 a) 2 [(0, .ref 159), (1, .int a), (2, .int y1)] [] σ0 := by
    intro n2
    induction n2 with
    | zero =>
      intro y1 h5 h6 h7 h8
      first | exact (q_20d6385c6f h7 h6).elim | (exfalso; omega)
    | succ n2 ih2 =>
      intro y1 h5 h6 h7 h8
      refine En_Ps 2 (pc' := 4) (lv' := [(0, .ref 159), (1, .int a), (2, .int y1)]) (st' := [.ref 159, .int y1]) rfl ?_
      refine En_getU (j := 1) (u := 160) (g' := 36) (q := 0) rfl rfl rfl tgz_159 (by decide +kernel) hσ0 (by decide +kernel) (by decide +kernel) (fun h9 => ?_)
      refine En_Ps 1 (pc' := 8) (lv' := [(0, .ref 159), (1, .int a), (2, .int y1)]) (st' := [.int ((Int32.ofInt 2)), .ref 160, .int y1]) rfl ?_
      refine En_iald (l := 0) (u := 4) rfl (by decide : (Int32.ofInt 2).toInt = 2) tgz_160 (by decide +kernel) hσ0 (by decide) (lnI (by decide +kernel : LN _ = 226) (by decide)) (by decide +kernel) (fun z12 h11 h13 h14 => ?_)
      have w15 : wf σ0 (2) = z12.toInt := ci_at h11 (by omega)
      refine En_icGe _ rfl rfl rfl (fun h16 => ?_) (fun h16 => ?_)
      · refine En_Ps 1 (pc' := 31) (lv' := [(0, .ref 159), (1, .int a), (2, .int y1)]) (st' := [.int ((Int32.ofInt 0))]) rfl ?_
        refine En_top (by decide : (Int32.ofInt 0).toInt = 0) (fun z17 h18 => ?_)
        exact En_ret (v := some (.int z17)) rfl rfl (retZ rfl rfl (by first | exact q_55451d0a83 h18 | omega) (by first | exact q_87849c3859 h18 | omega)) ⟨hσ0, hF0, z17, rfl, ⟨by first | exact q_097a37c2ae h18 | omega, by first | exact q_e269517bee h18 | omega, fun _ => by omega, CPw_n h8 (by omega) (by omega)⟩⟩
      · refine En_Ps 3 (pc' := 15) (lv' := [(0, .ref 159), (1, .int a), (2, .int y1)]) (st' := [.int ((Int32.ofInt 3)), .int y1, .ref 159]) rfl ?_
        have := (by decide : ((Int32.ofInt 3)).toInt = 3)
        obtain ⟨z19, h20, h21, h22⟩ := WT_peekJ (J := (4 * y1.toInt + ((Int32.ofInt 3)).toInt + 10)) (l := (-1)) (u := 3) hσ0 tgz_160 (by decide +kernel) (by omega) (lnI (by decide +kernel : LN _ = 226) (by omega)) (FTrow 36 13 4 4 (by decide +kernel) (by omega) (by omega) (by omega))
        have := (by decide : ((Int32.ofInt 3)).toInt = 3)
        refine En_callV rfl rfl rfl rfl rfl rfl rfl rfl tgz_159 (by decide +kernel) rfl (c_290d σ0 hσ0 y1 ((Int32.ofInt 3)) (geI rfl (by first | exact q_58e6e51dcc h5 | omega)) (leI rfl (by first | exact q_5ab2e90ecc h16 h14 | omega)) (geI (by decide : (Int32.ofInt 3).toInt = 3) (by decide)) (leI (by decide : (Int32.ofInt 3).toInt = 3) (by decide)) z19 h20) (by decide) (by decide) (fun v24 σ25 h23 => ?_)
        obtain ⟨h26, h27, z29, rfl, h28⟩ := h23
        obtain rfl : σ0 = σ25 := Fr_nil h27
        refine En_Ps 1 (pc' := 19) (lv' := [(0, .ref 159), (1, .int a), (2, .int y1)]) (st' := [.int a, .int z29]) rfl ?_
        have w30 : wf σ0 (13 + 4 * y1.toInt) = z19.toInt := ci_at h20 (by omega)
        refine En_icNe _ rfl rfl rfl (fun h31 => ?_) (fun h31 => ?_)
        · refine En_Ps 1 (pc' := 27) (lv' := [(2, .int ((y1 + Int32.ofInt 1))), (0, .ref 159), (1, .int a)]) (st' := []) rfl ?_
          refine En_lv1 (addI rfl (by decide : (Int32.ofInt 1).toInt = 1) (by first | exact q_465ab79ac1 h5 | omega) (by first | exact q_f7282962fd h6 | omega)) (fun z32 h33 => ?_)
          refine En_Ps 1 (pc' := 2) (lv' := [(2, .int z32), (0, .ref 159), (1, .int a)]) (st' := []) rfl ?_
          refine En_lv (lv := [(0, .ref 159), (1, .int a), (2, .int z32)]) ⟨rfl, rfl, rfl, trivial⟩ ?_
          exact ih2 z32 (by first | exact q_35104ce9d3 h33 h5 | omega) (by first | exact q_de42116b63 h33 h16 h14 | omega) (by first | exact q_3d8d70ace2 h33 h7 | omega) (NCw_s (y := y1.toInt) h8 (by have q0 := w30; rw [show (13 : Int) + 4 * y1.toInt = 13 + 4 * y1.toInt by omega, q0]; omega) (by omega))
        · refine En_Ps 1 (pc' := 23) (lv' := [(0, .ref 159), (1, .int a), (2, .int y1)]) (st' := [.int ((Int32.ofInt 1))]) rfl ?_
          refine En_top (by decide : (Int32.ofInt 1).toInt = 1) (fun z34 h35 => ?_)
          exact En_ret (v := some (.int z34)) rfl rfl (retZ rfl rfl (by first | exact q_2b07c97645 h35 | omega) (by first | exact q_d9e7cbb253 h35 | omega)) ⟨hσ0, hF0, z34, rfl, ⟨by first | exact q_ad3eee31ca h35 | omega, by first | exact q_81cf297dc4 h35 | omega, fun hh => by first | exact ⟨q_b340b46ac0 h31 h28.1, q_df5159a1fd h31 h28.2.1⟩ | omega, CPw_1 (y := y1.toInt) (by omega) (by omega) (by omega) (by rw [show (13 : Int) + 4 * y1.toInt = 13 + 4 * y1.toInt by omega, w30]; omega) (by omega)⟩⟩
  have := (by decide : (Int32.ofInt 0).toInt = 0)
  refine En_lv (lv := [(0, .ref 159), (1, .int a), (2, .int ((Int32.ofInt 0)))]) ⟨rfl, rfl, rfl, trivial⟩ ?_
  exact key2 (Int.toNat (4) + 1) ((Int32.ofInt 0)) (by decide) (by decide) (by first | exact toN_lt _ | omega) (fun q q0 q1 => by omega)
/-- DoorSchoolModel.copy(II)I -/
abbrev P_205x (σ0 : SG) (a : Int32) (b : Int32) : PO := fun v σ => WT σ ∧ Fr [(36, 0)] σ0 σ ∧ ∃ ret : Int32, v = some (.int ret) ∧ -ret.toInt - 5 ≤ 0 ∧ ret.toInt - 3 ≤ 0 ∧ (SAM (wf σ0) (wf σ) ∧ (∀ i : Int, 0 ≤ i → i < 226 → wf σ i = cyW (wf σ0) a.toInt b.toInt i))
set_option maxRecDepth 10000 in
set_option maxHeartbeats 4000000 in
theorem c_205x (σ0 : SG) (hσ0 : WT σ0) (a : Int32) (b : Int32) (hT : TWN (wf σ0)) : En 2 46 none mr_205 (P_205x σ0 a b) 0 [(0, .ref 159), (1, .int a), (2, .int b)] [] σ0 := by
  have hF0 : Fr [(36, 0)] σ0 σ0 := Fr_rfl
  refine En_Ps 2 (pc' := 2) (lv' := [(0, .ref 159), (1, .int a), (2, .int b)]) (st' := [.int a, .ref 159]) rfl ?_
  obtain ⟨z2, h1, h3, h4⟩ := WT_peekI hσ0 tgz_160 (by decide +kernel : FT 36 (2 : Int).toNat = (0, 0, 4)) (by decide +kernel)
  refine En_callV rfl rfl rfl rfl rfl rfl rfl rfl tgz_159 (by decide +kernel) rfl (c_254 σ0 hσ0 a z2 h1) (by decide) (by decide) (fun v6 σ7 h5 => ?_)
  obtain ⟨h8, h9, z11, rfl, h10⟩ := h5
  obtain rfl : σ0 = σ7 := Fr_nil h9
  have w12 : wf σ0 (2) = z2.toInt := ci_at h1 (by omega)
  refine En_iEq _ rfl rfl (fun h13 => ?_) (fun h13 => ?_)
  · refine En_Ps 1 (pc' := 28) (lv' := [(0, .ref 159), (1, .int a), (2, .int b)]) (st' := [.int (((Int8.ofInt (-2)).toInt32))]) rfl ?_
    refine En_top (by decide : ((Int8.ofInt (-2)).toInt32).toInt = -2) (fun z14 h15 => ?_)
    exact En_ret (v := some (.int z14)) rfl rfl rfl ⟨hσ0, hF0, z14, rfl, ⟨by first | exact q_f1982a04c6 h15 | omega, by first | exact q_09eb541a79 h15 | omega, ⟨fun _ _ => rfl, cyMn (by omega)⟩⟩⟩
  · refine En_Ps 2 (pc' := 10) (lv' := [(0, .ref 159), (1, .int a), (2, .int b)]) (st' := [.int ((Int32.ofInt (-1))), .int b]) rfl ?_
    refine En_icEq _ rfl (by decide : (Int32.ofInt (-1)).toInt = -1) rfl (fun h16 => ?_) (fun h16 => ?_)
    · refine En_Ps 2 (pc' := 23) (lv' := [(0, .ref 159), (1, .int a), (2, .int b)]) (st' := [.int b, .int a]) rfl ?_
      refine En_icNe _ rfl rfl rfl (fun h17 => ?_) (fun hx => by exfalso; omega)
      refine En_Ps 2 (pc' := 31) (lv' := [(0, .ref 159), (1, .int a), (2, .int b)]) (st' := [.int ((Int32.ofInt (-1))), .int b]) rfl ?_
      refine En_icEq _ rfl (by decide : (Int32.ofInt (-1)).toInt = -1) rfl (fun h18 => ?_) (fun hx => by first | exact (q_9d3c087e80 hx h16).elim | (exfalso; omega))
      refine En_Ps 3 (pc' := 58) (lv' := [(0, .ref 159), (1, .int a), (2, .int b)]) (st' := [.int ((Int32.ofInt 3)), .int a, .ref 159]) rfl ?_
      have := (by decide : ((Int32.ofInt 3)).toInt = 3)
      obtain ⟨z19, h20, h21, h22⟩ := WT_peekJ (J := (4 * a.toInt + ((Int32.ofInt 3)).toInt + 10)) (l := (-1)) (u := 3) hσ0 tgz_160 (by decide +kernel) (by omega) (lnI (by decide +kernel : LN _ = 226) (by omega)) (FTrow 36 13 4 4 (by decide +kernel) (by omega) (by omega) (by omega))
      have := (by decide : ((Int32.ofInt 3)).toInt = 3)
      refine En_callV rfl rfl rfl rfl rfl rfl rfl rfl tgz_159 (by decide +kernel) rfl (c_290d σ0 hσ0 a ((Int32.ofInt 3)) (geI rfl (by omega)) (leI rfl (by omega)) (geI (by decide : (Int32.ofInt 3).toInt = 3) (by decide)) (leI (by decide : (Int32.ofInt 3).toInt = 3) (by decide)) z19 h20) (by decide) (by decide) (fun v24 σ25 h23 => ?_)
      obtain ⟨h26, h27, z29, rfl, h28⟩ := h23
      obtain rfl : σ0 = σ25 := Fr_nil h27
      refine En_Ps 2 (pc' := 63) (lv' := [(3, .int z29), (0, .ref 159), (1, .int a), (2, .int b)]) (st' := [.ref 159]) rfl ?_
      refine En_getU (j := 1) (u := 160) (g' := 36) (q := 0) rfl rfl rfl tgz_159 (by decide +kernel) hσ0 (by decide +kernel) (by decide +kernel) (fun h30 => ?_)
      refine En_Ps 4 (pc' := 71) (lv' := [(3, .int z29), (0, .ref 159), (1, .int a), (2, .int b)]) (st' := [.int ((((Int32.ofInt 4)) * a)), .int (((Int8.ofInt 10).toInt32)), .ref 160]) rfl ?_
      refine En_top (mulI (by decide : (Int32.ofInt 4).toInt = 4) rfl (Z := 4 * a.toInt) (by first | exact q_8696eb12a7 | omega) (by omega) (by omega)) (fun z32 h33 => ?_)
      refine En_Ps 1 (pc' := 72) (lv' := [(3, .int z29), (0, .ref 159), (1, .int a), (2, .int b)]) (st' := [.int (((((Int8.ofInt 10).toInt32)) + z32)), .ref 160]) rfl ?_
      refine En_top (addI (by decide : ((Int8.ofInt 10).toInt32).toInt = 10) rfl (by omega) (by omega)) (fun z34 h35 => ?_)
      refine En_Ps 2 (pc' := 74) (lv' := [(3, .int z29), (0, .ref 159), (1, .int a), (2, .int b)]) (st' := [.int ((z34 + ((Int32.ofInt 3)))), .ref 160]) rfl ?_
      refine En_top (addI rfl (by decide : (Int32.ofInt 3).toInt = 3) (by omega) (by omega)) (fun z36 h37 => ?_)
      refine En_Ps 1 (pc' := 75) (lv' := [(3, .int z29), (0, .ref 159), (1, .int a), (2, .int b)]) (st' := [.int b, .int z36, .ref 160]) rfl ?_
      have w38 : wf σ0 (13 + 4 * a.toInt) = z19.toInt := ci_at h20 (by omega)
      refine En_iast (l := (-1)) (u := 3) rfl rfl tgz_160 (by decide +kernel) (by omega) (lnI (by decide +kernel : LN _ = 226) (by omega)) (FTrow 36 13 4 4 (by decide +kernel) (by omega) (by omega) (by first | exact q_090c32d68c h33 h35 h37 | omega)) (rngI rfl (by first | exact q_2252655278 h16 | omega) (by first | exact q_c8445ed0b4 h16 | omega)) hσ0 hF0 (by decide +kernel) (fun σ39 h40 h41 h42 h43 => ?_)
      refine En_Ps 1 (pc' := 77) (lv' := [(3, .int z29), (0, .ref 159), (1, .int a), (2, .int b)]) (st' := [.int z29]) rfl ?_
      exact En_ret (v := some (.int z29)) rfl rfl rfl ⟨h40, h41, z29, rfl, ⟨by first | exact q_7a76f1b347 h28.1 | omega, by first | exact q_c733b715bf h28.2.1 | omega, ⟨fun i hi => (by rw [show wf _ i = ci _ 160 i from rfl, ci_st h42 h43 (by omega) i (by omega), if_neg (by omega)]; rfl), cyM hT (by omega) (fun i hi => (by rw [show wf _ i = ci _ 160 i from rfl, ci_st h42 h43 (by omega) i hi]; rfl)) (by omega) (by omega) (by omega) (by omega) (by omega) rfl⟩⟩⟩
    · refine En_Ps 2 (pc' := 15) (lv' := [(0, .ref 159), (1, .int a), (2, .int b)]) (st' := [.int b, .ref 159]) rfl ?_
      refine En_callV rfl rfl rfl rfl rfl rfl rfl rfl tgz_159 (by decide +kernel) rfl (c_254 σ0 hσ0 b z2 h1) (by decide) (by decide) (fun v45 σ46 h44 => ?_)
      obtain ⟨h47, h48, z50, rfl, h49⟩ := h44
      obtain rfl : σ0 = σ46 := Fr_nil h48
      refine En_iEq _ rfl rfl (fun h51 => ?_) (fun h51 => ?_)
      · refine En_Ps 1 (pc' := 28) (lv' := [(0, .ref 159), (1, .int a), (2, .int b)]) (st' := [.int (((Int8.ofInt (-2)).toInt32))]) rfl ?_
        refine En_top (by decide : ((Int8.ofInt (-2)).toInt32).toInt = -2) (fun z52 h53 => ?_)
        exact En_ret (v := some (.int z52)) rfl rfl rfl ⟨hσ0, hF0, z52, rfl, ⟨by first | exact q_f1982a04c6 h53 | omega, by first | exact q_09eb541a79 h53 | omega, ⟨fun _ _ => rfl, cyMn (by omega)⟩⟩⟩
      · refine En_Ps 2 (pc' := 23) (lv' := [(0, .ref 159), (1, .int a), (2, .int b)]) (st' := [.int b, .int a]) rfl ?_
        refine En_icNe _ rfl rfl rfl (fun h54 => ?_) (fun h54 => ?_)
        · refine En_Ps 2 (pc' := 31) (lv' := [(0, .ref 159), (1, .int a), (2, .int b)]) (st' := [.int ((Int32.ofInt (-1))), .int b]) rfl ?_
          refine En_icEq _ rfl (by decide : (Int32.ofInt (-1)).toInt = -1) rfl (fun hx => by exfalso; omega) (fun h55 => ?_)
          refine En_Ps 3 (pc' := 37) (lv' := [(0, .ref 159), (1, .int a), (2, .int b)]) (st' := [.int ((Int32.ofInt 3)), .int b, .ref 159]) rfl ?_
          have := (by decide : ((Int32.ofInt 3)).toInt = 3)
          obtain ⟨z56, h57, h58, h59⟩ := WT_peekJ (J := (4 * b.toInt + ((Int32.ofInt 3)).toInt + 10)) (l := (-1)) (u := 3) hσ0 tgz_160 (by decide +kernel) (by omega) (lnI (by decide +kernel : LN _ = 226) (by omega)) (FTrow 36 13 4 4 (by decide +kernel) (by omega) (by omega) (by omega))
          have := (by decide : ((Int32.ofInt 3)).toInt = 3)
          refine En_callV rfl rfl rfl rfl rfl rfl rfl rfl tgz_159 (by decide +kernel) rfl (c_290d σ0 hσ0 b ((Int32.ofInt 3)) (geI rfl (by omega)) (leI rfl (by omega)) (geI (by decide : (Int32.ofInt 3).toInt = 3) (by decide)) (leI (by decide : (Int32.ofInt 3).toInt = 3) (by decide)) z56 h57) (by decide) (by decide) (fun v61 σ62 h60 => ?_)
          obtain ⟨h63, h64, z66, rfl, h65⟩ := h60
          obtain rfl : σ0 = σ62 := Fr_nil h64
          refine En_Ps 1 (pc' := 41) (lv' := [(0, .ref 159), (1, .int a), (2, .int b)]) (st' := [.int ((Int32.ofInt (-1))), .int z66]) rfl ?_
          have w67 : wf σ0 (13 + 4 * b.toInt) = z56.toInt := ci_at h57 (by omega)
          refine En_icNe _ rfl (by decide : (Int32.ofInt (-1)).toInt = -1) rfl (fun h68 => ?_) (fun h68 => ?_)
          · refine En_Ps 1 (pc' := 54) (lv' := [(0, .ref 159), (1, .int a), (2, .int b)]) (st' := [.int (((Int8.ofInt (-5)).toInt32))]) rfl ?_
            refine En_top (by decide : ((Int8.ofInt (-5)).toInt32).toInt = -5) (fun z69 h70 => ?_)
            exact En_ret (v := some (.int z69)) rfl rfl rfl ⟨hσ0, hF0, z69, rfl, ⟨by first | exact q_715ce6bb90 h70 | omega, by first | exact q_08e77983b4 h70 | omega, ⟨fun _ _ => rfl, cyMn (by omega)⟩⟩⟩
          · refine En_Ps 2 (pc' := 46) (lv' := [(0, .ref 159), (1, .int a), (2, .int b)]) (st' := [.int a, .ref 159]) rfl ?_
            refine En_callV rfl rfl rfl rfl rfl rfl rfl rfl tgz_159 (by decide +kernel) rfl (c_253x σ0 hσ0 a) (by decide) (by decide) (fun v72 σ73 h71 => ?_)
            obtain ⟨h74, h75, z77, rfl, h76⟩ := h71
            have h78 := h76.2.2.2
            obtain rfl : σ0 = σ73 := Fr_nil h75
            have h79 : z77.toInt = cpI (wf σ0) a.toInt := h78
            refine En_iEq _ rfl rfl (fun h80 => ?_) (fun h80 => ?_)
            · refine En_Ps 3 (pc' := 58) (lv' := [(0, .ref 159), (1, .int a), (2, .int b)]) (st' := [.int ((Int32.ofInt 3)), .int a, .ref 159]) rfl ?_
              have := (by decide : ((Int32.ofInt 3)).toInt = 3)
              obtain ⟨z81, h82, h83, h84⟩ := WT_peekJ (J := (4 * a.toInt + ((Int32.ofInt 3)).toInt + 10)) (l := (-1)) (u := 3) hσ0 tgz_160 (by decide +kernel) (by omega) (lnI (by decide +kernel : LN _ = 226) (by omega)) (FTrow 36 13 4 4 (by decide +kernel) (by omega) (by omega) (by omega))
              have := (by decide : ((Int32.ofInt 3)).toInt = 3)
              refine En_callV rfl rfl rfl rfl rfl rfl rfl rfl tgz_159 (by decide +kernel) rfl (c_290d σ0 hσ0 a ((Int32.ofInt 3)) (geI rfl (by omega)) (leI rfl (by omega)) (geI (by decide : (Int32.ofInt 3).toInt = 3) (by decide)) (leI (by decide : (Int32.ofInt 3).toInt = 3) (by decide)) z81 h82) (by decide) (by decide) (fun v86 σ87 h85 => ?_)
              obtain ⟨h88, h89, z91, rfl, h90⟩ := h85
              obtain rfl : σ0 = σ87 := Fr_nil h89
              refine En_Ps 2 (pc' := 63) (lv' := [(3, .int z91), (0, .ref 159), (1, .int a), (2, .int b)]) (st' := [.ref 159]) rfl ?_
              refine En_getU (j := 1) (u := 160) (g' := 36) (q := 0) rfl rfl rfl tgz_159 (by decide +kernel) hσ0 (by decide +kernel) (by decide +kernel) (fun h92 => ?_)
              refine En_Ps 4 (pc' := 71) (lv' := [(3, .int z91), (0, .ref 159), (1, .int a), (2, .int b)]) (st' := [.int ((((Int32.ofInt 4)) * a)), .int (((Int8.ofInt 10).toInt32)), .ref 160]) rfl ?_
              refine En_top (mulI (by decide : (Int32.ofInt 4).toInt = 4) rfl (Z := 4 * a.toInt) (by first | exact q_8696eb12a7 | omega) (by omega) (by omega)) (fun z94 h95 => ?_)
              refine En_Ps 1 (pc' := 72) (lv' := [(3, .int z91), (0, .ref 159), (1, .int a), (2, .int b)]) (st' := [.int (((((Int8.ofInt 10).toInt32)) + z94)), .ref 160]) rfl ?_
              refine En_top (addI (by decide : ((Int8.ofInt 10).toInt32).toInt = 10) rfl (by omega) (by omega)) (fun z96 h97 => ?_)
              refine En_Ps 2 (pc' := 74) (lv' := [(3, .int z91), (0, .ref 159), (1, .int a), (2, .int b)]) (st' := [.int ((z96 + ((Int32.ofInt 3)))), .ref 160]) rfl ?_
              refine En_top (addI rfl (by decide : (Int32.ofInt 3).toInt = 3) (by omega) (by omega)) (fun z98 h99 => ?_)
              refine En_Ps 1 (pc' := 75) (lv' := [(3, .int z91), (0, .ref 159), (1, .int a), (2, .int b)]) (st' := [.int b, .int z98, .ref 160]) rfl ?_
              have w100 : wf σ0 (13 + 4 * a.toInt) = z81.toInt := ci_at h82 (by omega)
              refine En_iast (l := (-1)) (u := 3) rfl rfl tgz_160 (by decide +kernel) (by omega) (lnI (by decide +kernel : LN _ = 226) (by omega)) (FTrow 36 13 4 4 (by decide +kernel) (by omega) (by omega) (by first | exact q_090c32d68c h95 h97 h99 | omega)) (rngI rfl (by omega) (by omega)) hσ0 hF0 (by decide +kernel) (fun σ101 h102 h103 h104 h105 => ?_)
              refine En_Ps 1 (pc' := 77) (lv' := [(3, .int z91), (0, .ref 159), (1, .int a), (2, .int b)]) (st' := [.int z91]) rfl ?_
              exact En_ret (v := some (.int z91)) rfl rfl rfl ⟨h102, h103, z91, rfl, ⟨by first | exact q_7a76f1b347 h90.1 | omega, by first | exact q_c733b715bf h90.2.1 | omega, ⟨fun i hi => (by rw [show wf _ i = ci _ 160 i from rfl, ci_st h104 h105 (by omega) i (by omega), if_neg (by omega)]; rfl), cyM hT (by omega) (fun i hi => (by rw [show wf _ i = ci _ 160 i from rfl, ci_st h104 h105 (by omega) i hi]; rfl)) (by omega) (by omega) (by omega) (by omega) (by omega) rfl⟩⟩⟩
            · have h106 := Imp_m h76.2.2.1 (by first | exact ⟨q_ad5b726bf8 h76.2.1, q_e3350da514 h80 h76.1⟩ | omega)
              refine En_Ps 1 (pc' := 54) (lv' := [(0, .ref 159), (1, .int a), (2, .int b)]) (st' := [.int (((Int8.ofInt (-5)).toInt32))]) rfl ?_
              refine En_top (by decide : ((Int8.ofInt (-5)).toInt32).toInt = -5) (fun z107 h108 => ?_)
              exact En_ret (v := some (.int z107)) rfl rfl rfl ⟨hσ0, hF0, z107, rfl, ⟨by first | exact q_715ce6bb90 h108 | omega, by first | exact q_08e77983b4 h108 | omega, ⟨fun _ _ => rfl, cyMn (by omega)⟩⟩⟩
        · refine En_Ps 1 (pc' := 28) (lv' := [(0, .ref 159), (1, .int a), (2, .int b)]) (st' := [.int (((Int8.ofInt (-2)).toInt32))]) rfl ?_
          refine En_top (by decide : ((Int8.ofInt (-2)).toInt32).toInt = -2) (fun z109 h110 => ?_)
          exact En_ret (v := some (.int z109)) rfl rfl rfl ⟨hσ0, hF0, z109, rfl, ⟨by first | exact q_f1982a04c6 h110 | omega, by first | exact q_09eb541a79 h110 | omega, ⟨fun _ _ => rfl, cyMn (by omega)⟩⟩⟩
/-- DoorSchoolModel.is(Ljava/lang/String;)Z -/
abbrev P_251gx (iL : Nat) (σ0 : SG) (By : Int → Int) (Nb : Int) (Sp : PS) : PO := fun v σ => WT σ ∧ Fr [] σ0 σ ∧ ∃ ret : Int32, v = some (.int ret) ∧ -ret.toInt ≤ 0 ∧ ret.toInt - 1 ≤ 0 ∧ ret.toInt = iW By Nb iL Sp
set_option maxRecDepth 10000 in
set_option maxHeartbeats 4000000 in
theorem c_251gx (iL nL : Nat) (gn : (decide (iL < NSTR) && decide (LENS.getD iL 0 = nL)) = true) (gN : (Int32.ofNat nL).toInt = (nL : Int)) (gL : (LW iL).length = nL) (g1 : 1 ≤ nL) (g9 : nL ≤ 20) {By : Int → Int} {Nb : Int} {Sp : PS} (σ0 : SG) (hσ0 : WT σ0) (hM : ML By Nb σ0 Sp) : En 4 90 none mr_251 (P_251gx iL σ0 By Nb Sp) 0 [(0, .ref 159), (1, .retAddr (2 * iL + 1))] [] σ0 := by
  have hF0 : Fr [] σ0 σ0 := Fr_rfl
  obtain ⟨z2, h1, h3, h4⟩ := WT_peekI hσ0 tgz_159 (by decide +kernel : FT 35 12 = (0, 0, 3)) (by decide +kernel)
  obtain ⟨z6, h5, h7, h8⟩ := WT_peekI hσ0 tgz_159 (by decide +kernel : FT 35 10 = (0, 0, 4)) (by decide +kernel)
  obtain ⟨z10, h9, h11, h12⟩ := WT_peekI hσ0 tgz_159 (by decide +kernel : FT 35 8 = (0, 0, 1600)) (by decide +kernel)
  obtain ⟨z14, h13, h15, h16⟩ := WT_peekI hσ0 tgz_159 (by decide +kernel : FT 35 9 = (0, 0, 1600)) (by decide +kernel)
  have h17 := ML_k hM h1
  have h18 : Imp (Sp.1 = 0) (tK By Nb Sp.2.2.1 = z6.toInt) := ML_t hM h5
  have h19 := ML_fa hM h9 h13
  refine En_Ps 1 (pc' := 1) (lv' := [(0, .ref 159), (1, .retAddr (2 * iL + 1))]) (st' := [.ref 159]) rfl ?_
  refine En_callV rfl rfl rfl rfl rfl rfl rfl rfl tgz_159 (by decide +kernel) rfl (c_237 σ0 hσ0 z2 h1) (by decide) (by decide) (fun v21 σ22 h20 => ?_)
  obtain ⟨h23, h24, z26, rfl, h25⟩ := h20
  obtain rfl : σ0 = σ22 := Fr_nil h24
  refine En_iEq _ rfl rfl (fun h27 => ?_) (fun h27 => ?_)
  · refine En_Ps 4 (pc' := 39) (lv' := [(3, .int ((Int32.ofInt 0))), (2, .int ((Int32.ofInt 0))), (0, .ref 159), (1, .retAddr (2 * iL + 1))]) (st' := []) rfl ?_
    have key39 : ∀ (n39 : Nat) (σ30 : SG) (y28 : Int32) (y29 : Int32), WT σ30 → Fr [] σ0 σ30 → (σ30 159)[12]? = some (.int z2) → (σ30 159)[10]? = some (.int z6) → (σ30 159)[8]? = some (.int z10) → (σ30 159)[9]? = some (.int z14) → 0 ≤ y28.toInt → y28.toInt ≤ 0 → 0 ≤ y29.toInt → y29.toInt ≤ 0 → z2.toInt - y28.toInt < (n39 : Int) → ISQ By Nb iL Sp y28.toInt y29.toInt → En 4 90 none mr_251 (P_251gx iL σ0 By Nb Sp) 39 [(0, .ref 159), (1, .retAddr (2 * iL + 1)), (2, .int y28), (3, .int y29)] [] σ30 := by
      intro n39
      induction n39 with
      | zero =>
        intro σ30 y28 y29 h31 h32 h33 h34 h35 h36 h37 h38 h39 h40 h41 h42
        exfalso; omega
      | succ n39 ih39 =>
        intro σ30 y28 y29 h31 h32 h33 h34 h35 h36 h37 h38 h39 h40 h41 h42
        refine En_Ps 2 (pc' := 41) (lv' := [(0, .ref 159), (1, .retAddr (2 * iL + 1)), (2, .int y28), (3, .int y29)]) (st' := [.retAddr (2 * iL + 1), .int y29]) rfl ?_
        refine En_slen iL nL rfl rfl gn rfl ?_
        refine En_icGe _ rfl gN rfl (fun hx => by exfalso; omega) (fun h43 => ?_)
        refine En_Ps 1 (pc' := 48) (lv' := [(0, .ref 159), (1, .retAddr (2 * iL + 1)), (2, .int y28), (3, .int y29)]) (st' := [.int y28]) rfl ?_
        refine En_iEq _ rfl rfl (fun h44 => ?_) (fun hx => by exfalso; omega)
        refine En_Ps 1 (pc' := 83) (lv' := [(0, .ref 159), (1, .retAddr (2 * iL + 1)), (2, .int y28), (3, .int y29)]) (st' := [.int y28]) rfl ?_
        exact En_ret (v := some (.int y28)) rfl rfl (retZ rfl rfl (by omega) (by omega)) ⟨h31, h32, y28, rfl, ⟨by omega, by omega, ISQ_x h42 (by simp only [gL]; omega)⟩⟩
    have := (by decide : (Int32.ofInt 0).toInt = 0)
    have := (by decide : (Int32.ofInt 0).toInt = 0)
    refine En_lv (lv := [(0, .ref 159), (1, .retAddr (2 * iL + 1)), (2, .int ((Int32.ofInt 0))), (3, .int ((Int32.ofInt 0)))]) ⟨rfl, rfl, rfl, rfl, trivial⟩ ?_
    exact key39 (Int.toNat (z2.toInt) + 1) σ0 ((Int32.ofInt 0)) ((Int32.ofInt 0)) hσ0 hF0 h1 h5 h9 h13 (by omega) (by omega) (by omega) (by omega) (by omega) (ISQ_s (by decide) (by (try have i0 := Imp_m h18 (by omega)); simp only [gL]; omega))
  · refine En_Ps 1 (pc' := 8) (lv' := [(0, .ref 159), (1, .retAddr (2 * iL + 1))]) (st' := [.ref 159]) rfl ?_
    refine En_getK (j := 10) h5 rfl rfl rfl tgz_159 (by decide +kernel) ?_
    refine En_Ps 1 (pc' := 12) (lv' := [(0, .ref 159), (1, .retAddr (2 * iL + 1))]) (st' := [.int ((Int32.ofInt 1)), .int z6]) rfl ?_
    refine En_icNe _ rfl (by decide : (Int32.ofInt 1).toInt = 1) rfl (fun h45 => ?_) (fun h45 => ?_)
    · refine En_Ps 4 (pc' := 39) (lv' := [(3, .int ((Int32.ofInt 0))), (2, .int ((Int32.ofInt 0))), (0, .ref 159), (1, .retAddr (2 * iL + 1))]) (st' := []) rfl ?_
      have key39 : ∀ (n39 : Nat) (σ48 : SG) (y46 : Int32) (y47 : Int32), WT σ48 → Fr [] σ0 σ48 → (σ48 159)[12]? = some (.int z2) → (σ48 159)[10]? = some (.int z6) → (σ48 159)[8]? = some (.int z10) → (σ48 159)[9]? = some (.int z14) → 0 ≤ y46.toInt → y46.toInt ≤ 0 → 0 ≤ y47.toInt → y47.toInt ≤ 0 → z2.toInt - y46.toInt < (n39 : Int) → ISQ By Nb iL Sp y46.toInt y47.toInt → En 4 90 none mr_251 (P_251gx iL σ0 By Nb Sp) 39 [(0, .ref 159), (1, .retAddr (2 * iL + 1)), (2, .int y46), (3, .int y47)] [] σ48 := by
        intro n39
        induction n39 with
        | zero =>
          intro σ48 y46 y47 h49 h50 h51 h52 h53 h54 h55 h56 h57 h58 h59 h60
          exfalso; omega
        | succ n39 ih39 =>
          intro σ48 y46 y47 h49 h50 h51 h52 h53 h54 h55 h56 h57 h58 h59 h60
          refine En_Ps 2 (pc' := 41) (lv' := [(0, .ref 159), (1, .retAddr (2 * iL + 1)), (2, .int y46), (3, .int y47)]) (st' := [.retAddr (2 * iL + 1), .int y47]) rfl ?_
          refine En_slen iL nL rfl rfl gn rfl ?_
          refine En_icGe _ rfl gN rfl (fun hx => by exfalso; omega) (fun h61 => ?_)
          refine En_Ps 1 (pc' := 48) (lv' := [(0, .ref 159), (1, .retAddr (2 * iL + 1)), (2, .int y46), (3, .int y47)]) (st' := [.int y46]) rfl ?_
          refine En_iEq _ rfl rfl (fun h62 => ?_) (fun hx => by exfalso; omega)
          refine En_Ps 1 (pc' := 83) (lv' := [(0, .ref 159), (1, .retAddr (2 * iL + 1)), (2, .int y46), (3, .int y47)]) (st' := [.int y46]) rfl ?_
          exact En_ret (v := some (.int y46)) rfl rfl (retZ rfl rfl (by omega) (by omega)) ⟨h49, h50, y46, rfl, ⟨by omega, by omega, ISQ_x h60 (by simp only [gL]; omega)⟩⟩
      have := (by decide : (Int32.ofInt 0).toInt = 0)
      have := (by decide : (Int32.ofInt 0).toInt = 0)
      refine En_lv (lv := [(0, .ref 159), (1, .retAddr (2 * iL + 1)), (2, .int ((Int32.ofInt 0))), (3, .int ((Int32.ofInt 0)))]) ⟨rfl, rfl, rfl, rfl, trivial⟩ ?_
      exact key39 (Int.toNat (z2.toInt) + 1) σ0 ((Int32.ofInt 0)) ((Int32.ofInt 0)) hσ0 hF0 h1 h5 h9 h13 (by omega) (by omega) (by omega) (by omega) (by omega) (ISQ_s (by decide) (by (try have i0 := Imp_m h18 (by omega)); simp only [gL]; omega))
    · refine En_Ps 1 (pc' := 16) (lv' := [(0, .ref 159), (1, .retAddr (2 * iL + 1))]) (st' := [.ref 159]) rfl ?_
      refine En_getK (j := 8) h9 rfl rfl rfl tgz_159 (by decide +kernel) ?_
      refine En_Ps 1 (pc' := 20) (lv' := [(0, .ref 159), (1, .retAddr (2 * iL + 1))]) (st' := [.ref 159, .int z10]) rfl ?_
      refine En_getK (j := 9) h13 rfl rfl rfl tgz_159 (by decide +kernel) ?_
      refine En_Ps 1 (pc' := 24) (lv' := [(0, .ref 159), (1, .retAddr (2 * iL + 1))]) (st' := [.int ((z10 - z14))]) rfl ?_
      refine En_top (subI rfl rfl (by omega) (by omega)) (fun z63 h64 => ?_)
      refine En_Ps 1 (pc' := 25) (lv' := [(0, .ref 159), (1, .retAddr (2 * iL + 1))]) (st' := [.retAddr (2 * iL + 1), .int z63]) rfl ?_
      refine En_slen iL nL rfl rfl gn rfl ?_
      refine En_icNe _ rfl gN rfl (fun h65 => ?_) (fun h65 => ?_)
      · refine En_Ps 4 (pc' := 39) (lv' := [(3, .int ((Int32.ofInt 0))), (2, .int ((Int32.ofInt 0))), (0, .ref 159), (1, .retAddr (2 * iL + 1))]) (st' := []) rfl ?_
        have key39 : ∀ (n39 : Nat) (σ68 : SG) (y66 : Int32) (y67 : Int32), WT σ68 → Fr [] σ0 σ68 → (σ68 159)[12]? = some (.int z2) → (σ68 159)[10]? = some (.int z6) → (σ68 159)[8]? = some (.int z10) → (σ68 159)[9]? = some (.int z14) → 0 ≤ y66.toInt → y66.toInt ≤ 0 → 0 ≤ y67.toInt → y67.toInt ≤ 0 → z2.toInt - y66.toInt < (n39 : Int) → ISQ By Nb iL Sp y66.toInt y67.toInt → En 4 90 none mr_251 (P_251gx iL σ0 By Nb Sp) 39 [(0, .ref 159), (1, .retAddr (2 * iL + 1)), (2, .int y66), (3, .int y67)] [] σ68 := by
          intro n39
          induction n39 with
          | zero =>
            intro σ68 y66 y67 h69 h70 h71 h72 h73 h74 h75 h76 h77 h78 h79 h80
            exfalso; omega
          | succ n39 ih39 =>
            intro σ68 y66 y67 h69 h70 h71 h72 h73 h74 h75 h76 h77 h78 h79 h80
            refine En_Ps 2 (pc' := 41) (lv' := [(0, .ref 159), (1, .retAddr (2 * iL + 1)), (2, .int y66), (3, .int y67)]) (st' := [.retAddr (2 * iL + 1), .int y67]) rfl ?_
            refine En_slen iL nL rfl rfl gn rfl ?_
            refine En_icGe _ rfl gN rfl (fun hx => by exfalso; omega) (fun h81 => ?_)
            refine En_Ps 1 (pc' := 48) (lv' := [(0, .ref 159), (1, .retAddr (2 * iL + 1)), (2, .int y66), (3, .int y67)]) (st' := [.int y66]) rfl ?_
            refine En_iEq _ rfl rfl (fun h82 => ?_) (fun hx => by exfalso; omega)
            refine En_Ps 1 (pc' := 83) (lv' := [(0, .ref 159), (1, .retAddr (2 * iL + 1)), (2, .int y66), (3, .int y67)]) (st' := [.int y66]) rfl ?_
            exact En_ret (v := some (.int y66)) rfl rfl (retZ rfl rfl (by omega) (by omega)) ⟨h69, h70, y66, rfl, ⟨by omega, by omega, ISQ_x h80 (by simp only [gL]; omega)⟩⟩
        have := (by decide : (Int32.ofInt 0).toInt = 0)
        have := (by decide : (Int32.ofInt 0).toInt = 0)
        refine En_lv (lv := [(0, .ref 159), (1, .retAddr (2 * iL + 1)), (2, .int ((Int32.ofInt 0))), (3, .int ((Int32.ofInt 0)))]) ⟨rfl, rfl, rfl, rfl, trivial⟩ ?_
        exact key39 (Int.toNat (z2.toInt) + 1) σ0 ((Int32.ofInt 0)) ((Int32.ofInt 0)) hσ0 hF0 h1 h5 h9 h13 (by omega) (by omega) (by omega) (by omega) (by omega) (ISQ_s (by decide) (by (try have i0 := Imp_m h18 (by omega)); simp only [gL]; omega))
      · refine En_Ps 5 (pc' := 39) (lv' := [(3, .int ((Int32.ofInt 0))), (2, .int ((Int32.ofInt 1))), (0, .ref 159), (1, .retAddr (2 * iL + 1))]) (st' := []) rfl ?_
        have key39 : ∀ (n39 : Nat) (σ85 : SG) (y83 : Int32) (y84 : Int32), WT σ85 → Fr [] σ0 σ85 → (σ85 159)[12]? = some (.int z2) → (σ85 159)[10]? = some (.int z6) → (σ85 159)[8]? = some (.int z10) → (σ85 159)[9]? = some (.int z14) → 0 ≤ y83.toInt → y83.toInt ≤ 1 → 0 ≤ y84.toInt → y84.toInt ≤ nL → z10.toInt - y84.toInt < (n39 : Int) → ISQ By Nb iL Sp y83.toInt y84.toInt → En 4 90 none mr_251 (P_251gx iL σ0 By Nb Sp) 39 [(0, .ref 159), (1, .retAddr (2 * iL + 1)), (2, .int y83), (3, .int y84)] [] σ85 := by
          intro n39
          induction n39 with
          | zero =>
            intro σ85 y83 y84 h86 h87 h88 h89 h90 h91 h92 h93 h94 h95 h96 h97
            exfalso; omega
          | succ n39 ih39 =>
            intro σ85 y83 y84 h86 h87 h88 h89 h90 h91 h92 h93 h94 h95 h96 h97
            refine En_Ps 2 (pc' := 41) (lv' := [(0, .ref 159), (1, .retAddr (2 * iL + 1)), (2, .int y83), (3, .int y84)]) (st' := [.retAddr (2 * iL + 1), .int y84]) rfl ?_
            refine En_slen iL nL rfl rfl gn rfl ?_
            refine En_icGe _ rfl gN rfl (fun h98 => ?_) (fun h98 => ?_)
            · refine En_Ps 1 (pc' := 83) (lv' := [(0, .ref 159), (1, .retAddr (2 * iL + 1)), (2, .int y83), (3, .int y84)]) (st' := [.int y83]) rfl ?_
              exact En_ret (v := some (.int y83)) rfl rfl (retZ rfl rfl (by omega) (by omega)) ⟨h86, h87, y83, rfl, ⟨by omega, by omega, ISQ_x h97 (by simp only [gL]; omega)⟩⟩
            · refine En_Ps 1 (pc' := 48) (lv' := [(0, .ref 159), (1, .retAddr (2 * iL + 1)), (2, .int y83), (3, .int y84)]) (st' := [.int y83]) rfl ?_
              refine En_iEq _ rfl rfl (fun h99 => ?_) (fun h99 => ?_)
              · refine En_Ps 1 (pc' := 83) (lv' := [(0, .ref 159), (1, .retAddr (2 * iL + 1)), (2, .int y83), (3, .int y84)]) (st' := [.int y83]) rfl ?_
                exact En_ret (v := some (.int y83)) rfl rfl (retZ rfl rfl (by omega) (by omega)) ⟨h86, h87, y83, rfl, ⟨by omega, by omega, ISQ_x h97 (by simp only [gL]; omega)⟩⟩
              · refine En_Ps 1 (pc' := 52) (lv' := [(0, .ref 159), (1, .retAddr (2 * iL + 1)), (2, .int y83), (3, .int y84)]) (st' := [.ref 159]) rfl ?_
                refine En_getU (j := 4) (u := 163) (g' := 39) (q := 0) rfl rfl rfl tgz_159 (by decide +kernel) h86 (by decide +kernel) (by decide +kernel) (fun h100 => ?_)
                refine En_Ps 1 (pc' := 56) (lv' := [(0, .ref 159), (1, .retAddr (2 * iL + 1)), (2, .int y83), (3, .int y84)]) (st' := [.ref 159, .ref 163]) rfl ?_
                refine En_getK (j := 9) h91 rfl rfl rfl tgz_159 (by decide +kernel) ?_
                refine En_Ps 2 (pc' := 61) (lv' := [(0, .ref 159), (1, .retAddr (2 * iL + 1)), (2, .int y83), (3, .int y84)]) (st' := [.int ((z14 + y84)), .ref 163]) rfl ?_
                refine En_top (addI rfl rfl (by omega) (by omega)) (fun z102 h103 => ?_)
                refine En_bald (l := (-128)) (u := 127) rfl rfl tgz_163 (by decide +kernel) h86 (by omega) (lnI (by decide +kernel : LN _ = 1600) (by omega)) (FTsgl (by decide +kernel)) (fun z105 h104 h106 h107 => ?_)
                refine En_Ps 2 (pc' := 64) (lv' := [(0, .ref 159), (1, .retAddr (2 * iL + 1)), (2, .int y83), (3, .int y84)]) (st' := [.int y84, .retAddr (2 * iL + 1), .int z105]) rfl ?_
                refine En_scharX iL nL rfl rfl rfl gn (by omega) (by omega) rfl (fun z108 h109 h110 h111 => ?_)
                refine En_icNe _ rfl rfl rfl (fun h112 => ?_) (fun h112 => ?_)
                · refine En_Ps 3 (pc' := 79) (lv' := [(3, .int ((y84 + Int32.ofInt 1))), (2, .int ((Int32.ofInt 0))), (0, .ref 159), (1, .retAddr (2 * iL + 1))]) (st' := []) rfl ?_
                  refine En_lv1 (addI rfl (by decide : (Int32.ofInt 1).toInt = 1) (by omega) (by omega)) (fun z113 h114 => ?_)
                  refine En_Ps 1 (pc' := 39) (lv' := [(3, .int z113), (2, .int ((Int32.ofInt 0))), (0, .ref 159), (1, .retAddr (2 * iL + 1))]) (st' := []) rfl ?_
                  have := (by decide : (Int32.ofInt 0).toInt = 0)
                  refine En_lv (lv := [(0, .ref 159), (1, .retAddr (2 * iL + 1)), (2, .int ((Int32.ofInt 0))), (3, .int z113)]) ⟨rfl, rfl, rfl, rfl, trivial⟩ ?_
                  exact ih39 σ85 ((Int32.ofInt 0)) z113 h86 h87 h88 h89 h90 h91 (by omega) (by omega) (by omega) (by omega) (by omega) (ISQ_n (ML_fr hM h87 (by decide +kernel)) h97 (by omega) (by simp only [gL]; omega) (fun _ => by omega) h104 h111 (by omega) (by omega))
                · refine En_Ps 4 (pc' := 79) (lv' := [(3, .int ((y84 + Int32.ofInt 1))), (2, .int ((Int32.ofInt 1))), (0, .ref 159), (1, .retAddr (2 * iL + 1))]) (st' := []) rfl ?_
                  refine En_lv1 (addI rfl (by decide : (Int32.ofInt 1).toInt = 1) (by omega) (by omega)) (fun z115 h116 => ?_)
                  refine En_Ps 1 (pc' := 39) (lv' := [(3, .int z115), (2, .int ((Int32.ofInt 1))), (0, .ref 159), (1, .retAddr (2 * iL + 1))]) (st' := []) rfl ?_
                  have := (by decide : (Int32.ofInt 1).toInt = 1)
                  refine En_lv (lv := [(0, .ref 159), (1, .retAddr (2 * iL + 1)), (2, .int ((Int32.ofInt 1))), (3, .int z115)]) ⟨rfl, rfl, rfl, rfl, trivial⟩ ?_
                  exact ih39 σ85 ((Int32.ofInt 1)) z115 h86 h87 h88 h89 h90 h91 (by omega) (by omega) (by omega) (by omega) (by omega) (ISQ_n (ML_fr hM h87 (by decide +kernel)) h97 (by omega) (by simp only [gL]; omega) (fun _ => by omega) h104 h111 (by omega) (by omega))
        have := (by decide : (Int32.ofInt 1).toInt = 1)
        have := (by decide : (Int32.ofInt 0).toInt = 0)
        refine En_lv (lv := [(0, .ref 159), (1, .retAddr (2 * iL + 1)), (2, .int ((Int32.ofInt 1))), (3, .int ((Int32.ofInt 0)))]) ⟨rfl, rfl, rfl, rfl, trivial⟩ ?_
        exact key39 (Int.toNat (z10.toInt) + 1) σ0 ((Int32.ofInt 1)) ((Int32.ofInt 0)) hσ0 hF0 h1 h5 h9 h13 (by omega) (by omega) (by omega) (by omega) (by omega) (ISQ_s (by decide) (by (try have i0 := Imp_m h18 (by omega)); simp only [gL]; omega))

