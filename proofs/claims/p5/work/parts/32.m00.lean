/-- DoorSchoolModel.see(I)I -/
abbrev P_313ax (σ0 : SG) (By : Int → Int) (Nb : Int) (a : Int32) (n : Int32) : PO := fun v σ => WT σ ∧ Fr [] σ0 σ ∧ ∃ ret : Int32, v = some (.int ret) ∧ -ret.toInt - 1 ≤ 0 ∧ ret.toInt - 255 ≤ 0 ∧ Imp (-ret.toInt ≤ 0) (a.toInt - n.toInt + 1 ≤ 0) ∧ Imp (a.toInt - n.toInt + 1 ≤ 0) (-ret.toInt ≤ 0) ∧ ret.toInt = sN By Nb a.toInt
set_option maxRecDepth 10000 in
set_option maxHeartbeats 4000000 in
theorem c_313ax {By : Int → Int} {Nb : Int} (σ0 : SG) (hσ0 : WT σ0) (a : Int32) (hl_a : 0 ≤ a.toInt) (hu_a : a.toInt ≤ 1600) (n : Int32) (h_n : (σ0 159)[7]? = some (.int n)) (hT : TPm By Nb σ0) : En 0 0 none mr_313 (P_313ax σ0 By Nb a n) 0 [(0, .ref 159), (1, .int a)] [] σ0 := by
  obtain ⟨hl_n, hu_n⟩ := WT_int hσ0 (g := 35) (by decide +kernel) (by decide +kernel) (l := 0) (u := 1600) (by decide +kernel) h_n
  have hF0 : Fr [] σ0 σ0 := Fr_rfl
  refine En_Ps 2 (pc' := 2) (lv' := [(0, .ref 159), (1, .int a)]) (st' := [.ref 159, .int a]) rfl ?_
  refine En_getK (j := 7) h_n rfl rfl rfl (by decide +kernel : TG 159 = 35) (by decide +kernel) ?_
  refine En_icGe _ rfl rfl rfl (fun h1 => ?_) (fun h1 => ?_)
  · refine En_Ps 1 (pc' := 22) (lv' := [(0, .ref 159), (1, .int a)]) (st' := [.int ((Int32.ofInt (-1)))]) rfl ?_
    refine En_top (by decide : (Int32.ofInt (-1)).toInt = -1) (fun z2 h3 => ?_)
    exact En_ret (v := some (.int z2)) rfl rfl rfl ⟨hσ0, hF0, z2, rfl, ⟨by omega, by omega, fun _ => by omega, fun _ => by omega, sN_none hT h_n (by omega) (by omega)⟩⟩
  · refine En_Ps 1 (pc' := 9) (lv' := [(0, .ref 159), (1, .int a)]) (st' := [.ref 159]) rfl ?_
    refine En_getU (j := 4) (u := 163) (g' := 39) (q := 0) rfl rfl rfl (by decide +kernel : TG 159 = 35) (by decide +kernel) hσ0 (by decide +kernel) (by decide +kernel) (fun h4 => ?_)
    refine En_Ps 1 (pc' := 13) (lv' := [(0, .ref 159), (1, .int a)]) (st' := [.int a, .ref 163]) rfl ?_
    refine En_bald (l := (-128)) (u := 127) rfl rfl (by decide +kernel : TG 163 = 39) (by decide +kernel) hσ0 (by omega) (lnI (by decide +kernel : LN _ = 1600) (by omega)) (FTsgl (by decide +kernel)) (fun z7 h6 h8 h9 => ?_)
    refine En_Ps 2 (pc' := 18) (lv' := [(0, .ref 159), (1, .int a)]) (st' := [.int ((z7 &&& (((Int16.ofInt 255).toInt32))))]) rfl ?_
    refine En_nam (fun z10 h11 => ?_)
    have h12 := andR_rng (x := z7) (by decide : ((Int16.ofInt 255).toInt32).toInt = 255) (by decide)
    rw [← h11] at h12
    refine En_Ps 1 (pc' := 22) (lv' := [(0, .ref 159), (1, .int a)]) (st' := [.int z10]) rfl ?_
    exact En_ret (v := some (.int z10)) rfl rfl rfl ⟨hσ0, hF0, z10, rfl, ⟨by omega, by omega, fun _ => by omega, fun _ => by omega, sN_some hT h_n (by omega) (by omega) h6 h11⟩⟩
/-- DoorSchoolModel.advance()V -/
abbrev P_189x (σ0 : SG) (By : Int → Int) (Nb : Int) (f : Int32) : PO := fun v σ => WT σ ∧ Fr [(35, 8), (35, 9), (35, 10), (35, 11)] σ0 σ ∧ ∃ f1 : Int32, (σ 159)[8]? = some (.int f1) ∧ ∃ t1 : Int32, (σ 159)[10]? = some (.int t1) ∧ v = none ∧ -f1.toInt ≤ 0 ∧ f1.toInt - 1600 ≤ 0 ∧ -f1.toInt + f.toInt ≤ 0 ∧ f1.toInt - f.toInt - 1600 ≤ 0 ∧ -t1.toInt ≤ 0 ∧ t1.toInt - 4 ≤ 0 ∧ -t1.toInt + f.toInt - 1600 ≤ 0 ∧ t1.toInt - f.toInt - 4 ≤ 0 ∧ f.toInt - f1.toInt ≤ 0 ∧ Imp (-t1.toInt + 1 ≤ 0) (f.toInt - f1.toInt + 1 ≤ 0) ∧ (TPm By Nb σ ∧ TKm By Nb f.toInt σ)
set_option maxRecDepth 10000 in
set_option maxHeartbeats 4000000 in
theorem c_189x {By : Int → Int} {Nb : Int} (σ0 : SG) (hσ0 : WT σ0) (f : Int32) (h_f : (σ0 159)[8]? = some (.int f)) (hT : TPm By Nb σ0) (hf : f.toInt ≤ Nb) : En 1 25 none mr_189 (P_189x σ0 By Nb f) 0 [(0, .ref 159)] [] σ0 := by
  obtain ⟨hl_f, hu_f⟩ := WT_int hσ0 (g := 35) (by decide +kernel) (by decide +kernel) (l := 0) (u := 1600) (by decide +kernel) h_f
  have hF0 : Fr [(35, 8), (35, 9), (35, 10), (35, 11)] σ0 σ0 := Fr_rfl
  have key0 : ∀ (n0 : Nat) (σ2 : SG) (y1 : Int32), WT σ2 → Fr [(35, 8), (35, 9), (35, 10), (35, 11)] σ0 σ2 → (σ2 159)[8]? = some (.int y1) → 0 ≤ y1.toInt → y1.toInt ≤ 1600 → f.toInt - y1.toInt ≤ 0 → -y1.toInt + 1600 < (n0 : Int) → tS By Nb (y1.toInt) = tS By Nb f.toInt → y1.toInt ≤ Nb → En 1 25 none mr_189 (P_189x σ0 By Nb f) 0 [(0, .ref 159)] [] σ2 := by
    intro n0
    induction n0 with
    | zero =>
      intro σ2 y1 h3 h4 h5 h6 h7 h8 h9 h10 h11
      exfalso; omega
    | succ n0 ih0 =>
      intro σ2 y1 h3 h4 h5 h6 h7 h8 h9 h10 h11
      refine En_Ps 2 (pc' := 2) (lv' := [(0, .ref 159)]) (st' := [.ref 159, .ref 159]) rfl ?_
      refine En_getK (j := 8) h5 rfl rfl rfl (by decide +kernel : TG 159 = 35) (by decide +kernel) ?_
      obtain ⟨z13, h12, h14, h15⟩ := WT_peekI h3 (by decide +kernel : TG 159 = 35) (by decide +kernel : FT 35 7 = (0, 0, 1600)) (by decide +kernel)
      refine En_callV rfl rfl rfl rfl rfl rfl rfl rfl (by decide +kernel : TG 159 = 35) (by decide +kernel) rfl (c_313ax σ2 h3 y1 (geI rfl (by omega)) (leI rfl (by omega)) z13 h12 (TPm_fr hT h4 (by decide +kernel))) (by decide) (by decide) (fun v17 σ18 h16 => ?_)
      obtain ⟨h19, h20, z22, rfl, h21⟩ := h16
      have h23 := h21.2.2.2.2
      obtain rfl : σ2 = σ18 := Fr_nil h20
      refine En_Ps 1 (pc' := 10) (lv' := [(0, .ref 159)]) (st' := [.int (((Int8.ofInt 32).toInt32)), .int z22]) rfl ?_
      refine En_icEq _ rfl (by decide : ((Int8.ofInt 32).toInt32).toInt = 32) rfl (fun h24 => ?_) (fun h24 => ?_)
      · have h25 := Imp_m h21.2.2.1 (by omega)
        have h26 := Imp_m h21.2.2.2.1 (by omega)
        refine En_Ps 2 (pc' := 28) (lv' := [(0, .ref 159)]) (st' := [.ref 159, .ref 159]) rfl ?_
        refine En_getK (j := 8) h5 rfl rfl rfl (by decide +kernel : TG 159 = 35) (by decide +kernel) ?_
        refine En_Ps 2 (pc' := 33) (lv' := [(0, .ref 159)]) (st' := [.int ((y1 + ((Int32.ofInt 1)))), .ref 159]) rfl ?_
        refine En_top (addI rfl (by decide : (Int32.ofInt 1).toInt = 1) (by omega) (by omega)) (fun z27 h28 => ?_)
        refine En_put (j := 8) rfl rfl rfl (by decide +kernel : TG 159 = 35) (by decide +kernel) rfl (vI (l := 0) (u := 1600) (by decide +kernel) rfl (by omega) (by omega)) h3 h4 (by decide +kernel) (fun σ29 h30 h31 h32 h33 => ?_)
        have h34 := BL_go (y := y1.toInt) (z := z27.toInt) hT (by omega) (by omega) (by omega) h10
        refine En_Ps 1 (pc' := 0) (lv' := [(0, .ref 159)]) (st' := []) rfl ?_
        exact ih0 σ29 z27 h30 h31 h32 (by omega) (by omega) (by omega) (by omega) (h34.1) (h34.2)
      · refine En_Ps 2 (pc' := 15) (lv' := [(0, .ref 159)]) (st' := [.ref 159, .ref 159]) rfl ?_
        refine En_getK (j := 8) h5 rfl rfl rfl (by decide +kernel : TG 159 = 35) (by decide +kernel) ?_
        refine En_callV rfl rfl rfl rfl rfl rfl rfl rfl (by decide +kernel : TG 159 = 35) (by decide +kernel) rfl (c_313ax σ2 h3 y1 (geI rfl (by omega)) (leI rfl (by omega)) z13 h12 (TPm_fr hT h4 (by decide +kernel))) (by decide) (by decide) (fun v36 σ37 h35 => ?_)
        obtain ⟨h38, h39, z41, rfl, h40⟩ := h35
        have h42 := h40.2.2.2.2
        obtain rfl : σ2 = σ37 := Fr_nil h39
        refine En_Ps 1 (pc' := 23) (lv' := [(0, .ref 159)]) (st' := [.int (((Int8.ofInt 10).toInt32)), .int z41]) rfl ?_
        refine En_icNe _ rfl (by decide : ((Int8.ofInt 10).toInt32).toInt = 10) rfl (fun h43 => ?_) (fun h43 => ?_)
        · refine En_Ps 2 (pc' := 41) (lv' := [(0, .ref 159)]) (st' := [.ref 159, .ref 159]) rfl ?_
          refine En_getK (j := 8) h5 rfl rfl rfl (by decide +kernel : TG 159 = 35) (by decide +kernel) ?_
          refine En_put (j := 9) rfl rfl rfl (by decide +kernel : TG 159 = 35) (by decide +kernel) rfl (vI (l := 0) (u := 1600) (by decide +kernel) rfl (by omega) (by omega)) h3 h4 (by decide +kernel) (fun σ44 h45 h46 h47 h48 => ?_)
          refine En_Ps 2 (pc' := 49) (lv' := [(0, .ref 159)]) (st' := [.ref 159, .ref 159]) rfl ?_
          refine En_getK (j := 8) ((h48 _ _ (Or.inr (by decide))).trans h5) rfl rfl rfl (by decide +kernel : TG 159 = 35) (by decide +kernel) ?_
          refine En_callV rfl rfl rfl rfl rfl rfl rfl rfl (by decide +kernel : TG 159 = 35) (by decide +kernel) rfl (c_313ax σ44 h45 y1 (geI rfl (by omega)) (leI rfl (by omega)) z13 ((h48 _ _ (Or.inr (by decide))).trans h12) (TPm_fr hT h46 (by decide +kernel))) (by decide) (by decide) (fun v50 σ51 h49 => ?_)
          obtain ⟨h52, h53, z55, rfl, h54⟩ := h49
          have h56 := h54.2.2.2.2
          obtain rfl : σ44 = σ51 := Fr_nil h53
          refine En_Ps 3 (pc' := 58) (lv' := [(1, .int z55), (0, .ref 159)]) (st' := [.int ((Int32.ofInt (-1))), .int z55]) rfl ?_
          refine En_icNe _ rfl (by decide : (Int32.ofInt (-1)).toInt = -1) rfl (fun h57 => ?_) (fun h57 => ?_)
          · have h58 := Imp_m h21.2.2.1 (by omega)
            have h59 := Imp_m h21.2.2.2.1 (by omega)
            have h60 := Imp_m h40.2.2.1 (by omega)
            have h61 := Imp_m h40.2.2.2.1 (by omega)
            have h62 := Imp_m h54.2.2.1 (by omega)
            have h63 := Imp_m h54.2.2.2.1 (by omega)
            refine En_Ps 4 (pc' := 77) (lv' := [(1, .int z55), (0, .ref 159)]) (st' := [.long ((122 : Int64)), .long ((97 : Int64)), .long z55.toInt64]) rfl ?_
            have : z55.toInt64.toInt = z55.toInt := (i2lI rfl)
            have := (by decide : ((97 : Int64)).toInt = 97)
            have := (by decide : ((122 : Int64)).toInt = 122)
            refine En_callS rfl rfl rfl rfl rfl rfl rfl rfl rfl (c_249 σ44 h45 z55.toInt64 ((97 : Int64)) ((122 : Int64))) (by decide) (by decide) (fun v65 σ66 h64 => ?_)
            obtain ⟨h67, h68, z70, rfl, h69⟩ := h64
            obtain rfl : σ44 = σ66 := Fr_nil h68
            refine En_iEq _ rfl rfl (fun h71 => ?_) (fun h71 => ?_)
            · refine En_Ps 4 (pc' := 133) (lv' := [(1, .int z55), (0, .ref 159)]) (st' := [.long ((57 : Int64)), .long ((48 : Int64)), .long z55.toInt64]) rfl ?_
              have : z55.toInt64.toInt = z55.toInt := (i2lI rfl)
              have := (by decide : ((48 : Int64)).toInt = 48)
              have := (by decide : ((57 : Int64)).toInt = 57)
              refine En_callS rfl rfl rfl rfl rfl rfl rfl rfl rfl (c_249 σ44 h45 z55.toInt64 ((48 : Int64)) ((57 : Int64))) (by decide) (by decide) (fun v73 σ74 h72 => ?_)
              obtain ⟨h75, h76, z78, rfl, h77⟩ := h72
              obtain rfl : σ44 = σ74 := Fr_nil h76
              refine En_iEq _ rfl rfl (fun h79 => ?_) (fun h79 => ?_)
              · refine En_Ps 3 (pc' := 218) (lv' := [(1, .int z55), (0, .ref 159)]) (st' := [.int (((Int8.ofInt 59).toInt32)), .int z55, .ref 159]) rfl ?_
                refine En_icNe _ rfl (by decide : ((Int8.ofInt 59).toInt32).toInt = 59) rfl (fun h80 => ?_) (fun h80 => ?_)
                · refine En_Ps 1 (pc' := 226) (lv' := [(1, .int z55), (0, .ref 159)]) (st' := [.int ((Int32.ofInt 4)), .ref 159]) rfl ?_
                  refine En_put (j := 10) rfl rfl rfl (by decide +kernel : TG 159 = 35) (by decide +kernel) rfl (vI (l := 0) (u := 4) (by decide +kernel) (by decide : (Int32.ofInt 4).toInt = 4) (by omega) (by omega)) h45 h46 (by decide +kernel) (fun σ81 h82 h83 h84 h85 => ?_)
                  refine En_Ps 2 (pc' := 231) (lv' := [(1, .int z55), (0, .ref 159)]) (st' := [.ref 159, .ref 159]) rfl ?_
                  refine En_getK (j := 8) ((h85 _ _ (Or.inr (by decide))).trans ((h48 _ _ (Or.inr (by decide))).trans h5)) rfl rfl rfl (by decide +kernel : TG 159 = 35) (by decide +kernel) ?_
                  refine En_Ps 2 (pc' := 236) (lv' := [(1, .int z55), (0, .ref 159)]) (st' := [.int ((y1 + ((Int32.ofInt 1)))), .ref 159]) rfl ?_
                  refine En_top (addI rfl (by decide : (Int32.ofInt 1).toInt = 1) (by omega) (by omega)) (fun z86 h87 => ?_)
                  refine En_put (j := 8) rfl rfl rfl (by decide +kernel : TG 159 = 35) (by decide +kernel) rfl (vI (l := 0) (u := 1600) (by decide +kernel) rfl (by omega) (by omega)) h82 h83 (by decide +kernel) (fun σ88 h89 h90 h91 h92 => ?_)
                  have := (by decide : (Int32.ofInt 4).toInt = 4)
                  exact En_ret (v := none) rfl rfl rfl ⟨h89, h90, z86, h91, (Int32.ofInt 4), ((h92 _ _ (Or.inr (by decide))).trans h84), rfl, ⟨by omega, by omega, by omega, by omega, by omega, by omega, by omega, by omega, by omega, fun _ => by omega, ⟨(TPm_fr hT h90 (by decide +kernel)), TKm_4 (y := y1.toInt) hT (by omega) hf (by omega) (BL_no hT (by omega) (by omega) h10) (by omega) ((ci_at (j := 8) h91 rfl).trans (by omega)) ((ci_at (j := 9) ((h92 _ _ (Or.inr (by decide))).trans ((h85 _ _ (Or.inr (by decide))).trans h47)) rfl).trans (by omega)) ((ci_at (j := 10) ((h92 _ _ (Or.inr (by decide))).trans h84) rfl).trans (by omega))⟩⟩⟩
                · refine En_Ps 2 (pc' := 226) (lv' := [(1, .int z55), (0, .ref 159)]) (st' := [.int ((Int32.ofInt 3)), .ref 159]) rfl ?_
                  refine En_put (j := 10) rfl rfl rfl (by decide +kernel : TG 159 = 35) (by decide +kernel) rfl (vI (l := 0) (u := 4) (by decide +kernel) (by decide : (Int32.ofInt 3).toInt = 3) (by omega) (by omega)) h45 h46 (by decide +kernel) (fun σ93 h94 h95 h96 h97 => ?_)
                  refine En_Ps 2 (pc' := 231) (lv' := [(1, .int z55), (0, .ref 159)]) (st' := [.ref 159, .ref 159]) rfl ?_
                  refine En_getK (j := 8) ((h97 _ _ (Or.inr (by decide))).trans ((h48 _ _ (Or.inr (by decide))).trans h5)) rfl rfl rfl (by decide +kernel : TG 159 = 35) (by decide +kernel) ?_
                  refine En_Ps 2 (pc' := 236) (lv' := [(1, .int z55), (0, .ref 159)]) (st' := [.int ((y1 + ((Int32.ofInt 1)))), .ref 159]) rfl ?_
                  refine En_top (addI rfl (by decide : (Int32.ofInt 1).toInt = 1) (by omega) (by omega)) (fun z98 h99 => ?_)
                  refine En_put (j := 8) rfl rfl rfl (by decide +kernel : TG 159 = 35) (by decide +kernel) rfl (vI (l := 0) (u := 1600) (by decide +kernel) rfl (by omega) (by omega)) h94 h95 (by decide +kernel) (fun σ100 h101 h102 h103 h104 => ?_)
                  have := (by decide : (Int32.ofInt 3).toInt = 3)
                  exact En_ret (v := none) rfl rfl rfl ⟨h101, h102, z98, h103, (Int32.ofInt 3), ((h104 _ _ (Or.inr (by decide))).trans h96), rfl, ⟨by omega, by omega, by omega, by omega, by omega, by omega, by omega, by omega, by omega, fun _ => by omega, ⟨(TPm_fr hT h102 (by decide +kernel)), TKm_3 (y := y1.toInt) hT (by omega) hf (by omega) (BL_no hT (by omega) (by omega) h10) (by omega) ((ci_at (j := 8) h103 rfl).trans (by omega)) ((ci_at (j := 9) ((h104 _ _ (Or.inr (by decide))).trans ((h97 _ _ (Or.inr (by decide))).trans h47)) rfl).trans (by omega)) ((ci_at (j := 10) ((h104 _ _ (Or.inr (by decide))).trans h96) rfl).trans (by omega))⟩⟩⟩
              · have h105 := Imp_m h77.2.2.1 (by omega)
                have h106 := Imp_m h77.2.2.2 (by omega)
                refine En_Ps 2 (pc' := 141) (lv' := [(1, .int z55), (0, .ref 159)]) (st' := [.int ((Int32.ofInt 0)), .ref 159]) rfl ?_
                refine En_put (j := 11) rfl rfl rfl (by decide +kernel : TG 159 = 35) (by decide +kernel) rfl (vI (l := 0) (u := 99999) (by decide +kernel) (by decide : (Int32.ofInt 0).toInt = 0) (by omega) (by omega)) h45 h46 (by decide +kernel) (fun σ107 h108 h109 h110 h111 => ?_)
                refine En_Ps 2 (pc' := 146) (lv' := [(1, .int z55), (0, .ref 159)]) (st' := [.ref 159, .ref 159]) rfl ?_
                refine En_getK (j := 8) ((h111 _ _ (Or.inr (by decide))).trans ((h48 _ _ (Or.inr (by decide))).trans h5)) rfl rfl rfl (by decide +kernel : TG 159 = 35) (by decide +kernel) ?_
                refine En_callV rfl rfl rfl rfl rfl rfl rfl rfl (by decide +kernel : TG 159 = 35) (by decide +kernel) rfl (c_313ax σ107 h108 y1 (geI rfl (by omega)) (leI rfl (by omega)) z13 ((h111 _ _ (Or.inr (by decide))).trans ((h48 _ _ (Or.inr (by decide))).trans h12)) (TPm_fr hT h109 (by decide +kernel))) (by decide) (by decide) (fun v113 σ114 h112 => ?_)
                obtain ⟨h115, h116, z118, rfl, h117⟩ := h112
                have h119 := h117.2.2.2.2
                obtain rfl : σ107 = σ114 := Fr_nil h116
                have h120 := Imp_m h117.2.2.1 (by omega)
                have h121 := Imp_m h117.2.2.2.1 (by omega)
                refine En_Ps 3 (pc' := 159) (lv' := [(1, .int z55), (0, .ref 159)]) (st' := [.long ((57 : Int64)), .long ((48 : Int64)), .long z118.toInt64]) rfl ?_
                have : z118.toInt64.toInt = z118.toInt := (i2lI rfl)
                have := (by decide : ((48 : Int64)).toInt = 48)
                have := (by decide : ((57 : Int64)).toInt = 57)
                refine En_callS rfl rfl rfl rfl rfl rfl rfl rfl rfl (c_249 σ107 h108 z118.toInt64 ((48 : Int64)) ((57 : Int64))) (by decide) (by decide) (fun v123 σ124 h122 => ?_)
                obtain ⟨h125, h126, z128, rfl, h127⟩ := h122
                obtain rfl : σ107 = σ124 := Fr_nil h126
                have h129 := Imp_m h127.2.2.2 (by omega)
                have h130 := Imp_m h127.2.2.1 (by omega)
                refine En_iEq _ rfl rfl (fun hx => by exfalso; omega) (fun h131 => ?_)
                refine En_Ps 4 (pc' := 171) (lv' := [(1, .int z55), (0, .ref 159)]) (st' := [.ref 159, .int (((Int8.ofInt 10).toInt32)), .int ((99999 : Int32)), .ref 159]) rfl ?_
                refine En_getK (j := 11) h110 rfl rfl rfl (by decide +kernel : TG 159 = 35) (by decide +kernel) ?_
                refine En_Ps 1 (pc' := 175) (lv' := [(1, .int z55), (0, .ref 159)]) (st' := [.int (((((Int8.ofInt 10).toInt32)) * ((Int32.ofInt 0)))), .int ((99999 : Int32)), .ref 159]) rfl ?_
                refine En_top (mulI (by decide : ((Int8.ofInt 10).toInt32).toInt = 10) (by decide : (Int32.ofInt 0).toInt = 0) (Z := 0) (by omega) (by omega) (by omega)) (fun z132 h133 => ?_)
                refine En_Ps 2 (pc' := 177) (lv' := [(1, .int z55), (0, .ref 159)]) (st' := [.ref 159, .ref 159, .int z132, .int ((99999 : Int32)), .ref 159]) rfl ?_
                refine En_getK (j := 8) ((h111 _ _ (Or.inr (by decide))).trans ((h48 _ _ (Or.inr (by decide))).trans h5)) rfl rfl rfl (by decide +kernel : TG 159 = 35) (by decide +kernel) ?_
                refine En_callV rfl rfl rfl rfl rfl rfl rfl rfl (by decide +kernel : TG 159 = 35) (by decide +kernel) rfl (c_313ax σ107 h108 y1 (geI rfl (by omega)) (leI rfl (by omega)) z13 ((h111 _ _ (Or.inr (by decide))).trans ((h48 _ _ (Or.inr (by decide))).trans h12)) (TPm_fr hT h109 (by decide +kernel))) (by decide) (by decide) (fun v135 σ136 h134 => ?_)
                obtain ⟨h137, h138, z140, rfl, h139⟩ := h134
                have h141 := h139.2.2.2.2
                obtain rfl : σ107 = σ136 := Fr_nil h138
                have h142 := Imp_m h139.2.2.1 (by omega)
                have h143 := Imp_m h139.2.2.2.1 (by omega)
                refine En_Ps 1 (pc' := 184) (lv' := [(1, .int z55), (0, .ref 159)]) (st' := [.int ((z132 + z140)), .int ((99999 : Int32)), .ref 159]) rfl ?_
                refine En_top (addI rfl rfl (by omega) (by omega)) (fun z144 h145 => ?_)
                refine En_Ps 2 (pc' := 187) (lv' := [(1, .int z55), (0, .ref 159)]) (st' := [.int ((z144 - (((Int8.ofInt 48).toInt32)))), .int ((99999 : Int32)), .ref 159]) rfl ?_
                refine En_top (subI rfl (by decide : ((Int8.ofInt 48).toInt32).toInt = 48) (by omega) (by omega)) (fun z146 h147 => ?_)
                have := (by decide : ((99999 : Int32)).toInt = 99999)
                refine En_callS rfl rfl rfl rfl rfl rfl rfl rfl rfl (c_11 σ107 h108 ((99999 : Int32)) z146) (by decide) (by decide) (fun v149 σ150 h148 => ?_)
                obtain ⟨h151, h152, z154, rfl, h153⟩ := h148
                obtain rfl : σ107 = σ150 := Fr_nil h152
                have h155 := Imp_m h153.2.2.1 (by omega)
                refine En_put (j := 11) rfl rfl rfl (by decide +kernel : TG 159 = 35) (by decide +kernel) rfl (vI (l := 0) (u := 99999) (by decide +kernel) rfl (by omega) (by omega)) h108 h109 (by decide +kernel) (fun σ156 h157 h158 h159 h160 => ?_)
                refine En_Ps 2 (pc' := 195) (lv' := [(1, .int z55), (0, .ref 159)]) (st' := [.ref 159, .ref 159]) rfl ?_
                refine En_getK (j := 8) ((h160 _ _ (Or.inr (by decide))).trans ((h111 _ _ (Or.inr (by decide))).trans ((h48 _ _ (Or.inr (by decide))).trans h5))) rfl rfl rfl (by decide +kernel : TG 159 = 35) (by decide +kernel) ?_
                refine En_Ps 2 (pc' := 200) (lv' := [(1, .int z55), (0, .ref 159)]) (st' := [.int ((y1 + ((Int32.ofInt 1)))), .ref 159]) rfl ?_
                refine En_top (addI rfl (by decide : (Int32.ofInt 1).toInt = 1) (by omega) (by omega)) (fun z161 h162 => ?_)
                refine En_put (j := 8) rfl rfl rfl (by decide +kernel : TG 159 = 35) (by decide +kernel) rfl (vI (l := 0) (u := 1600) (by decide +kernel) rfl (by omega) (by omega)) h157 h158 (by decide +kernel) (fun σ163 h164 h165 h166 h167 => ?_)
                have h168 := DG_go (y := y1.toInt) (z := z161.toInt) hT (by omega) (by omega) (by omega)
                have h169 : z154.toInt = vl By 99999 (y1.toInt) (z161.toInt) := VL_go (y := y1.toInt) (v := 0) (by omega) (by omega) (vl_0 (B := By) (c := 99999) (s := y1.toInt)).symm (by omega)
                refine En_Ps 1 (pc' := 144) (lv' := [(1, .int z55), (0, .ref 159)]) (st' := []) rfl ?_
                have key144 : ∀ (n144 : Nat) (σ172 : SG) (y170 : Int32) (y171 : Int32), WT σ172 → Fr [(35, 8), (35, 9), (35, 10), (35, 11)] σ0 σ172 → (σ172 159)[7]? = some (.int z13) → (σ172 159)[9]? = some (.int y1) → (σ172 159)[11]? = some (.int y170) → (σ172 159)[8]? = some (.int y171) → 0 ≤ y170.toInt → y170.toInt ≤ 99999 → 1 ≤ y171.toInt → y171.toInt ≤ 1600 → y171.toInt - z13.toInt ≤ 0 → z161.toInt - y171.toInt ≤ 0 → z13.toInt - y171.toInt < (n144 : Int) → rnx By Nb 2 (y171.toInt) = rnx By Nb 2 (y1.toInt) → y171.toInt ≤ Nb → y170.toInt = vl By 99999 (y1.toInt) (y171.toInt) → En 1 25 none mr_189 (P_189x σ0 By Nb f) 144 [(0, .ref 159), (1, .int z55)] [] σ172 := by
                  intro n144
                  induction n144 with
                  | zero =>
                    intro σ172 y170 y171 h173 h174 h175 h176 h177 h178 h179 h180 h181 h182 h183 h184 h185 h186 h187 h188
                    exfalso; omega
                  | succ n144 ih144 =>
                    intro σ172 y170 y171 h173 h174 h175 h176 h177 h178 h179 h180 h181 h182 h183 h184 h185 h186 h187 h188
                    refine En_Ps 2 (pc' := 146) (lv' := [(0, .ref 159), (1, .int z55)]) (st' := [.ref 159, .ref 159]) rfl ?_
                    refine En_getK (j := 8) h178 rfl rfl rfl (by decide +kernel : TG 159 = 35) (by decide +kernel) ?_
                    refine En_callV rfl rfl rfl rfl rfl rfl rfl rfl (by decide +kernel : TG 159 = 35) (by decide +kernel) rfl (c_313ax σ172 h173 y171 (geI rfl (by omega)) (leI rfl (by omega)) z13 h175 (TPm_fr hT h174 (by decide +kernel))) (by decide) (by decide) (fun v190 σ191 h189 => ?_)
                    obtain ⟨h192, h193, z195, rfl, h194⟩ := h189
                    have h196 := h194.2.2.2.2
                    obtain rfl : σ172 = σ191 := Fr_nil h193
                    refine En_Ps 3 (pc' := 159) (lv' := [(0, .ref 159), (1, .int z55)]) (st' := [.long ((57 : Int64)), .long ((48 : Int64)), .long z195.toInt64]) rfl ?_
                    have : z195.toInt64.toInt = z195.toInt := (i2lI rfl)
                    have := (by decide : ((48 : Int64)).toInt = 48)
                    have := (by decide : ((57 : Int64)).toInt = 57)
                    refine En_callS rfl rfl rfl rfl rfl rfl rfl rfl rfl (c_249 σ172 h173 z195.toInt64 ((48 : Int64)) ((57 : Int64))) (by decide) (by decide) (fun v198 σ199 h197 => ?_)
                    obtain ⟨h200, h201, z203, rfl, h202⟩ := h197
                    obtain rfl : σ172 = σ199 := Fr_nil h201
                    refine En_iEq _ rfl rfl (fun h204 => ?_) (fun h204 => ?_)
                    · refine En_Ps 2 (pc' := 208) (lv' := [(0, .ref 159), (1, .int z55)]) (st' := [.int ((Int32.ofInt 2)), .ref 159]) rfl ?_
                      refine En_put (j := 10) rfl rfl rfl (by decide +kernel : TG 159 = 35) (by decide +kernel) rfl (vI (l := 0) (u := 4) (by decide +kernel) (by decide : (Int32.ofInt 2).toInt = 2) (by omega) (by omega)) h173 h174 (by decide +kernel) (fun σ205 h206 h207 h208 h209 => ?_)
                      refine En_Ps 1 (pc' := 239) (lv' := [(0, .ref 159), (1, .int z55)]) (st' := []) rfl ?_
                      have := (by decide : (Int32.ofInt 2).toInt = 2)
                      exact En_ret (v := none) rfl rfl rfl ⟨h206, h207, y171, ((h209 _ _ (Or.inr (by decide))).trans h178), (Int32.ofInt 2), h208, rfl, ⟨by omega, by omega, by omega, by omega, by omega, by omega, by omega, by omega, by omega, fun _ => by omega, ⟨(TPm_fr hT h207 (by decide +kernel)), TKm_2 (y := y1.toInt) (e := y171.toInt) hT (by omega) hf (by omega) (BL_no hT (by omega) (by omega) h10) (by omega) (by omega) h186 (by omega) ((ci_at (j := 8) ((h209 _ _ (Or.inr (by decide))).trans h178) rfl).trans (by omega)) ((ci_at (j := 9) ((h209 _ _ (Or.inr (by decide))).trans h176) rfl).trans (by omega)) ((ci_at (j := 10) h208 rfl).trans (by omega)) ((ci_at (j := 11) ((h209 _ _ (Or.inr (by decide))).trans h177) rfl).trans h188)⟩⟩⟩
                    · have h210 := Imp_m h202.2.2.1 (by omega)
                      have h211 := Imp_m h202.2.2.2 (by omega)
                      have h212 := Imp_m h194.2.2.1 (by omega)
                      have h213 := Imp_m h194.2.2.2.1 (by omega)
                      refine En_Ps 4 (pc' := 171) (lv' := [(0, .ref 159), (1, .int z55)]) (st' := [.ref 159, .int (((Int8.ofInt 10).toInt32)), .int ((99999 : Int32)), .ref 159]) rfl ?_
                      refine En_getK (j := 11) h177 rfl rfl rfl (by decide +kernel : TG 159 = 35) (by decide +kernel) ?_
                      refine En_Ps 1 (pc' := 175) (lv' := [(0, .ref 159), (1, .int z55)]) (st' := [.int (((((Int8.ofInt 10).toInt32)) * y170)), .int ((99999 : Int32)), .ref 159]) rfl ?_
                      refine En_top (mulI (by decide : ((Int8.ofInt 10).toInt32).toInt = 10) rfl (Z := 10 * y170.toInt) (by omega) (by omega) (by omega)) (fun z214 h215 => ?_)
                      refine En_Ps 2 (pc' := 177) (lv' := [(0, .ref 159), (1, .int z55)]) (st' := [.ref 159, .ref 159, .int z214, .int ((99999 : Int32)), .ref 159]) rfl ?_
                      refine En_getK (j := 8) h178 rfl rfl rfl (by decide +kernel : TG 159 = 35) (by decide +kernel) ?_
                      refine En_callV rfl rfl rfl rfl rfl rfl rfl rfl (by decide +kernel : TG 159 = 35) (by decide +kernel) rfl (c_313ax σ172 h173 y171 (geI rfl (by omega)) (leI rfl (by omega)) z13 h175 (TPm_fr hT h174 (by decide +kernel))) (by decide) (by decide) (fun v217 σ218 h216 => ?_)
                      obtain ⟨h219, h220, z222, rfl, h221⟩ := h216
                      have h223 := h221.2.2.2.2
                      obtain rfl : σ172 = σ218 := Fr_nil h220
                      have h224 := Imp_m h221.2.2.1 (by omega)
                      have h225 := Imp_m h221.2.2.2.1 (by omega)
                      refine En_Ps 1 (pc' := 184) (lv' := [(0, .ref 159), (1, .int z55)]) (st' := [.int ((z214 + z222)), .int ((99999 : Int32)), .ref 159]) rfl ?_
                      refine En_top (addI rfl rfl (by omega) (by omega)) (fun z226 h227 => ?_)
                      refine En_Ps 2 (pc' := 187) (lv' := [(0, .ref 159), (1, .int z55)]) (st' := [.int ((z226 - (((Int8.ofInt 48).toInt32)))), .int ((99999 : Int32)), .ref 159]) rfl ?_
                      refine En_top (subI rfl (by decide : ((Int8.ofInt 48).toInt32).toInt = 48) (by omega) (by omega)) (fun z228 h229 => ?_)
                      have := (by decide : ((99999 : Int32)).toInt = 99999)
                      refine En_callS rfl rfl rfl rfl rfl rfl rfl rfl rfl (c_11 σ172 h173 ((99999 : Int32)) z228) (by decide) (by decide) (fun v231 σ232 h230 => ?_)
                      obtain ⟨h233, h234, z236, rfl, h235⟩ := h230
                      obtain rfl : σ172 = σ232 := Fr_nil h234
                      refine En_put (j := 11) rfl rfl rfl (by decide +kernel : TG 159 = 35) (by decide +kernel) rfl (vI (l := 0) (u := 99999) (by decide +kernel) rfl (by omega) (by omega)) h173 h174 (by decide +kernel) (fun σ237 h238 h239 h240 h241 => ?_)
                      refine En_Ps 2 (pc' := 195) (lv' := [(0, .ref 159), (1, .int z55)]) (st' := [.ref 159, .ref 159]) rfl ?_
                      refine En_getK (j := 8) ((h241 _ _ (Or.inr (by decide))).trans h178) rfl rfl rfl (by decide +kernel : TG 159 = 35) (by decide +kernel) ?_
                      refine En_Ps 2 (pc' := 200) (lv' := [(0, .ref 159), (1, .int z55)]) (st' := [.int ((y171 + ((Int32.ofInt 1)))), .ref 159]) rfl ?_
                      refine En_top (addI rfl (by decide : (Int32.ofInt 1).toInt = 1) (by omega) (by omega)) (fun z242 h243 => ?_)
                      refine En_put (j := 8) rfl rfl rfl (by decide +kernel : TG 159 = 35) (by decide +kernel) rfl (vI (l := 0) (u := 1600) (by decide +kernel) rfl (by omega) (by omega)) h238 h239 (by decide +kernel) (fun σ244 h245 h246 h247 h248 => ?_)
                      have h249 := DG_go (y := y171.toInt) (z := z242.toInt) hT (by omega) (by omega) (by omega)
                      have h250 : z236.toInt = vl By 99999 (y1.toInt) (z242.toInt) := VL_go (y := y171.toInt) (v := y170.toInt) (by omega) (by omega) h188 (by omega)
                      refine En_Ps 1 (pc' := 144) (lv' := [(0, .ref 159), (1, .int z55)]) (st' := []) rfl ?_
                      exact ih144 σ244 z236 z242 h245 h246 ((h248 _ _ (Or.inr (by decide))).trans ((h241 _ _ (Or.inr (by decide))).trans h175)) ((h248 _ _ (Or.inr (by decide))).trans ((h241 _ _ (Or.inr (by decide))).trans h176)) ((h248 _ _ (Or.inr (by decide))).trans h240) h247 (by omega) (by omega) (by omega) (by omega) (by omega) (by omega) (by omega) (h249.1.trans h186) (h249.2.1) (h250)
                refine En_lv (lv := [(0, .ref 159), (1, .int z55)]) ⟨rfl, rfl, trivial⟩ ?_
                exact key144 (Int.toNat (z13.toInt - z161.toInt) + 1) σ163 z154 z161 h164 h165 ((h167 _ _ (Or.inr (by decide))).trans ((h160 _ _ (Or.inr (by decide))).trans ((h111 _ _ (Or.inr (by decide))).trans ((h48 _ _ (Or.inr (by decide))).trans h12)))) ((h167 _ _ (Or.inr (by decide))).trans ((h160 _ _ (Or.inr (by decide))).trans ((h111 _ _ (Or.inr (by decide))).trans h47))) ((h167 _ _ (Or.inr (by decide))).trans h159) h166 (by omega) (by omega) (by omega) (by omega) (by omega) (by omega) (by omega) (h168.1) (h168.2.1) (h169)
            · have h251 := Imp_m h69.2.2.1 (by omega)
              have h252 := Imp_m h69.2.2.2 (by omega)
              refine En_Ps 2 (pc' := 85) (lv' := [(1, .int z55), (0, .ref 159)]) (st' := [.ref 159, .ref 159]) rfl ?_
              refine En_getK (j := 8) ((h48 _ _ (Or.inr (by decide))).trans h5) rfl rfl rfl (by decide +kernel : TG 159 = 35) (by decide +kernel) ?_
              refine En_callV rfl rfl rfl rfl rfl rfl rfl rfl (by decide +kernel : TG 159 = 35) (by decide +kernel) rfl (c_313ax σ44 h45 y1 (geI rfl (by omega)) (leI rfl (by omega)) z13 ((h48 _ _ (Or.inr (by decide))).trans h12) (TPm_fr hT h46 (by decide +kernel))) (by decide) (by decide) (fun v254 σ255 h253 => ?_)
              obtain ⟨h256, h257, z259, rfl, h258⟩ := h253
              have h260 := h258.2.2.2.2
              obtain rfl : σ44 = σ255 := Fr_nil h257
              have h261 := Imp_m h258.2.2.1 (by omega)
              have h262 := Imp_m h258.2.2.2.1 (by omega)
              refine En_Ps 3 (pc' := 98) (lv' := [(1, .int z55), (0, .ref 159)]) (st' := [.long ((122 : Int64)), .long ((97 : Int64)), .long z259.toInt64]) rfl ?_
              have : z259.toInt64.toInt = z259.toInt := (i2lI rfl)
              have := (by decide : ((97 : Int64)).toInt = 97)
              have := (by decide : ((122 : Int64)).toInt = 122)
              refine En_callS rfl rfl rfl rfl rfl rfl rfl rfl rfl (c_249 σ44 h45 z259.toInt64 ((97 : Int64)) ((122 : Int64))) (by decide) (by decide) (fun v264 σ265 h263 => ?_)
              obtain ⟨h266, h267, z269, rfl, h268⟩ := h263
              obtain rfl : σ44 = σ265 := Fr_nil h267
              have h270 := Imp_m h268.2.2.2 (by omega)
              have h271 := Imp_m h268.2.2.1 (by omega)
              refine En_iEq _ rfl rfl (fun hx => by exfalso; omega) (fun h272 => ?_)
              refine En_Ps 2 (pc' := 106) (lv' := [(1, .int z55), (0, .ref 159)]) (st' := [.ref 159, .ref 159]) rfl ?_
              refine En_getK (j := 8) ((h48 _ _ (Or.inr (by decide))).trans h5) rfl rfl rfl (by decide +kernel : TG 159 = 35) (by decide +kernel) ?_
              refine En_Ps 2 (pc' := 111) (lv' := [(1, .int z55), (0, .ref 159)]) (st' := [.int ((y1 + ((Int32.ofInt 1)))), .ref 159]) rfl ?_
              refine En_top (addI rfl (by decide : (Int32.ofInt 1).toInt = 1) (by omega) (by omega)) (fun z273 h274 => ?_)
              refine En_put (j := 8) rfl rfl rfl (by decide +kernel : TG 159 = 35) (by decide +kernel) rfl (vI (l := 0) (u := 1600) (by decide +kernel) rfl (by omega) (by omega)) h45 h46 (by decide +kernel) (fun σ275 h276 h277 h278 h279 => ?_)
              have h280 := LT_go (y := y1.toInt) (z := z273.toInt) hT (by omega) (by omega) (by omega)
              refine En_Ps 1 (pc' := 83) (lv' := [(1, .int z55), (0, .ref 159)]) (st' := []) rfl ?_
              have key83 : ∀ (n83 : Nat) (σ282 : SG) (y281 : Int32), WT σ282 → Fr [(35, 8), (35, 9), (35, 10), (35, 11)] σ0 σ282 → (σ282 159)[7]? = some (.int z13) → (σ282 159)[9]? = some (.int y1) → (σ282 159)[8]? = some (.int y281) → 1 ≤ y281.toInt → y281.toInt ≤ 1600 → y281.toInt - z13.toInt ≤ 0 → z273.toInt - y281.toInt ≤ 0 → z13.toInt - y281.toInt < (n83 : Int) → rnx By Nb 1 (y281.toInt) = rnx By Nb 1 (y1.toInt) → y281.toInt ≤ Nb → En 1 25 none mr_189 (P_189x σ0 By Nb f) 83 [(0, .ref 159), (1, .int z55)] [] σ282 := by
                intro n83
                induction n83 with
                | zero =>
                  intro σ282 y281 h283 h284 h285 h286 h287 h288 h289 h290 h291 h292 h293 h294
                  exfalso; omega
                | succ n83 ih83 =>
                  intro σ282 y281 h283 h284 h285 h286 h287 h288 h289 h290 h291 h292 h293 h294
                  refine En_Ps 2 (pc' := 85) (lv' := [(0, .ref 159), (1, .int z55)]) (st' := [.ref 159, .ref 159]) rfl ?_
                  refine En_getK (j := 8) h287 rfl rfl rfl (by decide +kernel : TG 159 = 35) (by decide +kernel) ?_
                  refine En_callV rfl rfl rfl rfl rfl rfl rfl rfl (by decide +kernel : TG 159 = 35) (by decide +kernel) rfl (c_313ax σ282 h283 y281 (geI rfl (by omega)) (leI rfl (by omega)) z13 h285 (TPm_fr hT h284 (by decide +kernel))) (by decide) (by decide) (fun v296 σ297 h295 => ?_)
                  obtain ⟨h298, h299, z301, rfl, h300⟩ := h295
                  have h302 := h300.2.2.2.2
                  obtain rfl : σ282 = σ297 := Fr_nil h299
                  refine En_Ps 3 (pc' := 98) (lv' := [(0, .ref 159), (1, .int z55)]) (st' := [.long ((122 : Int64)), .long ((97 : Int64)), .long z301.toInt64]) rfl ?_
                  have : z301.toInt64.toInt = z301.toInt := (i2lI rfl)
                  have := (by decide : ((97 : Int64)).toInt = 97)
                  have := (by decide : ((122 : Int64)).toInt = 122)
                  refine En_callS rfl rfl rfl rfl rfl rfl rfl rfl rfl (c_249 σ282 h283 z301.toInt64 ((97 : Int64)) ((122 : Int64))) (by decide) (by decide) (fun v304 σ305 h303 => ?_)
                  obtain ⟨h306, h307, z309, rfl, h308⟩ := h303
                  obtain rfl : σ282 = σ305 := Fr_nil h307
                  refine En_iEq _ rfl rfl (fun h310 => ?_) (fun h310 => ?_)
                  · refine En_Ps 2 (pc' := 119) (lv' := [(0, .ref 159), (1, .int z55)]) (st' := [.int ((Int32.ofInt 1)), .ref 159]) rfl ?_
                    refine En_put (j := 10) rfl rfl rfl (by decide +kernel : TG 159 = 35) (by decide +kernel) rfl (vI (l := 0) (u := 4) (by decide +kernel) (by decide : (Int32.ofInt 1).toInt = 1) (by omega) (by omega)) h283 h284 (by decide +kernel) (fun σ311 h312 h313 h314 h315 => ?_)
                    refine En_Ps 1 (pc' := 239) (lv' := [(0, .ref 159), (1, .int z55)]) (st' := []) rfl ?_
                    have := (by decide : (Int32.ofInt 1).toInt = 1)
                    exact En_ret (v := none) rfl rfl rfl ⟨h312, h313, y281, ((h315 _ _ (Or.inr (by decide))).trans h287), (Int32.ofInt 1), h314, rfl, ⟨by omega, by omega, by omega, by omega, by omega, by omega, by omega, by omega, by omega, fun _ => by omega, ⟨(TPm_fr hT h313 (by decide +kernel)), TKm_1 (y := y1.toInt) (e := y281.toInt) hT (by omega) hf (by omega) (BL_no hT (by omega) (by omega) h10) (by omega) (by omega) h293 (by omega) ((ci_at (j := 8) ((h315 _ _ (Or.inr (by decide))).trans h287) rfl).trans (by omega)) ((ci_at (j := 9) ((h315 _ _ (Or.inr (by decide))).trans h286) rfl).trans (by omega)) ((ci_at (j := 10) h314 rfl).trans (by omega))⟩⟩⟩
                  · have h316 := Imp_m h308.2.2.1 (by omega)
                    have h317 := Imp_m h308.2.2.2 (by omega)
                    have h318 := Imp_m h300.2.2.1 (by omega)
                    have h319 := Imp_m h300.2.2.2.1 (by omega)
                    refine En_Ps 2 (pc' := 106) (lv' := [(0, .ref 159), (1, .int z55)]) (st' := [.ref 159, .ref 159]) rfl ?_
                    refine En_getK (j := 8) h287 rfl rfl rfl (by decide +kernel : TG 159 = 35) (by decide +kernel) ?_
                    refine En_Ps 2 (pc' := 111) (lv' := [(0, .ref 159), (1, .int z55)]) (st' := [.int ((y281 + ((Int32.ofInt 1)))), .ref 159]) rfl ?_
                    refine En_top (addI rfl (by decide : (Int32.ofInt 1).toInt = 1) (by omega) (by omega)) (fun z320 h321 => ?_)
                    refine En_put (j := 8) rfl rfl rfl (by decide +kernel : TG 159 = 35) (by decide +kernel) rfl (vI (l := 0) (u := 1600) (by decide +kernel) rfl (by omega) (by omega)) h283 h284 (by decide +kernel) (fun σ322 h323 h324 h325 h326 => ?_)
                    have h327 := LT_go (y := y281.toInt) (z := z320.toInt) hT (by omega) (by omega) (by omega)
                    refine En_Ps 1 (pc' := 83) (lv' := [(0, .ref 159), (1, .int z55)]) (st' := []) rfl ?_
                    exact ih83 σ322 z320 h323 h324 ((h326 _ _ (Or.inr (by decide))).trans h285) ((h326 _ _ (Or.inr (by decide))).trans h286) h325 (by omega) (by omega) (by omega) (by omega) (by omega) (h327.1.trans h293) (h327.2)
              refine En_lv (lv := [(0, .ref 159), (1, .int z55)]) ⟨rfl, rfl, trivial⟩ ?_
              exact key83 (Int.toNat (z13.toInt - z273.toInt) + 1) σ275 z273 h276 h277 ((h279 _ _ (Or.inr (by decide))).trans ((h48 _ _ (Or.inr (by decide))).trans h12)) ((h279 _ _ (Or.inr (by decide))).trans h47) h278 (by omega) (by omega) (by omega) (by omega) (by omega) (h280.1) (h280.2)
          · refine En_Ps 2 (pc' := 63) (lv' := [(1, .int z55), (0, .ref 159)]) (st' := [.int ((Int32.ofInt 0)), .ref 159]) rfl ?_
            refine En_put (j := 10) rfl rfl rfl (by decide +kernel : TG 159 = 35) (by decide +kernel) rfl (vI (l := 0) (u := 4) (by decide +kernel) (by decide : (Int32.ofInt 0).toInt = 0) (by omega) (by omega)) h45 h46 (by decide +kernel) (fun σ328 h329 h330 h331 h332 => ?_)
            refine En_Ps 1 (pc' := 239) (lv' := [(1, .int z55), (0, .ref 159)]) (st' := []) rfl ?_
            have := (by decide : (Int32.ofInt 0).toInt = 0)
            exact En_ret (v := none) rfl rfl rfl ⟨h329, h330, y1, ((h332 _ _ (Or.inr (by decide))).trans ((h48 _ _ (Or.inr (by decide))).trans h5)), (Int32.ofInt 0), h331, rfl, ⟨by omega, by omega, by omega, by omega, by omega, by omega, by omega, by omega, by omega, fun _ => by omega, ⟨(TPm_fr hT h330 (by decide +kernel)), TKm_0 (y := y1.toInt) hT (by omega) hf (by omega) (BL_no hT (by omega) (by omega) h10) (by omega) ((ci_at (j := 8) ((h332 _ _ (Or.inr (by decide))).trans ((h48 _ _ (Or.inr (by decide))).trans h5)) rfl).trans (by omega)) ((ci_at (j := 9) ((h332 _ _ (Or.inr (by decide))).trans h47) rfl).trans (by omega)) ((ci_at (j := 10) h331 rfl).trans (by omega))⟩⟩⟩
        · have h333 := Imp_m h21.2.2.1 (by omega)
          have h334 := Imp_m h21.2.2.2.1 (by omega)
          have h335 := Imp_m h40.2.2.1 (by omega)
          have h336 := Imp_m h40.2.2.2.1 (by omega)
          refine En_Ps 2 (pc' := 28) (lv' := [(0, .ref 159)]) (st' := [.ref 159, .ref 159]) rfl ?_
          refine En_getK (j := 8) h5 rfl rfl rfl (by decide +kernel : TG 159 = 35) (by decide +kernel) ?_
          refine En_Ps 2 (pc' := 33) (lv' := [(0, .ref 159)]) (st' := [.int ((y1 + ((Int32.ofInt 1)))), .ref 159]) rfl ?_
          refine En_top (addI rfl (by decide : (Int32.ofInt 1).toInt = 1) (by omega) (by omega)) (fun z337 h338 => ?_)
          refine En_put (j := 8) rfl rfl rfl (by decide +kernel : TG 159 = 35) (by decide +kernel) rfl (vI (l := 0) (u := 1600) (by decide +kernel) rfl (by omega) (by omega)) h3 h4 (by decide +kernel) (fun σ339 h340 h341 h342 h343 => ?_)
          have h344 := BL_go (y := y1.toInt) (z := z337.toInt) hT (by omega) (by omega) (by omega) h10
          refine En_Ps 1 (pc' := 0) (lv' := [(0, .ref 159)]) (st' := []) rfl ?_
          exact ih0 σ339 z337 h340 h341 h342 (by omega) (by omega) (by omega) (by omega) (h344.1) (h344.2)
  exact key0 (Int.toNat (-f.toInt + 1600) + 1) σ0 f hσ0 hF0 h_f (by omega) (by omega) (by omega) (by omega) (rfl) (hf)
/-- DoorSchoolModel.back(I)I -/
abbrev P_199x (σ0 : SG) (a : Int32) : PO := fun v σ => WT σ ∧ Fr [(36, 0)] σ0 σ ∧ ∃ ret : Int32, v = some (.int ret) ∧ -ret.toInt - 6 ≤ 0 ∧ ret.toInt ≤ 0 ∧ WI σ
set_option maxRecDepth 10000 in
set_option maxHeartbeats 4000000 in
theorem c_199x (σ0 : SG) (hσ0 : WT σ0) (a : Int32) (hI : WI σ0) : En 1 25 none mr_199 (P_199x σ0 a) 0 [(0, .ref 159), (1, .int a)] [] σ0 := by
  have hF0 : Fr [(36, 0)] σ0 σ0 := Fr_rfl
  refine En_Ps 4 (pc' := 6) (lv' := [(0, .ref 159), (1, .int a)]) (st' := [.long ((2 : Int64)), .long ((Int64.ofNat 0)), .long a.toInt64]) rfl ?_
  have : a.toInt64.toInt = a.toInt := (i2lI rfl)
  have := (by decide : ((Int64.ofNat 0)).toInt = 0)
  have := (by decide : ((2 : Int64)).toInt = 2)
  refine En_callS rfl rfl rfl rfl rfl rfl rfl rfl rfl (c_249 σ0 hσ0 a.toInt64 ((Int64.ofNat 0)) ((2 : Int64))) (by decide) (by decide) (fun v2 σ3 h1 => ?_)
  obtain ⟨h4, h5, z7, rfl, h6⟩ := h1
  obtain rfl : σ0 = σ3 := Fr_nil h5
  refine En_iNe _ rfl rfl (fun h8 => ?_) (fun h8 => ?_)
  · have h9 := Imp_m h6.2.2.1 (by omega)
    have h10 := Imp_m h6.2.2.2 (by omega)
    refine En_Ps 1 (pc' := 16) (lv' := [(0, .ref 159), (1, .int a)]) (st' := [.ref 159]) rfl ?_
    refine En_getU (j := 3) (u := 162) (g' := 38) (q := 0) rfl rfl rfl (by decide +kernel : TG 159 = 35) (by decide +kernel) hσ0 (by decide +kernel) (by decide +kernel) (fun h11 => ?_)
    refine En_Ps 1 (pc' := 20) (lv' := [(0, .ref 159), (1, .int a)]) (st' := [.int a, .ref 162]) rfl ?_
    refine En_bald (l := 0) (u := 1) rfl rfl (by decide +kernel : TG 162 = 38) (by decide +kernel) hσ0 (by omega) (lnI (by decide +kernel : LN _ = 3) (by omega)) (FTsgl (by decide +kernel)) (fun z14 h13 h15 h16 => ?_)
    refine En_iNe _ rfl rfl (fun h17 => ?_) (fun h17 => ?_)
    · refine En_Ps 2 (pc' := 29) (lv' := [(2, .int ((Int32.ofInt 0))), (0, .ref 159), (1, .int a)]) (st' := []) rfl ?_
      have key29 : ∀ (n29 : Nat) (σ19 : SG) (y18 : Int32), WT σ19 → Fr [(36, 0)] σ0 σ19 → (σ19 159)[3]? = some (.ref 162) → (σ19 162)[(a.toInt).toNat]? = some (.int z14) → 0 ≤ y18.toInt → y18.toInt ≤ 226 → -y18.toInt + 226 < (n29 : Int) → CPB σ0 σ19 a.toInt y18.toInt → En 1 25 none mr_199 (P_199x σ0 a) 29 [(0, .ref 159), (1, .int a), (2, .int y18)] [] σ19 := by
        intro n29
        induction n29 with
        | zero =>
          intro σ19 y18 h20 h21 h22 h23 h24 h25 h26 h27
          exfalso; omega
        | succ n29 ih29 =>
          intro σ19 y18 h20 h21 h22 h23 h24 h25 h26 h27
          refine En_Ps 2 (pc' := 33) (lv' := [(0, .ref 159), (1, .int a), (2, .int y18)]) (st' := [.int (((Int16.ofInt 226).toInt32)), .int y18]) rfl ?_
          refine En_icGe _ rfl (by decide : ((Int16.ofInt 226).toInt32).toInt = 226) rfl (fun h28 => ?_) (fun h28 => ?_)
          · refine En_Ps 1 (pc' := 61) (lv' := [(0, .ref 159), (1, .int a), (2, .int y18)]) (st' := [.int ((Int32.ofInt 0))]) rfl ?_
            refine En_top (by decide : (Int32.ofInt 0).toInt = 0) (fun z29 h30 => ?_)
            exact En_ret (v := some (.int z29)) rfl rfl rfl ⟨h20, h21, z29, rfl, ⟨by omega, by omega, CPB_x h27 (by omega) h21 (by decide +kernel) (by omega) (by omega) hI⟩⟩
          · refine En_Ps 1 (pc' := 37) (lv' := [(0, .ref 159), (1, .int a), (2, .int y18)]) (st' := [.ref 159]) rfl ?_
            refine En_getU (j := 1) (u := 160) (g' := 36) (q := 0) rfl rfl rfl (by decide +kernel : TG 159 = 35) (by decide +kernel) h20 (by decide +kernel) (by decide +kernel) (fun h31 => ?_)
            refine En_Ps 2 (pc' := 42) (lv' := [(0, .ref 159), (1, .int a), (2, .int y18)]) (st' := [.ref 159, .int y18, .ref 160]) rfl ?_
            refine En_getU (j := 2) (u := 161) (g' := 37) (q := 0) rfl rfl rfl (by decide +kernel : TG 159 = 35) (by decide +kernel) h20 (by decide +kernel) (by decide +kernel) (fun h33 => ?_)
            refine En_Ps 3 (pc' := 50) (lv' := [(0, .ref 159), (1, .int a), (2, .int y18)]) (st' := [.int (((((Int16.ofInt 226).toInt32)) * a)), .ref 161, .int y18, .ref 160]) rfl ?_
            refine En_top (mulI (by decide : ((Int16.ofInt 226).toInt32).toInt = 226) rfl (Z := 226 * a.toInt) (by omega) (by omega) (by omega)) (fun z35 h36 => ?_)
            refine En_Ps 2 (pc' := 52) (lv' := [(0, .ref 159), (1, .int a), (2, .int y18)]) (st' := [.int ((z35 + y18)), .ref 161, .int y18, .ref 160]) rfl ?_
            refine En_top (addI rfl rfl (by omega) (by omega)) (fun z37 h38 => ?_)
            refine En_ialdW (n := 678) rfl rfl (by decide +kernel : TG 161 = 37) (by decide +kernel) h20 (by omega) (by decide +kernel) (by omega) (by decide +kernel) (fun z39 h40 h41 => ?_)
            refine En_iastW (n := 226) rfl rfl (by decide +kernel : TG 160 = 36) (by decide +kernel) (by omega) (by decide +kernel) (by omega) (ft_iw h41 (by omega) (by omega) (k := a.toInt) (by omega) (by omega) (by omega)) h20 h21 (by decide +kernel) (fun σ42 h43 h44 h45 h46 => ?_)
            refine En_Ps 1 (pc' := 57) (lv' := [(2, .int ((y18 + Int32.ofInt 1))), (0, .ref 159), (1, .int a)]) (st' := []) rfl ?_
            refine En_lv1 (addI rfl (by decide : (Int32.ofInt 1).toInt = 1) (by omega) (by omega)) (fun z47 h48 => ?_)
            refine En_Ps 1 (pc' := 29) (lv' := [(2, .int z47), (0, .ref 159), (1, .int a)]) (st' := []) rfl ?_
            refine En_lv (lv := [(0, .ref 159), (1, .int a), (2, .int z47)]) ⟨rfl, rfl, rfl, trivial⟩ ?_
            exact ih29 σ42 z47 h43 h44 ((h46 _ _ (Or.inl (neTG (by decide +kernel : TG 159 = 35) (by decide +kernel : TG 160 = 36) (by decide)))).trans h22) ((h46 _ _ (Or.inl (neTG (by decide +kernel : TG 162 = 38) (by decide +kernel : TG 160 = 36) (by decide)))).trans h23) (by omega) (by omega) (by omega) (CPB_s h27 h21 (by decide +kernel) h40 h45 h46 (by omega) (by omega) (by omega))
      have := (by decide : (Int32.ofInt 0).toInt = 0)
      refine En_lv (lv := [(0, .ref 159), (1, .int a), (2, .int ((Int32.ofInt 0)))]) ⟨rfl, rfl, rfl, trivial⟩ ?_
      exact key29 (Int.toNat (226) + 1) σ0 ((Int32.ofInt 0)) hσ0 hF0 h11 h13 (by omega) (by omega) (by omega) (CPB_0 (by decide))
    · refine En_Ps 1 (pc' := 26) (lv' := [(0, .ref 159), (1, .int a)]) (st' := [.int (((Int8.ofInt (-6)).toInt32))]) rfl ?_
      refine En_top (by decide : ((Int8.ofInt (-6)).toInt32).toInt = -6) (fun z49 h50 => ?_)
      exact En_ret (v := some (.int z49)) rfl rfl rfl ⟨hσ0, hF0, z49, rfl, ⟨by omega, by omega, hI⟩⟩
  · refine En_Ps 1 (pc' := 14) (lv' := [(0, .ref 159), (1, .int a)]) (st' := [.int (((Int8.ofInt (-2)).toInt32))]) rfl ?_
    refine En_top (by decide : ((Int8.ofInt (-2)).toInt32).toInt = -2) (fun z51 h52 => ?_)
    exact En_ret (v := some (.int z51)) rfl rfl rfl ⟨hσ0, hF0, z51, rfl, ⟨by omega, by omega, hI⟩⟩
/-- DoorSchoolModel.is(Ljava/lang/String;)Z -/
abbrev P_251s0x (σ0 : SG) (By : Int → Int) (Nb : Int) (Sp : PS) : PO := fun v σ => WT σ ∧ Fr [] σ0 σ ∧ ∃ ret : Int32, v = some (.int ret) ∧ -ret.toInt ≤ 0 ∧ ret.toInt - 1 ≤ 0 ∧ ret.toInt = iW By Nb 0 Sp
set_option maxRecDepth 10000 in
set_option maxHeartbeats 4000000 in
theorem c_251s0x {By : Int → Int} {Nb : Int} {Sp : PS} (σ0 : SG) (hσ0 : WT σ0) (hM : ML By Nb σ0 Sp) : En 4 90 none mr_251 (P_251s0x σ0 By Nb Sp) 0 [(0, .ref 159), (1, .retAddr 1)] [] σ0 := by
  have hF0 : Fr [] σ0 σ0 := Fr_rfl
  obtain ⟨z2, h1, h3, h4⟩ := WT_peekI hσ0 (by decide +kernel : TG 159 = 35) (by decide +kernel : FT 35 12 = (0, 0, 3)) (by decide +kernel)
  obtain ⟨z6, h5, h7, h8⟩ := WT_peekI hσ0 (by decide +kernel : TG 159 = 35) (by decide +kernel : FT 35 10 = (0, 0, 4)) (by decide +kernel)
  obtain ⟨z10, h9, h11, h12⟩ := WT_peekI hσ0 (by decide +kernel : TG 159 = 35) (by decide +kernel : FT 35 8 = (0, 0, 1600)) (by decide +kernel)
  obtain ⟨z14, h13, h15, h16⟩ := WT_peekI hσ0 (by decide +kernel : TG 159 = 35) (by decide +kernel : FT 35 9 = (0, 0, 1600)) (by decide +kernel)
  have h17 := ML_k hM h1
  have h18 : Imp (Sp.1 = 0) (tK By Nb Sp.2.2.1 = z6.toInt) := ML_t hM h5
  have h19 := ML_fa hM h9 h13
  refine En_Ps 1 (pc' := 1) (lv' := [(0, .ref 159), (1, .retAddr 1)]) (st' := [.ref 159]) rfl ?_
  refine En_callV rfl rfl rfl rfl rfl rfl rfl rfl (by decide +kernel : TG 159 = 35) (by decide +kernel) rfl (c_237 σ0 hσ0 z2 h1) (by decide) (by decide) (fun v21 σ22 h20 => ?_)
  obtain ⟨h23, h24, z26, rfl, h25⟩ := h20
  obtain rfl : σ0 = σ22 := Fr_nil h24
  refine En_iEq _ rfl rfl (fun h27 => ?_) (fun h27 => ?_)
  · have h28 := Imp_m h25.2.2.2 (by omega)
    refine En_Ps 4 (pc' := 39) (lv' := [(3, .int ((Int32.ofInt 0))), (2, .int ((Int32.ofInt 0))), (0, .ref 159), (1, .retAddr 1)]) (st' := []) rfl ?_
    have key39 : ∀ (n39 : Nat) (σ31 : SG) (y29 : Int32) (y30 : Int32), WT σ31 → Fr [] σ0 σ31 → (σ31 159)[12]? = some (.int z2) → (σ31 159)[10]? = some (.int z6) → (σ31 159)[8]? = some (.int z10) → (σ31 159)[9]? = some (.int z14) → 0 ≤ y29.toInt → y29.toInt ≤ 0 → 0 ≤ y30.toInt → y30.toInt ≤ 0 → z2.toInt - y29.toInt < (n39 : Int) → ISQ By Nb 0 Sp y29.toInt y30.toInt → En 4 90 none mr_251 (P_251s0x σ0 By Nb Sp) 39 [(0, .ref 159), (1, .retAddr 1), (2, .int y29), (3, .int y30)] [] σ31 := by
      intro n39
      induction n39 with
      | zero =>
        intro σ31 y29 y30 h32 h33 h34 h35 h36 h37 h38 h39 h40 h41 h42 h43
        exfalso; omega
      | succ n39 ih39 =>
        intro σ31 y29 y30 h32 h33 h34 h35 h36 h37 h38 h39 h40 h41 h42 h43
        refine En_Ps 2 (pc' := 41) (lv' := [(0, .ref 159), (1, .retAddr 1), (2, .int y29), (3, .int y30)]) (st' := [.retAddr 1, .int y30]) rfl ?_
        refine En_slen 0 5 rfl rfl (by decide) rfl ?_
        refine En_icGe _ rfl (by decide : (Int32.ofNat 5).toInt = 5) rfl (fun hx => by exfalso; omega) (fun h44 => ?_)
        refine En_Ps 1 (pc' := 48) (lv' := [(0, .ref 159), (1, .retAddr 1), (2, .int y29), (3, .int y30)]) (st' := [.int y29]) rfl ?_
        refine En_iEq _ rfl rfl (fun h45 => ?_) (fun hx => by exfalso; omega)
        refine En_Ps 1 (pc' := 83) (lv' := [(0, .ref 159), (1, .retAddr 1), (2, .int y29), (3, .int y30)]) (st' := [.int y29]) rfl ?_
        exact En_ret (v := some (.int y29)) rfl rfl (retZ rfl rfl (by omega) (by omega)) ⟨h32, h33, y29, rfl, ⟨by omega, by omega, ISQ_x h43 (by simp only [LWl]; omega)⟩⟩
    have := (by decide : (Int32.ofInt 0).toInt = 0)
    have := (by decide : (Int32.ofInt 0).toInt = 0)
    refine En_lv (lv := [(0, .ref 159), (1, .retAddr 1), (2, .int ((Int32.ofInt 0))), (3, .int ((Int32.ofInt 0)))]) ⟨rfl, rfl, rfl, rfl, trivial⟩ ?_
    exact key39 (Int.toNat (z2.toInt) + 1) σ0 ((Int32.ofInt 0)) ((Int32.ofInt 0)) hσ0 hF0 h1 h5 h9 h13 (by omega) (by omega) (by omega) (by omega) (by omega) (ISQ_s (by decide) (by (try have i0 := Imp_m h18 (by omega)); simp only [LWl]; omega))
  · have h46 := Imp_m h25.2.2.1 (by omega)
    refine En_Ps 1 (pc' := 8) (lv' := [(0, .ref 159), (1, .retAddr 1)]) (st' := [.ref 159]) rfl ?_
    refine En_getK (j := 10) h5 rfl rfl rfl (by decide +kernel : TG 159 = 35) (by decide +kernel) ?_
    refine En_Ps 1 (pc' := 12) (lv' := [(0, .ref 159), (1, .retAddr 1)]) (st' := [.int ((Int32.ofInt 1)), .int z6]) rfl ?_
    refine En_icNe _ rfl (by decide : (Int32.ofInt 1).toInt = 1) rfl (fun h47 => ?_) (fun h47 => ?_)
    · refine En_Ps 4 (pc' := 39) (lv' := [(3, .int ((Int32.ofInt 0))), (2, .int ((Int32.ofInt 0))), (0, .ref 159), (1, .retAddr 1)]) (st' := []) rfl ?_
      have key39 : ∀ (n39 : Nat) (σ50 : SG) (y48 : Int32) (y49 : Int32), WT σ50 → Fr [] σ0 σ50 → (σ50 159)[12]? = some (.int z2) → (σ50 159)[10]? = some (.int z6) → (σ50 159)[8]? = some (.int z10) → (σ50 159)[9]? = some (.int z14) → 0 ≤ y48.toInt → y48.toInt ≤ 0 → 0 ≤ y49.toInt → y49.toInt ≤ 0 → z2.toInt - y48.toInt < (n39 : Int) → ISQ By Nb 0 Sp y48.toInt y49.toInt → En 4 90 none mr_251 (P_251s0x σ0 By Nb Sp) 39 [(0, .ref 159), (1, .retAddr 1), (2, .int y48), (3, .int y49)] [] σ50 := by
        intro n39
        induction n39 with
        | zero =>
          intro σ50 y48 y49 h51 h52 h53 h54 h55 h56 h57 h58 h59 h60 h61 h62
          exfalso; omega
        | succ n39 ih39 =>
          intro σ50 y48 y49 h51 h52 h53 h54 h55 h56 h57 h58 h59 h60 h61 h62
          refine En_Ps 2 (pc' := 41) (lv' := [(0, .ref 159), (1, .retAddr 1), (2, .int y48), (3, .int y49)]) (st' := [.retAddr 1, .int y49]) rfl ?_
          refine En_slen 0 5 rfl rfl (by decide) rfl ?_
          refine En_icGe _ rfl (by decide : (Int32.ofNat 5).toInt = 5) rfl (fun hx => by exfalso; omega) (fun h63 => ?_)
          refine En_Ps 1 (pc' := 48) (lv' := [(0, .ref 159), (1, .retAddr 1), (2, .int y48), (3, .int y49)]) (st' := [.int y48]) rfl ?_
          refine En_iEq _ rfl rfl (fun h64 => ?_) (fun hx => by exfalso; omega)
          refine En_Ps 1 (pc' := 83) (lv' := [(0, .ref 159), (1, .retAddr 1), (2, .int y48), (3, .int y49)]) (st' := [.int y48]) rfl ?_
          exact En_ret (v := some (.int y48)) rfl rfl (retZ rfl rfl (by omega) (by omega)) ⟨h51, h52, y48, rfl, ⟨by omega, by omega, ISQ_x h62 (by simp only [LWl]; omega)⟩⟩
      have := (by decide : (Int32.ofInt 0).toInt = 0)
      have := (by decide : (Int32.ofInt 0).toInt = 0)
      refine En_lv (lv := [(0, .ref 159), (1, .retAddr 1), (2, .int ((Int32.ofInt 0))), (3, .int ((Int32.ofInt 0)))]) ⟨rfl, rfl, rfl, rfl, trivial⟩ ?_
      exact key39 (Int.toNat (z2.toInt) + 1) σ0 ((Int32.ofInt 0)) ((Int32.ofInt 0)) hσ0 hF0 h1 h5 h9 h13 (by omega) (by omega) (by omega) (by omega) (by omega) (ISQ_s (by decide) (by (try have i0 := Imp_m h18 (by omega)); simp only [LWl]; omega))
    · refine En_Ps 1 (pc' := 16) (lv' := [(0, .ref 159), (1, .retAddr 1)]) (st' := [.ref 159]) rfl ?_
      refine En_getK (j := 8) h9 rfl rfl rfl (by decide +kernel : TG 159 = 35) (by decide +kernel) ?_
      refine En_Ps 1 (pc' := 20) (lv' := [(0, .ref 159), (1, .retAddr 1)]) (st' := [.ref 159, .int z10]) rfl ?_
      refine En_getK (j := 9) h13 rfl rfl rfl (by decide +kernel : TG 159 = 35) (by decide +kernel) ?_
      refine En_Ps 1 (pc' := 24) (lv' := [(0, .ref 159), (1, .retAddr 1)]) (st' := [.int ((z10 - z14))]) rfl ?_
      refine En_top (subI rfl rfl (by omega) (by omega)) (fun z65 h66 => ?_)
      refine En_Ps 1 (pc' := 25) (lv' := [(0, .ref 159), (1, .retAddr 1)]) (st' := [.retAddr 1, .int z65]) rfl ?_
      refine En_slen 0 5 rfl rfl (by decide) rfl ?_
      refine En_icNe _ rfl (by decide : (Int32.ofNat 5).toInt = 5) rfl (fun h67 => ?_) (fun h67 => ?_)
      · refine En_Ps 4 (pc' := 39) (lv' := [(3, .int ((Int32.ofInt 0))), (2, .int ((Int32.ofInt 0))), (0, .ref 159), (1, .retAddr 1)]) (st' := []) rfl ?_
        have key39 : ∀ (n39 : Nat) (σ70 : SG) (y68 : Int32) (y69 : Int32), WT σ70 → Fr [] σ0 σ70 → (σ70 159)[12]? = some (.int z2) → (σ70 159)[10]? = some (.int z6) → (σ70 159)[8]? = some (.int z10) → (σ70 159)[9]? = some (.int z14) → 0 ≤ y68.toInt → y68.toInt ≤ 0 → 0 ≤ y69.toInt → y69.toInt ≤ 0 → z2.toInt - y68.toInt < (n39 : Int) → ISQ By Nb 0 Sp y68.toInt y69.toInt → En 4 90 none mr_251 (P_251s0x σ0 By Nb Sp) 39 [(0, .ref 159), (1, .retAddr 1), (2, .int y68), (3, .int y69)] [] σ70 := by
          intro n39
          induction n39 with
          | zero =>
            intro σ70 y68 y69 h71 h72 h73 h74 h75 h76 h77 h78 h79 h80 h81 h82
            exfalso; omega
          | succ n39 ih39 =>
            intro σ70 y68 y69 h71 h72 h73 h74 h75 h76 h77 h78 h79 h80 h81 h82
            refine En_Ps 2 (pc' := 41) (lv' := [(0, .ref 159), (1, .retAddr 1), (2, .int y68), (3, .int y69)]) (st' := [.retAddr 1, .int y69]) rfl ?_
            refine En_slen 0 5 rfl rfl (by decide) rfl ?_
            refine En_icGe _ rfl (by decide : (Int32.ofNat 5).toInt = 5) rfl (fun hx => by exfalso; omega) (fun h83 => ?_)
            refine En_Ps 1 (pc' := 48) (lv' := [(0, .ref 159), (1, .retAddr 1), (2, .int y68), (3, .int y69)]) (st' := [.int y68]) rfl ?_
            refine En_iEq _ rfl rfl (fun h84 => ?_) (fun hx => by exfalso; omega)
            refine En_Ps 1 (pc' := 83) (lv' := [(0, .ref 159), (1, .retAddr 1), (2, .int y68), (3, .int y69)]) (st' := [.int y68]) rfl ?_
            exact En_ret (v := some (.int y68)) rfl rfl (retZ rfl rfl (by omega) (by omega)) ⟨h71, h72, y68, rfl, ⟨by omega, by omega, ISQ_x h82 (by simp only [LWl]; omega)⟩⟩
        have := (by decide : (Int32.ofInt 0).toInt = 0)
        have := (by decide : (Int32.ofInt 0).toInt = 0)
        refine En_lv (lv := [(0, .ref 159), (1, .retAddr 1), (2, .int ((Int32.ofInt 0))), (3, .int ((Int32.ofInt 0)))]) ⟨rfl, rfl, rfl, rfl, trivial⟩ ?_
        exact key39 (Int.toNat (z2.toInt) + 1) σ0 ((Int32.ofInt 0)) ((Int32.ofInt 0)) hσ0 hF0 h1 h5 h9 h13 (by omega) (by omega) (by omega) (by omega) (by omega) (ISQ_s (by decide) (by (try have i0 := Imp_m h18 (by omega)); simp only [LWl]; omega))
      · refine En_Ps 5 (pc' := 39) (lv' := [(3, .int ((Int32.ofInt 0))), (2, .int ((Int32.ofInt 1))), (0, .ref 159), (1, .retAddr 1)]) (st' := []) rfl ?_
        have key39 : ∀ (n39 : Nat) (σ87 : SG) (y85 : Int32) (y86 : Int32), WT σ87 → Fr [] σ0 σ87 → (σ87 159)[12]? = some (.int z2) → (σ87 159)[10]? = some (.int z6) → (σ87 159)[8]? = some (.int z10) → (σ87 159)[9]? = some (.int z14) → 0 ≤ y85.toInt → y85.toInt ≤ 1 → 0 ≤ y86.toInt → y86.toInt ≤ 5 → z10.toInt - y86.toInt < (n39 : Int) → ISQ By Nb 0 Sp y85.toInt y86.toInt → En 4 90 none mr_251 (P_251s0x σ0 By Nb Sp) 39 [(0, .ref 159), (1, .retAddr 1), (2, .int y85), (3, .int y86)] [] σ87 := by
          intro n39
          induction n39 with
          | zero =>
            intro σ87 y85 y86 h88 h89 h90 h91 h92 h93 h94 h95 h96 h97 h98 h99
            exfalso; omega
          | succ n39 ih39 =>
            intro σ87 y85 y86 h88 h89 h90 h91 h92 h93 h94 h95 h96 h97 h98 h99
            refine En_Ps 2 (pc' := 41) (lv' := [(0, .ref 159), (1, .retAddr 1), (2, .int y85), (3, .int y86)]) (st' := [.retAddr 1, .int y86]) rfl ?_
            refine En_slen 0 5 rfl rfl (by decide) rfl ?_
            refine En_icGe _ rfl (by decide : (Int32.ofNat 5).toInt = 5) rfl (fun h100 => ?_) (fun h100 => ?_)
            · refine En_Ps 1 (pc' := 83) (lv' := [(0, .ref 159), (1, .retAddr 1), (2, .int y85), (3, .int y86)]) (st' := [.int y85]) rfl ?_
              exact En_ret (v := some (.int y85)) rfl rfl (retZ rfl rfl (by omega) (by omega)) ⟨h88, h89, y85, rfl, ⟨by omega, by omega, ISQ_x h99 (by simp only [LWl]; omega)⟩⟩
            · refine En_Ps 1 (pc' := 48) (lv' := [(0, .ref 159), (1, .retAddr 1), (2, .int y85), (3, .int y86)]) (st' := [.int y85]) rfl ?_
              refine En_iEq _ rfl rfl (fun h101 => ?_) (fun h101 => ?_)
              · refine En_Ps 1 (pc' := 83) (lv' := [(0, .ref 159), (1, .retAddr 1), (2, .int y85), (3, .int y86)]) (st' := [.int y85]) rfl ?_
                exact En_ret (v := some (.int y85)) rfl rfl (retZ rfl rfl (by omega) (by omega)) ⟨h88, h89, y85, rfl, ⟨by omega, by omega, ISQ_x h99 (by simp only [LWl]; omega)⟩⟩
              · refine En_Ps 1 (pc' := 52) (lv' := [(0, .ref 159), (1, .retAddr 1), (2, .int y85), (3, .int y86)]) (st' := [.ref 159]) rfl ?_
                refine En_getU (j := 4) (u := 163) (g' := 39) (q := 0) rfl rfl rfl (by decide +kernel : TG 159 = 35) (by decide +kernel) h88 (by decide +kernel) (by decide +kernel) (fun h102 => ?_)
                refine En_Ps 1 (pc' := 56) (lv' := [(0, .ref 159), (1, .retAddr 1), (2, .int y85), (3, .int y86)]) (st' := [.ref 159, .ref 163]) rfl ?_
                refine En_getK (j := 9) h93 rfl rfl rfl (by decide +kernel : TG 159 = 35) (by decide +kernel) ?_
                refine En_Ps 2 (pc' := 61) (lv' := [(0, .ref 159), (1, .retAddr 1), (2, .int y85), (3, .int y86)]) (st' := [.int ((z14 + y86)), .ref 163]) rfl ?_
                refine En_top (addI rfl rfl (by omega) (by omega)) (fun z104 h105 => ?_)
                refine En_bald (l := (-128)) (u := 127) rfl rfl (by decide +kernel : TG 163 = 39) (by decide +kernel) h88 (by omega) (lnI (by decide +kernel : LN _ = 1600) (by omega)) (FTsgl (by decide +kernel)) (fun z107 h106 h108 h109 => ?_)
                refine En_Ps 2 (pc' := 64) (lv' := [(0, .ref 159), (1, .retAddr 1), (2, .int y85), (3, .int y86)]) (st' := [.int y86, .retAddr 1, .int z107]) rfl ?_
                refine En_scharX 0 5 rfl rfl rfl (by decide) (by omega) (by omega) rfl (fun z110 h111 h112 h113 => ?_)
                refine En_icNe _ rfl rfl rfl (fun h114 => ?_) (fun h114 => ?_)
                · refine En_Ps 3 (pc' := 79) (lv' := [(3, .int ((y86 + Int32.ofInt 1))), (2, .int ((Int32.ofInt 0))), (0, .ref 159), (1, .retAddr 1)]) (st' := []) rfl ?_
                  refine En_lv1 (addI rfl (by decide : (Int32.ofInt 1).toInt = 1) (by omega) (by omega)) (fun z115 h116 => ?_)
                  refine En_Ps 1 (pc' := 39) (lv' := [(3, .int z115), (2, .int ((Int32.ofInt 0))), (0, .ref 159), (1, .retAddr 1)]) (st' := []) rfl ?_
                  have := (by decide : (Int32.ofInt 0).toInt = 0)
                  refine En_lv (lv := [(0, .ref 159), (1, .retAddr 1), (2, .int ((Int32.ofInt 0))), (3, .int z115)]) ⟨rfl, rfl, rfl, rfl, trivial⟩ ?_
                  exact ih39 σ87 ((Int32.ofInt 0)) z115 h88 h89 h90 h91 h92 h93 (by omega) (by omega) (by omega) (by omega) (by omega) (ISQ_n (ML_fr hM h89 (by decide +kernel)) h99 (by omega) (by simp only [LWl]; omega) (fun _ => by omega) h106 h113 (by omega) (by omega))
                · refine En_Ps 4 (pc' := 79) (lv' := [(3, .int ((y86 + Int32.ofInt 1))), (2, .int ((Int32.ofInt 1))), (0, .ref 159), (1, .retAddr 1)]) (st' := []) rfl ?_
                  refine En_lv1 (addI rfl (by decide : (Int32.ofInt 1).toInt = 1) (by omega) (by omega)) (fun z117 h118 => ?_)
                  refine En_Ps 1 (pc' := 39) (lv' := [(3, .int z117), (2, .int ((Int32.ofInt 1))), (0, .ref 159), (1, .retAddr 1)]) (st' := []) rfl ?_
                  have := (by decide : (Int32.ofInt 1).toInt = 1)
                  refine En_lv (lv := [(0, .ref 159), (1, .retAddr 1), (2, .int ((Int32.ofInt 1))), (3, .int z117)]) ⟨rfl, rfl, rfl, rfl, trivial⟩ ?_
                  exact ih39 σ87 ((Int32.ofInt 1)) z117 h88 h89 h90 h91 h92 h93 (by omega) (by omega) (by omega) (by omega) (by omega) (ISQ_n (ML_fr hM h89 (by decide +kernel)) h99 (by omega) (by simp only [LWl]; omega) (fun _ => by omega) h106 h113 (by omega) (by omega))
        have := (by decide : (Int32.ofInt 1).toInt = 1)
        have := (by decide : (Int32.ofInt 0).toInt = 0)
        refine En_lv (lv := [(0, .ref 159), (1, .retAddr 1), (2, .int ((Int32.ofInt 1))), (3, .int ((Int32.ofInt 0)))]) ⟨rfl, rfl, rfl, rfl, trivial⟩ ?_
        exact key39 (Int.toNat (z10.toInt) + 1) σ0 ((Int32.ofInt 1)) ((Int32.ofInt 0)) hσ0 hF0 h1 h5 h9 h13 (by omega) (by omega) (by omega) (by omega) (by omega) (ISQ_s (by decide) (by (try have i0 := Imp_m h18 (by omega)); simp only [LWl]; omega))
/-- DoorSchoolModel.is(Ljava/lang/String;)Z -/
abbrev P_251s1x (σ0 : SG) (By : Int → Int) (Nb : Int) (Sp : PS) : PO := fun v σ => WT σ ∧ Fr [] σ0 σ ∧ ∃ ret : Int32, v = some (.int ret) ∧ -ret.toInt ≤ 0 ∧ ret.toInt - 1 ≤ 0 ∧ ret.toInt = iW By Nb 1 Sp
set_option maxRecDepth 10000 in
set_option maxHeartbeats 4000000 in
theorem c_251s1x {By : Int → Int} {Nb : Int} {Sp : PS} (σ0 : SG) (hσ0 : WT σ0) (hM : ML By Nb σ0 Sp) : En 4 90 none mr_251 (P_251s1x σ0 By Nb Sp) 0 [(0, .ref 159), (1, .retAddr 3)] [] σ0 := by
  have hF0 : Fr [] σ0 σ0 := Fr_rfl
  obtain ⟨z2, h1, h3, h4⟩ := WT_peekI hσ0 (by decide +kernel : TG 159 = 35) (by decide +kernel : FT 35 12 = (0, 0, 3)) (by decide +kernel)
  obtain ⟨z6, h5, h7, h8⟩ := WT_peekI hσ0 (by decide +kernel : TG 159 = 35) (by decide +kernel : FT 35 10 = (0, 0, 4)) (by decide +kernel)
  obtain ⟨z10, h9, h11, h12⟩ := WT_peekI hσ0 (by decide +kernel : TG 159 = 35) (by decide +kernel : FT 35 8 = (0, 0, 1600)) (by decide +kernel)
  obtain ⟨z14, h13, h15, h16⟩ := WT_peekI hσ0 (by decide +kernel : TG 159 = 35) (by decide +kernel : FT 35 9 = (0, 0, 1600)) (by decide +kernel)
  have h17 := ML_k hM h1
  have h18 : Imp (Sp.1 = 0) (tK By Nb Sp.2.2.1 = z6.toInt) := ML_t hM h5
  have h19 := ML_fa hM h9 h13
  refine En_Ps 1 (pc' := 1) (lv' := [(0, .ref 159), (1, .retAddr 3)]) (st' := [.ref 159]) rfl ?_
  refine En_callV rfl rfl rfl rfl rfl rfl rfl rfl (by decide +kernel : TG 159 = 35) (by decide +kernel) rfl (c_237 σ0 hσ0 z2 h1) (by decide) (by decide) (fun v21 σ22 h20 => ?_)
  obtain ⟨h23, h24, z26, rfl, h25⟩ := h20
  obtain rfl : σ0 = σ22 := Fr_nil h24
  refine En_iEq _ rfl rfl (fun h27 => ?_) (fun h27 => ?_)
  · have h28 := Imp_m h25.2.2.2 (by omega)
    refine En_Ps 4 (pc' := 39) (lv' := [(3, .int ((Int32.ofInt 0))), (2, .int ((Int32.ofInt 0))), (0, .ref 159), (1, .retAddr 3)]) (st' := []) rfl ?_
    have key39 : ∀ (n39 : Nat) (σ31 : SG) (y29 : Int32) (y30 : Int32), WT σ31 → Fr [] σ0 σ31 → (σ31 159)[12]? = some (.int z2) → (σ31 159)[10]? = some (.int z6) → (σ31 159)[8]? = some (.int z10) → (σ31 159)[9]? = some (.int z14) → 0 ≤ y29.toInt → y29.toInt ≤ 0 → 0 ≤ y30.toInt → y30.toInt ≤ 0 → z2.toInt - y29.toInt < (n39 : Int) → ISQ By Nb 1 Sp y29.toInt y30.toInt → En 4 90 none mr_251 (P_251s1x σ0 By Nb Sp) 39 [(0, .ref 159), (1, .retAddr 3), (2, .int y29), (3, .int y30)] [] σ31 := by
      intro n39
      induction n39 with
      | zero =>
        intro σ31 y29 y30 h32 h33 h34 h35 h36 h37 h38 h39 h40 h41 h42 h43
        exfalso; omega
      | succ n39 ih39 =>
        intro σ31 y29 y30 h32 h33 h34 h35 h36 h37 h38 h39 h40 h41 h42 h43
        refine En_Ps 2 (pc' := 41) (lv' := [(0, .ref 159), (1, .retAddr 3), (2, .int y29), (3, .int y30)]) (st' := [.retAddr 3, .int y30]) rfl ?_
        refine En_slen 1 6 rfl rfl (by decide) rfl ?_
        refine En_icGe _ rfl (by decide : (Int32.ofNat 6).toInt = 6) rfl (fun hx => by exfalso; omega) (fun h44 => ?_)
        refine En_Ps 1 (pc' := 48) (lv' := [(0, .ref 159), (1, .retAddr 3), (2, .int y29), (3, .int y30)]) (st' := [.int y29]) rfl ?_
        refine En_iEq _ rfl rfl (fun h45 => ?_) (fun hx => by exfalso; omega)
        refine En_Ps 1 (pc' := 83) (lv' := [(0, .ref 159), (1, .retAddr 3), (2, .int y29), (3, .int y30)]) (st' := [.int y29]) rfl ?_
        exact En_ret (v := some (.int y29)) rfl rfl (retZ rfl rfl (by omega) (by omega)) ⟨h32, h33, y29, rfl, ⟨by omega, by omega, ISQ_x h43 (by simp only [LWl]; omega)⟩⟩
    have := (by decide : (Int32.ofInt 0).toInt = 0)
    have := (by decide : (Int32.ofInt 0).toInt = 0)
    refine En_lv (lv := [(0, .ref 159), (1, .retAddr 3), (2, .int ((Int32.ofInt 0))), (3, .int ((Int32.ofInt 0)))]) ⟨rfl, rfl, rfl, rfl, trivial⟩ ?_
    exact key39 (Int.toNat (z2.toInt) + 1) σ0 ((Int32.ofInt 0)) ((Int32.ofInt 0)) hσ0 hF0 h1 h5 h9 h13 (by omega) (by omega) (by omega) (by omega) (by omega) (ISQ_s (by decide) (by (try have i0 := Imp_m h18 (by omega)); simp only [LWl]; omega))
  · have h46 := Imp_m h25.2.2.1 (by omega)
    refine En_Ps 1 (pc' := 8) (lv' := [(0, .ref 159), (1, .retAddr 3)]) (st' := [.ref 159]) rfl ?_
    refine En_getK (j := 10) h5 rfl rfl rfl (by decide +kernel : TG 159 = 35) (by decide +kernel) ?_
    refine En_Ps 1 (pc' := 12) (lv' := [(0, .ref 159), (1, .retAddr 3)]) (st' := [.int ((Int32.ofInt 1)), .int z6]) rfl ?_
    refine En_icNe _ rfl (by decide : (Int32.ofInt 1).toInt = 1) rfl (fun h47 => ?_) (fun h47 => ?_)
    · refine En_Ps 4 (pc' := 39) (lv' := [(3, .int ((Int32.ofInt 0))), (2, .int ((Int32.ofInt 0))), (0, .ref 159), (1, .retAddr 3)]) (st' := []) rfl ?_
      have key39 : ∀ (n39 : Nat) (σ50 : SG) (y48 : Int32) (y49 : Int32), WT σ50 → Fr [] σ0 σ50 → (σ50 159)[12]? = some (.int z2) → (σ50 159)[10]? = some (.int z6) → (σ50 159)[8]? = some (.int z10) → (σ50 159)[9]? = some (.int z14) → 0 ≤ y48.toInt → y48.toInt ≤ 0 → 0 ≤ y49.toInt → y49.toInt ≤ 0 → z2.toInt - y48.toInt < (n39 : Int) → ISQ By Nb 1 Sp y48.toInt y49.toInt → En 4 90 none mr_251 (P_251s1x σ0 By Nb Sp) 39 [(0, .ref 159), (1, .retAddr 3), (2, .int y48), (3, .int y49)] [] σ50 := by
        intro n39
        induction n39 with
        | zero =>
          intro σ50 y48 y49 h51 h52 h53 h54 h55 h56 h57 h58 h59 h60 h61 h62
          exfalso; omega
        | succ n39 ih39 =>
          intro σ50 y48 y49 h51 h52 h53 h54 h55 h56 h57 h58 h59 h60 h61 h62
          refine En_Ps 2 (pc' := 41) (lv' := [(0, .ref 159), (1, .retAddr 3), (2, .int y48), (3, .int y49)]) (st' := [.retAddr 3, .int y49]) rfl ?_
          refine En_slen 1 6 rfl rfl (by decide) rfl ?_
          refine En_icGe _ rfl (by decide : (Int32.ofNat 6).toInt = 6) rfl (fun hx => by exfalso; omega) (fun h63 => ?_)
          refine En_Ps 1 (pc' := 48) (lv' := [(0, .ref 159), (1, .retAddr 3), (2, .int y48), (3, .int y49)]) (st' := [.int y48]) rfl ?_
          refine En_iEq _ rfl rfl (fun h64 => ?_) (fun hx => by exfalso; omega)
          refine En_Ps 1 (pc' := 83) (lv' := [(0, .ref 159), (1, .retAddr 3), (2, .int y48), (3, .int y49)]) (st' := [.int y48]) rfl ?_
          exact En_ret (v := some (.int y48)) rfl rfl (retZ rfl rfl (by omega) (by omega)) ⟨h51, h52, y48, rfl, ⟨by omega, by omega, ISQ_x h62 (by simp only [LWl]; omega)⟩⟩
      have := (by decide : (Int32.ofInt 0).toInt = 0)
      have := (by decide : (Int32.ofInt 0).toInt = 0)
      refine En_lv (lv := [(0, .ref 159), (1, .retAddr 3), (2, .int ((Int32.ofInt 0))), (3, .int ((Int32.ofInt 0)))]) ⟨rfl, rfl, rfl, rfl, trivial⟩ ?_
      exact key39 (Int.toNat (z2.toInt) + 1) σ0 ((Int32.ofInt 0)) ((Int32.ofInt 0)) hσ0 hF0 h1 h5 h9 h13 (by omega) (by omega) (by omega) (by omega) (by omega) (ISQ_s (by decide) (by (try have i0 := Imp_m h18 (by omega)); simp only [LWl]; omega))
    · refine En_Ps 1 (pc' := 16) (lv' := [(0, .ref 159), (1, .retAddr 3)]) (st' := [.ref 159]) rfl ?_
      refine En_getK (j := 8) h9 rfl rfl rfl (by decide +kernel : TG 159 = 35) (by decide +kernel) ?_
      refine En_Ps 1 (pc' := 20) (lv' := [(0, .ref 159), (1, .retAddr 3)]) (st' := [.ref 159, .int z10]) rfl ?_
      refine En_getK (j := 9) h13 rfl rfl rfl (by decide +kernel : TG 159 = 35) (by decide +kernel) ?_
      refine En_Ps 1 (pc' := 24) (lv' := [(0, .ref 159), (1, .retAddr 3)]) (st' := [.int ((z10 - z14))]) rfl ?_
      refine En_top (subI rfl rfl (by omega) (by omega)) (fun z65 h66 => ?_)
      refine En_Ps 1 (pc' := 25) (lv' := [(0, .ref 159), (1, .retAddr 3)]) (st' := [.retAddr 3, .int z65]) rfl ?_
      refine En_slen 1 6 rfl rfl (by decide) rfl ?_
      refine En_icNe _ rfl (by decide : (Int32.ofNat 6).toInt = 6) rfl (fun h67 => ?_) (fun h67 => ?_)
      · refine En_Ps 4 (pc' := 39) (lv' := [(3, .int ((Int32.ofInt 0))), (2, .int ((Int32.ofInt 0))), (0, .ref 159), (1, .retAddr 3)]) (st' := []) rfl ?_
        have key39 : ∀ (n39 : Nat) (σ70 : SG) (y68 : Int32) (y69 : Int32), WT σ70 → Fr [] σ0 σ70 → (σ70 159)[12]? = some (.int z2) → (σ70 159)[10]? = some (.int z6) → (σ70 159)[8]? = some (.int z10) → (σ70 159)[9]? = some (.int z14) → 0 ≤ y68.toInt → y68.toInt ≤ 0 → 0 ≤ y69.toInt → y69.toInt ≤ 0 → z2.toInt - y68.toInt < (n39 : Int) → ISQ By Nb 1 Sp y68.toInt y69.toInt → En 4 90 none mr_251 (P_251s1x σ0 By Nb Sp) 39 [(0, .ref 159), (1, .retAddr 3), (2, .int y68), (3, .int y69)] [] σ70 := by
          intro n39
          induction n39 with
          | zero =>
            intro σ70 y68 y69 h71 h72 h73 h74 h75 h76 h77 h78 h79 h80 h81 h82
            exfalso; omega
          | succ n39 ih39 =>
            intro σ70 y68 y69 h71 h72 h73 h74 h75 h76 h77 h78 h79 h80 h81 h82
            refine En_Ps 2 (pc' := 41) (lv' := [(0, .ref 159), (1, .retAddr 3), (2, .int y68), (3, .int y69)]) (st' := [.retAddr 3, .int y69]) rfl ?_
            refine En_slen 1 6 rfl rfl (by decide) rfl ?_
            refine En_icGe _ rfl (by decide : (Int32.ofNat 6).toInt = 6) rfl (fun hx => by exfalso; omega) (fun h83 => ?_)
            refine En_Ps 1 (pc' := 48) (lv' := [(0, .ref 159), (1, .retAddr 3), (2, .int y68), (3, .int y69)]) (st' := [.int y68]) rfl ?_
            refine En_iEq _ rfl rfl (fun h84 => ?_) (fun hx => by exfalso; omega)
            refine En_Ps 1 (pc' := 83) (lv' := [(0, .ref 159), (1, .retAddr 3), (2, .int y68), (3, .int y69)]) (st' := [.int y68]) rfl ?_
            exact En_ret (v := some (.int y68)) rfl rfl (retZ rfl rfl (by omega) (by omega)) ⟨h71, h72, y68, rfl, ⟨by omega, by omega, ISQ_x h82 (by simp only [LWl]; omega)⟩⟩
        have := (by decide : (Int32.ofInt 0).toInt = 0)
        have := (by decide : (Int32.ofInt 0).toInt = 0)
        refine En_lv (lv := [(0, .ref 159), (1, .retAddr 3), (2, .int ((Int32.ofInt 0))), (3, .int ((Int32.ofInt 0)))]) ⟨rfl, rfl, rfl, rfl, trivial⟩ ?_
        exact key39 (Int.toNat (z2.toInt) + 1) σ0 ((Int32.ofInt 0)) ((Int32.ofInt 0)) hσ0 hF0 h1 h5 h9 h13 (by omega) (by omega) (by omega) (by omega) (by omega) (ISQ_s (by decide) (by (try have i0 := Imp_m h18 (by omega)); simp only [LWl]; omega))
      · refine En_Ps 5 (pc' := 39) (lv' := [(3, .int ((Int32.ofInt 0))), (2, .int ((Int32.ofInt 1))), (0, .ref 159), (1, .retAddr 3)]) (st' := []) rfl ?_
        have key39 : ∀ (n39 : Nat) (σ87 : SG) (y85 : Int32) (y86 : Int32), WT σ87 → Fr [] σ0 σ87 → (σ87 159)[12]? = some (.int z2) → (σ87 159)[10]? = some (.int z6) → (σ87 159)[8]? = some (.int z10) → (σ87 159)[9]? = some (.int z14) → 0 ≤ y85.toInt → y85.toInt ≤ 1 → 0 ≤ y86.toInt → y86.toInt ≤ 6 → z10.toInt - y86.toInt < (n39 : Int) → ISQ By Nb 1 Sp y85.toInt y86.toInt → En 4 90 none mr_251 (P_251s1x σ0 By Nb Sp) 39 [(0, .ref 159), (1, .retAddr 3), (2, .int y85), (3, .int y86)] [] σ87 := by
          intro n39
          induction n39 with
          | zero =>
            intro σ87 y85 y86 h88 h89 h90 h91 h92 h93 h94 h95 h96 h97 h98 h99
            exfalso; omega
          | succ n39 ih39 =>
            intro σ87 y85 y86 h88 h89 h90 h91 h92 h93 h94 h95 h96 h97 h98 h99
            refine En_Ps 2 (pc' := 41) (lv' := [(0, .ref 159), (1, .retAddr 3), (2, .int y85), (3, .int y86)]) (st' := [.retAddr 3, .int y86]) rfl ?_
            refine En_slen 1 6 rfl rfl (by decide) rfl ?_
            refine En_icGe _ rfl (by decide : (Int32.ofNat 6).toInt = 6) rfl (fun h100 => ?_) (fun h100 => ?_)
            · refine En_Ps 1 (pc' := 83) (lv' := [(0, .ref 159), (1, .retAddr 3), (2, .int y85), (3, .int y86)]) (st' := [.int y85]) rfl ?_
              exact En_ret (v := some (.int y85)) rfl rfl (retZ rfl rfl (by omega) (by omega)) ⟨h88, h89, y85, rfl, ⟨by omega, by omega, ISQ_x h99 (by simp only [LWl]; omega)⟩⟩
            · refine En_Ps 1 (pc' := 48) (lv' := [(0, .ref 159), (1, .retAddr 3), (2, .int y85), (3, .int y86)]) (st' := [.int y85]) rfl ?_
              refine En_iEq _ rfl rfl (fun h101 => ?_) (fun h101 => ?_)
              · refine En_Ps 1 (pc' := 83) (lv' := [(0, .ref 159), (1, .retAddr 3), (2, .int y85), (3, .int y86)]) (st' := [.int y85]) rfl ?_
                exact En_ret (v := some (.int y85)) rfl rfl (retZ rfl rfl (by omega) (by omega)) ⟨h88, h89, y85, rfl, ⟨by omega, by omega, ISQ_x h99 (by simp only [LWl]; omega)⟩⟩
              · refine En_Ps 1 (pc' := 52) (lv' := [(0, .ref 159), (1, .retAddr 3), (2, .int y85), (3, .int y86)]) (st' := [.ref 159]) rfl ?_
                refine En_getU (j := 4) (u := 163) (g' := 39) (q := 0) rfl rfl rfl (by decide +kernel : TG 159 = 35) (by decide +kernel) h88 (by decide +kernel) (by decide +kernel) (fun h102 => ?_)
                refine En_Ps 1 (pc' := 56) (lv' := [(0, .ref 159), (1, .retAddr 3), (2, .int y85), (3, .int y86)]) (st' := [.ref 159, .ref 163]) rfl ?_
                refine En_getK (j := 9) h93 rfl rfl rfl (by decide +kernel : TG 159 = 35) (by decide +kernel) ?_
                refine En_Ps 2 (pc' := 61) (lv' := [(0, .ref 159), (1, .retAddr 3), (2, .int y85), (3, .int y86)]) (st' := [.int ((z14 + y86)), .ref 163]) rfl ?_
                refine En_top (addI rfl rfl (by omega) (by omega)) (fun z104 h105 => ?_)
                refine En_bald (l := (-128)) (u := 127) rfl rfl (by decide +kernel : TG 163 = 39) (by decide +kernel) h88 (by omega) (lnI (by decide +kernel : LN _ = 1600) (by omega)) (FTsgl (by decide +kernel)) (fun z107 h106 h108 h109 => ?_)
                refine En_Ps 2 (pc' := 64) (lv' := [(0, .ref 159), (1, .retAddr 3), (2, .int y85), (3, .int y86)]) (st' := [.int y86, .retAddr 3, .int z107]) rfl ?_
                refine En_scharX 1 6 rfl rfl rfl (by decide) (by omega) (by omega) rfl (fun z110 h111 h112 h113 => ?_)
                refine En_icNe _ rfl rfl rfl (fun h114 => ?_) (fun h114 => ?_)
                · refine En_Ps 3 (pc' := 79) (lv' := [(3, .int ((y86 + Int32.ofInt 1))), (2, .int ((Int32.ofInt 0))), (0, .ref 159), (1, .retAddr 3)]) (st' := []) rfl ?_
                  refine En_lv1 (addI rfl (by decide : (Int32.ofInt 1).toInt = 1) (by omega) (by omega)) (fun z115 h116 => ?_)
                  refine En_Ps 1 (pc' := 39) (lv' := [(3, .int z115), (2, .int ((Int32.ofInt 0))), (0, .ref 159), (1, .retAddr 3)]) (st' := []) rfl ?_
                  have := (by decide : (Int32.ofInt 0).toInt = 0)
                  refine En_lv (lv := [(0, .ref 159), (1, .retAddr 3), (2, .int ((Int32.ofInt 0))), (3, .int z115)]) ⟨rfl, rfl, rfl, rfl, trivial⟩ ?_
                  exact ih39 σ87 ((Int32.ofInt 0)) z115 h88 h89 h90 h91 h92 h93 (by omega) (by omega) (by omega) (by omega) (by omega) (ISQ_n (ML_fr hM h89 (by decide +kernel)) h99 (by omega) (by simp only [LWl]; omega) (fun _ => by omega) h106 h113 (by omega) (by omega))
                · refine En_Ps 4 (pc' := 79) (lv' := [(3, .int ((y86 + Int32.ofInt 1))), (2, .int ((Int32.ofInt 1))), (0, .ref 159), (1, .retAddr 3)]) (st' := []) rfl ?_
                  refine En_lv1 (addI rfl (by decide : (Int32.ofInt 1).toInt = 1) (by omega) (by omega)) (fun z117 h118 => ?_)
                  refine En_Ps 1 (pc' := 39) (lv' := [(3, .int z117), (2, .int ((Int32.ofInt 1))), (0, .ref 159), (1, .retAddr 3)]) (st' := []) rfl ?_
                  have := (by decide : (Int32.ofInt 1).toInt = 1)
                  refine En_lv (lv := [(0, .ref 159), (1, .retAddr 3), (2, .int ((Int32.ofInt 1))), (3, .int z117)]) ⟨rfl, rfl, rfl, rfl, trivial⟩ ?_
                  exact ih39 σ87 ((Int32.ofInt 1)) z117 h88 h89 h90 h91 h92 h93 (by omega) (by omega) (by omega) (by omega) (by omega) (ISQ_n (ML_fr hM h89 (by decide +kernel)) h99 (by omega) (by simp only [LWl]; omega) (fun _ => by omega) h106 h113 (by omega) (by omega))
        have := (by decide : (Int32.ofInt 1).toInt = 1)
        have := (by decide : (Int32.ofInt 0).toInt = 0)
        refine En_lv (lv := [(0, .ref 159), (1, .retAddr 3), (2, .int ((Int32.ofInt 1))), (3, .int ((Int32.ofInt 0)))]) ⟨rfl, rfl, rfl, rfl, trivial⟩ ?_
        exact key39 (Int.toNat (z10.toInt) + 1) σ0 ((Int32.ofInt 1)) ((Int32.ofInt 0)) hσ0 hF0 h1 h5 h9 h13 (by omega) (by omega) (by omega) (by omega) (by omega) (ISQ_s (by decide) (by (try have i0 := Imp_m h18 (by omega)); simp only [LWl]; omega))

