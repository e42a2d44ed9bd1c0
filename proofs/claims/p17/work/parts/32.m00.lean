/-- DoorSchoolModel.see(I)I -/
abbrev P_313ax (σ0 : SG) (By : Int → Int) (Nb : Int) (a : Int32) (n : Int32) : PO := fun v σ => WT σ ∧ Fr [] σ0 σ ∧ ∃ ret : Int32, v = some (.int ret) ∧ -ret.toInt - 1 ≤ 0 ∧ ret.toInt - 255 ≤ 0 ∧ Imp (-ret.toInt ≤ 0) (a.toInt - n.toInt + 1 ≤ 0) ∧ Imp (a.toInt - n.toInt + 1 ≤ 0) (-ret.toInt ≤ 0) ∧ ret.toInt = sN By Nb a.toInt
set_option maxRecDepth 10000 in
set_option maxHeartbeats 4000000 in
theorem c_313ax {By : Int → Int} {Nb : Int} (σ0 : SG) (hσ0 : WT σ0) (a : Int32) (hl_a : 0 ≤ a.toInt) (hu_a : a.toInt ≤ 1600) (n : Int32) (h_n : (σ0 159)[7]? = some (.int n)) (hT : TPm By Nb σ0) : En 0 0 none mr_313 (P_313ax σ0 By Nb a n) 0 [(0, .ref 159), (1, .int a)] [] σ0 := by
  obtain ⟨hl_n, hu_n⟩ := WT_int hσ0 (g := 35) (by decide +kernel) (by decide +kernel) (l := 0) (u := 1600) (by decide +kernel) h_n
  have hF0 : Fr [] σ0 σ0 := Fr_rfl
  refine En_Ps 2 (pc' := 2) (lv' := [(0, .ref 159), (1, .int a)]) (st' := [.ref 159, .int a]) rfl ?_
  refine En_getK (j := 7) h_n rfl rfl rfl tgz_159 (by decide +kernel) ?_
  refine En_icGe _ rfl rfl rfl (fun h1 => ?_) (fun h1 => ?_)
  · refine En_Ps 1 (pc' := 22) (lv' := [(0, .ref 159), (1, .int a)]) (st' := [.int ((Int32.ofInt (-1)))]) rfl ?_
    refine En_top (by decide : (Int32.ofInt (-1)).toInt = -1) (fun z2 h3 => ?_)
    exact En_ret (v := some (.int z2)) rfl rfl rfl ⟨hσ0, hF0, z2, rfl, ⟨by omega, by omega, fun _ => by omega, fun _ => by omega, sN_none hT h_n (by omega) (by omega)⟩⟩
  · refine En_Ps 1 (pc' := 9) (lv' := [(0, .ref 159), (1, .int a)]) (st' := [.ref 159]) rfl ?_
    refine En_getU (j := 4) (u := 163) (g' := 39) (q := 0) rfl rfl rfl tgz_159 (by decide +kernel) hσ0 (by decide +kernel) (by decide +kernel) (fun h4 => ?_)
    refine En_Ps 1 (pc' := 13) (lv' := [(0, .ref 159), (1, .int a)]) (st' := [.int a, .ref 163]) rfl ?_
    refine En_bald (l := (-128)) (u := 127) rfl rfl tgz_163 (by decide +kernel) hσ0 (by omega) (lnI (by decide +kernel : LN _ = 1600) (by omega)) (FTsgl (by decide +kernel)) (fun z7 h6 h8 h9 => ?_)
    refine En_Ps 2 (pc' := 18) (lv' := [(0, .ref 159), (1, .int a)]) (st' := [.int ((z7 &&& (((Int16.ofInt 255).toInt32))))]) rfl ?_
    refine En_nam (fun z10 h11 => ?_)
    have h12 := andR_rng (x := z7) (by decide : ((Int16.ofInt 255).toInt32).toInt = 255) (by decide)
    rw [← h11] at h12
    refine En_Ps 1 (pc' := 22) (lv' := [(0, .ref 159), (1, .int a)]) (st' := [.int z10]) rfl ?_
    exact En_ret (v := some (.int z10)) rfl rfl rfl ⟨hσ0, hF0, z10, rfl, ⟨by omega, by omega, fun _ => by omega, fun _ => by omega, sN_some hT h_n (by omega) (by omega) h6 h11⟩⟩
/-- DoorSchoolModel.advance()V -/
abbrev P_189x (σ0 : SG) (By : Int → Int) (Nb : Int) (f : Int32) : PO := fun v σ => WT σ ∧ Fr [(35, 8), (35, 9), (35, 10), (35, 11)] σ0 σ ∧ ∃ f1 : Int32, (σ 159)[8]? = some (.int f1) ∧ ∃ t1 : Int32, (σ 159)[10]? = some (.int t1) ∧ v = none ∧ -f1.toInt ≤ 0 ∧ f1.toInt - 1600 ≤ 0 ∧ -f1.toInt + f.toInt ≤ 0 ∧ -t1.toInt ≤ 0 ∧ t1.toInt - 4 ≤ 0 ∧ f.toInt - f1.toInt ≤ 0 ∧ Imp (-t1.toInt + 1 ≤ 0) (f.toInt - f1.toInt + 1 ≤ 0) ∧ (TPm By Nb σ ∧ TKm By Nb f.toInt σ)
set_option maxRecDepth 10000 in
set_option maxHeartbeats 4000000 in
theorem c_189x {By : Int → Int} {Nb : Int} (σ0 : SG) (hσ0 : WT σ0) (f : Int32) (h_f : (σ0 159)[8]? = some (.int f)) (hT : TPm By Nb σ0) (hf : f.toInt ≤ Nb) : En 1 25 none mr_189 (P_189x σ0 By Nb f) 0 [(0, .ref 159)] [] σ0 := by
  obtain ⟨hl_f, hu_f⟩ := WT_int hσ0 (g := 35) (by decide +kernel) (by decide +kernel) (l := 0) (u := 1600) (by decide +kernel) h_f
  have hF0 : Fr [(35, 8), (35, 9), (35, 10), (35, 11)] σ0 σ0 := Fr_rfl
  have key0 : ∀ (n0 : Nat) (σ2 : SG) (y1 : Int32), WT σ2 → Fr [(35, 8), (35, 9), (35, 10), (35, 11)] σ0 σ2 → (σ2 159)[8]? = some (.int y1) → 0 ≤ y1.toInt → y1.toInt ≤ 1600 → f.toInt - y1.toInt ≤ 0 → -y1.toInt + 1600 < (n0 : Int) → tS By Nb (y1.toInt) = tS By Nb f.toInt → y1.toInt ≤ Nb → En 1 25 none mr_189 (P_189x σ0 By Nb f) 0 [(0, .ref 159)] [] σ2 := by
    intro n0
    induction n0 with
    | zero =>
      intro σ2 y1 h3 h4 h5 h6 h7 h8 h9 h10 h11
      exfalso; omega
    | succ n0 ih0 =>
      intro σ2 y1 h3 h4 h5 h6 h7 h8 h9 h10 h11
      refine En_Ps 2 (pc' := 2) (lv' := [(0, .ref 159)]) (st' := [.ref 159, .ref 159]) rfl ?_
      refine En_getK (j := 8) h5 rfl rfl rfl tgz_159 (by decide +kernel) ?_
      obtain ⟨z13, h12, h14, h15⟩ := WT_peekI h3 tgz_159 (by decide +kernel : FT 35 7 = (0, 0, 1600)) (by decide +kernel)
      refine En_callV rfl rfl rfl rfl rfl rfl rfl rfl tgz_159 (by decide +kernel) rfl (c_313ax σ2 h3 y1 (geI rfl (by omega)) (leI rfl (by omega)) z13 h12 (TPm_fr hT h4 (by decide +kernel))) (by decide) (by decide) (fun v17 σ18 h16 => ?_)
      obtain ⟨h19, h20, z22, rfl, h21⟩ := h16
      have h23 := h21.2.2.2.2
      obtain rfl : σ2 = σ18 := Fr_nil h20
      refine En_Ps 1 (pc' := 10) (lv' := [(0, .ref 159)]) (st' := [.int (((Int8.ofInt 32).toInt32)), .int z22]) rfl ?_
      refine En_icEq _ rfl (by decide : ((Int8.ofInt 32).toInt32).toInt = 32) rfl (fun h24 => ?_) (fun h24 => ?_)
      · have h25 := Imp_m h21.2.2.1 (by omega)
        have h26 := Imp_m h21.2.2.2.1 (by omega)
        refine En_Ps 2 (pc' := 28) (lv' := [(0, .ref 159)]) (st' := [.ref 159, .ref 159]) rfl ?_
        refine En_getK (j := 8) h5 rfl rfl rfl tgz_159 (by decide +kernel) ?_
        refine En_Ps 2 (pc' := 33) (lv' := [(0, .ref 159)]) (st' := [.int ((y1 + ((Int32.ofInt 1)))), .ref 159]) rfl ?_
        refine En_top (addI rfl (by decide : (Int32.ofInt 1).toInt = 1) (by omega) (by omega)) (fun z27 h28 => ?_)
        refine En_put (j := 8) rfl rfl rfl tgz_159 (by decide +kernel) rfl (vI (l := 0) (u := 1600) (by decide +kernel) rfl (by omega) (by omega)) h3 h4 (by decide +kernel) (fun σ29 h30 h31 h32 h33 => ?_)
        have h34 := BL_go (y := y1.toInt) (z := z27.toInt) hT (by omega) (by omega) (by omega) h10
        refine En_Ps 1 (pc' := 0) (lv' := [(0, .ref 159)]) (st' := []) rfl ?_
        exact ih0 σ29 z27 h30 h31 h32 (by omega) (by omega) (by omega) (by omega) (h34.1) (h34.2)
      · refine En_Ps 2 (pc' := 15) (lv' := [(0, .ref 159)]) (st' := [.ref 159, .ref 159]) rfl ?_
        refine En_getK (j := 8) h5 rfl rfl rfl tgz_159 (by decide +kernel) ?_
        refine En_callV rfl rfl rfl rfl rfl rfl rfl rfl tgz_159 (by decide +kernel) rfl (c_313ax σ2 h3 y1 (geI rfl (by omega)) (leI rfl (by omega)) z13 h12 (TPm_fr hT h4 (by decide +kernel))) (by decide) (by decide) (fun v36 σ37 h35 => ?_)
        obtain ⟨h38, h39, z41, rfl, h40⟩ := h35
        have h42 := h40.2.2.2.2
        obtain rfl : σ2 = σ37 := Fr_nil h39
        refine En_Ps 1 (pc' := 23) (lv' := [(0, .ref 159)]) (st' := [.int (((Int8.ofInt 10).toInt32)), .int z41]) rfl ?_
        refine En_icNe _ rfl (by decide : ((Int8.ofInt 10).toInt32).toInt = 10) rfl (fun h43 => ?_) (fun h43 => ?_)
        · refine En_Ps 2 (pc' := 41) (lv' := [(0, .ref 159)]) (st' := [.ref 159, .ref 159]) rfl ?_
          refine En_getK (j := 8) h5 rfl rfl rfl tgz_159 (by decide +kernel) ?_
          refine En_put (j := 9) rfl rfl rfl tgz_159 (by decide +kernel) rfl (vI (l := 0) (u := 1600) (by decide +kernel) rfl (by omega) (by omega)) h3 h4 (by decide +kernel) (fun σ44 h45 h46 h47 h48 => ?_)
          refine En_Ps 2 (pc' := 49) (lv' := [(0, .ref 159)]) (st' := [.ref 159, .ref 159]) rfl ?_
          refine En_getK (j := 8) ((h48 _ _ (Or.inr (by decide))).trans h5) rfl rfl rfl tgz_159 (by decide +kernel) ?_
          refine En_callV rfl rfl rfl rfl rfl rfl rfl rfl tgz_159 (by decide +kernel) rfl (c_313ax σ44 h45 y1 (geI rfl (by omega)) (leI rfl (by omega)) z13 ((h48 _ _ (Or.inr (by decide))).trans h12) (TPm_fr hT h46 (by decide +kernel))) (by decide) (by decide) (fun v50 σ51 h49 => ?_)
          obtain ⟨h52, h53, z55, rfl, h54⟩ := h49
          have h56 := h54.2.2.2.2
          obtain rfl : σ44 = σ51 := Fr_nil h53
          refine En_Ps 3 (pc' := 58) (lv' := [(1, .int z55), (0, .ref 159)]) (st' := [.int ((Int32.ofInt (-1))), .int z55]) rfl ?_
          refine En_icNe _ rfl (by decide : (Int32.ofInt (-1)).toInt = -1) rfl (fun h57 => ?_) (fun h57 => ?_)
          · have h58 := Imp_m h21.2.2.1 (by omega)
            have h59 := Imp_m h21.2.2.2.1 (by omega)
            have h60 := Imp_m h40.2.2.1 (by omega)
            have h61 := Imp_m h40.2.2.2.1 (by omega)
            have h62 := Imp_m h54.2.2.1 (by omega)
            have h63 := Imp_m h54.2.2.2.1 (by omega)
            refine En_Ps 4 (pc' := 77) (lv' := [(1, .int z55), (0, .ref 159)]) (st' := [.long ((122 : Int64)), .long ((97 : Int64)), .long z55.toInt64]) rfl ?_
            have : z55.toInt64.toInt = z55.toInt := (i2lI rfl)
            have := (by decide : ((97 : Int64)).toInt = 97)
            have := (by decide : ((122 : Int64)).toInt = 122)
            refine En_callS rfl rfl rfl rfl rfl rfl rfl rfl rfl (c_249 σ44 h45 z55.toInt64 ((97 : Int64)) ((122 : Int64))) (by decide) (by decide) (fun v65 σ66 h64 => ?_)
            obtain ⟨h67, h68, z70, rfl, h69⟩ := h64
            obtain rfl : σ44 = σ66 := Fr_nil h68
            refine En_iEq _ rfl rfl (fun h71 => ?_) (fun h71 => ?_)
            · refine En_Ps 4 (pc' := 133) (lv' := [(1, .int z55), (0, .ref 159)]) (st' := [.long ((57 : Int64)), .long ((48 : Int64)), .long z55.toInt64]) rfl ?_
              have : z55.toInt64.toInt = z55.toInt := (i2lI rfl)
              have := (by decide : ((48 : Int64)).toInt = 48)
              have := (by decide : ((57 : Int64)).toInt = 57)
              refine En_callS rfl rfl rfl rfl rfl rfl rfl rfl rfl (c_249 σ44 h45 z55.toInt64 ((48 : Int64)) ((57 : Int64))) (by decide) (by decide) (fun v73 σ74 h72 => ?_)
              obtain ⟨h75, h76, z78, rfl, h77⟩ := h72
              obtain rfl : σ44 = σ74 := Fr_nil h76
              refine En_iEq _ rfl rfl (fun h79 => ?_) (fun h79 => ?_)
              · refine En_Ps 3 (pc' := 218) (lv' := [(1, .int z55), (0, .ref 159)]) (st' := [.int (((Int8.ofInt 59).toInt32)), .int z55, .ref 159]) rfl ?_
                refine En_icNe _ rfl (by decide : ((Int8.ofInt 59).toInt32).toInt = 59) rfl (fun h80 => ?_) (fun h80 => ?_)
                · refine En_Ps 1 (pc' := 226) (lv' := [(1, .int z55), (0, .ref 159)]) (st' := [.int ((Int32.ofInt 4)), .ref 159]) rfl ?_
                  refine En_put (j := 10) rfl rfl rfl tgz_159 (by decide +kernel) rfl (vI (l := 0) (u := 4) (by decide +kernel) (by decide : (Int32.ofInt 4).toInt = 4) (by omega) (by omega)) h45 h46 (by decide +kernel) (fun σ81 h82 h83 h84 h85 => ?_)
                  refine En_Ps 2 (pc' := 231) (lv' := [(1, .int z55), (0, .ref 159)]) (st' := [.ref 159, .ref 159]) rfl ?_
                  refine En_getK (j := 8) ((h85 _ _ (Or.inr (by decide))).trans ((h48 _ _ (Or.inr (by decide))).trans h5)) rfl rfl rfl tgz_159 (by decide +kernel) ?_
                  refine En_Ps 2 (pc' := 236) (lv' := [(1, .int z55), (0, .ref 159)]) (st' := [.int ((y1 + ((Int32.ofInt 1)))), .ref 159]) rfl ?_
                  refine En_top (addI rfl (by decide : (Int32.ofInt 1).toInt = 1) (by omega) (by omega)) (fun z86 h87 => ?_)
                  refine En_put (j := 8) rfl rfl rfl tgz_159 (by decide +kernel) rfl (vI (l := 0) (u := 1600) (by decide +kernel) rfl (by omega) (by omega)) h82 h83 (by decide +kernel) (fun σ88 h89 h90 h91 h92 => ?_)
                  have := (by decide : (Int32.ofInt 4).toInt = 4)
                  exact En_ret (v := none) rfl rfl rfl ⟨h89, h90, z86, h91, (Int32.ofInt 4), ((h92 _ _ (Or.inr (by decide))).trans h84), rfl, ⟨by omega, by omega, by omega, by omega, by omega, by omega, fun _ => by omega, ⟨(TPm_fr hT h90 (by decide +kernel)), TKm_4 (y := y1.toInt) hT (by omega) hf (by omega) (BL_no hT (by omega) (by omega) h10) (by omega) ((ci_at (j := 8) h91 rfl).trans (by omega)) ((ci_at (j := 9) ((h92 _ _ (Or.inr (by decide))).trans ((h85 _ _ (Or.inr (by decide))).trans h47)) rfl).trans (by omega)) ((ci_at (j := 10) ((h92 _ _ (Or.inr (by decide))).trans h84) rfl).trans (by omega))⟩⟩⟩
                · refine En_Ps 2 (pc' := 226) (lv' := [(1, .int z55), (0, .ref 159)]) (st' := [.int ((Int32.ofInt 3)), .ref 159]) rfl ?_
                  refine En_put (j := 10) rfl rfl rfl tgz_159 (by decide +kernel) rfl (vI (l := 0) (u := 4) (by decide +kernel) (by decide : (Int32.ofInt 3).toInt = 3) (by omega) (by omega)) h45 h46 (by decide +kernel) (fun σ93 h94 h95 h96 h97 => ?_)
                  refine En_Ps 2 (pc' := 231) (lv' := [(1, .int z55), (0, .ref 159)]) (st' := [.ref 159, .ref 159]) rfl ?_
                  refine En_getK (j := 8) ((h97 _ _ (Or.inr (by decide))).trans ((h48 _ _ (Or.inr (by decide))).trans h5)) rfl rfl rfl tgz_159 (by decide +kernel) ?_
                  refine En_Ps 2 (pc' := 236) (lv' := [(1, .int z55), (0, .ref 159)]) (st' := [.int ((y1 + ((Int32.ofInt 1)))), .ref 159]) rfl ?_
                  refine En_top (addI rfl (by decide : (Int32.ofInt 1).toInt = 1) (by omega) (by omega)) (fun z98 h99 => ?_)
                  refine En_put (j := 8) rfl rfl rfl tgz_159 (by decide +kernel) rfl (vI (l := 0) (u := 1600) (by decide +kernel) rfl (by omega) (by omega)) h94 h95 (by decide +kernel) (fun σ100 h101 h102 h103 h104 => ?_)
                  have := (by decide : (Int32.ofInt 3).toInt = 3)
                  exact En_ret (v := none) rfl rfl rfl ⟨h101, h102, z98, h103, (Int32.ofInt 3), ((h104 _ _ (Or.inr (by decide))).trans h96), rfl, ⟨by omega, by omega, by omega, by omega, by omega, by omega, fun _ => by omega, ⟨(TPm_fr hT h102 (by decide +kernel)), TKm_3 (y := y1.toInt) hT (by omega) hf (by omega) (BL_no hT (by omega) (by omega) h10) (by omega) ((ci_at (j := 8) h103 rfl).trans (by omega)) ((ci_at (j := 9) ((h104 _ _ (Or.inr (by decide))).trans ((h97 _ _ (Or.inr (by decide))).trans h47)) rfl).trans (by omega)) ((ci_at (j := 10) ((h104 _ _ (Or.inr (by decide))).trans h96) rfl).trans (by omega))⟩⟩⟩
              · refine En_Ps 2 (pc' := 141) (lv' := [(1, .int z55), (0, .ref 159)]) (st' := [.int ((Int32.ofInt 0)), .ref 159]) rfl ?_
                refine En_put (j := 11) rfl rfl rfl tgz_159 (by decide +kernel) rfl (vI (l := 0) (u := 99999) (by decide +kernel) (by decide : (Int32.ofInt 0).toInt = 0) (by omega) (by omega)) h45 h46 (by decide +kernel) (fun σ105 h106 h107 h108 h109 => ?_)
                refine En_Ps 2 (pc' := 146) (lv' := [(1, .int z55), (0, .ref 159)]) (st' := [.ref 159, .ref 159]) rfl ?_
                refine En_getK (j := 8) ((h109 _ _ (Or.inr (by decide))).trans ((h48 _ _ (Or.inr (by decide))).trans h5)) rfl rfl rfl tgz_159 (by decide +kernel) ?_
                refine En_callV rfl rfl rfl rfl rfl rfl rfl rfl tgz_159 (by decide +kernel) rfl (c_313ax σ105 h106 y1 (geI rfl (by omega)) (leI rfl (by omega)) z13 ((h109 _ _ (Or.inr (by decide))).trans ((h48 _ _ (Or.inr (by decide))).trans h12)) (TPm_fr hT h107 (by decide +kernel))) (by decide) (by decide) (fun v111 σ112 h110 => ?_)
                obtain ⟨h113, h114, z116, rfl, h115⟩ := h110
                have h117 := h115.2.2.2.2
                obtain rfl : σ105 = σ112 := Fr_nil h114
                have h118 := Imp_m h115.2.2.1 (by omega)
                have h119 := Imp_m h115.2.2.2.1 (by omega)
                refine En_Ps 3 (pc' := 159) (lv' := [(1, .int z55), (0, .ref 159)]) (st' := [.long ((57 : Int64)), .long ((48 : Int64)), .long z116.toInt64]) rfl ?_
                have : z116.toInt64.toInt = z116.toInt := (i2lI rfl)
                have := (by decide : ((48 : Int64)).toInt = 48)
                have := (by decide : ((57 : Int64)).toInt = 57)
                refine En_callS rfl rfl rfl rfl rfl rfl rfl rfl rfl (c_249 σ105 h106 z116.toInt64 ((48 : Int64)) ((57 : Int64))) (by decide) (by decide) (fun v121 σ122 h120 => ?_)
                obtain ⟨h123, h124, z126, rfl, h125⟩ := h120
                obtain rfl : σ105 = σ122 := Fr_nil h124
                refine En_iEq _ rfl rfl (fun hx => by exfalso; omega) (fun h127 => ?_)
                refine En_Ps 4 (pc' := 171) (lv' := [(1, .int z55), (0, .ref 159)]) (st' := [.ref 159, .int (((Int8.ofInt 10).toInt32)), .int ((99999 : Int32)), .ref 159]) rfl ?_
                refine En_getK (j := 11) h108 rfl rfl rfl tgz_159 (by decide +kernel) ?_
                refine En_Ps 1 (pc' := 175) (lv' := [(1, .int z55), (0, .ref 159)]) (st' := [.int (((((Int8.ofInt 10).toInt32)) * ((Int32.ofInt 0)))), .int ((99999 : Int32)), .ref 159]) rfl ?_
                refine En_top (mulI (by decide : ((Int8.ofInt 10).toInt32).toInt = 10) (by decide : (Int32.ofInt 0).toInt = 0) (Z := 0) (by omega) (by omega) (by omega)) (fun z128 h129 => ?_)
                refine En_Ps 2 (pc' := 177) (lv' := [(1, .int z55), (0, .ref 159)]) (st' := [.ref 159, .ref 159, .int z128, .int ((99999 : Int32)), .ref 159]) rfl ?_
                refine En_getK (j := 8) ((h109 _ _ (Or.inr (by decide))).trans ((h48 _ _ (Or.inr (by decide))).trans h5)) rfl rfl rfl tgz_159 (by decide +kernel) ?_
                refine En_callV rfl rfl rfl rfl rfl rfl rfl rfl tgz_159 (by decide +kernel) rfl (c_313ax σ105 h106 y1 (geI rfl (by omega)) (leI rfl (by omega)) z13 ((h109 _ _ (Or.inr (by decide))).trans ((h48 _ _ (Or.inr (by decide))).trans h12)) (TPm_fr hT h107 (by decide +kernel))) (by decide) (by decide) (fun v131 σ132 h130 => ?_)
                obtain ⟨h133, h134, z136, rfl, h135⟩ := h130
                have h137 := h135.2.2.2.2
                obtain rfl : σ105 = σ132 := Fr_nil h134
                have h138 := Imp_m h135.2.2.1 (by omega)
                have h139 := Imp_m h135.2.2.2.1 (by omega)
                refine En_Ps 1 (pc' := 184) (lv' := [(1, .int z55), (0, .ref 159)]) (st' := [.int ((z128 + z136)), .int ((99999 : Int32)), .ref 159]) rfl ?_
                refine En_top (addI rfl rfl (by omega) (by omega)) (fun z140 h141 => ?_)
                refine En_Ps 2 (pc' := 187) (lv' := [(1, .int z55), (0, .ref 159)]) (st' := [.int ((z140 - (((Int8.ofInt 48).toInt32)))), .int ((99999 : Int32)), .ref 159]) rfl ?_
                refine En_top (subI rfl (by decide : ((Int8.ofInt 48).toInt32).toInt = 48) (by omega) (by omega)) (fun z142 h143 => ?_)
                have := (by decide : ((99999 : Int32)).toInt = 99999)
                refine En_callS rfl rfl rfl rfl rfl rfl rfl rfl rfl (c_11 σ105 h106 ((99999 : Int32)) z142) (by decide) (by decide) (fun v145 σ146 h144 => ?_)
                obtain ⟨h147, h148, z150, rfl, h149⟩ := h144
                obtain rfl : σ105 = σ146 := Fr_nil h148
                refine En_put (j := 11) rfl rfl rfl tgz_159 (by decide +kernel) rfl (vI (l := 0) (u := 99999) (by decide +kernel) rfl (by omega) (by omega)) h106 h107 (by decide +kernel) (fun σ151 h152 h153 h154 h155 => ?_)
                refine En_Ps 2 (pc' := 195) (lv' := [(1, .int z55), (0, .ref 159)]) (st' := [.ref 159, .ref 159]) rfl ?_
                refine En_getK (j := 8) ((h155 _ _ (Or.inr (by decide))).trans ((h109 _ _ (Or.inr (by decide))).trans ((h48 _ _ (Or.inr (by decide))).trans h5))) rfl rfl rfl tgz_159 (by decide +kernel) ?_
                refine En_Ps 2 (pc' := 200) (lv' := [(1, .int z55), (0, .ref 159)]) (st' := [.int ((y1 + ((Int32.ofInt 1)))), .ref 159]) rfl ?_
                refine En_top (addI rfl (by decide : (Int32.ofInt 1).toInt = 1) (by omega) (by omega)) (fun z156 h157 => ?_)
                refine En_put (j := 8) rfl rfl rfl tgz_159 (by decide +kernel) rfl (vI (l := 0) (u := 1600) (by decide +kernel) rfl (by omega) (by omega)) h152 h153 (by decide +kernel) (fun σ158 h159 h160 h161 h162 => ?_)
                have h163 := DG_go (y := y1.toInt) (z := z156.toInt) hT (by omega) (by omega) (by omega)
                have h164 : z150.toInt = vl By 99999 (y1.toInt) (z156.toInt) := VL_go (y := y1.toInt) (v := 0) (by omega) (by omega) (vl_0 (B := By) (c := 99999) (s := y1.toInt)).symm (by omega)
                refine En_Ps 1 (pc' := 144) (lv' := [(1, .int z55), (0, .ref 159)]) (st' := []) rfl ?_
                have key144 : ∀ (n144 : Nat) (σ167 : SG) (y165 : Int32) (y166 : Int32), WT σ167 → Fr [(35, 8), (35, 9), (35, 10), (35, 11)] σ0 σ167 → (σ167 159)[7]? = some (.int z13) → (σ167 159)[9]? = some (.int y1) → (σ167 159)[11]? = some (.int y165) → (σ167 159)[8]? = some (.int y166) → 0 ≤ y165.toInt → y165.toInt ≤ 99999 → 1 ≤ y166.toInt → y166.toInt ≤ 1600 → y166.toInt - z13.toInt ≤ 0 → z156.toInt - y166.toInt ≤ 0 → z13.toInt - y166.toInt < (n144 : Int) → rnx By Nb 2 (y166.toInt) = rnx By Nb 2 (y1.toInt) → y166.toInt ≤ Nb → y165.toInt = vl By 99999 (y1.toInt) (y166.toInt) → En 1 25 none mr_189 (P_189x σ0 By Nb f) 144 [(0, .ref 159), (1, .int z55)] [] σ167 := by
                  intro n144
                  induction n144 with
                  | zero =>
                    intro σ167 y165 y166 h168 h169 h170 h171 h172 h173 h174 h175 h176 h177 h178 h179 h180 h181 h182 h183
                    exfalso; omega
                  | succ n144 ih144 =>
                    intro σ167 y165 y166 h168 h169 h170 h171 h172 h173 h174 h175 h176 h177 h178 h179 h180 h181 h182 h183
                    refine En_Ps 2 (pc' := 146) (lv' := [(0, .ref 159), (1, .int z55)]) (st' := [.ref 159, .ref 159]) rfl ?_
                    refine En_getK (j := 8) h173 rfl rfl rfl tgz_159 (by decide +kernel) ?_
                    refine En_callV rfl rfl rfl rfl rfl rfl rfl rfl tgz_159 (by decide +kernel) rfl (c_313ax σ167 h168 y166 (geI rfl (by omega)) (leI rfl (by omega)) z13 h170 (TPm_fr hT h169 (by decide +kernel))) (by decide) (by decide) (fun v185 σ186 h184 => ?_)
                    obtain ⟨h187, h188, z190, rfl, h189⟩ := h184
                    have h191 := h189.2.2.2.2
                    obtain rfl : σ167 = σ186 := Fr_nil h188
                    refine En_Ps 3 (pc' := 159) (lv' := [(0, .ref 159), (1, .int z55)]) (st' := [.long ((57 : Int64)), .long ((48 : Int64)), .long z190.toInt64]) rfl ?_
                    have : z190.toInt64.toInt = z190.toInt := (i2lI rfl)
                    have := (by decide : ((48 : Int64)).toInt = 48)
                    have := (by decide : ((57 : Int64)).toInt = 57)
                    refine En_callS rfl rfl rfl rfl rfl rfl rfl rfl rfl (c_249 σ167 h168 z190.toInt64 ((48 : Int64)) ((57 : Int64))) (by decide) (by decide) (fun v193 σ194 h192 => ?_)
                    obtain ⟨h195, h196, z198, rfl, h197⟩ := h192
                    obtain rfl : σ167 = σ194 := Fr_nil h196
                    refine En_iEq _ rfl rfl (fun h199 => ?_) (fun h199 => ?_)
                    · refine En_Ps 2 (pc' := 208) (lv' := [(0, .ref 159), (1, .int z55)]) (st' := [.int ((Int32.ofInt 2)), .ref 159]) rfl ?_
                      refine En_put (j := 10) rfl rfl rfl tgz_159 (by decide +kernel) rfl (vI (l := 0) (u := 4) (by decide +kernel) (by decide : (Int32.ofInt 2).toInt = 2) (by omega) (by omega)) h168 h169 (by decide +kernel) (fun σ200 h201 h202 h203 h204 => ?_)
                      refine En_Ps 1 (pc' := 239) (lv' := [(0, .ref 159), (1, .int z55)]) (st' := []) rfl ?_
                      have := (by decide : (Int32.ofInt 2).toInt = 2)
                      exact En_ret (v := none) rfl rfl rfl ⟨h201, h202, y166, ((h204 _ _ (Or.inr (by decide))).trans h173), (Int32.ofInt 2), h203, rfl, ⟨by omega, by omega, by omega, by omega, by omega, by omega, fun _ => by omega, ⟨(TPm_fr hT h202 (by decide +kernel)), TKm_2 (y := y1.toInt) (e := y166.toInt) hT (by omega) hf (by omega) (BL_no hT (by omega) (by omega) h10) (by omega) (by omega) h181 (by omega) ((ci_at (j := 8) ((h204 _ _ (Or.inr (by decide))).trans h173) rfl).trans (by omega)) ((ci_at (j := 9) ((h204 _ _ (Or.inr (by decide))).trans h171) rfl).trans (by omega)) ((ci_at (j := 10) h203 rfl).trans (by omega)) ((ci_at (j := 11) ((h204 _ _ (Or.inr (by decide))).trans h172) rfl).trans h183)⟩⟩⟩
                    · have h205 := Imp_m h189.2.2.1 (by omega)
                      have h206 := Imp_m h189.2.2.2.1 (by omega)
                      refine En_Ps 4 (pc' := 171) (lv' := [(0, .ref 159), (1, .int z55)]) (st' := [.ref 159, .int (((Int8.ofInt 10).toInt32)), .int ((99999 : Int32)), .ref 159]) rfl ?_
                      refine En_getK (j := 11) h172 rfl rfl rfl tgz_159 (by decide +kernel) ?_
                      refine En_Ps 1 (pc' := 175) (lv' := [(0, .ref 159), (1, .int z55)]) (st' := [.int (((((Int8.ofInt 10).toInt32)) * y165)), .int ((99999 : Int32)), .ref 159]) rfl ?_
                      refine En_top (mulI (by decide : ((Int8.ofInt 10).toInt32).toInt = 10) rfl (Z := 10 * y165.toInt) (by omega) (by omega) (by omega)) (fun z207 h208 => ?_)
                      refine En_Ps 2 (pc' := 177) (lv' := [(0, .ref 159), (1, .int z55)]) (st' := [.ref 159, .ref 159, .int z207, .int ((99999 : Int32)), .ref 159]) rfl ?_
                      refine En_getK (j := 8) h173 rfl rfl rfl tgz_159 (by decide +kernel) ?_
                      refine En_callV rfl rfl rfl rfl rfl rfl rfl rfl tgz_159 (by decide +kernel) rfl (c_313ax σ167 h168 y166 (geI rfl (by omega)) (leI rfl (by omega)) z13 h170 (TPm_fr hT h169 (by decide +kernel))) (by decide) (by decide) (fun v210 σ211 h209 => ?_)
                      obtain ⟨h212, h213, z215, rfl, h214⟩ := h209
                      have h216 := h214.2.2.2.2
                      obtain rfl : σ167 = σ211 := Fr_nil h213
                      have h217 := Imp_m h214.2.2.1 (by omega)
                      have h218 := Imp_m h214.2.2.2.1 (by omega)
                      refine En_Ps 1 (pc' := 184) (lv' := [(0, .ref 159), (1, .int z55)]) (st' := [.int ((z207 + z215)), .int ((99999 : Int32)), .ref 159]) rfl ?_
                      refine En_top (addI rfl rfl (by omega) (by omega)) (fun z219 h220 => ?_)
                      refine En_Ps 2 (pc' := 187) (lv' := [(0, .ref 159), (1, .int z55)]) (st' := [.int ((z219 - (((Int8.ofInt 48).toInt32)))), .int ((99999 : Int32)), .ref 159]) rfl ?_
                      refine En_top (subI rfl (by decide : ((Int8.ofInt 48).toInt32).toInt = 48) (by omega) (by omega)) (fun z221 h222 => ?_)
                      have := (by decide : ((99999 : Int32)).toInt = 99999)
                      refine En_callS rfl rfl rfl rfl rfl rfl rfl rfl rfl (c_11 σ167 h168 ((99999 : Int32)) z221) (by decide) (by decide) (fun v224 σ225 h223 => ?_)
                      obtain ⟨h226, h227, z229, rfl, h228⟩ := h223
                      obtain rfl : σ167 = σ225 := Fr_nil h227
                      refine En_put (j := 11) rfl rfl rfl tgz_159 (by decide +kernel) rfl (vI (l := 0) (u := 99999) (by decide +kernel) rfl (by omega) (by omega)) h168 h169 (by decide +kernel) (fun σ230 h231 h232 h233 h234 => ?_)
                      refine En_Ps 2 (pc' := 195) (lv' := [(0, .ref 159), (1, .int z55)]) (st' := [.ref 159, .ref 159]) rfl ?_
                      refine En_getK (j := 8) ((h234 _ _ (Or.inr (by decide))).trans h173) rfl rfl rfl tgz_159 (by decide +kernel) ?_
                      refine En_Ps 2 (pc' := 200) (lv' := [(0, .ref 159), (1, .int z55)]) (st' := [.int ((y166 + ((Int32.ofInt 1)))), .ref 159]) rfl ?_
                      refine En_top (addI rfl (by decide : (Int32.ofInt 1).toInt = 1) (by omega) (by omega)) (fun z235 h236 => ?_)
                      refine En_put (j := 8) rfl rfl rfl tgz_159 (by decide +kernel) rfl (vI (l := 0) (u := 1600) (by decide +kernel) rfl (by omega) (by omega)) h231 h232 (by decide +kernel) (fun σ237 h238 h239 h240 h241 => ?_)
                      have h242 := DG_go (y := y166.toInt) (z := z235.toInt) hT (by omega) (by omega) (by omega)
                      have h243 : z229.toInt = vl By 99999 (y1.toInt) (z235.toInt) := VL_go (y := y166.toInt) (v := y165.toInt) (by omega) (by omega) h183 (by omega)
                      refine En_Ps 1 (pc' := 144) (lv' := [(0, .ref 159), (1, .int z55)]) (st' := []) rfl ?_
                      exact ih144 σ237 z229 z235 h238 h239 ((h241 _ _ (Or.inr (by decide))).trans ((h234 _ _ (Or.inr (by decide))).trans h170)) ((h241 _ _ (Or.inr (by decide))).trans ((h234 _ _ (Or.inr (by decide))).trans h171)) ((h241 _ _ (Or.inr (by decide))).trans h233) h240 (by omega) (by omega) (by omega) (by omega) (by omega) (by omega) (by omega) (h242.1.trans h181) (h242.2.1) (h243)
                refine En_lv (lv := [(0, .ref 159), (1, .int z55)]) ⟨rfl, rfl, trivial⟩ ?_
                exact key144 (Int.toNat (z13.toInt - z156.toInt) + 1) σ158 z150 z156 h159 h160 ((h162 _ _ (Or.inr (by decide))).trans ((h155 _ _ (Or.inr (by decide))).trans ((h109 _ _ (Or.inr (by decide))).trans ((h48 _ _ (Or.inr (by decide))).trans h12)))) ((h162 _ _ (Or.inr (by decide))).trans ((h155 _ _ (Or.inr (by decide))).trans ((h109 _ _ (Or.inr (by decide))).trans h47))) ((h162 _ _ (Or.inr (by decide))).trans h154) h161 (by omega) (by omega) (by omega) (by omega) (by omega) (by omega) (by omega) (h163.1) (h163.2.1) (h164)
            · refine En_Ps 2 (pc' := 85) (lv' := [(1, .int z55), (0, .ref 159)]) (st' := [.ref 159, .ref 159]) rfl ?_
              refine En_getK (j := 8) ((h48 _ _ (Or.inr (by decide))).trans h5) rfl rfl rfl tgz_159 (by decide +kernel) ?_
              refine En_callV rfl rfl rfl rfl rfl rfl rfl rfl tgz_159 (by decide +kernel) rfl (c_313ax σ44 h45 y1 (geI rfl (by omega)) (leI rfl (by omega)) z13 ((h48 _ _ (Or.inr (by decide))).trans h12) (TPm_fr hT h46 (by decide +kernel))) (by decide) (by decide) (fun v245 σ246 h244 => ?_)
              obtain ⟨h247, h248, z250, rfl, h249⟩ := h244
              have h251 := h249.2.2.2.2
              obtain rfl : σ44 = σ246 := Fr_nil h248
              have h252 := Imp_m h249.2.2.1 (by omega)
              have h253 := Imp_m h249.2.2.2.1 (by omega)
              refine En_Ps 3 (pc' := 98) (lv' := [(1, .int z55), (0, .ref 159)]) (st' := [.long ((122 : Int64)), .long ((97 : Int64)), .long z250.toInt64]) rfl ?_
              have : z250.toInt64.toInt = z250.toInt := (i2lI rfl)
              have := (by decide : ((97 : Int64)).toInt = 97)
              have := (by decide : ((122 : Int64)).toInt = 122)
              refine En_callS rfl rfl rfl rfl rfl rfl rfl rfl rfl (c_249 σ44 h45 z250.toInt64 ((97 : Int64)) ((122 : Int64))) (by decide) (by decide) (fun v255 σ256 h254 => ?_)
              obtain ⟨h257, h258, z260, rfl, h259⟩ := h254
              obtain rfl : σ44 = σ256 := Fr_nil h258
              refine En_iEq _ rfl rfl (fun hx => by exfalso; omega) (fun h261 => ?_)
              refine En_Ps 2 (pc' := 106) (lv' := [(1, .int z55), (0, .ref 159)]) (st' := [.ref 159, .ref 159]) rfl ?_
              refine En_getK (j := 8) ((h48 _ _ (Or.inr (by decide))).trans h5) rfl rfl rfl tgz_159 (by decide +kernel) ?_
              refine En_Ps 2 (pc' := 111) (lv' := [(1, .int z55), (0, .ref 159)]) (st' := [.int ((y1 + ((Int32.ofInt 1)))), .ref 159]) rfl ?_
              refine En_top (addI rfl (by decide : (Int32.ofInt 1).toInt = 1) (by omega) (by omega)) (fun z262 h263 => ?_)
              refine En_put (j := 8) rfl rfl rfl tgz_159 (by decide +kernel) rfl (vI (l := 0) (u := 1600) (by decide +kernel) rfl (by omega) (by omega)) h45 h46 (by decide +kernel) (fun σ264 h265 h266 h267 h268 => ?_)
              have h269 := LT_go (y := y1.toInt) (z := z262.toInt) hT (by omega) (by omega) (by omega)
              refine En_Ps 1 (pc' := 83) (lv' := [(1, .int z55), (0, .ref 159)]) (st' := []) rfl ?_
              have key83 : ∀ (n83 : Nat) (σ271 : SG) (y270 : Int32), WT σ271 → Fr [(35, 8), (35, 9), (35, 10), (35, 11)] σ0 σ271 → (σ271 159)[7]? = some (.int z13) → (σ271 159)[9]? = some (.int y1) → (σ271 159)[8]? = some (.int y270) → 1 ≤ y270.toInt → y270.toInt ≤ 1600 → y270.toInt - z13.toInt ≤ 0 → z262.toInt - y270.toInt ≤ 0 → z13.toInt - y270.toInt < (n83 : Int) → rnx By Nb 1 (y270.toInt) = rnx By Nb 1 (y1.toInt) → y270.toInt ≤ Nb → En 1 25 none mr_189 (P_189x σ0 By Nb f) 83 [(0, .ref 159), (1, .int z55)] [] σ271 := by
                intro n83
                induction n83 with
                | zero =>
                  intro σ271 y270 h272 h273 h274 h275 h276 h277 h278 h279 h280 h281 h282 h283
                  exfalso; omega
                | succ n83 ih83 =>
                  intro σ271 y270 h272 h273 h274 h275 h276 h277 h278 h279 h280 h281 h282 h283
                  refine En_Ps 2 (pc' := 85) (lv' := [(0, .ref 159), (1, .int z55)]) (st' := [.ref 159, .ref 159]) rfl ?_
                  refine En_getK (j := 8) h276 rfl rfl rfl tgz_159 (by decide +kernel) ?_
                  refine En_callV rfl rfl rfl rfl rfl rfl rfl rfl tgz_159 (by decide +kernel) rfl (c_313ax σ271 h272 y270 (geI rfl (by omega)) (leI rfl (by omega)) z13 h274 (TPm_fr hT h273 (by decide +kernel))) (by decide) (by decide) (fun v285 σ286 h284 => ?_)
                  obtain ⟨h287, h288, z290, rfl, h289⟩ := h284
                  have h291 := h289.2.2.2.2
                  obtain rfl : σ271 = σ286 := Fr_nil h288
                  refine En_Ps 3 (pc' := 98) (lv' := [(0, .ref 159), (1, .int z55)]) (st' := [.long ((122 : Int64)), .long ((97 : Int64)), .long z290.toInt64]) rfl ?_
                  have : z290.toInt64.toInt = z290.toInt := (i2lI rfl)
                  have := (by decide : ((97 : Int64)).toInt = 97)
                  have := (by decide : ((122 : Int64)).toInt = 122)
                  refine En_callS rfl rfl rfl rfl rfl rfl rfl rfl rfl (c_249 σ271 h272 z290.toInt64 ((97 : Int64)) ((122 : Int64))) (by decide) (by decide) (fun v293 σ294 h292 => ?_)
                  obtain ⟨h295, h296, z298, rfl, h297⟩ := h292
                  obtain rfl : σ271 = σ294 := Fr_nil h296
                  refine En_iEq _ rfl rfl (fun h299 => ?_) (fun h299 => ?_)
                  · refine En_Ps 2 (pc' := 119) (lv' := [(0, .ref 159), (1, .int z55)]) (st' := [.int ((Int32.ofInt 1)), .ref 159]) rfl ?_
                    refine En_put (j := 10) rfl rfl rfl tgz_159 (by decide +kernel) rfl (vI (l := 0) (u := 4) (by decide +kernel) (by decide : (Int32.ofInt 1).toInt = 1) (by omega) (by omega)) h272 h273 (by decide +kernel) (fun σ300 h301 h302 h303 h304 => ?_)
                    refine En_Ps 1 (pc' := 239) (lv' := [(0, .ref 159), (1, .int z55)]) (st' := []) rfl ?_
                    have := (by decide : (Int32.ofInt 1).toInt = 1)
                    exact En_ret (v := none) rfl rfl rfl ⟨h301, h302, y270, ((h304 _ _ (Or.inr (by decide))).trans h276), (Int32.ofInt 1), h303, rfl, ⟨by omega, by omega, by omega, by omega, by omega, by omega, fun _ => by omega, ⟨(TPm_fr hT h302 (by decide +kernel)), TKm_1 (y := y1.toInt) (e := y270.toInt) hT (by omega) hf (by omega) (BL_no hT (by omega) (by omega) h10) (by omega) (by omega) h282 (by omega) ((ci_at (j := 8) ((h304 _ _ (Or.inr (by decide))).trans h276) rfl).trans (by omega)) ((ci_at (j := 9) ((h304 _ _ (Or.inr (by decide))).trans h275) rfl).trans (by omega)) ((ci_at (j := 10) h303 rfl).trans (by omega))⟩⟩⟩
                  · have h305 := Imp_m h289.2.2.1 (by omega)
                    have h306 := Imp_m h289.2.2.2.1 (by omega)
                    refine En_Ps 2 (pc' := 106) (lv' := [(0, .ref 159), (1, .int z55)]) (st' := [.ref 159, .ref 159]) rfl ?_
                    refine En_getK (j := 8) h276 rfl rfl rfl tgz_159 (by decide +kernel) ?_
                    refine En_Ps 2 (pc' := 111) (lv' := [(0, .ref 159), (1, .int z55)]) (st' := [.int ((y270 + ((Int32.ofInt 1)))), .ref 159]) rfl ?_
                    refine En_top (addI rfl (by decide : (Int32.ofInt 1).toInt = 1) (by omega) (by omega)) (fun z307 h308 => ?_)
                    refine En_put (j := 8) rfl rfl rfl tgz_159 (by decide +kernel) rfl (vI (l := 0) (u := 1600) (by decide +kernel) rfl (by omega) (by omega)) h272 h273 (by decide +kernel) (fun σ309 h310 h311 h312 h313 => ?_)
                    have h314 := LT_go (y := y270.toInt) (z := z307.toInt) hT (by omega) (by omega) (by omega)
                    refine En_Ps 1 (pc' := 83) (lv' := [(0, .ref 159), (1, .int z55)]) (st' := []) rfl ?_
                    exact ih83 σ309 z307 h310 h311 ((h313 _ _ (Or.inr (by decide))).trans h274) ((h313 _ _ (Or.inr (by decide))).trans h275) h312 (by omega) (by omega) (by omega) (by omega) (by omega) (h314.1.trans h282) (h314.2)
              refine En_lv (lv := [(0, .ref 159), (1, .int z55)]) ⟨rfl, rfl, trivial⟩ ?_
              exact key83 (Int.toNat (z13.toInt - z262.toInt) + 1) σ264 z262 h265 h266 ((h268 _ _ (Or.inr (by decide))).trans ((h48 _ _ (Or.inr (by decide))).trans h12)) ((h268 _ _ (Or.inr (by decide))).trans h47) h267 (by omega) (by omega) (by omega) (by omega) (by omega) (h269.1) (h269.2)
          · refine En_Ps 2 (pc' := 63) (lv' := [(1, .int z55), (0, .ref 159)]) (st' := [.int ((Int32.ofInt 0)), .ref 159]) rfl ?_
            refine En_put (j := 10) rfl rfl rfl tgz_159 (by decide +kernel) rfl (vI (l := 0) (u := 4) (by decide +kernel) (by decide : (Int32.ofInt 0).toInt = 0) (by omega) (by omega)) h45 h46 (by decide +kernel) (fun σ315 h316 h317 h318 h319 => ?_)
            refine En_Ps 1 (pc' := 239) (lv' := [(1, .int z55), (0, .ref 159)]) (st' := []) rfl ?_
            have := (by decide : (Int32.ofInt 0).toInt = 0)
            exact En_ret (v := none) rfl rfl rfl ⟨h316, h317, y1, ((h319 _ _ (Or.inr (by decide))).trans ((h48 _ _ (Or.inr (by decide))).trans h5)), (Int32.ofInt 0), h318, rfl, ⟨by omega, by omega, by omega, by omega, by omega, by omega, fun _ => by omega, ⟨(TPm_fr hT h317 (by decide +kernel)), TKm_0 (y := y1.toInt) hT (by omega) hf (by omega) (BL_no hT (by omega) (by omega) h10) (by omega) ((ci_at (j := 8) ((h319 _ _ (Or.inr (by decide))).trans ((h48 _ _ (Or.inr (by decide))).trans h5)) rfl).trans (by omega)) ((ci_at (j := 9) ((h319 _ _ (Or.inr (by decide))).trans h47) rfl).trans (by omega)) ((ci_at (j := 10) h318 rfl).trans (by omega))⟩⟩⟩
        · have h320 := Imp_m h21.2.2.1 (by omega)
          have h321 := Imp_m h21.2.2.2.1 (by omega)
          have h322 := Imp_m h40.2.2.1 (by omega)
          have h323 := Imp_m h40.2.2.2.1 (by omega)
          refine En_Ps 2 (pc' := 28) (lv' := [(0, .ref 159)]) (st' := [.ref 159, .ref 159]) rfl ?_
          refine En_getK (j := 8) h5 rfl rfl rfl tgz_159 (by decide +kernel) ?_
          refine En_Ps 2 (pc' := 33) (lv' := [(0, .ref 159)]) (st' := [.int ((y1 + ((Int32.ofInt 1)))), .ref 159]) rfl ?_
          refine En_top (addI rfl (by decide : (Int32.ofInt 1).toInt = 1) (by omega) (by omega)) (fun z324 h325 => ?_)
          refine En_put (j := 8) rfl rfl rfl tgz_159 (by decide +kernel) rfl (vI (l := 0) (u := 1600) (by decide +kernel) rfl (by omega) (by omega)) h3 h4 (by decide +kernel) (fun σ326 h327 h328 h329 h330 => ?_)
          have h331 := BL_go (y := y1.toInt) (z := z324.toInt) hT (by omega) (by omega) (by omega) h10
          refine En_Ps 1 (pc' := 0) (lv' := [(0, .ref 159)]) (st' := []) rfl ?_
          exact ih0 σ326 z324 h327 h328 h329 (by omega) (by omega) (by omega) (by omega) (h331.1) (h331.2)
  exact key0 (Int.toNat (-f.toInt + 1600) + 1) σ0 f hσ0 hF0 h_f (by omega) (by omega) (by omega) (by omega) (rfl) (hf)
/-- DoorSchoolModel.deedsOf(II)I -/
abbrev P_212x (σ0 : SG) (a : Int32) (b : Int32) (s : Int32) (sc : Int32) : PO := fun v σ => WT σ ∧ Fr [] σ0 σ ∧ ∃ ret : Int32, v = some (.int ret) ∧ -ret.toInt ≤ 0 ∧ ret.toInt - 65535 ≤ 0 ∧ ret.toInt = DOf a.toInt b.toInt (kI sc.toInt s.toInt).toNat
set_option maxRecDepth 10000 in
set_option maxHeartbeats 4000000 in
theorem c_212x (σ0 : SG) (hσ0 : WT σ0) (a : Int32) (b : Int32) (hl_a : 0 ≤ a.toInt) (hu_a : a.toInt ≤ 15) (s : Int32) (h_s : (σ0 160)[(0 : Int).toNat]? = some (.int s)) (sc : Int32) (h_sc : (σ0 160)[(7 : Int).toNat]? = some (.int sc)) : En 2 40 none mr_212 (P_212x σ0 a b s sc) 0 [(0, .ref 159), (1, .int a), (2, .int b)] [] σ0 := by
  obtain ⟨hl_s, hu_s⟩ := WT_int hσ0 (g := 36) (by decide +kernel) (by decide +kernel) (l := 0) (u := 4) (by decide +kernel) h_s
  obtain ⟨hl_sc, hu_sc⟩ := WT_int hσ0 (g := 36) (by decide +kernel) (by decide +kernel) (l := 0) (u := 1600) (by decide +kernel) h_sc
  have hF0 : Fr [] σ0 σ0 := Fr_rfl
  have := kI_rng sc.toInt (s := s.toInt) (by omega) (by omega)
  refine En_Ps 4 (pc' := 5) (lv' := [(4, .int ((Int32.ofInt 0))), (3, .int ((Int32.ofInt 0))), (0, .ref 159), (1, .int a), (2, .int b)]) (st' := []) rfl ?_
  have key5 : ∀ (n5 : Nat) (y1 : Int32) (y2 : Int32), 0 ≤ y1.toInt → y1.toInt ≤ 65535 → 0 ≤ y2.toInt → y2.toInt ≤ 16 → -y2.toInt + 16 < (n5 : Int) → y1.toInt = DOf a.toInt b.toInt (y2.toInt).toNat → y2.toInt ≤ kI sc.toInt s.toInt → En 2 40 none mr_212 (P_212x σ0 a b s sc) 5 [(0, .ref 159), (1, .int a), (2, .int b), (3, .int y1), (4, .int y2)] [] σ0 := by
    intro n5
    induction n5 with
    | zero =>
      intro y1 y2 h6 h7 h8 h9 h10 h11 h12
      exfalso; omega
    | succ n5 ih5 =>
      intro y1 y2 h6 h7 h8 h9 h10 h11 h12
      refine En_Ps 2 (pc' := 8) (lv' := [(0, .ref 159), (1, .int a), (2, .int b), (3, .int y1), (4, .int y2)]) (st' := [.ref 159, .int y2]) rfl ?_
      refine En_callV rfl rfl rfl rfl rfl rfl rfl rfl tgz_159 (by decide +kernel) rfl (c_269 σ0 hσ0 s h_s sc h_sc) (by decide) (by decide) (fun v14 σ15 h13 => ?_)
      obtain ⟨h16, h17, z19, rfl, h18⟩ := h13
      have h20 := h18.2.2
      obtain rfl : σ0 = σ15 := Fr_nil h17
      refine En_icGe _ rfl rfl rfl (fun h21 => ?_) (fun h21 => ?_)
      · refine En_Ps 1 (pc' := 40) (lv' := [(0, .ref 159), (1, .int a), (2, .int b), (3, .int y1), (4, .int y2)]) (st' := [.int y1]) rfl ?_
        exact En_ret (v := some (.int y1)) rfl rfl rfl ⟨hσ0, hF0, y1, rfl, ⟨by omega, by omega, DOf_e h11 (by omega) (by omega)⟩⟩
      · refine En_Ps 4 (pc' := 19) (lv' := [(0, .ref 159), (1, .int a), (2, .int b), (3, .int y1), (4, .int y2)]) (st' := [.int ((y2 &&& a)), .int y1]) rfl ?_
        refine En_nam (fun z22 h23 => ?_)
        have h24 : z22.toInt = aN y2.toInt a.toInt := and_v h23 rfl rfl (by omega) (by omega)
        have := aN_le (X := y2.toInt) (Y := a.toInt) (by omega) (by omega)
        refine En_Ps 1 (pc' := 20) (lv' := [(0, .ref 159), (1, .int a), (2, .int b), (3, .int y1), (4, .int y2)]) (st' := [.int b, .int z22, .int y1]) rfl ?_
        refine En_icNe _ rfl rfl rfl (fun h25 => ?_) (fun h25 => ?_)
        · refine En_Ps 2 (pc' := 32) (lv' := [(0, .ref 159), (1, .int a), (2, .int b), (3, .int y1), (4, .int y2)]) (st' := [.int ((y1 ||| ((Int32.ofInt 0))))]) rfl ?_
          refine En_nam (fun z26 h27 => ?_)
          have h28 : z26.toInt = oN y1.toInt 0 := or_v h27 rfl (by decide : (Int32.ofInt 0).toInt = 0) (by omega) (by omega)
          have := oN_lt (X := y1.toInt) (Y := 0) 16 (by omega) (by omega) (Int.lt_of_le_of_lt (by omega : _ ≤ (65535 : Int)) (by decide)) (Int.lt_of_le_of_lt (by omega : _ ≤ (65535 : Int)) (by decide))
          have two16 : ((2 ^ 16 : Nat) : Int) = 65536 := by decide
          refine En_Ps 2 (pc' := 36) (lv' := [(4, .int ((y2 + Int32.ofInt 1))), (3, .int z26), (0, .ref 159), (1, .int a), (2, .int b)]) (st' := []) rfl ?_
          refine En_lv1 (addI rfl (by decide : (Int32.ofInt 1).toInt = 1) (by omega) (by omega)) (fun z29 h30 => ?_)
          refine En_Ps 1 (pc' := 5) (lv' := [(4, .int z29), (3, .int z26), (0, .ref 159), (1, .int a), (2, .int b)]) (st' := []) rfl ?_
          refine En_lv (lv := [(0, .ref 159), (1, .int a), (2, .int b), (3, .int z26), (4, .int z29)]) ⟨rfl, rfl, rfl, rfl, rfl, trivial⟩ ?_
          exact ih5 z26 z29 (by omega) (by omega) (by omega) (by omega) (by omega) (DOf_z (q := 0) (by omega) h11 (by omega) (by omega) (by omega) (by omega) (by omega)) ((by omega))
        · refine En_Ps 3 (pc' := 27) (lv' := [(0, .ref 159), (1, .int a), (2, .int b), (3, .int y1), (4, .int y2)]) (st' := [.int ((((Int32.ofInt 1)) <<< (y2 &&& 31))), .int y1]) rfl ?_
          refine En_nam (fun z31 h32 => ?_)
          have h33 : z31.toInt = pI y2.toInt := shl_v h32 rfl (by omega) (by omega)
          have := pI_pos y2.toInt
          have : pI y2.toInt ≤ 32768 := pI_mono (Y := 15) (by omega)
          refine En_Ps 2 (pc' := 32) (lv' := [(0, .ref 159), (1, .int a), (2, .int b), (3, .int y1), (4, .int y2)]) (st' := [.int ((y1 ||| z31))]) rfl ?_
          refine En_nam (fun z34 h35 => ?_)
          have h36 : z34.toInt = oN y1.toInt z31.toInt := or_v h35 rfl rfl (by omega) (by omega)
          have := oN_lt (X := y1.toInt) (Y := z31.toInt) 16 (by omega) (by omega) (Int.lt_of_le_of_lt (by omega : _ ≤ (65535 : Int)) (by decide)) (Int.lt_of_le_of_lt (by omega : _ ≤ (65535 : Int)) (by decide))
          have two16 : ((2 ^ 16 : Nat) : Int) = 65536 := by decide
          refine En_Ps 2 (pc' := 36) (lv' := [(4, .int ((y2 + Int32.ofInt 1))), (3, .int z34), (0, .ref 159), (1, .int a), (2, .int b)]) (st' := []) rfl ?_
          refine En_lv1 (addI rfl (by decide : (Int32.ofInt 1).toInt = 1) (by omega) (by omega)) (fun z37 h38 => ?_)
          refine En_Ps 1 (pc' := 5) (lv' := [(4, .int z37), (3, .int z34), (0, .ref 159), (1, .int a), (2, .int b)]) (st' := []) rfl ?_
          refine En_lv (lv := [(0, .ref 159), (1, .int a), (2, .int b), (3, .int z34), (4, .int z37)]) ⟨rfl, rfl, rfl, rfl, rfl, trivial⟩ ?_
          exact ih5 z34 z37 (by omega) (by omega) (by omega) (by omega) (by omega) ((by first | exact DOf_y (q := z31.toInt) (by omega) h11 (by omega) (by omega) (by omega) (by omega) | exact DOf_z (q := z31.toInt) (by omega) h11 (by omega) (by omega) (by omega) (by omega) (by omega))) ((by omega))
  have := (by decide : (Int32.ofInt 0).toInt = 0)
  have := (by decide : (Int32.ofInt 0).toInt = 0)
  refine En_lv (lv := [(0, .ref 159), (1, .int a), (2, .int b), (3, .int ((Int32.ofInt 0))), (4, .int ((Int32.ofInt 0)))]) ⟨rfl, rfl, rfl, rfl, rfl, trivial⟩ ?_
  exact key5 (Int.toNat (16) + 1) ((Int32.ofInt 0)) ((Int32.ofInt 0)) (by omega) (by omega) (by omega) (by omega) (by omega) (DOf_0 (by omega) (by omega)) ((by omega))
/-- DoorSchoolModel.layRules()V -/
abbrev P_272x (σ0 : SG) (s : Int32) (sc : Int32) : PO := fun v σ => WT σ ∧ Fr [(35, 18), (42, 0), (43, 0), (44, 0)] σ0 σ ∧ ∃ r1 : Int32, (σ 159)[18]? = some (.int r1) ∧ v = none ∧ -r1.toInt ≤ 0 ∧ r1.toInt - 81 ≤ 0 ∧ ((1 ≤ sc.toInt → r1.toInt = nR s.toInt) ∧ TB σ 166 167 168 (kI sc.toInt s.toInt) r1.toInt)
set_option maxRecDepth 10000 in
set_option maxHeartbeats 4000000 in
theorem c_272x (σ0 : SG) (hσ0 : WT σ0) (s : Int32) (h_s : (σ0 160)[(0 : Int).toNat]? = some (.int s)) (sc : Int32) (h_sc : (σ0 160)[(7 : Int).toNat]? = some (.int sc)) : En 3 64 none mr_272 (P_272x σ0 s sc) 0 [(0, .ref 159)] [] σ0 := by
  obtain ⟨hl_s, hu_s⟩ := WT_int hσ0 (g := 36) (by decide +kernel) (by decide +kernel) (l := 0) (u := 4) (by decide +kernel) h_s
  obtain ⟨hl_sc, hu_sc⟩ := WT_int hσ0 (g := 36) (by decide +kernel) (by decide +kernel) (l := 0) (u := 1600) (by decide +kernel) h_sc
  have hF0 : Fr [(35, 18), (42, 0), (43, 0), (44, 0)] σ0 σ0 := Fr_rfl
  have := kI_rng sc.toInt (s := s.toInt) (by omega) (by omega)
  refine En_Ps 2 (pc' := 2) (lv' := [(0, .ref 159)]) (st' := [.int ((Int32.ofInt 0)), .ref 159]) rfl ?_
  refine En_put (j := 18) rfl rfl rfl tgz_159 (by decide +kernel) rfl (vI (l := 0) (u := 81) (by decide +kernel) (by decide : (Int32.ofInt 0).toInt = 0) (by omega) (by omega)) hσ0 hF0 (by decide +kernel) (fun σ1 h2 h3 h4 h5 => ?_)
  refine En_Ps 2 (pc' := 7) (lv' := [(1, .int ((Int32.ofInt 0))), (0, .ref 159)]) (st' := []) rfl ?_
  have key7 : ∀ (n7 : Nat) (σ8 : SG) (y6 : Int32) (y7 : Int32), WT σ8 → Fr [(35, 18), (42, 0), (43, 0), (44, 0)] σ0 σ8 → (σ8 160)[(0 : Int).toNat]? = some (.int s) → (σ8 160)[(7 : Int).toNat]? = some (.int sc) → (σ8 159)[18]? = some (.int y7) → 0 ≤ y6.toInt → y6.toInt ≤ 5 → 0 ≤ y7.toInt → y7.toInt ≤ 81 → -y6.toInt + 5 < (n7 : Int) → RN (kI sc.toInt s.toInt) y6.toInt 0 y7.toInt → TB σ8 166 167 168 (kI sc.toInt s.toInt) y7.toInt → y6.toInt ≤ s.toInt + 1 → En 3 64 none mr_272 (P_272x σ0 s sc) 7 [(0, .ref 159), (1, .int y6)] [] σ8 := by
    intro n7
    induction n7 with
    | zero =>
      intro σ8 y6 y7 h9 h10 h11 h12 h13 h14 h15 h16 h17 h18 h19 h20 h21
      exfalso; omega
    | succ n7 ih7 =>
      intro σ8 y6 y7 h9 h10 h11 h12 h13 h14 h15 h16 h17 h18 h19 h20 h21
      refine En_Ps 2 (pc' := 9) (lv' := [(0, .ref 159), (1, .int y6)]) (st' := [.ref 159, .int y6]) rfl ?_
      refine En_getU (j := 1) (u := 160) (g' := 36) (q := 0) rfl rfl rfl tgz_159 (by decide +kernel) h9 (by decide +kernel) (by decide +kernel) (fun h22 => ?_)
      refine En_Ps 1 (pc' := 13) (lv' := [(0, .ref 159), (1, .int y6)]) (st' := [.int ((Int32.ofInt 0)), .ref 160, .int y6]) rfl ?_
      refine En_ialdK h11 rfl (by decide : (Int32.ofInt 0).toInt = 0) tgz_160 (by decide +kernel) h9 (by omega) (lnI (by decide +kernel : LN _ = 226) (by omega)) ?_
      refine En_icGt _ rfl rfl rfl (fun h25 => ?_) (fun h25 => ?_)
      · exact En_ret (v := none) rfl rfl rfl ⟨h9, h10, y7, h13, rfl, ⟨by omega, by omega, ⟨fun hc => RN_lastk h19 (by omega) rfl (by omega) (by omega) hc, h20⟩⟩⟩
      · refine En_Ps 2 (pc' := 19) (lv' := [(2, .int ((Int32.ofInt 0))), (0, .ref 159), (1, .int y6)]) (st' := []) rfl ?_
        have key19 : ∀ (n19 : Nat) (σ28 : SG) (y26 : Int32) (y27 : Int32), WT σ28 → Fr [(35, 18), (42, 0), (43, 0), (44, 0)] σ0 σ28 → (σ28 160)[(0 : Int).toNat]? = some (.int s) → (σ28 160)[(7 : Int).toNat]? = some (.int sc) → (σ28 159)[1]? = some (.ref 160) → (σ28 159)[18]? = some (.int y27) → 0 ≤ y26.toInt → y26.toInt ≤ 16 → 0 ≤ y27.toInt → y27.toInt ≤ 81 → -y26.toInt + 16 < (n19 : Int) → RN (kI sc.toInt s.toInt) y6.toInt y26.toInt y27.toInt → TB σ28 166 167 168 (kI sc.toInt s.toInt) y27.toInt → y6.toInt ≤ s.toInt → En 3 64 none mr_272 (P_272x σ0 s sc) 19 [(0, .ref 159), (1, .int y6), (2, .int y26)] [] σ28 := by
          intro n19
          induction n19 with
          | zero =>
            intro σ28 y26 y27 h29 h30 h31 h32 h33 h34 h35 h36 h37 h38 h39 h40 h41 h42
            exfalso; omega
          | succ n19 ih19 =>
            intro σ28 y26 y27 h29 h30 h31 h32 h33 h34 h35 h36 h37 h38 h39 h40 h41 h42
            refine En_Ps 2 (pc' := 21) (lv' := [(0, .ref 159), (1, .int y6), (2, .int y26)]) (st' := [.ref 159, .int y26]) rfl ?_
            refine En_callV rfl rfl rfl rfl rfl rfl rfl rfl tgz_159 (by decide +kernel) rfl (c_269 σ28 h29 s h31 sc h32) (by decide) (by decide) (fun v44 σ45 h43 => ?_)
            obtain ⟨h46, h47, z49, rfl, h48⟩ := h43
            have h50 := h48.2.2
            obtain rfl : σ28 = σ45 := Fr_nil h47
            refine En_icGe _ rfl rfl rfl (fun h51 => ?_) (fun h51 => ?_)
            · refine En_Ps 1 (pc' := 116) (lv' := [(1, .int ((y6 + Int32.ofInt 1))), (0, .ref 159), (2, .int y26)]) (st' := []) rfl ?_
              refine En_lv1 (addI rfl (by decide : (Int32.ofInt 1).toInt = 1) (by omega) (by omega)) (fun z52 h53 => ?_)
              refine En_Ps 1 (pc' := 7) (lv' := [(1, .int z52), (0, .ref 159), (2, .int y26)]) (st' := []) rfl ?_
              refine En_lv (lv := [(0, .ref 159), (1, .int z52)]) ⟨rfl, rfl, trivial⟩ ?_
              exact ih7 σ28 z52 y27 h29 h30 h31 h32 h34 (by omega) (by omega) (by omega) (by omega) (by omega) (RN_n h40 (by omega) (by omega) (by omega) rfl (by omega)) (TB_eq h41 (by omega)) ((by omega))
            · refine En_Ps 1 (pc' := 28) (lv' := [(0, .ref 159), (1, .int y6), (2, .int y26)]) (st' := [.int y26]) rfl ?_
              refine En_callS rfl rfl rfl rfl rfl rfl rfl rfl rfl (c_203a σ28 h29 y26 (geI rfl (by omega)) (leI rfl (by omega))) (by decide) (by decide) (fun v55 σ56 h54 => ?_)
              obtain ⟨h57, h58, z60, rfl, h59⟩ := h54
              have h61 := h59.2.2
              obtain rfl : σ28 = σ56 := Fr_nil h58
              refine En_Ps 1 (pc' := 32) (lv' := [(0, .ref 159), (1, .int y6), (2, .int y26)]) (st' := [.int y6, .int z60]) rfl ?_
              refine En_icEq _ rfl rfl rfl (fun h62 => ?_) (fun h62 => ?_)
              · refine En_Ps 2 (pc' := 40) (lv' := [(3, .int ((Int32.ofInt 0))), (0, .ref 159), (1, .int y6), (2, .int y26)]) (st' := []) rfl ?_
                have key40 : ∀ (n40 : Nat) (σ65 : SG) (y63 : Int32) (y64 : Int32), WT σ65 → Fr [(35, 18), (42, 0), (43, 0), (44, 0)] σ0 σ65 → (σ65 160)[(0 : Int).toNat]? = some (.int s) → (σ65 160)[(7 : Int).toNat]? = some (.int sc) → (σ65 159)[1]? = some (.ref 160) → (σ65 159)[18]? = some (.int y64) → 0 ≤ y63.toInt → y63.toInt ≤ 16 → 0 ≤ y64.toInt → y64.toInt ≤ 81 → -y63.toInt + 16 < (n40 : Int) → RV (kI sc.toInt s.toInt) y6.toInt y26.toInt y63.toInt y64.toInt → TB σ65 166 167 168 (kI sc.toInt s.toInt) y64.toInt → y6.toInt ≤ s.toInt → En 3 64 none mr_272 (P_272x σ0 s sc) 40 [(0, .ref 159), (1, .int y6), (2, .int y26), (3, .int y63)] [] σ65 := by
                  intro n40
                  induction n40 with
                  | zero =>
                    intro σ65 y63 y64 h66 h67 h68 h69 h70 h71 h72 h73 h74 h75 h76 h77 h78 h79
                    exfalso; omega
                  | succ n40 ih40 =>
                    intro σ65 y63 y64 h66 h67 h68 h69 h70 h71 h72 h73 h74 h75 h76 h77 h78 h79
                    refine En_Ps 2 (pc' := 42) (lv' := [(0, .ref 159), (1, .int y6), (2, .int y26), (3, .int y63)]) (st' := [.int y26, .int y63]) rfl ?_
                    refine En_icGt _ rfl rfl rfl (fun h80 => ?_) (fun h80 => ?_)
                    · refine En_Ps 1 (pc' := 110) (lv' := [(2, .int ((y26 + Int32.ofInt 1))), (0, .ref 159), (1, .int y6), (3, .int y63)]) (st' := []) rfl ?_
                      refine En_lv1 (addI rfl (by decide : (Int32.ofInt 1).toInt = 1) (by omega) (by omega)) (fun z81 h82 => ?_)
                      refine En_Ps 1 (pc' := 19) (lv' := [(2, .int z81), (0, .ref 159), (1, .int y6), (3, .int y63)]) (st' := []) rfl ?_
                      refine En_lv (lv := [(0, .ref 159), (1, .int y6), (2, .int z81)]) ⟨rfl, rfl, rfl, trivial⟩ ?_
                      exact ih19 σ65 z81 y64 h66 h67 h68 h69 h70 h71 (by omega) (by omega) (by omega) (by omega) (by omega) (RN_x h77 (by omega) (by omega) (by omega) (by omega)) (TB_eq h78 (by omega)) ((by omega))
                    · refine En_Ps 4 (pc' := 49) (lv' := [(0, .ref 159), (1, .int y6), (2, .int y26), (3, .int y63)]) (st' := [.int ((y26 ^^^ ((Int32.ofInt (-1))))), .int y63]) rfl ?_
                      refine En_nam (fun z83 h84 => ?_)
                      refine En_Ps 1 (pc' := 50) (lv' := [(0, .ref 159), (1, .int y6), (2, .int y26), (3, .int y63)]) (st' := [.int ((y63 &&& z83))]) rfl ?_
                      refine En_nam (fun z85 h86 => ?_)
                      obtain ⟨h87, h88⟩ := andn_rng h86 rfl (by omega) (by omega : _ ≤ (15 : Int))
                      refine En_iEq _ rfl rfl (fun h89 => ?_) (fun h89 => ?_)
                      · obtain ⟨h90, h91⟩ := andn_zero h86 h84 h89 rfl rfl (by omega)
                        have := sub_sb h86 h84 rfl rfl (by omega) (by omega) (by omega) (by omega)
                        have h92 := RV_le h77 (by omega)
                        refine En_Ps 1 (pc' := 57) (lv' := [(0, .ref 159), (1, .int y6), (2, .int y26), (3, .int y63)]) (st' := [.ref 159]) rfl ?_
                        refine En_getU (j := 15) (u := 166) (g' := 42) (q := 0) rfl rfl rfl tgz_159 (by decide +kernel) h66 (by decide +kernel) (by decide +kernel) (fun h93 => ?_)
                        refine En_Ps 1 (pc' := 61) (lv' := [(0, .ref 159), (1, .int y6), (2, .int y26), (3, .int y63)]) (st' := [.ref 159, .ref 166]) rfl ?_
                        refine En_getK (j := 18) h71 rfl rfl rfl tgz_159 (by decide +kernel) ?_
                        refine En_Ps 1 (pc' := 65) (lv' := [(0, .ref 159), (1, .int y6), (2, .int y26), (3, .int y63)]) (st' := [.int y26, .int y64, .ref 166]) rfl ?_
                        refine En_iast (l := 0) (u := 15) rfl rfl tgz_166 (by decide +kernel) (by omega) (lnI (by decide +kernel : LN _ = 81) (by omega)) (FTsgl (by decide +kernel)) (rngI rfl (by omega) (by omega)) h66 h67 (by decide +kernel) (fun σ95 h96 h97 h98 h99 => ?_)
                        refine En_Ps 1 (pc' := 67) (lv' := [(0, .ref 159), (1, .int y6), (2, .int y26), (3, .int y63)]) (st' := [.ref 159]) rfl ?_
                        refine En_getU (j := 16) (u := 167) (g' := 43) (q := 0) rfl rfl rfl tgz_159 (by decide +kernel) h96 (by decide +kernel) (by decide +kernel) (fun h100 => ?_)
                        refine En_Ps 1 (pc' := 71) (lv' := [(0, .ref 159), (1, .int y6), (2, .int y26), (3, .int y63)]) (st' := [.ref 159, .ref 167]) rfl ?_
                        refine En_getK (j := 18) ((h99 _ _ (Or.inl (neTG tgz_159 tgz_166 (by decide)))).trans h71) rfl rfl rfl tgz_159 (by decide +kernel) ?_
                        refine En_Ps 1 (pc' := 75) (lv' := [(0, .ref 159), (1, .int y6), (2, .int y26), (3, .int y63)]) (st' := [.int y63, .int y64, .ref 167]) rfl ?_
                        refine En_iast (l := 0) (u := 15) rfl rfl tgz_167 (by decide +kernel) (by omega) (lnI (by decide +kernel : LN _ = 81) (by omega)) (FTsgl (by decide +kernel)) (rngI rfl (by omega) (by omega)) h96 h97 (by decide +kernel) (fun σ102 h103 h104 h105 h106 => ?_)
                        refine En_Ps 1 (pc' := 77) (lv' := [(0, .ref 159), (1, .int y6), (2, .int y26), (3, .int y63)]) (st' := [.ref 159]) rfl ?_
                        refine En_getU (j := 17) (u := 168) (g' := 44) (q := 0) rfl rfl rfl tgz_159 (by decide +kernel) h103 (by decide +kernel) (by decide +kernel) (fun h107 => ?_)
                        refine En_Ps 1 (pc' := 81) (lv' := [(0, .ref 159), (1, .int y6), (2, .int y26), (3, .int y63)]) (st' := [.ref 159, .ref 168]) rfl ?_
                        refine En_getK (j := 18) ((h106 _ _ (Or.inl (neTG tgz_159 tgz_167 (by decide)))).trans ((h99 _ _ (Or.inl (neTG tgz_159 tgz_166 (by decide)))).trans h71)) rfl rfl rfl tgz_159 (by decide +kernel) ?_
                        refine En_Ps 3 (pc' := 87) (lv' := [(0, .ref 159), (1, .int y6), (2, .int y26), (3, .int y63)]) (st' := [.int y63, .int y26, .ref 159, .int y64, .ref 168]) rfl ?_
                        refine En_callV rfl rfl rfl rfl rfl rfl rfl rfl tgz_159 (by decide +kernel) rfl (c_212x σ102 h103 y26 y63 (geI rfl (by omega)) (leI rfl (by omega)) s ((h106 _ _ (Or.inl (neTG tgz_160 tgz_167 (by decide)))).trans ((h99 _ _ (Or.inl (neTG tgz_160 tgz_166 (by decide)))).trans h68)) sc ((h106 _ _ (Or.inl (neTG tgz_160 tgz_167 (by decide)))).trans ((h99 _ _ (Or.inl (neTG tgz_160 tgz_166 (by decide)))).trans h69))) (by decide) (by decide) (fun v110 σ111 h109 => ?_)
                        obtain ⟨h112, h113, z115, rfl, h114⟩ := h109
                        have h116 := h114.2.2
                        obtain rfl : σ102 = σ111 := Fr_nil h113
                        refine En_iast (l := (-2147483648)) (u := 2147483647) rfl rfl tgz_168 (by decide +kernel) (by omega) (lnI (by decide +kernel : LN _ = 81) (by omega)) (FTsgl (by decide +kernel)) (fullI _) h103 h104 (by decide +kernel) (fun σ117 h118 h119 h120 h121 => ?_)
                        refine En_Ps 2 (pc' := 93) (lv' := [(0, .ref 159), (1, .int y6), (2, .int y26), (3, .int y63)]) (st' := [.ref 159, .ref 159]) rfl ?_
                        refine En_getK (j := 18) ((h121 _ _ (Or.inl (neTG tgz_159 tgz_168 (by decide)))).trans ((h106 _ _ (Or.inl (neTG tgz_159 tgz_167 (by decide)))).trans ((h99 _ _ (Or.inl (neTG tgz_159 tgz_166 (by decide)))).trans h71))) rfl rfl rfl tgz_159 (by decide +kernel) ?_
                        refine En_Ps 2 (pc' := 98) (lv' := [(0, .ref 159), (1, .int y6), (2, .int y26), (3, .int y63)]) (st' := [.int ((y64 + ((Int32.ofInt 1)))), .ref 159]) rfl ?_
                        refine En_top (addI rfl (by decide : (Int32.ofInt 1).toInt = 1) (by omega) (by omega)) (fun z122 h123 => ?_)
                        refine En_put (j := 18) rfl rfl rfl tgz_159 (by decide +kernel) rfl (vI (l := 0) (u := 81) (by decide +kernel) rfl (by omega) (by omega)) h118 h119 (by decide +kernel) (fun σ124 h125 h126 h127 h128 => ?_)
                        refine En_Ps 1 (pc' := 104) (lv' := [(3, .int ((y63 + Int32.ofInt 1))), (0, .ref 159), (1, .int y6), (2, .int y26)]) (st' := []) rfl ?_
                        refine En_lv1 (addI rfl (by decide : (Int32.ofInt 1).toInt = 1) (by omega) (by omega)) (fun z129 h130 => ?_)
                        refine En_Ps 1 (pc' := 40) (lv' := [(3, .int z129), (0, .ref 159), (1, .int y6), (2, .int y26)]) (st' := []) rfl ?_
                        refine En_lv (lv := [(0, .ref 159), (1, .int y6), (2, .int y26), (3, .int z129)]) ⟨rfl, rfl, rfl, rfl, trivial⟩ ?_
                        exact ih40 σ124 z129 z122 h125 h126 ((h128 _ _ (Or.inl (neTG tgz_160 tgz_159 (by decide)))).trans ((h121 _ _ (Or.inl (neTG tgz_160 tgz_168 (by decide)))).trans ((h106 _ _ (Or.inl (neTG tgz_160 tgz_167 (by decide)))).trans ((h99 _ _ (Or.inl (neTG tgz_160 tgz_166 (by decide)))).trans h68)))) ((h128 _ _ (Or.inl (neTG tgz_160 tgz_159 (by decide)))).trans ((h121 _ _ (Or.inl (neTG tgz_160 tgz_168 (by decide)))).trans ((h106 _ _ (Or.inl (neTG tgz_160 tgz_167 (by decide)))).trans ((h99 _ _ (Or.inl (neTG tgz_160 tgz_166 (by decide)))).trans h69)))) ((h128 _ _ (Or.inr (by decide))).trans ((h121 _ _ (Or.inl (neTG tgz_159 tgz_168 (by decide)))).trans ((h106 _ _ (Or.inl (neTG tgz_159 tgz_167 (by decide)))).trans ((h99 _ _ (Or.inl (neTG tgz_159 tgz_166 (by decide)))).trans h70)))) h127 (by omega) (by omega) (by omega) (by omega) (by omega) (RV_put h77 (by omega) (by omega) (by omega) (by omega) (by omega) (by omega)) (TB_ne (TB_put h78 (P2_kI (by omega) (by omega) (by omega)) h77 (by omega) (by omega) h98 h99 h105 h106 h120 h121 (by decide) (by decide) (by decide) (by omega) (by omega) (by omega) (by omega) (by omega) (by omega) (by omega) (by omega)) h128 (by decide) (by decide) (by decide)) ((by omega))
                      · have := sub_sb h86 h84 rfl rfl (by omega) (by omega) (by omega) (by omega)
                        refine En_Ps 2 (pc' := 104) (lv' := [(3, .int ((y63 + Int32.ofInt 1))), (0, .ref 159), (1, .int y6), (2, .int y26)]) (st' := []) rfl ?_
                        refine En_lv1 (addI rfl (by decide : (Int32.ofInt 1).toInt = 1) (by omega) (by omega)) (fun z131 h132 => ?_)
                        refine En_Ps 1 (pc' := 40) (lv' := [(3, .int z131), (0, .ref 159), (1, .int y6), (2, .int y26)]) (st' := []) rfl ?_
                        refine En_lv (lv := [(0, .ref 159), (1, .int y6), (2, .int y26), (3, .int z131)]) ⟨rfl, rfl, rfl, rfl, trivial⟩ ?_
                        exact ih40 σ65 z131 y64 h66 h67 h68 h69 h70 h71 (by omega) (by omega) (by omega) (by omega) (by omega) (RV_not h77 (by omega) (by omega) (by omega) (by omega) (by omega) (by omega)) (TB_eq h78 (by omega)) ((by omega))
                have := (by decide : (Int32.ofInt 0).toInt = 0)
                refine En_lv (lv := [(0, .ref 159), (1, .int y6), (2, .int y26), (3, .int ((Int32.ofInt 0)))]) ⟨rfl, rfl, rfl, rfl, trivial⟩ ?_
                exact key40 (Int.toNat (16) + 1) σ28 ((Int32.ofInt 0)) y27 h29 h30 h31 h32 h33 h34 (by omega) (by omega) (by omega) (by omega) (by omega) (RV_in h40 (by omega) (by omega) (by omega) (by omega) (by omega) (by omega)) (TB_eq h41 (by omega)) ((by omega))
              · refine En_Ps 2 (pc' := 110) (lv' := [(2, .int ((y26 + Int32.ofInt 1))), (0, .ref 159), (1, .int y6)]) (st' := []) rfl ?_
                refine En_lv1 (addI rfl (by decide : (Int32.ofInt 1).toInt = 1) (by omega) (by omega)) (fun z133 h134 => ?_)
                refine En_Ps 1 (pc' := 19) (lv' := [(2, .int z133), (0, .ref 159), (1, .int y6)]) (st' := []) rfl ?_
                refine En_lv (lv := [(0, .ref 159), (1, .int y6), (2, .int z133)]) ⟨rfl, rfl, rfl, trivial⟩ ?_
                exact ih19 σ28 z133 y27 h29 h30 h31 h32 h33 h34 (by omega) (by omega) (by omega) (by omega) (by omega) (RN_skip h40 (by omega) (by omega) (by omega) (by omega) (by omega)) (TB_eq h41 (by omega)) ((by omega))
        have := (by decide : (Int32.ofInt 0).toInt = 0)
        refine En_lv (lv := [(0, .ref 159), (1, .int y6), (2, .int ((Int32.ofInt 0)))]) ⟨rfl, rfl, rfl, trivial⟩ ?_
        exact key19 (Int.toNat (16) + 1) σ8 ((Int32.ofInt 0)) y7 h9 h10 h11 h12 h22 h13 (by omega) (by omega) (by omega) (by omega) (by omega) (RN_eq h19 (by omega) (by omega) (by omega)) (TB_eq h20 (by omega)) ((by omega))
  have := (by decide : (Int32.ofInt 0).toInt = 0)
  have := (by decide : (Int32.ofInt 0).toInt = 0)
  refine En_lv (lv := [(0, .ref 159), (1, .int ((Int32.ofInt 0)))]) ⟨rfl, rfl, trivial⟩ ?_
  exact key7 (Int.toNat (5) + 1) σ1 ((Int32.ofInt 0)) ((Int32.ofInt 0)) h2 h3 ((h5 _ _ (Or.inl (neTG tgz_160 tgz_159 (by decide)))).trans h_s) ((h5 _ _ (Or.inl (neTG tgz_160 tgz_159 (by decide)))).trans h_sc) h4 (by omega) (by omega) (by omega) (by omega) (by omega) (RN_0 (by omega) (by omega) rfl (by omega)) (TB_0 (by omega)) ((by omega))
/-- DoorSchoolModel.allKnocks()I -/
abbrev P_192x (σ0 : SG) (s : Int32) (sc : Int32) : PO := fun v σ => WT σ ∧ Fr [] σ0 σ ∧ ∃ ret : Int32, v = some (.int ret) ∧ -ret.toInt ≤ 0 ∧ ret.toInt - 65535 ≤ 0 ∧ ret.toInt = pI (kI sc.toInt s.toInt) - 1
set_option maxRecDepth 10000 in
set_option maxHeartbeats 4000000 in
theorem c_192x (σ0 : SG) (hσ0 : WT σ0) (s : Int32) (h_s : (σ0 160)[(0 : Int).toNat]? = some (.int s)) (sc : Int32) (h_sc : (σ0 160)[(7 : Int).toNat]? = some (.int sc)) : En 2 40 none mr_192 (P_192x σ0 s sc) 0 [(0, .ref 159)] [] σ0 := by
  obtain ⟨hl_s, hu_s⟩ := WT_int hσ0 (g := 36) (by decide +kernel) (by decide +kernel) (l := 0) (u := 4) (by decide +kernel) h_s
  obtain ⟨hl_sc, hu_sc⟩ := WT_int hσ0 (g := 36) (by decide +kernel) (by decide +kernel) (l := 0) (u := 1600) (by decide +kernel) h_sc
  have hF0 : Fr [] σ0 σ0 := Fr_rfl
  have := kI_rng sc.toInt (s := s.toInt) (by omega) (by omega)
  refine En_Ps 2 (pc' := 2) (lv' := [(0, .ref 159)]) (st' := [.ref 159, .int ((Int32.ofInt 1))]) rfl ?_
  refine En_callV rfl rfl rfl rfl rfl rfl rfl rfl tgz_159 (by decide +kernel) rfl (c_269 σ0 hσ0 s h_s sc h_sc) (by decide) (by decide) (fun v2 σ3 h1 => ?_)
  obtain ⟨h4, h5, z7, rfl, h6⟩ := h1
  have h8 := h6.2.2
  obtain rfl : σ0 = σ3 := Fr_nil h5
  have h9 : pI (z7.toInt) = pI (kI sc.toInt s.toInt) := by rw [h8]
  refine En_Ps 1 (pc' := 6) (lv' := [(0, .ref 159)]) (st' := [.int ((((Int32.ofInt 1)) <<< (z7 &&& 31)))]) rfl ?_
  refine En_nam (fun z10 h11 => ?_)
  have h12 : z10.toInt = pI z7.toInt := shl_v h11 rfl (by omega) (by omega)
  have := pI_pos z7.toInt
  have : pI z7.toInt ≤ 65536 := pI_mono (Y := 16) (by omega)
  refine En_Ps 2 (pc' := 8) (lv' := [(0, .ref 159)]) (st' := [.int ((z10 - ((Int32.ofInt 1))))]) rfl ?_
  refine En_top (subI rfl (by decide : (Int32.ofInt 1).toInt = 1) (by omega) (by omega)) (fun z13 h14 => ?_)
  exact En_ret (v := some (.int z13)) rfl rfl rfl ⟨hσ0, hF0, z13, rfl, ⟨by omega, by omega, (by omega)⟩⟩
/-- DoorSchoolModel.areDeeds(I)Z -/
abbrev P_195x (σ0 : SG) (a : Int32) (s : Int32) (sc : Int32) : PO := fun v σ => WT σ ∧ Fr [] σ0 σ ∧ ∃ ret : Int32, v = some (.int ret) ∧ -ret.toInt ≤ 0 ∧ ret.toInt - 1 ≤ 0 ∧ Imp (ret.toInt - 1 ≤ 0 ∧ -ret.toInt + 1 ≤ 0) (-a.toInt ≤ 0 ∧ a.toInt - 65535 ≤ 0) ∧ ((ret.toInt = 1 ∧ 0 < sc.toInt ∧ 0 ≤ a.toInt ∧ a.toInt < pI (pI s.toInt)) ∨ (ret.toInt = 0 ∧ (sc.toInt ≤ 0 ∨ a.toInt < 0 ∨ pI (pI s.toInt) ≤ a.toInt)))
set_option maxRecDepth 10000 in
set_option maxHeartbeats 4000000 in
theorem c_195x (σ0 : SG) (hσ0 : WT σ0) (a : Int32) (s : Int32) (h_s : (σ0 160)[(0 : Int).toNat]? = some (.int s)) (sc : Int32) (h_sc : (σ0 160)[(7 : Int).toNat]? = some (.int sc)) : En 3 60 none mr_195 (P_195x σ0 a s sc) 0 [(0, .ref 159), (1, .int a)] [] σ0 := by
  obtain ⟨hl_s, hu_s⟩ := WT_int hσ0 (g := 36) (by decide +kernel) (by decide +kernel) (l := 0) (u := 4) (by decide +kernel) h_s
  obtain ⟨hl_sc, hu_sc⟩ := WT_int hσ0 (g := 36) (by decide +kernel) (by decide +kernel) (l := 0) (u := 1600) (by decide +kernel) h_sc
  have hF0 : Fr [] σ0 σ0 := Fr_rfl
  refine En_Ps 1 (pc' := 1) (lv' := [(0, .ref 159), (1, .int a)]) (st' := [.ref 159]) rfl ?_
  refine En_callV rfl rfl rfl rfl rfl rfl rfl rfl tgz_159 (by decide +kernel) rfl (c_264 σ0 hσ0 sc h_sc) (by decide) (by decide) (fun v2 σ3 h1 => ?_)
  obtain ⟨h4, h5, z7, rfl, h6⟩ := h1
  obtain rfl : σ0 = σ3 := Fr_nil h5
  refine En_iEq _ rfl rfl (fun h8 => ?_) (fun h8 => ?_)
  · refine En_Ps 1 (pc' := 26) (lv' := [(0, .ref 159), (1, .int a)]) (st' := [.int ((Int32.ofInt 0))]) rfl ?_
    refine En_top (by decide : (Int32.ofInt 0).toInt = 0) (fun z9 h10 => ?_)
    exact En_ret (v := some (.int z9)) rfl rfl (retZ rfl rfl (by omega) (by omega)) ⟨hσ0, hF0, z9, rfl, ⟨by omega, by omega, fun _ => by omega, (by omega)⟩⟩
  · refine En_Ps 4 (pc' := 11) (lv' := [(0, .ref 159), (1, .int a)]) (st' := [.ref 159, .long ((Int64.ofNat 0)), .long a.toInt64]) rfl ?_
    refine En_callV rfl rfl rfl rfl rfl rfl rfl rfl tgz_159 (by decide +kernel) rfl (c_192x σ0 hσ0 s h_s sc h_sc) (by decide) (by decide) (fun v12 σ13 h11 => ?_)
    obtain ⟨h14, h15, z17, rfl, h16⟩ := h11
    have h18 := h16.2.2
    obtain rfl : σ0 = σ13 := Fr_nil h15
    have h19 : pI (kI sc.toInt s.toInt) = pI (pI s.toInt) := by rw [(kI_val sc.toInt s.toInt).2 (by omega)]
    have h20 := h18
    refine En_Ps 1 (pc' := 15) (lv' := [(0, .ref 159), (1, .int a)]) (st' := [.long z17.toInt64, .long ((Int64.ofNat 0)), .long a.toInt64]) rfl ?_
    have : a.toInt64.toInt = a.toInt := (i2lI rfl)
    have := (by decide : ((Int64.ofNat 0)).toInt = 0)
    have : z17.toInt64.toInt = z17.toInt := (i2lI rfl)
    refine En_callS rfl rfl rfl rfl rfl rfl rfl rfl rfl (c_249 σ0 hσ0 a.toInt64 ((Int64.ofNat 0)) z17.toInt64) (by decide) (by decide) (fun v22 σ23 h21 => ?_)
    obtain ⟨h24, h25, z27, rfl, h26⟩ := h21
    obtain rfl : σ0 = σ23 := Fr_nil h25
    refine En_iEq _ rfl rfl (fun h28 => ?_) (fun h28 => ?_)
    · refine En_Ps 1 (pc' := 26) (lv' := [(0, .ref 159), (1, .int a)]) (st' := [.int ((Int32.ofInt 0))]) rfl ?_
      refine En_top (by decide : (Int32.ofInt 0).toInt = 0) (fun z29 h30 => ?_)
      exact En_ret (v := some (.int z29)) rfl rfl (retZ rfl rfl (by omega) (by omega)) ⟨hσ0, hF0, z29, rfl, ⟨by omega, by omega, fun _ => by omega, (by omega)⟩⟩
    · refine En_Ps 2 (pc' := 26) (lv' := [(0, .ref 159), (1, .int a)]) (st' := [.int ((Int32.ofInt 1))]) rfl ?_
      refine En_top (by decide : (Int32.ofInt 1).toInt = 1) (fun z31 h32 => ?_)
      exact En_ret (v := some (.int z31)) rfl rfl (retZ rfl rfl (by omega) (by omega)) ⟨hσ0, hF0, z31, rfl, ⟨by omega, by omega, fun _ => by omega, (by omega)⟩⟩
/-- DoorSchoolModel.isKnock(J)Z -/
abbrev P_259x (σ0 : SG) (a : Int64) (s : Int32) (sc : Int32) : PO := fun v σ => WT σ ∧ Fr [] σ0 σ ∧ ∃ ret : Int32, v = some (.int ret) ∧ -ret.toInt ≤ 0 ∧ ret.toInt - 1 ≤ 0 ∧ Imp (-ret.toInt + 1 ≤ 0) (-a.toInt ≤ 0 ∧ a.toInt - 15 ≤ 0) ∧ ((ret.toInt = 1 ∧ 0 < sc.toInt ∧ 0 ≤ a.toInt ∧ a.toInt < pI s.toInt) ∨ (ret.toInt = 0 ∧ (sc.toInt ≤ 0 ∨ a.toInt < 0 ∨ pI s.toInt ≤ a.toInt)))
set_option maxRecDepth 10000 in
set_option maxHeartbeats 4000000 in
theorem c_259x (σ0 : SG) (hσ0 : WT σ0) (a : Int64) (s : Int32) (h_s : (σ0 160)[(0 : Int).toNat]? = some (.int s)) (sc : Int32) (h_sc : (σ0 160)[(7 : Int).toNat]? = some (.int sc)) : En 2 40 none mr_259 (P_259x σ0 a s sc) 0 [(0, .ref 159), (1, .long a)] [] σ0 := by
  obtain ⟨hl_s, hu_s⟩ := WT_int hσ0 (g := 36) (by decide +kernel) (by decide +kernel) (l := 0) (u := 4) (by decide +kernel) h_s
  obtain ⟨hl_sc, hu_sc⟩ := WT_int hσ0 (g := 36) (by decide +kernel) (by decide +kernel) (l := 0) (u := 1600) (by decide +kernel) h_sc
  have hF0 : Fr [] σ0 σ0 := Fr_rfl
  have := kI_val sc.toInt s.toInt
  refine En_Ps 3 (pc' := 3) (lv' := [(0, .ref 159), (1, .long a)]) (st' := [.ref 159, .long ((Int64.ofNat 0)), .long a]) rfl ?_
  refine En_callV rfl rfl rfl rfl rfl rfl rfl rfl tgz_159 (by decide +kernel) rfl (c_269 σ0 hσ0 s h_s sc h_sc) (by decide) (by decide) (fun v2 σ3 h1 => ?_)
  obtain ⟨h4, h5, z7, rfl, h6⟩ := h1
  have h8 := h6.2.2
  have h9 := Fr_trans hF0 h5 (by decide +kernel)
  have h10 := h8
  refine En_Ps 2 (pc' := 8) (lv' := [(0, .ref 159), (1, .long a)]) (st' := [.int ((z7 - ((Int32.ofInt 1)))), .long ((Int64.ofNat 0)), .long a]) rfl ?_
  refine En_top (subI rfl (by decide : (Int32.ofInt 1).toInt = 1) (by omega) (by omega)) (fun z11 h12 => ?_)
  refine En_Ps 1 (pc' := 9) (lv' := [(0, .ref 159), (1, .long a)]) (st' := [.long z11.toInt64, .long ((Int64.ofNat 0)), .long a]) rfl ?_
  have := (by decide : ((Int64.ofNat 0)).toInt = 0)
  have : z11.toInt64.toInt = z11.toInt := (i2lI rfl)
  refine En_callS rfl rfl rfl rfl rfl rfl rfl rfl rfl (c_249 σ3 h4 a ((Int64.ofNat 0)) z11.toInt64) (by decide) (by decide) (fun v14 σ15 h13 => ?_)
  obtain ⟨h16, h17, z19, rfl, h18⟩ := h13
  have h20 := Fr_trans h9 h17 (by decide +kernel)
  exact En_ret (v := some (.int z19)) rfl rfl (retZ rfl rfl (by omega) (by omega)) ⟨h16, h20, z19, rfl, ⟨by omega, by omega, fun _ => by omega, (by omega)⟩⟩
/-- DoorSchoolModel.back(I)I -/
abbrev P_199x (σ0 : SG) (a : Int32) : PO := fun v σ => WT σ ∧ Fr [(36, 0)] σ0 σ ∧ ∃ ret : Int32, v = some (.int ret) ∧ -ret.toInt - 6 ≤ 0 ∧ ret.toInt ≤ 0 ∧ (WI σ ∧ BCK (ci σ0 162 a.toInt) a.toInt ret.toInt ∧ BKM σ0 σ a.toInt (ci σ0 162 a.toInt))
set_option maxRecDepth 10000 in
set_option maxHeartbeats 4000000 in
theorem c_199x (σ0 : SG) (hσ0 : WT σ0) (a : Int32) (hI : WI σ0) : En 1 25 none mr_199 (P_199x σ0 a) 0 [(0, .ref 159), (1, .int a)] [] σ0 := by
  have hF0 : Fr [(36, 0)] σ0 σ0 := Fr_rfl
  refine En_Ps 4 (pc' := 6) (lv' := [(0, .ref 159), (1, .int a)]) (st' := [.long ((2 : Int64)), .long ((Int64.ofNat 0)), .long a.toInt64]) rfl ?_
  have : a.toInt64.toInt = a.toInt := (i2lI rfl)
  have := (by decide : ((Int64.ofNat 0)).toInt = 0)
  have := (by decide : ((2 : Int64)).toInt = 2)
  refine En_callS rfl rfl rfl rfl rfl rfl rfl rfl rfl (c_249 σ0 hσ0 a.toInt64 ((Int64.ofNat 0)) ((2 : Int64))) (by decide) (by decide) (fun v2 σ3 h1 => ?_)
  obtain ⟨h4, h5, z7, rfl, h6⟩ := h1
  obtain rfl : σ0 = σ3 := Fr_nil h5
  refine En_iNe _ rfl rfl (fun h8 => ?_) (fun h8 => ?_)
  · refine En_Ps 1 (pc' := 16) (lv' := [(0, .ref 159), (1, .int a)]) (st' := [.ref 159]) rfl ?_
    refine En_getU (j := 3) (u := 162) (g' := 38) (q := 0) rfl rfl rfl tgz_159 (by decide +kernel) hσ0 (by decide +kernel) (by decide +kernel) (fun h9 => ?_)
    refine En_Ps 1 (pc' := 20) (lv' := [(0, .ref 159), (1, .int a)]) (st' := [.int a, .ref 162]) rfl ?_
    refine En_bald (l := 0) (u := 1) rfl rfl tgz_162 (by decide +kernel) hσ0 (by omega) (lnI (by decide +kernel : LN _ = 3) (by omega)) (FTsgl (by decide +kernel)) (fun z12 h11 h13 h14 => ?_)
    have h15 := ci_at h11 (rfl : a.toInt = a.toInt)
    refine En_iNe _ rfl rfl (fun h16 => ?_) (fun h16 => ?_)
    · refine En_Ps 2 (pc' := 29) (lv' := [(2, .int ((Int32.ofInt 0))), (0, .ref 159), (1, .int a)]) (st' := []) rfl ?_
      have key29 : ∀ (n29 : Nat) (σ18 : SG) (y17 : Int32), WT σ18 → Fr [(36, 0)] σ0 σ18 → (σ18 159)[3]? = some (.ref 162) → (σ18 162)[(a.toInt).toNat]? = some (.int z12) → 0 ≤ y17.toInt → y17.toInt ≤ 226 → -y17.toInt + 226 < (n29 : Int) → CPB σ0 σ18 a.toInt y17.toInt → En 1 25 none mr_199 (P_199x σ0 a) 29 [(0, .ref 159), (1, .int a), (2, .int y17)] [] σ18 := by
        intro n29
        induction n29 with
        | zero =>
          intro σ18 y17 h19 h20 h21 h22 h23 h24 h25 h26
          exfalso; omega
        | succ n29 ih29 =>
          intro σ18 y17 h19 h20 h21 h22 h23 h24 h25 h26
          refine En_Ps 2 (pc' := 33) (lv' := [(0, .ref 159), (1, .int a), (2, .int y17)]) (st' := [.int (((Int16.ofInt 226).toInt32)), .int y17]) rfl ?_
          refine En_icGe _ rfl (by decide : ((Int16.ofInt 226).toInt32).toInt = 226) rfl (fun h27 => ?_) (fun h27 => ?_)
          · refine En_Ps 1 (pc' := 61) (lv' := [(0, .ref 159), (1, .int a), (2, .int y17)]) (st' := [.int ((Int32.ofInt 0))]) rfl ?_
            refine En_top (by decide : (Int32.ofInt 0).toInt = 0) (fun z28 h29 => ?_)
            exact En_ret (v := some (.int z28)) rfl rfl rfl ⟨h19, h20, z28, rfl, ⟨by omega, by omega, ⟨CPB_x h26 (by omega) h20 (by decide +kernel) (by omega) (by omega) hI, BCK_0 (by omega) (by omega) (by omega) (by omega), BKM_ok h26 (by omega) (by omega) (by omega) (by omega)⟩⟩⟩
          · refine En_Ps 1 (pc' := 37) (lv' := [(0, .ref 159), (1, .int a), (2, .int y17)]) (st' := [.ref 159]) rfl ?_
            refine En_getU (j := 1) (u := 160) (g' := 36) (q := 0) rfl rfl rfl tgz_159 (by decide +kernel) h19 (by decide +kernel) (by decide +kernel) (fun h30 => ?_)
            refine En_Ps 2 (pc' := 42) (lv' := [(0, .ref 159), (1, .int a), (2, .int y17)]) (st' := [.ref 159, .int y17, .ref 160]) rfl ?_
            refine En_getU (j := 2) (u := 161) (g' := 37) (q := 0) rfl rfl rfl tgz_159 (by decide +kernel) h19 (by decide +kernel) (by decide +kernel) (fun h32 => ?_)
            refine En_Ps 3 (pc' := 50) (lv' := [(0, .ref 159), (1, .int a), (2, .int y17)]) (st' := [.int (((((Int16.ofInt 226).toInt32)) * a)), .ref 161, .int y17, .ref 160]) rfl ?_
            refine En_top (mulI (by decide : ((Int16.ofInt 226).toInt32).toInt = 226) rfl (Z := 226 * a.toInt) (by omega) (by omega) (by omega)) (fun z34 h35 => ?_)
            refine En_Ps 2 (pc' := 52) (lv' := [(0, .ref 159), (1, .int a), (2, .int y17)]) (st' := [.int ((z34 + y17)), .ref 161, .int y17, .ref 160]) rfl ?_
            refine En_top (addI rfl rfl (by omega) (by omega)) (fun z36 h37 => ?_)
            refine En_ialdW (n := 678) rfl rfl tgz_161 (by decide +kernel) h19 (by omega) (by decide +kernel) (by omega) (by decide +kernel) (fun z38 h39 h40 => ?_)
            refine En_iastW (n := 226) rfl rfl tgz_160 (by decide +kernel) (by omega) (by decide +kernel) (by omega) (ft_iw h40 (by omega) (by omega) (k := a.toInt) (by omega) (by omega) (by omega)) h19 h20 (by decide +kernel) (fun σ41 h42 h43 h44 h45 => ?_)
            refine En_Ps 1 (pc' := 57) (lv' := [(2, .int ((y17 + Int32.ofInt 1))), (0, .ref 159), (1, .int a)]) (st' := []) rfl ?_
            refine En_lv1 (addI rfl (by decide : (Int32.ofInt 1).toInt = 1) (by omega) (by omega)) (fun z46 h47 => ?_)
            refine En_Ps 1 (pc' := 29) (lv' := [(2, .int z46), (0, .ref 159), (1, .int a)]) (st' := []) rfl ?_
            refine En_lv (lv := [(0, .ref 159), (1, .int a), (2, .int z46)]) ⟨rfl, rfl, rfl, trivial⟩ ?_
            exact ih29 σ41 z46 h42 h43 ((h45 _ _ (Or.inl (neTG tgz_159 tgz_160 (by decide)))).trans h21) ((h45 _ _ (Or.inl (neTG tgz_162 tgz_160 (by decide)))).trans h22) (by omega) (by omega) (by omega) (CPB_s h26 h20 (by decide +kernel) h39 h44 h45 (by omega) (by omega) (by omega))
      have := (by decide : (Int32.ofInt 0).toInt = 0)
      refine En_lv (lv := [(0, .ref 159), (1, .int a), (2, .int ((Int32.ofInt 0)))]) ⟨rfl, rfl, rfl, trivial⟩ ?_
      exact key29 (Int.toNat (226) + 1) σ0 ((Int32.ofInt 0)) hσ0 hF0 h9 h11 (by omega) (by omega) (by omega) (CPB_0 (by decide))
    · refine En_Ps 1 (pc' := 26) (lv' := [(0, .ref 159), (1, .int a)]) (st' := [.int (((Int8.ofInt (-6)).toInt32))]) rfl ?_
      refine En_top (by decide : ((Int8.ofInt (-6)).toInt32).toInt = -6) (fun z48 h49 => ?_)
      exact En_ret (v := some (.int z48)) rfl rfl rfl ⟨hσ0, hF0, z48, rfl, ⟨by omega, by omega, ⟨hI, BCK_6 (by omega) (by omega) (by omega) (by omega), BKM_no (by omega)⟩⟩⟩
  · refine En_Ps 1 (pc' := 14) (lv' := [(0, .ref 159), (1, .int a)]) (st' := [.int (((Int8.ofInt (-2)).toInt32))]) rfl ?_
    refine En_top (by decide : ((Int8.ofInt (-2)).toInt32).toInt = -2) (fun z50 h51 => ?_)
    exact En_ret (v := some (.int z50)) rfl rfl rfl ⟨hσ0, hF0, z50, rfl, ⟨by omega, by omega, ⟨hI, BCK_2 (by omega) (by omega), BKM_no (by omega)⟩⟩⟩

