/-- DoorSchoolModel.see(I)I -/
abbrev P_313a (σ0 : SG) (a : Int32) (n : Int32) (c : Int32) : PO := fun v σ => WT σ ∧ Fr [] σ0 σ ∧ ∃ ret : Int32, v = some (.int ret) ∧ -ret.toInt - 1 ≤ 0 ∧ ret.toInt - 255 ≤ 0 ∧ (-ret.toInt ≤ 0 → a.toInt - n.toInt + 1 ≤ 0) ∧ (a.toInt - n.toInt + 1 ≤ 0 → -ret.toInt ≤ 0) ∧ ret.toInt = seeF c.toInt n.toInt a.toInt
set_option maxRecDepth 10000 in
set_option maxHeartbeats 4000000 in
theorem c_313a (σ0 : SG) (hσ0 : WT σ0) (a : Int32) (hl_a : 0 ≤ a.toInt) (hu_a : a.toInt ≤ 1599) (n : Int32) (h_n : (σ0 159)[7]? = some (.int n)) (c : Int32) (h_c : (σ0 163)[(a.toInt).toNat]? = some (.int c)) : En 0 0 none mr_313 (P_313a σ0 a n c) 0 [(0, .ref 159), (1, .int a)] [] σ0 := by
  obtain ⟨hl_n, hu_n⟩ := WT_int hσ0 (g := 35) (by decide +kernel) (by decide +kernel) (l := 0) (u := 1600) (by decide +kernel) h_n
  have hF0 : Fr [] σ0 σ0 := Fr_rfl
  obtain ⟨hl_c, hu_c⟩ := WT_int hσ0 (g := 39) (by decide +kernel : TG 163 = 39) (by decide +kernel) (l := (-128)) (u := 127) (FTsgl (by decide +kernel)) h_c
  refine En_Ps 2 (pc' := 2) (lv' := [(0, .ref 159), (1, .int a)]) (st' := [.ref 159, .int a]) rfl ?_
  refine En_getK (j := 7) h_n rfl rfl rfl (by decide +kernel : TG 159 = 35) (by decide +kernel) ?_
  refine En_icGe _ rfl rfl rfl (fun h1 => ?_) (fun h1 => ?_)
  · refine En_Ps 1 (pc' := 22) (lv' := [(0, .ref 159), (1, .int a)]) (st' := [.int ((Int32.ofInt (-1)))]) rfl ?_
    refine En_top (by decide : (Int32.ofInt (-1)).toInt = -1) (fun z2 h3 => ?_)
    exact En_ret (v := some (.int z2)) rfl rfl rfl ⟨hσ0, hF0, z2, rfl, (by first | exact ⟨by omega, by omega, by omega, by omega, seeF_none (by omega) (by omega)⟩ | exact ⟨by omega, by omega, by omega, by omega, seeF_some (by omega) (by assumption)⟩)⟩
  · refine En_Ps 1 (pc' := 9) (lv' := [(0, .ref 159), (1, .int a)]) (st' := [.ref 159]) rfl ?_
    refine En_getU (j := 4) (u := 163) (g' := 39) (q := 0) rfl rfl rfl (by decide +kernel : TG 159 = 35) (by decide +kernel) hσ0 (by decide +kernel) (by decide +kernel) (fun h4 => ?_)
    refine En_Ps 1 (pc' := 13) (lv' := [(0, .ref 159), (1, .int a)]) (st' := [.int a, .ref 163]) rfl ?_
    refine En_baldK h_c rfl rfl (by decide +kernel : TG 163 = 39) (by decide +kernel) hσ0 (by omega) (lnI (by decide +kernel : LN _ = 1600) (by omega)) ?_
    refine En_Ps 2 (pc' := 18) (lv' := [(0, .ref 159), (1, .int a)]) (st' := [.int ((c &&& (((Int16.ofInt 255).toInt32))))]) rfl ?_
    refine En_nam (fun z7 h8 => ?_)
    have h9 := andR_rng (x := c) (by decide : ((Int16.ofInt 255).toInt32).toInt = 255) (by decide)
    rw [← h8] at h9
    refine En_Ps 1 (pc' := 22) (lv' := [(0, .ref 159), (1, .int a)]) (st' := [.int z7]) rfl ?_
    exact En_ret (v := some (.int z7)) rfl rfl rfl ⟨hσ0, hF0, z7, rfl, (by first | exact ⟨by omega, by omega, by omega, by omega, seeF_none (by omega) (by omega)⟩ | exact ⟨by omega, by omega, by omega, by omega, seeF_some (by omega) (by assumption)⟩)⟩
/-- DoorSchoolModel.see(I)I -/
abbrev P_313b (σ0 : SG) (a : Int32) (n : Int32) : PO := fun v σ => WT σ ∧ Fr [] σ0 σ ∧ ∃ ret : Int32, v = some (.int ret) ∧ -ret.toInt - 1 ≤ 0 ∧ ret.toInt - 255 ≤ 0 ∧ (-ret.toInt ≤ 0 → a.toInt - n.toInt + 1 ≤ 0) ∧ (a.toInt - n.toInt + 1 ≤ 0 → -ret.toInt ≤ 0)
set_option maxRecDepth 10000 in
set_option maxHeartbeats 4000000 in
theorem c_313b (σ0 : SG) (hσ0 : WT σ0) (a : Int32) (hl_a : 0 ≤ a.toInt) (hu_a : a.toInt ≤ 1600) (n : Int32) (h_n : (σ0 159)[7]? = some (.int n)) : En 0 0 none mr_313 (P_313b σ0 a n) 0 [(0, .ref 159), (1, .int a)] [] σ0 := by
  obtain ⟨hl_n, hu_n⟩ := WT_int hσ0 (g := 35) (by decide +kernel) (by decide +kernel) (l := 0) (u := 1600) (by decide +kernel) h_n
  have hF0 : Fr [] σ0 σ0 := Fr_rfl
  refine En_Ps 2 (pc' := 2) (lv' := [(0, .ref 159), (1, .int a)]) (st' := [.ref 159, .int a]) rfl ?_
  refine En_getK (j := 7) h_n rfl rfl rfl (by decide +kernel : TG 159 = 35) (by decide +kernel) ?_
  refine En_icGe _ rfl rfl rfl (fun h1 => ?_) (fun h1 => ?_)
  · refine En_Ps 1 (pc' := 22) (lv' := [(0, .ref 159), (1, .int a)]) (st' := [.int ((Int32.ofInt (-1)))]) rfl ?_
    refine En_top (by decide : (Int32.ofInt (-1)).toInt = -1) (fun z2 h3 => ?_)
    exact En_ret (v := some (.int z2)) rfl rfl rfl ⟨hσ0, hF0, z2, rfl, (by omega)⟩
  · refine En_Ps 1 (pc' := 9) (lv' := [(0, .ref 159), (1, .int a)]) (st' := [.ref 159]) rfl ?_
    refine En_getU (j := 4) (u := 163) (g' := 39) (q := 0) rfl rfl rfl (by decide +kernel : TG 159 = 35) (by decide +kernel) hσ0 (by decide +kernel) (by decide +kernel) (fun h4 => ?_)
    refine En_Ps 1 (pc' := 13) (lv' := [(0, .ref 159), (1, .int a)]) (st' := [.int a, .ref 163]) rfl ?_
    refine En_bald (l := (-128)) (u := 127) rfl rfl (by decide +kernel : TG 163 = 39) (by decide +kernel) hσ0 (by omega) (lnI (by decide +kernel : LN _ = 1600) (by omega)) (FTsgl (by decide +kernel)) (fun z7 h6 h8 h9 => ?_)
    refine En_Ps 2 (pc' := 18) (lv' := [(0, .ref 159), (1, .int a)]) (st' := [.int ((z7 &&& (((Int16.ofInt 255).toInt32))))]) rfl ?_
    refine En_nam (fun z10 h11 => ?_)
    have h12 := andR_rng (x := z7) (by decide : ((Int16.ofInt 255).toInt32).toInt = 255) (by decide)
    rw [← h11] at h12
    refine En_Ps 1 (pc' := 22) (lv' := [(0, .ref 159), (1, .int a)]) (st' := [.int z10]) rfl ?_
    exact En_ret (v := some (.int z10)) rfl rfl rfl ⟨hσ0, hF0, z10, rfl, (by omega)⟩
/-- DoorSchoolModel.advance()V -/
abbrev P_189 (σ0 : SG) (f : Int32) : PO := fun v σ => WT σ ∧ Fr [(35, 8), (35, 9), (35, 10), (35, 11)] σ0 σ ∧ ∃ f1 : Int32, (σ 159)[8]? = some (.int f1) ∧ ∃ t1 : Int32, (σ 159)[10]? = some (.int t1) ∧ v = none ∧ -f1.toInt ≤ 0 ∧ f1.toInt - 1600 ≤ 0 ∧ -f1.toInt + f.toInt - 1600 ≤ 0 ∧ f1.toInt - f.toInt - 1600 ≤ 0 ∧ -t1.toInt ≤ 0 ∧ t1.toInt - 4 ≤ 0 ∧ -t1.toInt + f.toInt - 1600 ≤ 0 ∧ t1.toInt - f.toInt - 4 ≤ 0 ∧ f.toInt - f1.toInt ≤ 0 ∧ (-t1.toInt + 1 ≤ 0 → f.toInt - f1.toInt + 1 ≤ 0)
set_option maxRecDepth 10000 in
set_option maxHeartbeats 4000000 in
theorem c_189 (σ0 : SG) (hσ0 : WT σ0) (f : Int32) (h_f : (σ0 159)[8]? = some (.int f)) : En 1 25 none mr_189 (P_189 σ0 f) 0 [(0, .ref 159)] [] σ0 := by
  obtain ⟨hl_f, hu_f⟩ := WT_int hσ0 (g := 35) (by decide +kernel) (by decide +kernel) (l := 0) (u := 1600) (by decide +kernel) h_f
  have hF0 : Fr [(35, 8), (35, 9), (35, 10), (35, 11)] σ0 σ0 := Fr_rfl
  have key0 : ∀ (n0 : Nat) (σ2 : SG) (y1 : Int32), WT σ2 → Fr [(35, 8), (35, 9), (35, 10), (35, 11)] σ0 σ2 → (σ2 159)[8]? = some (.int y1) → 0 ≤ y1.toInt → y1.toInt ≤ 1600 → -y1.toInt + 1600 < (n0 : Int) → En 1 25 none mr_189 (P_189 σ0 f) 0 [(0, .ref 159)] [] σ2 := by
    intro n0
    induction n0 with
    | zero =>
      intro σ2 y1 h3 h4 h5 h6 h7 h8
      exfalso; omega
    | succ n0 ih0 =>
      intro σ2 y1 h3 h4 h5 h6 h7 h8
      refine En_Ps 2 (pc' := 2) (lv' := [(0, .ref 159)]) (st' := [.ref 159, .ref 159]) rfl ?_
      refine En_getK (j := 8) h5 rfl rfl rfl (by decide +kernel : TG 159 = 35) (by decide +kernel) ?_
      obtain ⟨z10, h9, h11, h12⟩ := WT_peekI h3 (by decide +kernel : TG 159 = 35) (by decide +kernel : FT 35 7 = (0, 0, 1600)) (by decide +kernel)
      refine En_callV rfl rfl rfl rfl rfl rfl rfl rfl (by decide +kernel : TG 159 = 35) (by decide +kernel) rfl (c_313b σ2 h3 y1 (geI rfl (by omega)) (leI rfl (by omega)) z10 h9) (by decide) (by decide) (fun v14 σ15 h13 => ?_)
      obtain ⟨h16, h17, z19, rfl, h18⟩ := h13
      have h20 := Fr_trans h4 h17 (by decide +kernel)
      refine En_Ps 1 (pc' := 10) (lv' := [(0, .ref 159)]) (st' := [.int (((Int8.ofInt 32).toInt32)), .int z19]) rfl ?_
      refine En_icEq _ rfl (by decide : ((Int8.ofInt 32).toInt32).toInt = 32) rfl (fun h21 => ?_) (fun h21 => ?_)
      · refine En_Ps 2 (pc' := 28) (lv' := [(0, .ref 159)]) (st' := [.ref 159, .ref 159]) rfl ?_
        refine En_getK (j := 8) ((h17 _ _ (inW (by decide +kernel : TG 159 = 35) (by decide +kernel))).trans h5) rfl rfl rfl (by decide +kernel : TG 159 = 35) (by decide +kernel) ?_
        refine En_Ps 2 (pc' := 33) (lv' := [(0, .ref 159)]) (st' := [.int ((y1 + ((Int32.ofInt 1)))), .ref 159]) rfl ?_
        refine En_top (addI rfl (by decide : (Int32.ofInt 1).toInt = 1) (by omega) (by omega)) (fun z22 h23 => ?_)
        refine En_put (j := 8) rfl rfl rfl (by decide +kernel : TG 159 = 35) (by decide +kernel) rfl (vI (l := 0) (u := 1600) (by decide +kernel) rfl (by omega) (by omega)) h16 h20 (by decide +kernel) (fun σ24 h25 h26 h27 h28 => ?_)
        refine En_Ps 1 (pc' := 0) (lv' := [(0, .ref 159)]) (st' := []) rfl ?_
        exact ih0 σ24 z22 h25 h26 h27 (by omega) (by omega) (by omega)
      · refine En_Ps 2 (pc' := 15) (lv' := [(0, .ref 159)]) (st' := [.ref 159, .ref 159]) rfl ?_
        refine En_getK (j := 8) ((h17 _ _ (inW (by decide +kernel : TG 159 = 35) (by decide +kernel))).trans h5) rfl rfl rfl (by decide +kernel : TG 159 = 35) (by decide +kernel) ?_
        refine En_callV rfl rfl rfl rfl rfl rfl rfl rfl (by decide +kernel : TG 159 = 35) (by decide +kernel) rfl (c_313b σ15 h16 y1 (geI rfl (by omega)) (leI rfl (by omega)) z10 ((h17 _ _ (inW (by decide +kernel : TG 159 = 35) (by decide +kernel))).trans h9)) (by decide) (by decide) (fun v30 σ31 h29 => ?_)
        obtain ⟨h32, h33, z35, rfl, h34⟩ := h29
        have h36 := Fr_trans h20 h33 (by decide +kernel)
        refine En_Ps 1 (pc' := 23) (lv' := [(0, .ref 159)]) (st' := [.int (((Int8.ofInt 10).toInt32)), .int z35]) rfl ?_
        refine En_icNe _ rfl (by decide : ((Int8.ofInt 10).toInt32).toInt = 10) rfl (fun h37 => ?_) (fun h37 => ?_)
        · refine En_Ps 2 (pc' := 41) (lv' := [(0, .ref 159)]) (st' := [.ref 159, .ref 159]) rfl ?_
          refine En_getK (j := 8) ((h33 _ _ (inW (by decide +kernel : TG 159 = 35) (by decide +kernel))).trans ((h17 _ _ (inW (by decide +kernel : TG 159 = 35) (by decide +kernel))).trans h5)) rfl rfl rfl (by decide +kernel : TG 159 = 35) (by decide +kernel) ?_
          refine En_put (j := 9) rfl rfl rfl (by decide +kernel : TG 159 = 35) (by decide +kernel) rfl (vI (l := 0) (u := 1600) (by decide +kernel) rfl (by omega) (by omega)) h32 h36 (by decide +kernel) (fun σ38 h39 h40 h41 h42 => ?_)
          rcases (show y1.toInt ≤ 1599 ∨ y1.toInt = 1600 by omega) with h43 | h43
          · refine En_Ps 2 (pc' := 49) (lv' := [(0, .ref 159)]) (st' := [.ref 159, .ref 159]) rfl ?_
            refine En_getK (j := 8) ((h42 _ _ (Or.inr (by decide))).trans ((h33 _ _ (inW (by decide +kernel : TG 159 = 35) (by decide +kernel))).trans ((h17 _ _ (inW (by decide +kernel : TG 159 = 35) (by decide +kernel))).trans h5))) rfl rfl rfl (by decide +kernel : TG 159 = 35) (by decide +kernel) ?_
            obtain ⟨z44, h45, h46, h47⟩ := WT_peekJ (J := (y1.toInt)) (l := (-128)) (u := 127) h39 (by decide +kernel : TG 163 = 39) (by decide +kernel) (by omega) (lnI (by decide +kernel : LN _ = 1600) (by omega)) (FTsgl (by decide +kernel))
            refine En_callV rfl rfl rfl rfl rfl rfl rfl rfl (by decide +kernel : TG 159 = 35) (by decide +kernel) rfl (c_313a σ38 h39 y1 (geI rfl (by omega)) (leI rfl (by omega)) z10 ((h42 _ _ (Or.inr (by decide))).trans ((h33 _ _ (inW (by decide +kernel : TG 159 = 35) (by decide +kernel))).trans ((h17 _ _ (inW (by decide +kernel : TG 159 = 35) (by decide +kernel))).trans h9))) z44 h45) (by decide) (by decide) (fun v49 σ50 h48 => ?_)
            obtain ⟨h51, h52, z54, rfl, h53⟩ := h48
            have h55 := Fr_trans h40 h52 (by decide +kernel)
            refine En_Ps 3 (pc' := 58) (lv' := [(1, .int z54), (0, .ref 159)]) (st' := [.int ((Int32.ofInt (-1))), .int z54]) rfl ?_
            refine En_icNe _ rfl (by decide : (Int32.ofInt (-1)).toInt = -1) rfl (fun h56 => ?_) (fun h56 => ?_)
            · refine En_Ps 4 (pc' := 77) (lv' := [(1, .int z54), (0, .ref 159)]) (st' := [.long ((122 : Int64)), .long ((97 : Int64)), .long z54.toInt64]) rfl ?_
              have : z54.toInt64.toInt = z54.toInt := (i2lI rfl)
              have := (by decide : ((97 : Int64)).toInt = 97)
              have := (by decide : ((122 : Int64)).toInt = 122)
              refine En_callS rfl rfl rfl rfl rfl rfl rfl rfl rfl (c_249 σ50 h51 z54.toInt64 ((97 : Int64)) ((122 : Int64))) (by decide) (by decide) (fun v58 σ59 h57 => ?_)
              obtain ⟨h60, h61, z63, rfl, h62⟩ := h57
              have h64 := Fr_trans h55 h61 (by decide +kernel)
              refine En_iEq _ rfl rfl (fun h65 => ?_) (fun h65 => ?_)
              · refine En_Ps 4 (pc' := 133) (lv' := [(1, .int z54), (0, .ref 159)]) (st' := [.long ((57 : Int64)), .long ((48 : Int64)), .long z54.toInt64]) rfl ?_
                have : z54.toInt64.toInt = z54.toInt := (i2lI rfl)
                have := (by decide : ((48 : Int64)).toInt = 48)
                have := (by decide : ((57 : Int64)).toInt = 57)
                refine En_callS rfl rfl rfl rfl rfl rfl rfl rfl rfl (c_249 σ59 h60 z54.toInt64 ((48 : Int64)) ((57 : Int64))) (by decide) (by decide) (fun v67 σ68 h66 => ?_)
                obtain ⟨h69, h70, z72, rfl, h71⟩ := h66
                have h73 := Fr_trans h64 h70 (by decide +kernel)
                refine En_iEq _ rfl rfl (fun h74 => ?_) (fun h74 => ?_)
                · refine En_Ps 3 (pc' := 218) (lv' := [(1, .int z54), (0, .ref 159)]) (st' := [.int (((Int8.ofInt 59).toInt32)), .int z54, .ref 159]) rfl ?_
                  refine En_icNe _ rfl (by decide : ((Int8.ofInt 59).toInt32).toInt = 59) rfl (fun h75 => ?_) (fun h75 => ?_)
                  · refine En_Ps 1 (pc' := 226) (lv' := [(1, .int z54), (0, .ref 159)]) (st' := [.int ((Int32.ofInt 4)), .ref 159]) rfl ?_
                    refine En_put (j := 10) rfl rfl rfl (by decide +kernel : TG 159 = 35) (by decide +kernel) rfl (vI (l := 0) (u := 4) (by decide +kernel) (by decide : (Int32.ofInt 4).toInt = 4) (by omega) (by omega)) h69 h73 (by decide +kernel) (fun σ76 h77 h78 h79 h80 => ?_)
                    refine En_Ps 2 (pc' := 231) (lv' := [(1, .int z54), (0, .ref 159)]) (st' := [.ref 159, .ref 159]) rfl ?_
                    refine En_getK (j := 8) ((h80 _ _ (Or.inr (by decide))).trans ((h70 _ _ (inW (by decide +kernel : TG 159 = 35) (by decide +kernel))).trans ((h61 _ _ (inW (by decide +kernel : TG 159 = 35) (by decide +kernel))).trans ((h52 _ _ (inW (by decide +kernel : TG 159 = 35) (by decide +kernel))).trans ((h42 _ _ (Or.inr (by decide))).trans ((h33 _ _ (inW (by decide +kernel : TG 159 = 35) (by decide +kernel))).trans ((h17 _ _ (inW (by decide +kernel : TG 159 = 35) (by decide +kernel))).trans h5))))))) rfl rfl rfl (by decide +kernel : TG 159 = 35) (by decide +kernel) ?_
                    refine En_Ps 2 (pc' := 236) (lv' := [(1, .int z54), (0, .ref 159)]) (st' := [.int ((y1 + ((Int32.ofInt 1)))), .ref 159]) rfl ?_
                    refine En_top (addI rfl (by decide : (Int32.ofInt 1).toInt = 1) (by omega) (by omega)) (fun z81 h82 => ?_)
                    refine En_put (j := 8) rfl rfl rfl (by decide +kernel : TG 159 = 35) (by decide +kernel) rfl (vI (l := 0) (u := 1600) (by decide +kernel) rfl (by omega) (by omega)) h77 h78 (by decide +kernel) (fun σ83 h84 h85 h86 h87 => ?_)
                    have := (by decide : (Int32.ofInt 4).toInt = 4)
                    exact En_ret (v := none) rfl rfl rfl ⟨h84, h85, z81, h86, (Int32.ofInt 4), ((h87 _ _ (Or.inr (by decide))).trans h79), rfl, (by omega)⟩
                  · refine En_Ps 2 (pc' := 226) (lv' := [(1, .int z54), (0, .ref 159)]) (st' := [.int ((Int32.ofInt 3)), .ref 159]) rfl ?_
                    refine En_put (j := 10) rfl rfl rfl (by decide +kernel : TG 159 = 35) (by decide +kernel) rfl (vI (l := 0) (u := 4) (by decide +kernel) (by decide : (Int32.ofInt 3).toInt = 3) (by omega) (by omega)) h69 h73 (by decide +kernel) (fun σ88 h89 h90 h91 h92 => ?_)
                    refine En_Ps 2 (pc' := 231) (lv' := [(1, .int z54), (0, .ref 159)]) (st' := [.ref 159, .ref 159]) rfl ?_
                    refine En_getK (j := 8) ((h92 _ _ (Or.inr (by decide))).trans ((h70 _ _ (inW (by decide +kernel : TG 159 = 35) (by decide +kernel))).trans ((h61 _ _ (inW (by decide +kernel : TG 159 = 35) (by decide +kernel))).trans ((h52 _ _ (inW (by decide +kernel : TG 159 = 35) (by decide +kernel))).trans ((h42 _ _ (Or.inr (by decide))).trans ((h33 _ _ (inW (by decide +kernel : TG 159 = 35) (by decide +kernel))).trans ((h17 _ _ (inW (by decide +kernel : TG 159 = 35) (by decide +kernel))).trans h5))))))) rfl rfl rfl (by decide +kernel : TG 159 = 35) (by decide +kernel) ?_
                    refine En_Ps 2 (pc' := 236) (lv' := [(1, .int z54), (0, .ref 159)]) (st' := [.int ((y1 + ((Int32.ofInt 1)))), .ref 159]) rfl ?_
                    refine En_top (addI rfl (by decide : (Int32.ofInt 1).toInt = 1) (by omega) (by omega)) (fun z93 h94 => ?_)
                    refine En_put (j := 8) rfl rfl rfl (by decide +kernel : TG 159 = 35) (by decide +kernel) rfl (vI (l := 0) (u := 1600) (by decide +kernel) rfl (by omega) (by omega)) h89 h90 (by decide +kernel) (fun σ95 h96 h97 h98 h99 => ?_)
                    have := (by decide : (Int32.ofInt 3).toInt = 3)
                    exact En_ret (v := none) rfl rfl rfl ⟨h96, h97, z93, h98, (Int32.ofInt 3), ((h99 _ _ (Or.inr (by decide))).trans h91), rfl, (by omega)⟩
                · refine En_Ps 2 (pc' := 141) (lv' := [(1, .int z54), (0, .ref 159)]) (st' := [.int ((Int32.ofInt 0)), .ref 159]) rfl ?_
                  refine En_put (j := 11) rfl rfl rfl (by decide +kernel : TG 159 = 35) (by decide +kernel) rfl (vI (l := 0) (u := 99999) (by decide +kernel) (by decide : (Int32.ofInt 0).toInt = 0) (by omega) (by omega)) h69 h73 (by decide +kernel) (fun σ100 h101 h102 h103 h104 => ?_)
                  refine En_Ps 2 (pc' := 146) (lv' := [(1, .int z54), (0, .ref 159)]) (st' := [.ref 159, .ref 159]) rfl ?_
                  refine En_getK (j := 8) ((h104 _ _ (Or.inr (by decide))).trans ((h70 _ _ (inW (by decide +kernel : TG 159 = 35) (by decide +kernel))).trans ((h61 _ _ (inW (by decide +kernel : TG 159 = 35) (by decide +kernel))).trans ((h52 _ _ (inW (by decide +kernel : TG 159 = 35) (by decide +kernel))).trans ((h42 _ _ (Or.inr (by decide))).trans ((h33 _ _ (inW (by decide +kernel : TG 159 = 35) (by decide +kernel))).trans ((h17 _ _ (inW (by decide +kernel : TG 159 = 35) (by decide +kernel))).trans h5))))))) rfl rfl rfl (by decide +kernel : TG 159 = 35) (by decide +kernel) ?_
                  refine En_callV rfl rfl rfl rfl rfl rfl rfl rfl (by decide +kernel : TG 159 = 35) (by decide +kernel) rfl (c_313a σ100 h101 y1 (geI rfl (by omega)) (leI rfl (by omega)) z10 ((h104 _ _ (Or.inr (by decide))).trans ((h70 _ _ (inW (by decide +kernel : TG 159 = 35) (by decide +kernel))).trans ((h61 _ _ (inW (by decide +kernel : TG 159 = 35) (by decide +kernel))).trans ((h52 _ _ (inW (by decide +kernel : TG 159 = 35) (by decide +kernel))).trans ((h42 _ _ (Or.inr (by decide))).trans ((h33 _ _ (inW (by decide +kernel : TG 159 = 35) (by decide +kernel))).trans ((h17 _ _ (inW (by decide +kernel : TG 159 = 35) (by decide +kernel))).trans h9))))))) z44 ((h104 _ _ (Or.inl (neTG (by decide +kernel : TG 163 = 39) (by decide +kernel : TG 159 = 35) (by decide)))).trans ((h70 _ _ (inWa (by decide +kernel : TG 163 = 39) (by decide +kernel))).trans ((h61 _ _ (inWa (by decide +kernel : TG 163 = 39) (by decide +kernel))).trans ((h52 _ _ (inWa (by decide +kernel : TG 163 = 39) (by decide +kernel))).trans h45))))) (by decide) (by decide) (fun v106 σ107 h105 => ?_)
                  obtain ⟨h108, h109, z111, rfl, h110⟩ := h105
                  have h112 := Fr_trans h102 h109 (by decide +kernel)
                  refine En_Ps 3 (pc' := 159) (lv' := [(1, .int z54), (0, .ref 159)]) (st' := [.long ((57 : Int64)), .long ((48 : Int64)), .long z111.toInt64]) rfl ?_
                  have : z111.toInt64.toInt = z111.toInt := (i2lI rfl)
                  have := (by decide : ((48 : Int64)).toInt = 48)
                  have := (by decide : ((57 : Int64)).toInt = 57)
                  refine En_callS rfl rfl rfl rfl rfl rfl rfl rfl rfl (c_249 σ107 h108 z111.toInt64 ((48 : Int64)) ((57 : Int64))) (by decide) (by decide) (fun v114 σ115 h113 => ?_)
                  obtain ⟨h116, h117, z119, rfl, h118⟩ := h113
                  have h120 := Fr_trans h112 h117 (by decide +kernel)
                  refine En_iEq _ rfl rfl (fun hx => by exfalso; omega) (fun h121 => ?_)
                  refine En_Ps 4 (pc' := 171) (lv' := [(1, .int z54), (0, .ref 159)]) (st' := [.ref 159, .int (((Int8.ofInt 10).toInt32)), .int ((99999 : Int32)), .ref 159]) rfl ?_
                  refine En_getK (j := 11) ((h117 _ _ (inW (by decide +kernel : TG 159 = 35) (by decide +kernel))).trans ((h109 _ _ (inW (by decide +kernel : TG 159 = 35) (by decide +kernel))).trans h103)) rfl rfl rfl (by decide +kernel : TG 159 = 35) (by decide +kernel) ?_
                  refine En_Ps 1 (pc' := 175) (lv' := [(1, .int z54), (0, .ref 159)]) (st' := [.int (((((Int8.ofInt 10).toInt32)) * ((Int32.ofInt 0)))), .int ((99999 : Int32)), .ref 159]) rfl ?_
                  refine En_top (mulI (by decide : ((Int8.ofInt 10).toInt32).toInt = 10) (by decide : (Int32.ofInt 0).toInt = 0) (Z := 0) (by omega) (by omega) (by omega)) (fun z122 h123 => ?_)
                  refine En_Ps 2 (pc' := 177) (lv' := [(1, .int z54), (0, .ref 159)]) (st' := [.ref 159, .ref 159, .int z122, .int ((99999 : Int32)), .ref 159]) rfl ?_
                  refine En_getK (j := 8) ((h117 _ _ (inW (by decide +kernel : TG 159 = 35) (by decide +kernel))).trans ((h109 _ _ (inW (by decide +kernel : TG 159 = 35) (by decide +kernel))).trans ((h104 _ _ (Or.inr (by decide))).trans ((h70 _ _ (inW (by decide +kernel : TG 159 = 35) (by decide +kernel))).trans ((h61 _ _ (inW (by decide +kernel : TG 159 = 35) (by decide +kernel))).trans ((h52 _ _ (inW (by decide +kernel : TG 159 = 35) (by decide +kernel))).trans ((h42 _ _ (Or.inr (by decide))).trans ((h33 _ _ (inW (by decide +kernel : TG 159 = 35) (by decide +kernel))).trans ((h17 _ _ (inW (by decide +kernel : TG 159 = 35) (by decide +kernel))).trans h5))))))))) rfl rfl rfl (by decide +kernel : TG 159 = 35) (by decide +kernel) ?_
                  refine En_callV rfl rfl rfl rfl rfl rfl rfl rfl (by decide +kernel : TG 159 = 35) (by decide +kernel) rfl (c_313a σ115 h116 y1 (geI rfl (by omega)) (leI rfl (by omega)) z10 ((h117 _ _ (inW (by decide +kernel : TG 159 = 35) (by decide +kernel))).trans ((h109 _ _ (inW (by decide +kernel : TG 159 = 35) (by decide +kernel))).trans ((h104 _ _ (Or.inr (by decide))).trans ((h70 _ _ (inW (by decide +kernel : TG 159 = 35) (by decide +kernel))).trans ((h61 _ _ (inW (by decide +kernel : TG 159 = 35) (by decide +kernel))).trans ((h52 _ _ (inW (by decide +kernel : TG 159 = 35) (by decide +kernel))).trans ((h42 _ _ (Or.inr (by decide))).trans ((h33 _ _ (inW (by decide +kernel : TG 159 = 35) (by decide +kernel))).trans ((h17 _ _ (inW (by decide +kernel : TG 159 = 35) (by decide +kernel))).trans h9))))))))) z44 ((h117 _ _ (inWa (by decide +kernel : TG 163 = 39) (by decide +kernel))).trans ((h109 _ _ (inWa (by decide +kernel : TG 163 = 39) (by decide +kernel))).trans ((h104 _ _ (Or.inl (neTG (by decide +kernel : TG 163 = 39) (by decide +kernel : TG 159 = 35) (by decide)))).trans ((h70 _ _ (inWa (by decide +kernel : TG 163 = 39) (by decide +kernel))).trans ((h61 _ _ (inWa (by decide +kernel : TG 163 = 39) (by decide +kernel))).trans ((h52 _ _ (inWa (by decide +kernel : TG 163 = 39) (by decide +kernel))).trans h45))))))) (by decide) (by decide) (fun v125 σ126 h124 => ?_)
                  obtain ⟨h127, h128, z130, rfl, h129⟩ := h124
                  have h131 := Fr_trans h120 h128 (by decide +kernel)
                  refine En_Ps 1 (pc' := 184) (lv' := [(1, .int z54), (0, .ref 159)]) (st' := [.int ((z122 + z130)), .int ((99999 : Int32)), .ref 159]) rfl ?_
                  refine En_top (addI rfl rfl (by omega) (by omega)) (fun z132 h133 => ?_)
                  refine En_Ps 2 (pc' := 187) (lv' := [(1, .int z54), (0, .ref 159)]) (st' := [.int ((z132 - (((Int8.ofInt 48).toInt32)))), .int ((99999 : Int32)), .ref 159]) rfl ?_
                  refine En_top (subI rfl (by decide : ((Int8.ofInt 48).toInt32).toInt = 48) (by omega) (by omega)) (fun z134 h135 => ?_)
                  have := (by decide : ((99999 : Int32)).toInt = 99999)
                  refine En_callS rfl rfl rfl rfl rfl rfl rfl rfl rfl (c_11 σ126 h127 ((99999 : Int32)) z134) (by decide) (by decide) (fun v137 σ138 h136 => ?_)
                  obtain ⟨h139, h140, z142, rfl, h141⟩ := h136
                  have h143 := Fr_trans h131 h140 (by decide +kernel)
                  refine En_put (j := 11) rfl rfl rfl (by decide +kernel : TG 159 = 35) (by decide +kernel) rfl (vI (l := 0) (u := 99999) (by decide +kernel) rfl (by omega) (by omega)) h139 h143 (by decide +kernel) (fun σ144 h145 h146 h147 h148 => ?_)
                  refine En_Ps 2 (pc' := 195) (lv' := [(1, .int z54), (0, .ref 159)]) (st' := [.ref 159, .ref 159]) rfl ?_
                  refine En_getK (j := 8) ((h148 _ _ (Or.inr (by decide))).trans ((h140 _ _ (inW (by decide +kernel : TG 159 = 35) (by decide +kernel))).trans ((h128 _ _ (inW (by decide +kernel : TG 159 = 35) (by decide +kernel))).trans ((h117 _ _ (inW (by decide +kernel : TG 159 = 35) (by decide +kernel))).trans ((h109 _ _ (inW (by decide +kernel : TG 159 = 35) (by decide +kernel))).trans ((h104 _ _ (Or.inr (by decide))).trans ((h70 _ _ (inW (by decide +kernel : TG 159 = 35) (by decide +kernel))).trans ((h61 _ _ (inW (by decide +kernel : TG 159 = 35) (by decide +kernel))).trans ((h52 _ _ (inW (by decide +kernel : TG 159 = 35) (by decide +kernel))).trans ((h42 _ _ (Or.inr (by decide))).trans ((h33 _ _ (inW (by decide +kernel : TG 159 = 35) (by decide +kernel))).trans ((h17 _ _ (inW (by decide +kernel : TG 159 = 35) (by decide +kernel))).trans h5)))))))))))) rfl rfl rfl (by decide +kernel : TG 159 = 35) (by decide +kernel) ?_
                  refine En_Ps 2 (pc' := 200) (lv' := [(1, .int z54), (0, .ref 159)]) (st' := [.int ((y1 + ((Int32.ofInt 1)))), .ref 159]) rfl ?_
                  refine En_top (addI rfl (by decide : (Int32.ofInt 1).toInt = 1) (by omega) (by omega)) (fun z149 h150 => ?_)
                  refine En_put (j := 8) rfl rfl rfl (by decide +kernel : TG 159 = 35) (by decide +kernel) rfl (vI (l := 0) (u := 1600) (by decide +kernel) rfl (by omega) (by omega)) h145 h146 (by decide +kernel) (fun σ151 h152 h153 h154 h155 => ?_)
                  refine En_Ps 1 (pc' := 144) (lv' := [(1, .int z54), (0, .ref 159)]) (st' := []) rfl ?_
                  have key144 : ∀ (n144 : Nat) (σ158 : SG) (y156 : Int32) (y157 : Int32), WT σ158 → Fr [(35, 8), (35, 9), (35, 10), (35, 11)] σ0 σ158 → (σ158 159)[7]? = some (.int z10) → (σ158 159)[9]? = some (.int y1) → (σ158 163)[(y1.toInt).toNat]? = some (.int z44) → (σ158 159)[11]? = some (.int y156) → (σ158 159)[8]? = some (.int y157) → 0 ≤ y156.toInt → y156.toInt ≤ 99999 → 1 ≤ y157.toInt → y157.toInt ≤ 1600 → y157.toInt - z10.toInt ≤ 0 → y1.toInt - y157.toInt + 1 ≤ 0 → z10.toInt - y157.toInt < (n144 : Int) → En 1 25 none mr_189 (P_189 σ0 f) 144 [(0, .ref 159), (1, .int z54)] [] σ158 := by
                    intro n144
                    induction n144 with
                    | zero =>
                      intro σ158 y156 y157 h159 h160 h161 h162 h163 h164 h165 h166 h167 h168 h169 h170 h171 h172
                      exfalso; omega
                    | succ n144 ih144 =>
                      intro σ158 y156 y157 h159 h160 h161 h162 h163 h164 h165 h166 h167 h168 h169 h170 h171 h172
                      rcases (show y157.toInt ≤ 1599 ∨ y157.toInt = 1600 by omega) with h173 | h173
                      · refine En_Ps 2 (pc' := 146) (lv' := [(0, .ref 159), (1, .int z54)]) (st' := [.ref 159, .ref 159]) rfl ?_
                        refine En_getK (j := 8) h165 rfl rfl rfl (by decide +kernel : TG 159 = 35) (by decide +kernel) ?_
                        obtain ⟨z174, h175, h176, h177⟩ := WT_peekJ (J := (y157.toInt)) (l := (-128)) (u := 127) h159 (by decide +kernel : TG 163 = 39) (by decide +kernel) (by omega) (lnI (by decide +kernel : LN _ = 1600) (by omega)) (FTsgl (by decide +kernel))
                        refine En_callV rfl rfl rfl rfl rfl rfl rfl rfl (by decide +kernel : TG 159 = 35) (by decide +kernel) rfl (c_313a σ158 h159 y157 (geI rfl (by omega)) (leI rfl (by omega)) z10 h161 z174 h175) (by decide) (by decide) (fun v179 σ180 h178 => ?_)
                        obtain ⟨h181, h182, z184, rfl, h183⟩ := h178
                        have h185 := Fr_trans h160 h182 (by decide +kernel)
                        refine En_Ps 3 (pc' := 159) (lv' := [(0, .ref 159), (1, .int z54)]) (st' := [.long ((57 : Int64)), .long ((48 : Int64)), .long z184.toInt64]) rfl ?_
                        have : z184.toInt64.toInt = z184.toInt := (i2lI rfl)
                        have := (by decide : ((48 : Int64)).toInt = 48)
                        have := (by decide : ((57 : Int64)).toInt = 57)
                        refine En_callS rfl rfl rfl rfl rfl rfl rfl rfl rfl (c_249 σ180 h181 z184.toInt64 ((48 : Int64)) ((57 : Int64))) (by decide) (by decide) (fun v187 σ188 h186 => ?_)
                        obtain ⟨h189, h190, z192, rfl, h191⟩ := h186
                        have h193 := Fr_trans h185 h190 (by decide +kernel)
                        refine En_iEq _ rfl rfl (fun h194 => ?_) (fun h194 => ?_)
                        · refine En_Ps 2 (pc' := 208) (lv' := [(0, .ref 159), (1, .int z54)]) (st' := [.int ((Int32.ofInt 2)), .ref 159]) rfl ?_
                          refine En_put (j := 10) rfl rfl rfl (by decide +kernel : TG 159 = 35) (by decide +kernel) rfl (vI (l := 0) (u := 4) (by decide +kernel) (by decide : (Int32.ofInt 2).toInt = 2) (by omega) (by omega)) h189 h193 (by decide +kernel) (fun σ195 h196 h197 h198 h199 => ?_)
                          refine En_Ps 1 (pc' := 239) (lv' := [(0, .ref 159), (1, .int z54)]) (st' := []) rfl ?_
                          have := (by decide : (Int32.ofInt 2).toInt = 2)
                          exact En_ret (v := none) rfl rfl rfl ⟨h196, h197, y157, ((h199 _ _ (Or.inr (by decide))).trans ((h190 _ _ (inW (by decide +kernel : TG 159 = 35) (by decide +kernel))).trans ((h182 _ _ (inW (by decide +kernel : TG 159 = 35) (by decide +kernel))).trans h165))), (Int32.ofInt 2), h198, rfl, (by omega)⟩
                        · refine En_Ps 4 (pc' := 171) (lv' := [(0, .ref 159), (1, .int z54)]) (st' := [.ref 159, .int (((Int8.ofInt 10).toInt32)), .int ((99999 : Int32)), .ref 159]) rfl ?_
                          refine En_getK (j := 11) ((h190 _ _ (inW (by decide +kernel : TG 159 = 35) (by decide +kernel))).trans ((h182 _ _ (inW (by decide +kernel : TG 159 = 35) (by decide +kernel))).trans h164)) rfl rfl rfl (by decide +kernel : TG 159 = 35) (by decide +kernel) ?_
                          refine En_Ps 1 (pc' := 175) (lv' := [(0, .ref 159), (1, .int z54)]) (st' := [.int (((((Int8.ofInt 10).toInt32)) * y156)), .int ((99999 : Int32)), .ref 159]) rfl ?_
                          refine En_top (mulI (by decide : ((Int8.ofInt 10).toInt32).toInt = 10) rfl (Z := 10 * y156.toInt) (by omega) (by omega) (by omega)) (fun z200 h201 => ?_)
                          refine En_Ps 2 (pc' := 177) (lv' := [(0, .ref 159), (1, .int z54)]) (st' := [.ref 159, .ref 159, .int z200, .int ((99999 : Int32)), .ref 159]) rfl ?_
                          refine En_getK (j := 8) ((h190 _ _ (inW (by decide +kernel : TG 159 = 35) (by decide +kernel))).trans ((h182 _ _ (inW (by decide +kernel : TG 159 = 35) (by decide +kernel))).trans h165)) rfl rfl rfl (by decide +kernel : TG 159 = 35) (by decide +kernel) ?_
                          refine En_callV rfl rfl rfl rfl rfl rfl rfl rfl (by decide +kernel : TG 159 = 35) (by decide +kernel) rfl (c_313a σ188 h189 y157 (geI rfl (by omega)) (leI rfl (by omega)) z10 ((h190 _ _ (inW (by decide +kernel : TG 159 = 35) (by decide +kernel))).trans ((h182 _ _ (inW (by decide +kernel : TG 159 = 35) (by decide +kernel))).trans h161)) z174 ((h190 _ _ (inWa (by decide +kernel : TG 163 = 39) (by decide +kernel))).trans ((h182 _ _ (inWa (by decide +kernel : TG 163 = 39) (by decide +kernel))).trans h175))) (by decide) (by decide) (fun v203 σ204 h202 => ?_)
                          obtain ⟨h205, h206, z208, rfl, h207⟩ := h202
                          have h209 := Fr_trans h193 h206 (by decide +kernel)
                          refine En_Ps 1 (pc' := 184) (lv' := [(0, .ref 159), (1, .int z54)]) (st' := [.int ((z200 + z208)), .int ((99999 : Int32)), .ref 159]) rfl ?_
                          refine En_top (addI rfl rfl (by omega) (by omega)) (fun z210 h211 => ?_)
                          refine En_Ps 2 (pc' := 187) (lv' := [(0, .ref 159), (1, .int z54)]) (st' := [.int ((z210 - (((Int8.ofInt 48).toInt32)))), .int ((99999 : Int32)), .ref 159]) rfl ?_
                          refine En_top (subI rfl (by decide : ((Int8.ofInt 48).toInt32).toInt = 48) (by omega) (by omega)) (fun z212 h213 => ?_)
                          have := (by decide : ((99999 : Int32)).toInt = 99999)
                          refine En_callS rfl rfl rfl rfl rfl rfl rfl rfl rfl (c_11 σ204 h205 ((99999 : Int32)) z212) (by decide) (by decide) (fun v215 σ216 h214 => ?_)
                          obtain ⟨h217, h218, z220, rfl, h219⟩ := h214
                          have h221 := Fr_trans h209 h218 (by decide +kernel)
                          refine En_put (j := 11) rfl rfl rfl (by decide +kernel : TG 159 = 35) (by decide +kernel) rfl (vI (l := 0) (u := 99999) (by decide +kernel) rfl (by omega) (by omega)) h217 h221 (by decide +kernel) (fun σ222 h223 h224 h225 h226 => ?_)
                          refine En_Ps 2 (pc' := 195) (lv' := [(0, .ref 159), (1, .int z54)]) (st' := [.ref 159, .ref 159]) rfl ?_
                          refine En_getK (j := 8) ((h226 _ _ (Or.inr (by decide))).trans ((h218 _ _ (inW (by decide +kernel : TG 159 = 35) (by decide +kernel))).trans ((h206 _ _ (inW (by decide +kernel : TG 159 = 35) (by decide +kernel))).trans ((h190 _ _ (inW (by decide +kernel : TG 159 = 35) (by decide +kernel))).trans ((h182 _ _ (inW (by decide +kernel : TG 159 = 35) (by decide +kernel))).trans h165))))) rfl rfl rfl (by decide +kernel : TG 159 = 35) (by decide +kernel) ?_
                          refine En_Ps 2 (pc' := 200) (lv' := [(0, .ref 159), (1, .int z54)]) (st' := [.int ((y157 + ((Int32.ofInt 1)))), .ref 159]) rfl ?_
                          refine En_top (addI rfl (by decide : (Int32.ofInt 1).toInt = 1) (by omega) (by omega)) (fun z227 h228 => ?_)
                          refine En_put (j := 8) rfl rfl rfl (by decide +kernel : TG 159 = 35) (by decide +kernel) rfl (vI (l := 0) (u := 1600) (by decide +kernel) rfl (by omega) (by omega)) h223 h224 (by decide +kernel) (fun σ229 h230 h231 h232 h233 => ?_)
                          refine En_Ps 1 (pc' := 144) (lv' := [(0, .ref 159), (1, .int z54)]) (st' := []) rfl ?_
                          exact ih144 σ229 z220 z227 h230 h231 ((h233 _ _ (Or.inr (by decide))).trans ((h226 _ _ (Or.inr (by decide))).trans ((h218 _ _ (inW (by decide +kernel : TG 159 = 35) (by decide +kernel))).trans ((h206 _ _ (inW (by decide +kernel : TG 159 = 35) (by decide +kernel))).trans ((h190 _ _ (inW (by decide +kernel : TG 159 = 35) (by decide +kernel))).trans ((h182 _ _ (inW (by decide +kernel : TG 159 = 35) (by decide +kernel))).trans h161)))))) ((h233 _ _ (Or.inr (by decide))).trans ((h226 _ _ (Or.inr (by decide))).trans ((h218 _ _ (inW (by decide +kernel : TG 159 = 35) (by decide +kernel))).trans ((h206 _ _ (inW (by decide +kernel : TG 159 = 35) (by decide +kernel))).trans ((h190 _ _ (inW (by decide +kernel : TG 159 = 35) (by decide +kernel))).trans ((h182 _ _ (inW (by decide +kernel : TG 159 = 35) (by decide +kernel))).trans h162)))))) ((h233 _ _ (Or.inl (neTG (by decide +kernel : TG 163 = 39) (by decide +kernel : TG 159 = 35) (by decide)))).trans ((h226 _ _ (Or.inl (neTG (by decide +kernel : TG 163 = 39) (by decide +kernel : TG 159 = 35) (by decide)))).trans ((h218 _ _ (inWa (by decide +kernel : TG 163 = 39) (by decide +kernel))).trans ((h206 _ _ (inWa (by decide +kernel : TG 163 = 39) (by decide +kernel))).trans ((h190 _ _ (inWa (by decide +kernel : TG 163 = 39) (by decide +kernel))).trans ((h182 _ _ (inWa (by decide +kernel : TG 163 = 39) (by decide +kernel))).trans h163)))))) ((h233 _ _ (Or.inr (by decide))).trans h225) h232 (by omega) (by omega) (by omega) (by omega) (by omega) (by omega) (by omega)
                      · refine En_Ps 2 (pc' := 146) (lv' := [(0, .ref 159), (1, .int z54)]) (st' := [.ref 159, .ref 159]) rfl ?_
                        refine En_getK (j := 8) h165 rfl rfl rfl (by decide +kernel : TG 159 = 35) (by decide +kernel) ?_
                        refine En_callV rfl rfl rfl rfl rfl rfl rfl rfl (by decide +kernel : TG 159 = 35) (by decide +kernel) rfl (c_313b σ158 h159 y157 (geI rfl (by omega)) (leI rfl (by omega)) z10 h161) (by decide) (by decide) (fun v235 σ236 h234 => ?_)
                        obtain ⟨h237, h238, z240, rfl, h239⟩ := h234
                        have h241 := Fr_trans h160 h238 (by decide +kernel)
                        refine En_Ps 3 (pc' := 159) (lv' := [(0, .ref 159), (1, .int z54)]) (st' := [.long ((57 : Int64)), .long ((48 : Int64)), .long z240.toInt64]) rfl ?_
                        have : z240.toInt64.toInt = z240.toInt := (i2lI rfl)
                        have := (by decide : ((48 : Int64)).toInt = 48)
                        have := (by decide : ((57 : Int64)).toInt = 57)
                        refine En_callS rfl rfl rfl rfl rfl rfl rfl rfl rfl (c_249 σ236 h237 z240.toInt64 ((48 : Int64)) ((57 : Int64))) (by decide) (by decide) (fun v243 σ244 h242 => ?_)
                        obtain ⟨h245, h246, z248, rfl, h247⟩ := h242
                        have h249 := Fr_trans h241 h246 (by decide +kernel)
                        refine En_iEq _ rfl rfl (fun h250 => ?_) (fun hx => by exfalso; omega)
                        refine En_Ps 2 (pc' := 208) (lv' := [(0, .ref 159), (1, .int z54)]) (st' := [.int ((Int32.ofInt 2)), .ref 159]) rfl ?_
                        refine En_put (j := 10) rfl rfl rfl (by decide +kernel : TG 159 = 35) (by decide +kernel) rfl (vI (l := 0) (u := 4) (by decide +kernel) (by decide : (Int32.ofInt 2).toInt = 2) (by omega) (by omega)) h245 h249 (by decide +kernel) (fun σ251 h252 h253 h254 h255 => ?_)
                        refine En_Ps 1 (pc' := 239) (lv' := [(0, .ref 159), (1, .int z54)]) (st' := []) rfl ?_
                        have := (by decide : (Int32.ofInt 2).toInt = 2)
                        exact En_ret (v := none) rfl rfl rfl ⟨h252, h253, y157, ((h255 _ _ (Or.inr (by decide))).trans ((h246 _ _ (inW (by decide +kernel : TG 159 = 35) (by decide +kernel))).trans ((h238 _ _ (inW (by decide +kernel : TG 159 = 35) (by decide +kernel))).trans h165))), (Int32.ofInt 2), h254, rfl, (by omega)⟩
                  refine En_lv (lv := [(0, .ref 159), (1, .int z54)]) ⟨rfl, rfl, trivial⟩ ?_
                  exact key144 (Int.toNat (z10.toInt - z149.toInt) + 1) σ151 z142 z149 h152 h153 ((h155 _ _ (Or.inr (by decide))).trans ((h148 _ _ (Or.inr (by decide))).trans ((h140 _ _ (inW (by decide +kernel : TG 159 = 35) (by decide +kernel))).trans ((h128 _ _ (inW (by decide +kernel : TG 159 = 35) (by decide +kernel))).trans ((h117 _ _ (inW (by decide +kernel : TG 159 = 35) (by decide +kernel))).trans ((h109 _ _ (inW (by decide +kernel : TG 159 = 35) (by decide +kernel))).trans ((h104 _ _ (Or.inr (by decide))).trans ((h70 _ _ (inW (by decide +kernel : TG 159 = 35) (by decide +kernel))).trans ((h61 _ _ (inW (by decide +kernel : TG 159 = 35) (by decide +kernel))).trans ((h52 _ _ (inW (by decide +kernel : TG 159 = 35) (by decide +kernel))).trans ((h42 _ _ (Or.inr (by decide))).trans ((h33 _ _ (inW (by decide +kernel : TG 159 = 35) (by decide +kernel))).trans ((h17 _ _ (inW (by decide +kernel : TG 159 = 35) (by decide +kernel))).trans h9))))))))))))) ((h155 _ _ (Or.inr (by decide))).trans ((h148 _ _ (Or.inr (by decide))).trans ((h140 _ _ (inW (by decide +kernel : TG 159 = 35) (by decide +kernel))).trans ((h128 _ _ (inW (by decide +kernel : TG 159 = 35) (by decide +kernel))).trans ((h117 _ _ (inW (by decide +kernel : TG 159 = 35) (by decide +kernel))).trans ((h109 _ _ (inW (by decide +kernel : TG 159 = 35) (by decide +kernel))).trans ((h104 _ _ (Or.inr (by decide))).trans ((h70 _ _ (inW (by decide +kernel : TG 159 = 35) (by decide +kernel))).trans ((h61 _ _ (inW (by decide +kernel : TG 159 = 35) (by decide +kernel))).trans ((h52 _ _ (inW (by decide +kernel : TG 159 = 35) (by decide +kernel))).trans h41)))))))))) ((h155 _ _ (Or.inl (neTG (by decide +kernel : TG 163 = 39) (by decide +kernel : TG 159 = 35) (by decide)))).trans ((h148 _ _ (Or.inl (neTG (by decide +kernel : TG 163 = 39) (by decide +kernel : TG 159 = 35) (by decide)))).trans ((h140 _ _ (inWa (by decide +kernel : TG 163 = 39) (by decide +kernel))).trans ((h128 _ _ (inWa (by decide +kernel : TG 163 = 39) (by decide +kernel))).trans ((h117 _ _ (inWa (by decide +kernel : TG 163 = 39) (by decide +kernel))).trans ((h109 _ _ (inWa (by decide +kernel : TG 163 = 39) (by decide +kernel))).trans ((h104 _ _ (Or.inl (neTG (by decide +kernel : TG 163 = 39) (by decide +kernel : TG 159 = 35) (by decide)))).trans ((h70 _ _ (inWa (by decide +kernel : TG 163 = 39) (by decide +kernel))).trans ((h61 _ _ (inWa (by decide +kernel : TG 163 = 39) (by decide +kernel))).trans ((h52 _ _ (inWa (by decide +kernel : TG 163 = 39) (by decide +kernel))).trans h45)))))))))) ((h155 _ _ (Or.inr (by decide))).trans h147) h154 (by omega) (by omega) (by omega) (by omega) (by omega) (by omega) (by omega)
              · refine En_Ps 2 (pc' := 85) (lv' := [(1, .int z54), (0, .ref 159)]) (st' := [.ref 159, .ref 159]) rfl ?_
                refine En_getK (j := 8) ((h61 _ _ (inW (by decide +kernel : TG 159 = 35) (by decide +kernel))).trans ((h52 _ _ (inW (by decide +kernel : TG 159 = 35) (by decide +kernel))).trans ((h42 _ _ (Or.inr (by decide))).trans ((h33 _ _ (inW (by decide +kernel : TG 159 = 35) (by decide +kernel))).trans ((h17 _ _ (inW (by decide +kernel : TG 159 = 35) (by decide +kernel))).trans h5))))) rfl rfl rfl (by decide +kernel : TG 159 = 35) (by decide +kernel) ?_
                refine En_callV rfl rfl rfl rfl rfl rfl rfl rfl (by decide +kernel : TG 159 = 35) (by decide +kernel) rfl (c_313a σ59 h60 y1 (geI rfl (by omega)) (leI rfl (by omega)) z10 ((h61 _ _ (inW (by decide +kernel : TG 159 = 35) (by decide +kernel))).trans ((h52 _ _ (inW (by decide +kernel : TG 159 = 35) (by decide +kernel))).trans ((h42 _ _ (Or.inr (by decide))).trans ((h33 _ _ (inW (by decide +kernel : TG 159 = 35) (by decide +kernel))).trans ((h17 _ _ (inW (by decide +kernel : TG 159 = 35) (by decide +kernel))).trans h9))))) z44 ((h61 _ _ (inWa (by decide +kernel : TG 163 = 39) (by decide +kernel))).trans ((h52 _ _ (inWa (by decide +kernel : TG 163 = 39) (by decide +kernel))).trans h45))) (by decide) (by decide) (fun v257 σ258 h256 => ?_)
                obtain ⟨h259, h260, z262, rfl, h261⟩ := h256
                have h263 := Fr_trans h64 h260 (by decide +kernel)
                refine En_Ps 3 (pc' := 98) (lv' := [(1, .int z54), (0, .ref 159)]) (st' := [.long ((122 : Int64)), .long ((97 : Int64)), .long z262.toInt64]) rfl ?_
                have : z262.toInt64.toInt = z262.toInt := (i2lI rfl)
                have := (by decide : ((97 : Int64)).toInt = 97)
                have := (by decide : ((122 : Int64)).toInt = 122)
                refine En_callS rfl rfl rfl rfl rfl rfl rfl rfl rfl (c_249 σ258 h259 z262.toInt64 ((97 : Int64)) ((122 : Int64))) (by decide) (by decide) (fun v265 σ266 h264 => ?_)
                obtain ⟨h267, h268, z270, rfl, h269⟩ := h264
                have h271 := Fr_trans h263 h268 (by decide +kernel)
                refine En_iEq _ rfl rfl (fun hx => by exfalso; omega) (fun h272 => ?_)
                refine En_Ps 2 (pc' := 106) (lv' := [(1, .int z54), (0, .ref 159)]) (st' := [.ref 159, .ref 159]) rfl ?_
                refine En_getK (j := 8) ((h268 _ _ (inW (by decide +kernel : TG 159 = 35) (by decide +kernel))).trans ((h260 _ _ (inW (by decide +kernel : TG 159 = 35) (by decide +kernel))).trans ((h61 _ _ (inW (by decide +kernel : TG 159 = 35) (by decide +kernel))).trans ((h52 _ _ (inW (by decide +kernel : TG 159 = 35) (by decide +kernel))).trans ((h42 _ _ (Or.inr (by decide))).trans ((h33 _ _ (inW (by decide +kernel : TG 159 = 35) (by decide +kernel))).trans ((h17 _ _ (inW (by decide +kernel : TG 159 = 35) (by decide +kernel))).trans h5))))))) rfl rfl rfl (by decide +kernel : TG 159 = 35) (by decide +kernel) ?_
                refine En_Ps 2 (pc' := 111) (lv' := [(1, .int z54), (0, .ref 159)]) (st' := [.int ((y1 + ((Int32.ofInt 1)))), .ref 159]) rfl ?_
                refine En_top (addI rfl (by decide : (Int32.ofInt 1).toInt = 1) (by omega) (by omega)) (fun z273 h274 => ?_)
                refine En_put (j := 8) rfl rfl rfl (by decide +kernel : TG 159 = 35) (by decide +kernel) rfl (vI (l := 0) (u := 1600) (by decide +kernel) rfl (by omega) (by omega)) h267 h271 (by decide +kernel) (fun σ275 h276 h277 h278 h279 => ?_)
                refine En_Ps 1 (pc' := 83) (lv' := [(1, .int z54), (0, .ref 159)]) (st' := []) rfl ?_
                have key83 : ∀ (n83 : Nat) (σ281 : SG) (y280 : Int32), WT σ281 → Fr [(35, 8), (35, 9), (35, 10), (35, 11)] σ0 σ281 → (σ281 159)[7]? = some (.int z10) → (σ281 159)[9]? = some (.int y1) → (σ281 163)[(y1.toInt).toNat]? = some (.int z44) → (σ281 159)[8]? = some (.int y280) → 1 ≤ y280.toInt → y280.toInt ≤ 1600 → y280.toInt - z10.toInt ≤ 0 → y1.toInt - y280.toInt + 1 ≤ 0 → z10.toInt - y280.toInt < (n83 : Int) → En 1 25 none mr_189 (P_189 σ0 f) 83 [(0, .ref 159), (1, .int z54)] [] σ281 := by
                  intro n83
                  induction n83 with
                  | zero =>
                    intro σ281 y280 h282 h283 h284 h285 h286 h287 h288 h289 h290 h291 h292
                    exfalso; omega
                  | succ n83 ih83 =>
                    intro σ281 y280 h282 h283 h284 h285 h286 h287 h288 h289 h290 h291 h292
                    rcases (show y280.toInt ≤ 1599 ∨ y280.toInt = 1600 by omega) with h293 | h293
                    · refine En_Ps 2 (pc' := 85) (lv' := [(0, .ref 159), (1, .int z54)]) (st' := [.ref 159, .ref 159]) rfl ?_
                      refine En_getK (j := 8) h287 rfl rfl rfl (by decide +kernel : TG 159 = 35) (by decide +kernel) ?_
                      obtain ⟨z294, h295, h296, h297⟩ := WT_peekJ (J := (y280.toInt)) (l := (-128)) (u := 127) h282 (by decide +kernel : TG 163 = 39) (by decide +kernel) (by omega) (lnI (by decide +kernel : LN _ = 1600) (by omega)) (FTsgl (by decide +kernel))
                      refine En_callV rfl rfl rfl rfl rfl rfl rfl rfl (by decide +kernel : TG 159 = 35) (by decide +kernel) rfl (c_313a σ281 h282 y280 (geI rfl (by omega)) (leI rfl (by omega)) z10 h284 z294 h295) (by decide) (by decide) (fun v299 σ300 h298 => ?_)
                      obtain ⟨h301, h302, z304, rfl, h303⟩ := h298
                      have h305 := Fr_trans h283 h302 (by decide +kernel)
                      refine En_Ps 3 (pc' := 98) (lv' := [(0, .ref 159), (1, .int z54)]) (st' := [.long ((122 : Int64)), .long ((97 : Int64)), .long z304.toInt64]) rfl ?_
                      have : z304.toInt64.toInt = z304.toInt := (i2lI rfl)
                      have := (by decide : ((97 : Int64)).toInt = 97)
                      have := (by decide : ((122 : Int64)).toInt = 122)
                      refine En_callS rfl rfl rfl rfl rfl rfl rfl rfl rfl (c_249 σ300 h301 z304.toInt64 ((97 : Int64)) ((122 : Int64))) (by decide) (by decide) (fun v307 σ308 h306 => ?_)
                      obtain ⟨h309, h310, z312, rfl, h311⟩ := h306
                      have h313 := Fr_trans h305 h310 (by decide +kernel)
                      refine En_iEq _ rfl rfl (fun h314 => ?_) (fun h314 => ?_)
                      · refine En_Ps 2 (pc' := 119) (lv' := [(0, .ref 159), (1, .int z54)]) (st' := [.int ((Int32.ofInt 1)), .ref 159]) rfl ?_
                        refine En_put (j := 10) rfl rfl rfl (by decide +kernel : TG 159 = 35) (by decide +kernel) rfl (vI (l := 0) (u := 4) (by decide +kernel) (by decide : (Int32.ofInt 1).toInt = 1) (by omega) (by omega)) h309 h313 (by decide +kernel) (fun σ315 h316 h317 h318 h319 => ?_)
                        refine En_Ps 1 (pc' := 239) (lv' := [(0, .ref 159), (1, .int z54)]) (st' := []) rfl ?_
                        have := (by decide : (Int32.ofInt 1).toInt = 1)
                        exact En_ret (v := none) rfl rfl rfl ⟨h316, h317, y280, ((h319 _ _ (Or.inr (by decide))).trans ((h310 _ _ (inW (by decide +kernel : TG 159 = 35) (by decide +kernel))).trans ((h302 _ _ (inW (by decide +kernel : TG 159 = 35) (by decide +kernel))).trans h287))), (Int32.ofInt 1), h318, rfl, (by omega)⟩
                      · refine En_Ps 2 (pc' := 106) (lv' := [(0, .ref 159), (1, .int z54)]) (st' := [.ref 159, .ref 159]) rfl ?_
                        refine En_getK (j := 8) ((h310 _ _ (inW (by decide +kernel : TG 159 = 35) (by decide +kernel))).trans ((h302 _ _ (inW (by decide +kernel : TG 159 = 35) (by decide +kernel))).trans h287)) rfl rfl rfl (by decide +kernel : TG 159 = 35) (by decide +kernel) ?_
                        refine En_Ps 2 (pc' := 111) (lv' := [(0, .ref 159), (1, .int z54)]) (st' := [.int ((y280 + ((Int32.ofInt 1)))), .ref 159]) rfl ?_
                        refine En_top (addI rfl (by decide : (Int32.ofInt 1).toInt = 1) (by omega) (by omega)) (fun z320 h321 => ?_)
                        refine En_put (j := 8) rfl rfl rfl (by decide +kernel : TG 159 = 35) (by decide +kernel) rfl (vI (l := 0) (u := 1600) (by decide +kernel) rfl (by omega) (by omega)) h309 h313 (by decide +kernel) (fun σ322 h323 h324 h325 h326 => ?_)
                        refine En_Ps 1 (pc' := 83) (lv' := [(0, .ref 159), (1, .int z54)]) (st' := []) rfl ?_
                        exact ih83 σ322 z320 h323 h324 ((h326 _ _ (Or.inr (by decide))).trans ((h310 _ _ (inW (by decide +kernel : TG 159 = 35) (by decide +kernel))).trans ((h302 _ _ (inW (by decide +kernel : TG 159 = 35) (by decide +kernel))).trans h284))) ((h326 _ _ (Or.inr (by decide))).trans ((h310 _ _ (inW (by decide +kernel : TG 159 = 35) (by decide +kernel))).trans ((h302 _ _ (inW (by decide +kernel : TG 159 = 35) (by decide +kernel))).trans h285))) ((h326 _ _ (Or.inl (neTG (by decide +kernel : TG 163 = 39) (by decide +kernel : TG 159 = 35) (by decide)))).trans ((h310 _ _ (inWa (by decide +kernel : TG 163 = 39) (by decide +kernel))).trans ((h302 _ _ (inWa (by decide +kernel : TG 163 = 39) (by decide +kernel))).trans h286))) h325 (by omega) (by omega) (by omega) (by omega) (by omega)
                    · refine En_Ps 2 (pc' := 85) (lv' := [(0, .ref 159), (1, .int z54)]) (st' := [.ref 159, .ref 159]) rfl ?_
                      refine En_getK (j := 8) h287 rfl rfl rfl (by decide +kernel : TG 159 = 35) (by decide +kernel) ?_
                      refine En_callV rfl rfl rfl rfl rfl rfl rfl rfl (by decide +kernel : TG 159 = 35) (by decide +kernel) rfl (c_313b σ281 h282 y280 (geI rfl (by omega)) (leI rfl (by omega)) z10 h284) (by decide) (by decide) (fun v328 σ329 h327 => ?_)
                      obtain ⟨h330, h331, z333, rfl, h332⟩ := h327
                      have h334 := Fr_trans h283 h331 (by decide +kernel)
                      refine En_Ps 3 (pc' := 98) (lv' := [(0, .ref 159), (1, .int z54)]) (st' := [.long ((122 : Int64)), .long ((97 : Int64)), .long z333.toInt64]) rfl ?_
                      have : z333.toInt64.toInt = z333.toInt := (i2lI rfl)
                      have := (by decide : ((97 : Int64)).toInt = 97)
                      have := (by decide : ((122 : Int64)).toInt = 122)
                      refine En_callS rfl rfl rfl rfl rfl rfl rfl rfl rfl (c_249 σ329 h330 z333.toInt64 ((97 : Int64)) ((122 : Int64))) (by decide) (by decide) (fun v336 σ337 h335 => ?_)
                      obtain ⟨h338, h339, z341, rfl, h340⟩ := h335
                      have h342 := Fr_trans h334 h339 (by decide +kernel)
                      refine En_iEq _ rfl rfl (fun h343 => ?_) (fun hx => by exfalso; omega)
                      refine En_Ps 2 (pc' := 119) (lv' := [(0, .ref 159), (1, .int z54)]) (st' := [.int ((Int32.ofInt 1)), .ref 159]) rfl ?_
                      refine En_put (j := 10) rfl rfl rfl (by decide +kernel : TG 159 = 35) (by decide +kernel) rfl (vI (l := 0) (u := 4) (by decide +kernel) (by decide : (Int32.ofInt 1).toInt = 1) (by omega) (by omega)) h338 h342 (by decide +kernel) (fun σ344 h345 h346 h347 h348 => ?_)
                      refine En_Ps 1 (pc' := 239) (lv' := [(0, .ref 159), (1, .int z54)]) (st' := []) rfl ?_
                      have := (by decide : (Int32.ofInt 1).toInt = 1)
                      exact En_ret (v := none) rfl rfl rfl ⟨h345, h346, y280, ((h348 _ _ (Or.inr (by decide))).trans ((h339 _ _ (inW (by decide +kernel : TG 159 = 35) (by decide +kernel))).trans ((h331 _ _ (inW (by decide +kernel : TG 159 = 35) (by decide +kernel))).trans h287))), (Int32.ofInt 1), h347, rfl, (by omega)⟩
                refine En_lv (lv := [(0, .ref 159), (1, .int z54)]) ⟨rfl, rfl, trivial⟩ ?_
                exact key83 (Int.toNat (z10.toInt - z273.toInt) + 1) σ275 z273 h276 h277 ((h279 _ _ (Or.inr (by decide))).trans ((h268 _ _ (inW (by decide +kernel : TG 159 = 35) (by decide +kernel))).trans ((h260 _ _ (inW (by decide +kernel : TG 159 = 35) (by decide +kernel))).trans ((h61 _ _ (inW (by decide +kernel : TG 159 = 35) (by decide +kernel))).trans ((h52 _ _ (inW (by decide +kernel : TG 159 = 35) (by decide +kernel))).trans ((h42 _ _ (Or.inr (by decide))).trans ((h33 _ _ (inW (by decide +kernel : TG 159 = 35) (by decide +kernel))).trans ((h17 _ _ (inW (by decide +kernel : TG 159 = 35) (by decide +kernel))).trans h9)))))))) ((h279 _ _ (Or.inr (by decide))).trans ((h268 _ _ (inW (by decide +kernel : TG 159 = 35) (by decide +kernel))).trans ((h260 _ _ (inW (by decide +kernel : TG 159 = 35) (by decide +kernel))).trans ((h61 _ _ (inW (by decide +kernel : TG 159 = 35) (by decide +kernel))).trans ((h52 _ _ (inW (by decide +kernel : TG 159 = 35) (by decide +kernel))).trans h41))))) ((h279 _ _ (Or.inl (neTG (by decide +kernel : TG 163 = 39) (by decide +kernel : TG 159 = 35) (by decide)))).trans ((h268 _ _ (inWa (by decide +kernel : TG 163 = 39) (by decide +kernel))).trans ((h260 _ _ (inWa (by decide +kernel : TG 163 = 39) (by decide +kernel))).trans ((h61 _ _ (inWa (by decide +kernel : TG 163 = 39) (by decide +kernel))).trans ((h52 _ _ (inWa (by decide +kernel : TG 163 = 39) (by decide +kernel))).trans h45))))) h278 (by omega) (by omega) (by omega) (by omega) (by omega)
            · refine En_Ps 2 (pc' := 63) (lv' := [(1, .int z54), (0, .ref 159)]) (st' := [.int ((Int32.ofInt 0)), .ref 159]) rfl ?_
              refine En_put (j := 10) rfl rfl rfl (by decide +kernel : TG 159 = 35) (by decide +kernel) rfl (vI (l := 0) (u := 4) (by decide +kernel) (by decide : (Int32.ofInt 0).toInt = 0) (by omega) (by omega)) h51 h55 (by decide +kernel) (fun σ349 h350 h351 h352 h353 => ?_)
              refine En_Ps 1 (pc' := 239) (lv' := [(1, .int z54), (0, .ref 159)]) (st' := []) rfl ?_
              have := (by decide : (Int32.ofInt 0).toInt = 0)
              exact En_ret (v := none) rfl rfl rfl ⟨h350, h351, y1, ((h353 _ _ (Or.inr (by decide))).trans ((h52 _ _ (inW (by decide +kernel : TG 159 = 35) (by decide +kernel))).trans ((h42 _ _ (Or.inr (by decide))).trans ((h33 _ _ (inW (by decide +kernel : TG 159 = 35) (by decide +kernel))).trans ((h17 _ _ (inW (by decide +kernel : TG 159 = 35) (by decide +kernel))).trans h5))))), (Int32.ofInt 0), h352, rfl, (by omega)⟩
          · refine En_Ps 2 (pc' := 49) (lv' := [(0, .ref 159)]) (st' := [.ref 159, .ref 159]) rfl ?_
            refine En_getK (j := 8) ((h42 _ _ (Or.inr (by decide))).trans ((h33 _ _ (inW (by decide +kernel : TG 159 = 35) (by decide +kernel))).trans ((h17 _ _ (inW (by decide +kernel : TG 159 = 35) (by decide +kernel))).trans h5))) rfl rfl rfl (by decide +kernel : TG 159 = 35) (by decide +kernel) ?_
            refine En_callV rfl rfl rfl rfl rfl rfl rfl rfl (by decide +kernel : TG 159 = 35) (by decide +kernel) rfl (c_313b σ38 h39 y1 (geI rfl (by omega)) (leI rfl (by omega)) z10 ((h42 _ _ (Or.inr (by decide))).trans ((h33 _ _ (inW (by decide +kernel : TG 159 = 35) (by decide +kernel))).trans ((h17 _ _ (inW (by decide +kernel : TG 159 = 35) (by decide +kernel))).trans h9)))) (by decide) (by decide) (fun v355 σ356 h354 => ?_)
            obtain ⟨h357, h358, z360, rfl, h359⟩ := h354
            have h361 := Fr_trans h40 h358 (by decide +kernel)
            refine En_Ps 3 (pc' := 58) (lv' := [(1, .int z360), (0, .ref 159)]) (st' := [.int ((Int32.ofInt (-1))), .int z360]) rfl ?_
            refine En_icNe _ rfl (by decide : (Int32.ofInt (-1)).toInt = -1) rfl (fun hx => by exfalso; omega) (fun h362 => ?_)
            refine En_Ps 2 (pc' := 63) (lv' := [(1, .int z360), (0, .ref 159)]) (st' := [.int ((Int32.ofInt 0)), .ref 159]) rfl ?_
            refine En_put (j := 10) rfl rfl rfl (by decide +kernel : TG 159 = 35) (by decide +kernel) rfl (vI (l := 0) (u := 4) (by decide +kernel) (by decide : (Int32.ofInt 0).toInt = 0) (by omega) (by omega)) h357 h361 (by decide +kernel) (fun σ363 h364 h365 h366 h367 => ?_)
            refine En_Ps 1 (pc' := 239) (lv' := [(1, .int z360), (0, .ref 159)]) (st' := []) rfl ?_
            have := (by decide : (Int32.ofInt 0).toInt = 0)
            exact En_ret (v := none) rfl rfl rfl ⟨h364, h365, y1, ((h367 _ _ (Or.inr (by decide))).trans ((h358 _ _ (inW (by decide +kernel : TG 159 = 35) (by decide +kernel))).trans ((h42 _ _ (Or.inr (by decide))).trans ((h33 _ _ (inW (by decide +kernel : TG 159 = 35) (by decide +kernel))).trans ((h17 _ _ (inW (by decide +kernel : TG 159 = 35) (by decide +kernel))).trans h5))))), (Int32.ofInt 0), h366, rfl, (by omega)⟩
        · refine En_Ps 2 (pc' := 28) (lv' := [(0, .ref 159)]) (st' := [.ref 159, .ref 159]) rfl ?_
          refine En_getK (j := 8) ((h33 _ _ (inW (by decide +kernel : TG 159 = 35) (by decide +kernel))).trans ((h17 _ _ (inW (by decide +kernel : TG 159 = 35) (by decide +kernel))).trans h5)) rfl rfl rfl (by decide +kernel : TG 159 = 35) (by decide +kernel) ?_
          refine En_Ps 2 (pc' := 33) (lv' := [(0, .ref 159)]) (st' := [.int ((y1 + ((Int32.ofInt 1)))), .ref 159]) rfl ?_
          refine En_top (addI rfl (by decide : (Int32.ofInt 1).toInt = 1) (by omega) (by omega)) (fun z368 h369 => ?_)
          refine En_put (j := 8) rfl rfl rfl (by decide +kernel : TG 159 = 35) (by decide +kernel) rfl (vI (l := 0) (u := 1600) (by decide +kernel) rfl (by omega) (by omega)) h32 h36 (by decide +kernel) (fun σ370 h371 h372 h373 h374 => ?_)
          refine En_Ps 1 (pc' := 0) (lv' := [(0, .ref 159)]) (st' := []) rfl ?_
          exact ih0 σ370 z368 h371 h372 h373 (by omega) (by omega) (by omega)
  exact key0 (Int.toNat (-f.toInt + 1600) + 1) σ0 f hσ0 hF0 h_f (by omega) (by omega) (by omega)
