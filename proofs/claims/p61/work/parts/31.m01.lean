/-- DoorSchoolModel.see(I)I -/
abbrev P_313a (σ0 : SG) (a : Int32) (n : Int32) (c : Int32) : PO := fun v σ => WT σ ∧ Fr [] σ0 σ ∧ ∃ ret : Int32, v = some (.int ret) ∧ -ret.toInt - 1 ≤ 0 ∧ ret.toInt - 255 ≤ 0 ∧ (-ret.toInt ≤ 0 → a.toInt - n.toInt + 1 ≤ 0) ∧ (a.toInt - n.toInt + 1 ≤ 0 → -ret.toInt ≤ 0) ∧ ret.toInt = seeF c.toInt n.toInt a.toInt
set_option maxRecDepth 10000 in
set_option maxHeartbeats 4000000 in
theorem c_313a (σ0 : SG) (hσ0 : WT σ0) (a : Int32) (hl_a : 0 ≤ a.toInt) (hu_a : a.toInt ≤ 1599) (n : Int32) (h_n : (σ0 159)[7]? = some (.int n)) (c : Int32) (h_c : (σ0 163)[(a.toInt).toNat]? = some (.int c)) : En 0 0 none mr_313 (P_313a σ0 a n c) 0 [(0, .ref 159), (1, .int a)] [] σ0 := by
  obtain ⟨hl_n, hu_n⟩ := WT_int hσ0 (g := 35) (by decide +kernel) (by decide +kernel) (l := 0) (u := 1600) (by decide +kernel) h_n
  have hF0 : Fr [] σ0 σ0 := Fr_rfl
  obtain ⟨hl_c, hu_c⟩ := WT_int hσ0 (g := 39) (by decide +kernel : TG 163 = 39) (by decide +kernel) (l := (-128)) (u := 127) (FTsgl (by decide +kernel)) h_c
  refine En_Ps 2 (pc' := 2) (lv' := [(0, .ref 159), (1, .int a)]) (st' := [.ref 159, .int a]) rfl ?_
  refine En_getK (j := 7) h_n rfl rfl rfl (by decide +kernel : TG 159 = 35) (by decide +kernel) ?_
  refine En_icGe _ rfl rfl rfl (fun h1 => ?_) (fun h1 => ?_)
  · refine En_Ps 1 (pc' := 22) (lv' := [(0, .ref 159), (1, .int a)]) (st' := [.int ((Int32.ofInt (-1)))]) rfl ?_
    refine En_top (by decide : (Int32.ofInt (-1)).toInt = -1) (fun z2 h3 => ?_)
    exact En_ret (v := some (.int z2)) rfl rfl rfl ⟨hσ0, hF0, z2, rfl, (by first | exact ⟨by omega, by omega, by omega, by omega, seeF_none (by omega) (by omega)⟩ | exact ⟨by omega, by omega, by omega, by omega, seeF_some (by omega) (by assumption)⟩)⟩
  · refine En_Ps 1 (pc' := 9) (lv' := [(0, .ref 159), (1, .int a)]) (st' := [.ref 159]) rfl ?_
    refine En_getU (j := 4) (u := 163) (g' := 39) (q := 0) rfl rfl rfl (by decide +kernel : TG 159 = 35) (by decide +kernel) hσ0 (by decide +kernel) (by decide +kernel) (fun h4 => ?_)
    refine En_Ps 1 (pc' := 13) (lv' := [(0, .ref 159), (1, .int a)]) (st' := [.int a, .ref 163]) rfl ?_
    refine En_baldK h_c rfl rfl (by decide +kernel : TG 163 = 39) (by decide +kernel) hσ0 (by omega) (lnI (by decide +kernel : LN _ = 1600) (by omega)) ?_
    refine En_Ps 2 (pc' := 18) (lv' := [(0, .ref 159), (1, .int a)]) (st' := [.int ((c &&& (((Int16.ofInt 255).toInt32))))]) rfl ?_
    refine En_nam (fun z7 h8 => ?_)
    have h9 := andR_rng (x := c) (by decide : ((Int16.ofInt 255).toInt32).toInt = 255) (by decide)
    rw [← h8] at h9
    refine En_Ps 1 (pc' := 22) (lv' := [(0, .ref 159), (1, .int a)]) (st' := [.int z7]) rfl ?_
    exact En_ret (v := some (.int z7)) rfl rfl rfl ⟨hσ0, hF0, z7, rfl, (by first | exact ⟨by omega, by omega, by omega, by omega, seeF_none (by omega) (by omega)⟩ | exact ⟨by omega, by omega, by omega, by omega, seeF_some (by omega) (by assumption)⟩)⟩
/-- DoorSchoolModel.see(I)I -/
abbrev P_313b (σ0 : SG) (a : Int32) (n : Int32) : PO := fun v σ => WT σ ∧ Fr [] σ0 σ ∧ ∃ ret : Int32, v = some (.int ret) ∧ -ret.toInt - 1 ≤ 0 ∧ ret.toInt - 255 ≤ 0 ∧ (-ret.toInt ≤ 0 → a.toInt - n.toInt + 1 ≤ 0) ∧ (a.toInt - n.toInt + 1 ≤ 0 → -ret.toInt ≤ 0)
set_option maxRecDepth 10000 in
set_option maxHeartbeats 4000000 in
theorem c_313b (σ0 : SG) (hσ0 : WT σ0) (a : Int32) (hl_a : 0 ≤ a.toInt) (hu_a : a.toInt ≤ 1600) (n : Int32) (h_n : (σ0 159)[7]? = some (.int n)) : En 0 0 none mr_313 (P_313b σ0 a n) 0 [(0, .ref 159), (1, .int a)] [] σ0 := by
  obtain ⟨hl_n, hu_n⟩ := WT_int hσ0 (g := 35) (by decide +kernel) (by decide +kernel) (l := 0) (u := 1600) (by decide +kernel) h_n
  have hF0 : Fr [] σ0 σ0 := Fr_rfl
  refine En_Ps 2 (pc' := 2) (lv' := [(0, .ref 159), (1, .int a)]) (st' := [.ref 159, .int a]) rfl ?_
  refine En_getK (j := 7) h_n rfl rfl rfl (by decide +kernel : TG 159 = 35) (by decide +kernel) ?_
  refine En_icGe _ rfl rfl rfl (fun h1 => ?_) (fun h1 => ?_)
  · refine En_Ps 1 (pc' := 22) (lv' := [(0, .ref 159), (1, .int a)]) (st' := [.int ((Int32.ofInt (-1)))]) rfl ?_
    refine En_top (by decide : (Int32.ofInt (-1)).toInt = -1) (fun z2 h3 => ?_)
    exact En_ret (v := some (.int z2)) rfl rfl rfl ⟨hσ0, hF0, z2, rfl, (by omega)⟩
  · refine En_Ps 1 (pc' := 9) (lv' := [(0, .ref 159), (1, .int a)]) (st' := [.ref 159]) rfl ?_
    refine En_getU (j := 4) (u := 163) (g' := 39) (q := 0) rfl rfl rfl (by decide +kernel : TG 159 = 35) (by decide +kernel) hσ0 (by decide +kernel) (by decide +kernel) (fun h4 => ?_)
    refine En_Ps 1 (pc' := 13) (lv' := [(0, .ref 159), (1, .int a)]) (st' := [.int a, .ref 163]) rfl ?_
    refine En_bald (l := (-128)) (u := 127) rfl rfl (by decide +kernel : TG 163 = 39) (by decide +kernel) hσ0 (by omega) (lnI (by decide +kernel : LN _ = 1600) (by omega)) (FTsgl (by decide +kernel)) (fun z7 h6 h8 h9 => ?_)
    refine En_Ps 2 (pc' := 18) (lv' := [(0, .ref 159), (1, .int a)]) (st' := [.int ((z7 &&& (((Int16.ofInt 255).toInt32))))]) rfl ?_
    refine En_nam (fun z10 h11 => ?_)
    have h12 := andR_rng (x := z7) (by decide : ((Int16.ofInt 255).toInt32).toInt = 255) (by decide)
    rw [← h11] at h12
    refine En_Ps 1 (pc' := 22) (lv' := [(0, .ref 159), (1, .int a)]) (st' := [.int z10]) rfl ?_
    exact En_ret (v := some (.int z10)) rfl rfl rfl ⟨hσ0, hF0, z10, rfl, (by omega)⟩
/-- DoorSchoolModel.advance()V -/
abbrev P_189 (σ0 : SG) (f : Int32) : PO := fun v σ => WT σ ∧ Fr [(35, 8), (35, 9), (35, 10), (35, 11)] σ0 σ ∧ ∃ f1 : Int32, (σ 159)[8]? = some (.int f1) ∧ ∃ t1 : Int32, (σ 159)[10]? = some (.int t1) ∧ v = none ∧ -f1.toInt ≤ 0 ∧ f1.toInt - 1600 ≤ 0 ∧ -f1.toInt + f.toInt ≤ 0 ∧ f1.toInt - f.toInt - 1600 ≤ 0 ∧ -t1.toInt ≤ 0 ∧ t1.toInt - 4 ≤ 0 ∧ -t1.toInt + f.toInt - 1600 ≤ 0 ∧ t1.toInt - f.toInt - 4 ≤ 0 ∧ f.toInt - f1.toInt ≤ 0 ∧ (-t1.toInt + 1 ≤ 0 → f.toInt - f1.toInt + 1 ≤ 0)
set_option maxRecDepth 10000 in
set_option maxHeartbeats 4000000 in
theorem c_189 (σ0 : SG) (hσ0 : WT σ0) (f : Int32) (h_f : (σ0 159)[8]? = some (.int f)) : En 1 25 none mr_189 (P_189 σ0 f) 0 [(0, .ref 159)] [] σ0 := by
  obtain ⟨hl_f, hu_f⟩ := WT_int hσ0 (g := 35) (by decide +kernel) (by decide +kernel) (l := 0) (u := 1600) (by decide +kernel) h_f
  have hF0 : Fr [(35, 8), (35, 9), (35, 10), (35, 11)] σ0 σ0 := Fr_rfl
  have key0 : ∀ (n0 : Nat) (σ2 : SG) (y1 : Int32), WT σ2 → Fr [(35, 8), (35, 9), (35, 10), (35, 11)] σ0 σ2 → (σ2 159)[8]? = some (.int y1) → 0 ≤ y1.toInt → y1.toInt ≤ 1600 → f.toInt - y1.toInt ≤ 0 → -y1.toInt + 1600 < (n0 : Int) → En 1 25 none mr_189 (P_189 σ0 f) 0 [(0, .ref 159)] [] σ2 := by
    intro n0
    induction n0 with
    | zero =>
      intro σ2 y1 h3 h4 h5 h6 h7 h8 h9
      exfalso; omega
    | succ n0 ih0 =>
      intro σ2 y1 h3 h4 h5 h6 h7 h8 h9
      refine En_Ps 2 (pc' := 2) (lv' := [(0, .ref 159)]) (st' := [.ref 159, .ref 159]) rfl ?_
      refine En_getK (j := 8) h5 rfl rfl rfl (by decide +kernel : TG 159 = 35) (by decide +kernel) ?_
      obtain ⟨z11, h10, h12, h13⟩ := WT_peekI h3 (by decide +kernel : TG 159 = 35) (by decide +kernel : FT 35 7 = (0, 0, 1600)) (by decide +kernel)
      refine En_callV rfl rfl rfl rfl rfl rfl rfl rfl (by decide +kernel : TG 159 = 35) (by decide +kernel) rfl (c_313b σ2 h3 y1 (geI rfl (by omega)) (leI rfl (by omega)) z11 h10) (by decide) (by decide) (fun v15 σ16 h14 => ?_)
      obtain ⟨h17, h18, z20, rfl, h19⟩ := h14
      have h21 := Fr_trans h4 h18 (by decide +kernel)
      refine En_Ps 1 (pc' := 10) (lv' := [(0, .ref 159)]) (st' := [.int (((Int8.ofInt 32).toInt32)), .int z20]) rfl ?_
      refine En_icEq _ rfl (by decide : ((Int8.ofInt 32).toInt32).toInt = 32) rfl (fun h22 => ?_) (fun h22 => ?_)
      · refine En_Ps 2 (pc' := 28) (lv' := [(0, .ref 159)]) (st' := [.ref 159, .ref 159]) rfl ?_
        refine En_getK (j := 8) ((h18 _ _ (inW (by decide +kernel : TG 159 = 35) (by decide +kernel))).trans h5) rfl rfl rfl (by decide +kernel : TG 159 = 35) (by decide +kernel) ?_
        refine En_Ps 2 (pc' := 33) (lv' := [(0, .ref 159)]) (st' := [.int ((y1 + ((Int32.ofInt 1)))), .ref 159]) rfl ?_
        refine En_top (addI rfl (by decide : (Int32.ofInt 1).toInt = 1) (by omega) (by omega)) (fun z23 h24 => ?_)
        refine En_put (j := 8) rfl rfl rfl (by decide +kernel : TG 159 = 35) (by decide +kernel) rfl (vI (l := 0) (u := 1600) (by decide +kernel) rfl (by omega) (by omega)) h17 h21 (by decide +kernel) (fun σ25 h26 h27 h28 h29 => ?_)
        refine En_Ps 1 (pc' := 0) (lv' := [(0, .ref 159)]) (st' := []) rfl ?_
        exact ih0 σ25 z23 h26 h27 h28 (by omega) (by omega) (by omega) (by omega)
      · refine En_Ps 2 (pc' := 15) (lv' := [(0, .ref 159)]) (st' := [.ref 159, .ref 159]) rfl ?_
        refine En_getK (j := 8) ((h18 _ _ (inW (by decide +kernel : TG 159 = 35) (by decide +kernel))).trans h5) rfl rfl rfl (by decide +kernel : TG 159 = 35) (by decide +kernel) ?_
        refine En_callV rfl rfl rfl rfl rfl rfl rfl rfl (by decide +kernel : TG 159 = 35) (by decide +kernel) rfl (c_313b σ16 h17 y1 (geI rfl (by omega)) (leI rfl (by omega)) z11 ((h18 _ _ (inW (by decide +kernel : TG 159 = 35) (by decide +kernel))).trans h10)) (by decide) (by decide) (fun v31 σ32 h30 => ?_)
        obtain ⟨h33, h34, z36, rfl, h35⟩ := h30
        have h37 := Fr_trans h21 h34 (by decide +kernel)
        refine En_Ps 1 (pc' := 23) (lv' := [(0, .ref 159)]) (st' := [.int (((Int8.ofInt 10).toInt32)), .int z36]) rfl ?_
        refine En_icNe _ rfl (by decide : ((Int8.ofInt 10).toInt32).toInt = 10) rfl (fun h38 => ?_) (fun h38 => ?_)
        · refine En_Ps 2 (pc' := 41) (lv' := [(0, .ref 159)]) (st' := [.ref 159, .ref 159]) rfl ?_
          refine En_getK (j := 8) ((h34 _ _ (inW (by decide +kernel : TG 159 = 35) (by decide +kernel))).trans ((h18 _ _ (inW (by decide +kernel : TG 159 = 35) (by decide +kernel))).trans h5)) rfl rfl rfl (by decide +kernel : TG 159 = 35) (by decide +kernel) ?_
          refine En_put (j := 9) rfl rfl rfl (by decide +kernel : TG 159 = 35) (by decide +kernel) rfl (vI (l := 0) (u := 1600) (by decide +kernel) rfl (by omega) (by omega)) h33 h37 (by decide +kernel) (fun σ39 h40 h41 h42 h43 => ?_)
          rcases (show y1.toInt ≤ 1599 ∨ y1.toInt = 1600 by omega) with h44 | h44
          · refine En_Ps 2 (pc' := 49) (lv' := [(0, .ref 159)]) (st' := [.ref 159, .ref 159]) rfl ?_
            refine En_getK (j := 8) ((h43 _ _ (Or.inr (by decide))).trans ((h34 _ _ (inW (by decide +kernel : TG 159 = 35) (by decide +kernel))).trans ((h18 _ _ (inW (by decide +kernel : TG 159 = 35) (by decide +kernel))).trans h5))) rfl rfl rfl (by decide +kernel : TG 159 = 35) (by decide +kernel) ?_
            obtain ⟨z45, h46, h47, h48⟩ := WT_peekJ (J := (y1.toInt)) (l := (-128)) (u := 127) h40 (by decide +kernel : TG 163 = 39) (by decide +kernel) (by omega) (lnI (by decide +kernel : LN _ = 1600) (by omega)) (FTsgl (by decide +kernel))
            refine En_callV rfl rfl rfl rfl rfl rfl rfl rfl (by decide +kernel : TG 159 = 35) (by decide +kernel) rfl (c_313a σ39 h40 y1 (geI rfl (by omega)) (leI rfl (by omega)) z11 ((h43 _ _ (Or.inr (by decide))).trans ((h34 _ _ (inW (by decide +kernel : TG 159 = 35) (by decide +kernel))).trans ((h18 _ _ (inW (by decide +kernel : TG 159 = 35) (by decide +kernel))).trans h10))) z45 h46) (by decide) (by decide) (fun v50 σ51 h49 => ?_)
            obtain ⟨h52, h53, z55, rfl, h54⟩ := h49
            have h56 := Fr_trans h41 h53 (by decide +kernel)
            refine En_Ps 3 (pc' := 58) (lv' := [(1, .int z55), (0, .ref 159)]) (st' := [.int ((Int32.ofInt (-1))), .int z55]) rfl ?_
            refine En_icNe _ rfl (by decide : (Int32.ofInt (-1)).toInt = -1) rfl (fun h57 => ?_) (fun h57 => ?_)
            · refine En_Ps 4 (pc' := 77) (lv' := [(1, .int z55), (0, .ref 159)]) (st' := [.long ((122 : Int64)), .long ((97 : Int64)), .long z55.toInt64]) rfl ?_
              have : z55.toInt64.toInt = z55.toInt := (i2lI rfl)
              have := (by decide : ((97 : Int64)).toInt = 97)
              have := (by decide : ((122 : Int64)).toInt = 122)
              refine En_callS rfl rfl rfl rfl rfl rfl rfl rfl rfl (c_249 σ51 h52 z55.toInt64 ((97 : Int64)) ((122 : Int64))) (by decide) (by decide) (fun v59 σ60 h58 => ?_)
              obtain ⟨h61, h62, z64, rfl, h63⟩ := h58
              have h65 := Fr_trans h56 h62 (by decide +kernel)
              refine En_iEq _ rfl rfl (fun h66 => ?_) (fun h66 => ?_)
              · refine En_Ps 4 (pc' := 133) (lv' := [(1, .int z55), (0, .ref 159)]) (st' := [.long ((57 : Int64)), .long ((48 : Int64)), .long z55.toInt64]) rfl ?_
                have : z55.toInt64.toInt = z55.toInt := (i2lI rfl)
                have := (by decide : ((48 : Int64)).toInt = 48)
                have := (by decide : ((57 : Int64)).toInt = 57)
                refine En_callS rfl rfl rfl rfl rfl rfl rfl rfl rfl (c_249 σ60 h61 z55.toInt64 ((48 : Int64)) ((57 : Int64))) (by decide) (by decide) (fun v68 σ69 h67 => ?_)
                obtain ⟨h70, h71, z73, rfl, h72⟩ := h67
                have h74 := Fr_trans h65 h71 (by decide +kernel)
                refine En_iEq _ rfl rfl (fun h75 => ?_) (fun h75 => ?_)
                · refine En_Ps 3 (pc' := 218) (lv' := [(1, .int z55), (0, .ref 159)]) (st' := [.int (((Int8.ofInt 59).toInt32)), .int z55, .ref 159]) rfl ?_
                  refine En_icNe _ rfl (by decide : ((Int8.ofInt 59).toInt32).toInt = 59) rfl (fun h76 => ?_) (fun h76 => ?_)
                  · refine En_Ps 1 (pc' := 226) (lv' := [(1, .int z55), (0, .ref 159)]) (st' := [.int ((Int32.ofInt 4)), .ref 159]) rfl ?_
                    refine En_put (j := 10) rfl rfl rfl (by decide +kernel : TG 159 = 35) (by decide +kernel) rfl (vI (l := 0) (u := 4) (by decide +kernel) (by decide : (Int32.ofInt 4).toInt = 4) (by omega) (by omega)) h70 h74 (by decide +kernel) (fun σ77 h78 h79 h80 h81 => ?_)
                    refine En_Ps 2 (pc' := 231) (lv' := [(1, .int z55), (0, .ref 159)]) (st' := [.ref 159, .ref 159]) rfl ?_
                    refine En_getK (j := 8) ((h81 _ _ (Or.inr (by decide))).trans ((h71 _ _ (inW (by decide +kernel : TG 159 = 35) (by decide +kernel))).trans ((h62 _ _ (inW (by decide +kernel : TG 159 = 35) (by decide +kernel))).trans ((h53 _ _ (inW (by decide +kernel : TG 159 = 35) (by decide +kernel))).trans ((h43 _ _ (Or.inr (by decide))).trans ((h34 _ _ (inW (by decide +kernel : TG 159 = 35) (by decide +kernel))).trans ((h18 _ _ (inW (by decide +kernel : TG 159 = 35) (by decide +kernel))).trans h5))))))) rfl rfl rfl (by decide +kernel : TG 159 = 35) (by decide +kernel) ?_
                    refine En_Ps 2 (pc' := 236) (lv' := [(1, .int z55), (0, .ref 159)]) (st' := [.int ((y1 + ((Int32.ofInt 1)))), .ref 159]) rfl ?_
                    refine En_top (addI rfl (by decide : (Int32.ofInt 1).toInt = 1) (by omega) (by omega)) (fun z82 h83 => ?_)
                    refine En_put (j := 8) rfl rfl rfl (by decide +kernel : TG 159 = 35) (by decide +kernel) rfl (vI (l := 0) (u := 1600) (by decide +kernel) rfl (by omega) (by omega)) h78 h79 (by decide +kernel) (fun σ84 h85 h86 h87 h88 => ?_)
                    have := (by decide : (Int32.ofInt 4).toInt = 4)
                    exact En_ret (v := none) rfl rfl rfl ⟨h85, h86, z82, h87, (Int32.ofInt 4), ((h88 _ _ (Or.inr (by decide))).trans h80), rfl, (by omega)⟩
                  · refine En_Ps 2 (pc' := 226) (lv' := [(1, .int z55), (0, .ref 159)]) (st' := [.int ((Int32.ofInt 3)), .ref 159]) rfl ?_
                    refine En_put (j := 10) rfl rfl rfl (by decide +kernel : TG 159 = 35) (by decide +kernel) rfl (vI (l := 0) (u := 4) (by decide +kernel) (by decide : (Int32.ofInt 3).toInt = 3) (by omega) (by omega)) h70 h74 (by decide +kernel) (fun σ89 h90 h91 h92 h93 => ?_)
                    refine En_Ps 2 (pc' := 231) (lv' := [(1, .int z55), (0, .ref 159)]) (st' := [.ref 159, .ref 159]) rfl ?_
                    refine En_getK (j := 8) ((h93 _ _ (Or.inr (by decide))).trans ((h71 _ _ (inW (by decide +kernel : TG 159 = 35) (by decide +kernel))).trans ((h62 _ _ (inW (by decide +kernel : TG 159 = 35) (by decide +kernel))).trans ((h53 _ _ (inW (by decide +kernel : TG 159 = 35) (by decide +kernel))).trans ((h43 _ _ (Or.inr (by decide))).trans ((h34 _ _ (inW (by decide +kernel : TG 159 = 35) (by decide +kernel))).trans ((h18 _ _ (inW (by decide +kernel : TG 159 = 35) (by decide +kernel))).trans h5))))))) rfl rfl rfl (by decide +kernel : TG 159 = 35) (by decide +kernel) ?_
                    refine En_Ps 2 (pc' := 236) (lv' := [(1, .int z55), (0, .ref 159)]) (st' := [.int ((y1 + ((Int32.ofInt 1)))), .ref 159]) rfl ?_
                    refine En_top (addI rfl (by decide : (Int32.ofInt 1).toInt = 1) (by omega) (by omega)) (fun z94 h95 => ?_)
                    refine En_put (j := 8) rfl rfl rfl (by decide +kernel : TG 159 = 35) (by decide +kernel) rfl (vI (l := 0) (u := 1600) (by decide +kernel) rfl (by omega) (by omega)) h90 h91 (by decide +kernel) (fun σ96 h97 h98 h99 h100 => ?_)
                    have := (by decide : (Int32.ofInt 3).toInt = 3)
                    exact En_ret (v := none) rfl rfl rfl ⟨h97, h98, z94, h99, (Int32.ofInt 3), ((h100 _ _ (Or.inr (by decide))).trans h92), rfl, (by omega)⟩
                · refine En_Ps 2 (pc' := 141) (lv' := [(1, .int z55), (0, .ref 159)]) (st' := [.int ((Int32.ofInt 0)), .ref 159]) rfl ?_
                  refine En_put (j := 11) rfl rfl rfl (by decide +kernel : TG 159 = 35) (by decide +kernel) rfl (vI (l := 0) (u := 99999) (by decide +kernel) (by decide : (Int32.ofInt 0).toInt = 0) (by omega) (by omega)) h70 h74 (by decide +kernel) (fun σ101 h102 h103 h104 h105 => ?_)
                  refine En_Ps 2 (pc' := 146) (lv' := [(1, .int z55), (0, .ref 159)]) (st' := [.ref 159, .ref 159]) rfl ?_
                  refine En_getK (j := 8) ((h105 _ _ (Or.inr (by decide))).trans ((h71 _ _ (inW (by decide +kernel : TG 159 = 35) (by decide +kernel))).trans ((h62 _ _ (inW (by decide +kernel : TG 159 = 35) (by decide +kernel))).trans ((h53 _ _ (inW (by decide +kernel : TG 159 = 35) (by decide +kernel))).trans ((h43 _ _ (Or.inr (by decide))).trans ((h34 _ _ (inW (by decide +kernel : TG 159 = 35) (by decide +kernel))).trans ((h18 _ _ (inW (by decide +kernel : TG 159 = 35) (by decide +kernel))).trans h5))))))) rfl rfl rfl (by decide +kernel : TG 159 = 35) (by decide +kernel) ?_
                  refine En_callV rfl rfl rfl rfl rfl rfl rfl rfl (by decide +kernel : TG 159 = 35) (by decide +kernel) rfl (c_313a σ101 h102 y1 (geI rfl (by omega)) (leI rfl (by omega)) z11 ((h105 _ _ (Or.inr (by decide))).trans ((h71 _ _ (inW (by decide +kernel : TG 159 = 35) (by decide +kernel))).trans ((h62 _ _ (inW (by decide +kernel : TG 159 = 35) (by decide +kernel))).trans ((h53 _ _ (inW (by decide +kernel : TG 159 = 35) (by decide +kernel))).trans ((h43 _ _ (Or.inr (by decide))).trans ((h34 _ _ (inW (by decide +kernel : TG 159 = 35) (by decide +kernel))).trans ((h18 _ _ (inW (by decide +kernel : TG 159 = 35) (by decide +kernel))).trans h10))))))) z45 ((h105 _ _ (Or.inl (neTG (by decide +kernel : TG 163 = 39) (by decide +kernel : TG 159 = 35) (by decide)))).trans ((h71 _ _ (inWa (by decide +kernel : TG 163 = 39) (by decide +kernel))).trans ((h62 _ _ (inWa (by decide +kernel : TG 163 = 39) (by decide +kernel))).trans ((h53 _ _ (inWa (by decide +kernel : TG 163 = 39) (by decide +kernel))).trans h46))))) (by decide) (by decide) (fun v107 σ108 h106 => ?_)
                  obtain ⟨h109, h110, z112, rfl, h111⟩ := h106
                  have h113 := Fr_trans h103 h110 (by decide +kernel)
                  refine En_Ps 3 (pc' := 159) (lv' := [(1, .int z55), (0, .ref 159)]) (st' := [.long ((57 : Int64)), .long ((48 : Int64)), .long z112.toInt64]) rfl ?_
                  have : z112.toInt64.toInt = z112.toInt := (i2lI rfl)
                  have := (by decide : ((48 : Int64)).toInt = 48)
                  have := (by decide : ((57 : Int64)).toInt = 57)
                  refine En_callS rfl rfl rfl rfl rfl rfl rfl rfl rfl (c_249 σ108 h109 z112.toInt64 ((48 : Int64)) ((57 : Int64))) (by decide) (by decide) (fun v115 σ116 h114 => ?_)
                  obtain ⟨h117, h118, z120, rfl, h119⟩ := h114
                  have h121 := Fr_trans h113 h118 (by decide +kernel)
                  refine En_iEq _ rfl rfl (fun hx => by exfalso; omega) (fun h122 => ?_)
                  refine En_Ps 4 (pc' := 171) (lv' := [(1, .int z55), (0, .ref 159)]) (st' := [.ref 159, .int (((Int8.ofInt 10).toInt32)), .int ((99999 : Int32)), .ref 159]) rfl ?_
                  refine En_getK (j := 11) ((h118 _ _ (inW (by decide +kernel : TG 159 = 35) (by decide +kernel))).trans ((h110 _ _ (inW (by decide +kernel : TG 159 = 35) (by decide +kernel))).trans h104)) rfl rfl rfl (by decide +kernel : TG 159 = 35) (by decide +kernel) ?_
                  refine En_Ps 1 (pc' := 175) (lv' := [(1, .int z55), (0, .ref 159)]) (st' := [.int (((((Int8.ofInt 10).toInt32)) * ((Int32.ofInt 0)))), .int ((99999 : Int32)), .ref 159]) rfl ?_
                  refine En_top (mulI (by decide : ((Int8.ofInt 10).toInt32).toInt = 10) (by decide : (Int32.ofInt 0).toInt = 0) (Z := 0) (by omega) (by omega) (by omega)) (fun z123 h124 => ?_)
                  refine En_Ps 2 (pc' := 177) (lv' := [(1, .int z55), (0, .ref 159)]) (st' := [.ref 159, .ref 159, .int z123, .int ((99999 : Int32)), .ref 159]) rfl ?_
                  refine En_getK (j := 8) ((h118 _ _ (inW (by decide +kernel : TG 159 = 35) (by decide +kernel))).trans ((h110 _ _ (inW (by decide +kernel : TG 159 = 35) (by decide +kernel))).trans ((h105 _ _ (Or.inr (by decide))).trans ((h71 _ _ (inW (by decide +kernel : TG 159 = 35) (by decide +kernel))).trans ((h62 _ _ (inW (by decide +kernel : TG 159 = 35) (by decide +kernel))).trans ((h53 _ _ (inW (by decide +kernel : TG 159 = 35) (by decide +kernel))).trans ((h43 _ _ (Or.inr (by decide))).trans ((h34 _ _ (inW (by decide +kernel : TG 159 = 35) (by decide +kernel))).trans ((h18 _ _ (inW (by decide +kernel : TG 159 = 35) (by decide +kernel))).trans h5))))))))) rfl rfl rfl (by decide +kernel : TG 159 = 35) (by decide +kernel) ?_
                  refine En_callV rfl rfl rfl rfl rfl rfl rfl rfl (by decide +kernel : TG 159 = 35) (by decide +kernel) rfl (c_313a σ116 h117 y1 (geI rfl (by omega)) (leI rfl (by omega)) z11 ((h118 _ _ (inW (by decide +kernel : TG 159 = 35) (by decide +kernel))).trans ((h110 _ _ (inW (by decide +kernel : TG 159 = 35) (by decide +kernel))).trans ((h105 _ _ (Or.inr (by decide))).trans ((h71 _ _ (inW (by decide +kernel : TG 159 = 35) (by decide +kernel))).trans ((h62 _ _ (inW (by decide +kernel : TG 159 = 35) (by decide +kernel))).trans ((h53 _ _ (inW (by decide +kernel : TG 159 = 35) (by decide +kernel))).trans ((h43 _ _ (Or.inr (by decide))).trans ((h34 _ _ (inW (by decide +kernel : TG 159 = 35) (by decide +kernel))).trans ((h18 _ _ (inW (by decide +kernel : TG 159 = 35) (by decide +kernel))).trans h10))))))))) z45 ((h118 _ _ (inWa (by decide +kernel : TG 163 = 39) (by decide +kernel))).trans ((h110 _ _ (inWa (by decide +kernel : TG 163 = 39) (by decide +kernel))).trans ((h105 _ _ (Or.inl (neTG (by decide +kernel : TG 163 = 39) (by decide +kernel : TG 159 = 35) (by decide)))).trans ((h71 _ _ (inWa (by decide +kernel : TG 163 = 39) (by decide +kernel))).trans ((h62 _ _ (inWa (by decide +kernel : TG 163 = 39) (by decide +kernel))).trans ((h53 _ _ (inWa (by decide +kernel : TG 163 = 39) (by decide +kernel))).trans h46))))))) (by decide) (by decide) (fun v126 σ127 h125 => ?_)
                  obtain ⟨h128, h129, z131, rfl, h130⟩ := h125
                  have h132 := Fr_trans h121 h129 (by decide +kernel)
                  refine En_Ps 1 (pc' := 184) (lv' := [(1, .int z55), (0, .ref 159)]) (st' := [.int ((z123 + z131)), .int ((99999 : Int32)), .ref 159]) rfl ?_
                  refine En_top (addI rfl rfl (by omega) (by omega)) (fun z133 h134 => ?_)
                  refine En_Ps 2 (pc' := 187) (lv' := [(1, .int z55), (0, .ref 159)]) (st' := [.int ((z133 - (((Int8.ofInt 48).toInt32)))), .int ((99999 : Int32)), .ref 159]) rfl ?_
                  refine En_top (subI rfl (by decide : ((Int8.ofInt 48).toInt32).toInt = 48) (by omega) (by omega)) (fun z135 h136 => ?_)
                  have := (by decide : ((99999 : Int32)).toInt = 99999)
                  refine En_callS rfl rfl rfl rfl rfl rfl rfl rfl rfl (c_11 σ127 h128 ((99999 : Int32)) z135) (by decide) (by decide) (fun v138 σ139 h137 => ?_)
                  obtain ⟨h140, h141, z143, rfl, h142⟩ := h137
                  have h144 := Fr_trans h132 h141 (by decide +kernel)
                  refine En_put (j := 11) rfl rfl rfl (by decide +kernel : TG 159 = 35) (by decide +kernel) rfl (vI (l := 0) (u := 99999) (by decide +kernel) rfl (by omega) (by omega)) h140 h144 (by decide +kernel) (fun σ145 h146 h147 h148 h149 => ?_)
                  refine En_Ps 2 (pc' := 195) (lv' := [(1, .int z55), (0, .ref 159)]) (st' := [.ref 159, .ref 159]) rfl ?_
                  refine En_getK (j := 8) ((h149 _ _ (Or.inr (by decide))).trans ((h141 _ _ (inW (by decide +kernel : TG 159 = 35) (by decide +kernel))).trans ((h129 _ _ (inW (by decide +kernel : TG 159 = 35) (by decide +kernel))).trans ((h118 _ _ (inW (by decide +kernel : TG 159 = 35) (by decide +kernel))).trans ((h110 _ _ (inW (by decide +kernel : TG 159 = 35) (by decide +kernel))).trans ((h105 _ _ (Or.inr (by decide))).trans ((h71 _ _ (inW (by decide +kernel : TG 159 = 35) (by decide +kernel))).trans ((h62 _ _ (inW (by decide +kernel : TG 159 = 35) (by decide +kernel))).trans ((h53 _ _ (inW (by decide +kernel : TG 159 = 35) (by decide +kernel))).trans ((h43 _ _ (Or.inr (by decide))).trans ((h34 _ _ (inW (by decide +kernel : TG 159 = 35) (by decide +kernel))).trans ((h18 _ _ (inW (by decide +kernel : TG 159 = 35) (by decide +kernel))).trans h5)))))))))))) rfl rfl rfl (by decide +kernel : TG 159 = 35) (by decide +kernel) ?_
                  refine En_Ps 2 (pc' := 200) (lv' := [(1, .int z55), (0, .ref 159)]) (st' := [.int ((y1 + ((Int32.ofInt 1)))), .ref 159]) rfl ?_
                  refine En_top (addI rfl (by decide : (Int32.ofInt 1).toInt = 1) (by omega) (by omega)) (fun z150 h151 => ?_)
                  refine En_put (j := 8) rfl rfl rfl (by decide +kernel : TG 159 = 35) (by decide +kernel) rfl (vI (l := 0) (u := 1600) (by decide +kernel) rfl (by omega) (by omega)) h146 h147 (by decide +kernel) (fun σ152 h153 h154 h155 h156 => ?_)
                  refine En_Ps 1 (pc' := 144) (lv' := [(1, .int z55), (0, .ref 159)]) (st' := []) rfl ?_
                  have key144 : ∀ (n144 : Nat) (σ159 : SG) (y157 : Int32) (y158 : Int32), WT σ159 → Fr [(35, 8), (35, 9), (35, 10), (35, 11)] σ0 σ159 → (σ159 159)[7]? = some (.int z11) → (σ159 159)[9]? = some (.int y1) → (σ159 163)[(y1.toInt).toNat]? = some (.int z45) → (σ159 159)[11]? = some (.int y157) → (σ159 159)[8]? = some (.int y158) → 0 ≤ y157.toInt → y157.toInt ≤ 99999 → 1 ≤ y158.toInt → y158.toInt ≤ 1600 → y158.toInt - z11.toInt ≤ 0 → z150.toInt - y158.toInt ≤ 0 → z11.toInt - y158.toInt < (n144 : Int) → En 1 25 none mr_189 (P_189 σ0 f) 144 [(0, .ref 159), (1, .int z55)] [] σ159 := by
                    intro n144
                    induction n144 with
                    | zero =>
                      intro σ159 y157 y158 h160 h161 h162 h163 h164 h165 h166 h167 h168 h169 h170 h171 h172 h173
                      exfalso; omega
                    | succ n144 ih144 =>
                      intro σ159 y157 y158 h160 h161 h162 h163 h164 h165 h166 h167 h168 h169 h170 h171 h172 h173
                      rcases (show y158.toInt ≤ 1599 ∨ y158.toInt = 1600 by omega) with h174 | h174
                      · refine En_Ps 2 (pc' := 146) (lv' := [(0, .ref 159), (1, .int z55)]) (st' := [.ref 159, .ref 159]) rfl ?_
                        refine En_getK (j := 8) h166 rfl rfl rfl (by decide +kernel : TG 159 = 35) (by decide +kernel) ?_
                        obtain ⟨z175, h176, h177, h178⟩ := WT_peekJ (J := (y158.toInt)) (l := (-128)) (u := 127) h160 (by decide +kernel : TG 163 = 39) (by decide +kernel) (by omega) (lnI (by decide +kernel : LN _ = 1600) (by omega)) (FTsgl (by decide +kernel))
                        refine En_callV rfl rfl rfl rfl rfl rfl rfl rfl (by decide +kernel : TG 159 = 35) (by decide +kernel) rfl (c_313a σ159 h160 y158 (geI rfl (by omega)) (leI rfl (by omega)) z11 h162 z175 h176) (by decide) (by decide) (fun v180 σ181 h179 => ?_)
                        obtain ⟨h182, h183, z185, rfl, h184⟩ := h179
                        have h186 := Fr_trans h161 h183 (by decide +kernel)
                        refine En_Ps 3 (pc' := 159) (lv' := [(0, .ref 159), (1, .int z55)]) (st' := [.long ((57 : Int64)), .long ((48 : Int64)), .long z185.toInt64]) rfl ?_
                        have : z185.toInt64.toInt = z185.toInt := (i2lI rfl)
                        have := (by decide : ((48 : Int64)).toInt = 48)
                        have := (by decide : ((57 : Int64)).toInt = 57)
                        refine En_callS rfl rfl rfl rfl rfl rfl rfl rfl rfl (c_249 σ181 h182 z185.toInt64 ((48 : Int64)) ((57 : Int64))) (by decide) (by decide) (fun v188 σ189 h187 => ?_)
                        obtain ⟨h190, h191, z193, rfl, h192⟩ := h187
                        have h194 := Fr_trans h186 h191 (by decide +kernel)
                        refine En_iEq _ rfl rfl (fun h195 => ?_) (fun h195 => ?_)
                        · refine En_Ps 2 (pc' := 208) (lv' := [(0, .ref 159), (1, .int z55)]) (st' := [.int ((Int32.ofInt 2)), .ref 159]) rfl ?_
                          refine En_put (j := 10) rfl rfl rfl (by decide +kernel : TG 159 = 35) (by decide +kernel) rfl (vI (l := 0) (u := 4) (by decide +kernel) (by decide : (Int32.ofInt 2).toInt = 2) (by omega) (by omega)) h190 h194 (by decide +kernel) (fun σ196 h197 h198 h199 h200 => ?_)
                          refine En_Ps 1 (pc' := 239) (lv' := [(0, .ref 159), (1, .int z55)]) (st' := []) rfl ?_
                          have := (by decide : (Int32.ofInt 2).toInt = 2)
                          exact En_ret (v := none) rfl rfl rfl ⟨h197, h198, y158, ((h200 _ _ (Or.inr (by decide))).trans ((h191 _ _ (inW (by decide +kernel : TG 159 = 35) (by decide +kernel))).trans ((h183 _ _ (inW (by decide +kernel : TG 159 = 35) (by decide +kernel))).trans h166))), (Int32.ofInt 2), h199, rfl, (by omega)⟩
                        · refine En_Ps 4 (pc' := 171) (lv' := [(0, .ref 159), (1, .int z55)]) (st' := [.ref 159, .int (((Int8.ofInt 10).toInt32)), .int ((99999 : Int32)), .ref 159]) rfl ?_
                          refine En_getK (j := 11) ((h191 _ _ (inW (by decide +kernel : TG 159 = 35) (by decide +kernel))).trans ((h183 _ _ (inW (by decide +kernel : TG 159 = 35) (by decide +kernel))).trans h165)) rfl rfl rfl (by decide +kernel : TG 159 = 35) (by decide +kernel) ?_
                          refine En_Ps 1 (pc' := 175) (lv' := [(0, .ref 159), (1, .int z55)]) (st' := [.int (((((Int8.ofInt 10).toInt32)) * y157)), .int ((99999 : Int32)), .ref 159]) rfl ?_
                          refine En_top (mulI (by decide : ((Int8.ofInt 10).toInt32).toInt = 10) rfl (Z := 10 * y157.toInt) (by omega) (by omega) (by omega)) (fun z201 h202 => ?_)
                          refine En_Ps 2 (pc' := 177) (lv' := [(0, .ref 159), (1, .int z55)]) (st' := [.ref 159, .ref 159, .int z201, .int ((99999 : Int32)), .ref 159]) rfl ?_
                          refine En_getK (j := 8) ((h191 _ _ (inW (by decide +kernel : TG 159 = 35) (by decide +kernel))).trans ((h183 _ _ (inW (by decide +kernel : TG 159 = 35) (by decide +kernel))).trans h166)) rfl rfl rfl (by decide +kernel : TG 159 = 35) (by decide +kernel) ?_
                          refine En_callV rfl rfl rfl rfl rfl rfl rfl rfl (by decide +kernel : TG 159 = 35) (by decide +kernel) rfl (c_313a σ189 h190 y158 (geI rfl (by omega)) (leI rfl (by omega)) z11 ((h191 _ _ (inW (by decide +kernel : TG 159 = 35) (by decide +kernel))).trans ((h183 _ _ (inW (by decide +kernel : TG 159 = 35) (by decide +kernel))).trans h162)) z175 ((h191 _ _ (inWa (by decide +kernel : TG 163 = 39) (by decide +kernel))).trans ((h183 _ _ (inWa (by decide +kernel : TG 163 = 39) (by decide +kernel))).trans h176))) (by decide) (by decide) (fun v204 σ205 h203 => ?_)
                          obtain ⟨h206, h207, z209, rfl, h208⟩ := h203
                          have h210 := Fr_trans h194 h207 (by decide +kernel)
                          refine En_Ps 1 (pc' := 184) (lv' := [(0, .ref 159), (1, .int z55)]) (st' := [.int ((z201 + z209)), .int ((99999 : Int32)), .ref 159]) rfl ?_
                          refine En_top (addI rfl rfl (by omega) (by omega)) (fun z211 h212 => ?_)
                          refine En_Ps 2 (pc' := 187) (lv' := [(0, .ref 159), (1, .int z55)]) (st' := [.int ((z211 - (((Int8.ofInt 48).toInt32)))), .int ((99999 : Int32)), .ref 159]) rfl ?_
                          refine En_top (subI rfl (by decide : ((Int8.ofInt 48).toInt32).toInt = 48) (by omega) (by omega)) (fun z213 h214 => ?_)
                          have := (by decide : ((99999 : Int32)).toInt = 99999)
                          refine En_callS rfl rfl rfl rfl rfl rfl rfl rfl rfl (c_11 σ205 h206 ((99999 : Int32)) z213) (by decide) (by decide) (fun v216 σ217 h215 => ?_)
                          obtain ⟨h218, h219, z221, rfl, h220⟩ := h215
                          have h222 := Fr_trans h210 h219 (by decide +kernel)
                          refine En_put (j := 11) rfl rfl rfl (by decide +kernel : TG 159 = 35) (by decide +kernel) rfl (vI (l := 0) (u := 99999) (by decide +kernel) rfl (by omega) (by omega)) h218 h222 (by decide +kernel) (fun σ223 h224 h225 h226 h227 => ?_)
                          refine En_Ps 2 (pc' := 195) (lv' := [(0, .ref 159), (1, .int z55)]) (st' := [.ref 159, .ref 159]) rfl ?_
                          refine En_getK (j := 8) ((h227 _ _ (Or.inr (by decide))).trans ((h219 _ _ (inW (by decide +kernel : TG 159 = 35) (by decide +kernel))).trans ((h207 _ _ (inW (by decide +kernel : TG 159 = 35) (by decide +kernel))).trans ((h191 _ _ (inW (by decide +kernel : TG 159 = 35) (by decide +kernel))).trans ((h183 _ _ (inW (by decide +kernel : TG 159 = 35) (by decide +kernel))).trans h166))))) rfl rfl rfl (by decide +kernel : TG 159 = 35) (by decide +kernel) ?_
                          refine En_Ps 2 (pc' := 200) (lv' := [(0, .ref 159), (1, .int z55)]) (st' := [.int ((y158 + ((Int32.ofInt 1)))), .ref 159]) rfl ?_
                          refine En_top (addI rfl (by decide : (Int32.ofInt 1).toInt = 1) (by omega) (by omega)) (fun z228 h229 => ?_)
                          refine En_put (j := 8) rfl rfl rfl (by decide +kernel : TG 159 = 35) (by decide +kernel) rfl (vI (l := 0) (u := 1600) (by decide +kernel) rfl (by omega) (by omega)) h224 h225 (by decide +kernel) (fun σ230 h231 h232 h233 h234 => ?_)
                          refine En_Ps 1 (pc' := 144) (lv' := [(0, .ref 159), (1, .int z55)]) (st' := []) rfl ?_
                          exact ih144 σ230 z221 z228 h231 h232 ((h234 _ _ (Or.inr (by decide))).trans ((h227 _ _ (Or.inr (by decide))).trans ((h219 _ _ (inW (by decide +kernel : TG 159 = 35) (by decide +kernel))).trans ((h207 _ _ (inW (by decide +kernel : TG 159 = 35) (by decide +kernel))).trans ((h191 _ _ (inW (by decide +kernel : TG 159 = 35) (by decide +kernel))).trans ((h183 _ _ (inW (by decide +kernel : TG 159 = 35) (by decide +kernel))).trans h162)))))) ((h234 _ _ (Or.inr (by decide))).trans ((h227 _ _ (Or.inr (by decide))).trans ((h219 _ _ (inW (by decide +kernel : TG 159 = 35) (by decide +kernel))).trans ((h207 _ _ (inW (by decide +kernel : TG 159 = 35) (by decide +kernel))).trans ((h191 _ _ (inW (by decide +kernel : TG 159 = 35) (by decide +kernel))).trans ((h183 _ _ (inW (by decide +kernel : TG 159 = 35) (by decide +kernel))).trans h163)))))) ((h234 _ _ (Or.inl (neTG (by decide +kernel : TG 163 = 39) (by decide +kernel : TG 159 = 35) (by decide)))).trans ((h227 _ _ (Or.inl (neTG (by decide +kernel : TG 163 = 39) (by decide +kernel : TG 159 = 35) (by decide)))).trans ((h219 _ _ (inWa (by decide +kernel : TG 163 = 39) (by decide +kernel))).trans ((h207 _ _ (inWa (by decide +kernel : TG 163 = 39) (by decide +kernel))).trans ((h191 _ _ (inWa (by decide +kernel : TG 163 = 39) (by decide +kernel))).trans ((h183 _ _ (inWa (by decide +kernel : TG 163 = 39) (by decide +kernel))).trans h164)))))) ((h234 _ _ (Or.inr (by decide))).trans h226) h233 (by omega) (by omega) (by omega) (by omega) (by omega) (by omega) (by omega)
                      · refine En_Ps 2 (pc' := 146) (lv' := [(0, .ref 159), (1, .int z55)]) (st' := [.ref 159, .ref 159]) rfl ?_
                        refine En_getK (j := 8) h166 rfl rfl rfl (by decide +kernel : TG 159 = 35) (by decide +kernel) ?_
                        refine En_callV rfl rfl rfl rfl rfl rfl rfl rfl (by decide +kernel : TG 159 = 35) (by decide +kernel) rfl (c_313b σ159 h160 y158 (geI rfl (by omega)) (leI rfl (by omega)) z11 h162) (by decide) (by decide) (fun v236 σ237 h235 => ?_)
                        obtain ⟨h238, h239, z241, rfl, h240⟩ := h235
                        have h242 := Fr_trans h161 h239 (by decide +kernel)
                        refine En_Ps 3 (pc' := 159) (lv' := [(0, .ref 159), (1, .int z55)]) (st' := [.long ((57 : Int64)), .long ((48 : Int64)), .long z241.toInt64]) rfl ?_
                        have : z241.toInt64.toInt = z241.toInt := (i2lI rfl)
                        have := (by decide : ((48 : Int64)).toInt = 48)
                        have := (by decide : ((57 : Int64)).toInt = 57)
                        refine En_callS rfl rfl rfl rfl rfl rfl rfl rfl rfl (c_249 σ237 h238 z241.toInt64 ((48 : Int64)) ((57 : Int64))) (by decide) (by decide) (fun v244 σ245 h243 => ?_)
                        obtain ⟨h246, h247, z249, rfl, h248⟩ := h243
                        have h250 := Fr_trans h242 h247 (by decide +kernel)
                        refine En_iEq _ rfl rfl (fun h251 => ?_) (fun hx => by exfalso; omega)
                        refine En_Ps 2 (pc' := 208) (lv' := [(0, .ref 159), (1, .int z55)]) (st' := [.int ((Int32.ofInt 2)), .ref 159]) rfl ?_
                        refine En_put (j := 10) rfl rfl rfl (by decide +kernel : TG 159 = 35) (by decide +kernel) rfl (vI (l := 0) (u := 4) (by decide +kernel) (by decide : (Int32.ofInt 2).toInt = 2) (by omega) (by omega)) h246 h250 (by decide +kernel) (fun σ252 h253 h254 h255 h256 => ?_)
                        refine En_Ps 1 (pc' := 239) (lv' := [(0, .ref 159), (1, .int z55)]) (st' := []) rfl ?_
                        have := (by decide : (Int32.ofInt 2).toInt = 2)
                        exact En_ret (v := none) rfl rfl rfl ⟨h253, h254, y158, ((h256 _ _ (Or.inr (by decide))).trans ((h247 _ _ (inW (by decide +kernel : TG 159 = 35) (by decide +kernel))).trans ((h239 _ _ (inW (by decide +kernel : TG 159 = 35) (by decide +kernel))).trans h166))), (Int32.ofInt 2), h255, rfl, (by omega)⟩
                  refine En_lv (lv := [(0, .ref 159), (1, .int z55)]) ⟨rfl, rfl, trivial⟩ ?_
                  exact key144 (Int.toNat (z11.toInt - z150.toInt) + 1) σ152 z143 z150 h153 h154 ((h156 _ _ (Or.inr (by decide))).trans ((h149 _ _ (Or.inr (by decide))).trans ((h141 _ _ (inW (by decide +kernel : TG 159 = 35) (by decide +kernel))).trans ((h129 _ _ (inW (by decide +kernel : TG 159 = 35) (by decide +kernel))).trans ((h118 _ _ (inW (by decide +kernel : TG 159 = 35) (by decide +kernel))).trans ((h110 _ _ (inW (by decide +kernel : TG 159 = 35) (by decide +kernel))).trans ((h105 _ _ (Or.inr (by decide))).trans ((h71 _ _ (inW (by decide +kernel : TG 159 = 35) (by decide +kernel))).trans ((h62 _ _ (inW (by decide +kernel : TG 159 = 35) (by decide +kernel))).trans ((h53 _ _ (inW (by decide +kernel : TG 159 = 35) (by decide +kernel))).trans ((h43 _ _ (Or.inr (by decide))).trans ((h34 _ _ (inW (by decide +kernel : TG 159 = 35) (by decide +kernel))).trans ((h18 _ _ (inW (by decide +kernel : TG 159 = 35) (by decide +kernel))).trans h10))))))))))))) ((h156 _ _ (Or.inr (by decide))).trans ((h149 _ _ (Or.inr (by decide))).trans ((h141 _ _ (inW (by decide +kernel : TG 159 = 35) (by decide +kernel))).trans ((h129 _ _ (inW (by decide +kernel : TG 159 = 35) (by decide +kernel))).trans ((h118 _ _ (inW (by decide +kernel : TG 159 = 35) (by decide +kernel))).trans ((h110 _ _ (inW (by decide +kernel : TG 159 = 35) (by decide +kernel))).trans ((h105 _ _ (Or.inr (by decide))).trans ((h71 _ _ (inW (by decide +kernel : TG 159 = 35) (by decide +kernel))).trans ((h62 _ _ (inW (by decide +kernel : TG 159 = 35) (by decide +kernel))).trans ((h53 _ _ (inW (by decide +kernel : TG 159 = 35) (by decide +kernel))).trans h42)))))))))) ((h156 _ _ (Or.inl (neTG (by decide +kernel : TG 163 = 39) (by decide +kernel : TG 159 = 35) (by decide)))).trans ((h149 _ _ (Or.inl (neTG (by decide +kernel : TG 163 = 39) (by decide +kernel : TG 159 = 35) (by decide)))).trans ((h141 _ _ (inWa (by decide +kernel : TG 163 = 39) (by decide +kernel))).trans ((h129 _ _ (inWa (by decide +kernel : TG 163 = 39) (by decide +kernel))).trans ((h118 _ _ (inWa (by decide +kernel : TG 163 = 39) (by decide +kernel))).trans ((h110 _ _ (inWa (by decide +kernel : TG 163 = 39) (by decide +kernel))).trans ((h105 _ _ (Or.inl (neTG (by decide +kernel : TG 163 = 39) (by decide +kernel : TG 159 = 35) (by decide)))).trans ((h71 _ _ (inWa (by decide +kernel : TG 163 = 39) (by decide +kernel))).trans ((h62 _ _ (inWa (by decide +kernel : TG 163 = 39) (by decide +kernel))).trans ((h53 _ _ (inWa (by decide +kernel : TG 163 = 39) (by decide +kernel))).trans h46)))))))))) ((h156 _ _ (Or.inr (by decide))).trans h148) h155 (by omega) (by omega) (by omega) (by omega) (by omega) (by omega) (by omega)
              · refine En_Ps 2 (pc' := 85) (lv' := [(1, .int z55), (0, .ref 159)]) (st' := [.ref 159, .ref 159]) rfl ?_
                refine En_getK (j := 8) ((h62 _ _ (inW (by decide +kernel : TG 159 = 35) (by decide +kernel))).trans ((h53 _ _ (inW (by decide +kernel : TG 159 = 35) (by decide +kernel))).trans ((h43 _ _ (Or.inr (by decide))).trans ((h34 _ _ (inW (by decide +kernel : TG 159 = 35) (by decide +kernel))).trans ((h18 _ _ (inW (by decide +kernel : TG 159 = 35) (by decide +kernel))).trans h5))))) rfl rfl rfl (by decide +kernel : TG 159 = 35) (by decide +kernel) ?_
                refine En_callV rfl rfl rfl rfl rfl rfl rfl rfl (by decide +kernel : TG 159 = 35) (by decide +kernel) rfl (c_313a σ60 h61 y1 (geI rfl (by omega)) (leI rfl (by omega)) z11 ((h62 _ _ (inW (by decide +kernel : TG 159 = 35) (by decide +kernel))).trans ((h53 _ _ (inW (by decide +kernel : TG 159 = 35) (by decide +kernel))).trans ((h43 _ _ (Or.inr (by decide))).trans ((h34 _ _ (inW (by decide +kernel : TG 159 = 35) (by decide +kernel))).trans ((h18 _ _ (inW (by decide +kernel : TG 159 = 35) (by decide +kernel))).trans h10))))) z45 ((h62 _ _ (inWa (by decide +kernel : TG 163 = 39) (by decide +kernel))).trans ((h53 _ _ (inWa (by decide +kernel : TG 163 = 39) (by decide +kernel))).trans h46))) (by decide) (by decide) (fun v258 σ259 h257 => ?_)
                obtain ⟨h260, h261, z263, rfl, h262⟩ := h257
                have h264 := Fr_trans h65 h261 (by decide +kernel)
                refine En_Ps 3 (pc' := 98) (lv' := [(1, .int z55), (0, .ref 159)]) (st' := [.long ((122 : Int64)), .long ((97 : Int64)), .long z263.toInt64]) rfl ?_
                have : z263.toInt64.toInt = z263.toInt := (i2lI rfl)
                have := (by decide : ((97 : Int64)).toInt = 97)
                have := (by decide : ((122 : Int64)).toInt = 122)
                refine En_callS rfl rfl rfl rfl rfl rfl rfl rfl rfl (c_249 σ259 h260 z263.toInt64 ((97 : Int64)) ((122 : Int64))) (by decide) (by decide) (fun v266 σ267 h265 => ?_)
                obtain ⟨h268, h269, z271, rfl, h270⟩ := h265
                have h272 := Fr_trans h264 h269 (by decide +kernel)
                refine En_iEq _ rfl rfl (fun hx => by exfalso; omega) (fun h273 => ?_)
                refine En_Ps 2 (pc' := 106) (lv' := [(1, .int z55), (0, .ref 159)]) (st' := [.ref 159, .ref 159]) rfl ?_
                refine En_getK (j := 8) ((h269 _ _ (inW (by decide +kernel : TG 159 = 35) (by decide +kernel))).trans ((h261 _ _ (inW (by decide +kernel : TG 159 = 35) (by decide +kernel))).trans ((h62 _ _ (inW (by decide +kernel : TG 159 = 35) (by decide +kernel))).trans ((h53 _ _ (inW (by decide +kernel : TG 159 = 35) (by decide +kernel))).trans ((h43 _ _ (Or.inr (by decide))).trans ((h34 _ _ (inW (by decide +kernel : TG 159 = 35) (by decide +kernel))).trans ((h18 _ _ (inW (by decide +kernel : TG 159 = 35) (by decide +kernel))).trans h5))))))) rfl rfl rfl (by decide +kernel : TG 159 = 35) (by decide +kernel) ?_
                refine En_Ps 2 (pc' := 111) (lv' := [(1, .int z55), (0, .ref 159)]) (st' := [.int ((y1 + ((Int32.ofInt 1)))), .ref 159]) rfl ?_
                refine En_top (addI rfl (by decide : (Int32.ofInt 1).toInt = 1) (by omega) (by omega)) (fun z274 h275 => ?_)
                refine En_put (j := 8) rfl rfl rfl (by decide +kernel : TG 159 = 35) (by decide +kernel) rfl (vI (l := 0) (u := 1600) (by decide +kernel) rfl (by omega) (by omega)) h268 h272 (by decide +kernel) (fun σ276 h277 h278 h279 h280 => ?_)
                refine En_Ps 1 (pc' := 83) (lv' := [(1, .int z55), (0, .ref 159)]) (st' := []) rfl ?_
                have key83 : ∀ (n83 : Nat) (σ282 : SG) (y281 : Int32), WT σ282 → Fr [(35, 8), (35, 9), (35, 10), (35, 11)] σ0 σ282 → (σ282 159)[7]? = some (.int z11) → (σ282 159)[9]? = some (.int y1) → (σ282 163)[(y1.toInt).toNat]? = some (.int z45) → (σ282 159)[8]? = some (.int y281) → 1 ≤ y281.toInt → y281.toInt ≤ 1600 → y281.toInt - z11.toInt ≤ 0 → z274.toInt - y281.toInt ≤ 0 → z11.toInt - y281.toInt < (n83 : Int) → En 1 25 none mr_189 (P_189 σ0 f) 83 [(0, .ref 159), (1, .int z55)] [] σ282 := by
                  intro n83
                  induction n83 with
                  | zero =>
                    intro σ282 y281 h283 h284 h285 h286 h287 h288 h289 h290 h291 h292 h293
                    exfalso; omega
                  | succ n83 ih83 =>
                    intro σ282 y281 h283 h284 h285 h286 h287 h288 h289 h290 h291 h292 h293
                    rcases (show y281.toInt ≤ 1599 ∨ y281.toInt = 1600 by omega) with h294 | h294
                    · refine En_Ps 2 (pc' := 85) (lv' := [(0, .ref 159), (1, .int z55)]) (st' := [.ref 159, .ref 159]) rfl ?_
                      refine En_getK (j := 8) h288 rfl rfl rfl (by decide +kernel : TG 159 = 35) (by decide +kernel) ?_
                      obtain ⟨z295, h296, h297, h298⟩ := WT_peekJ (J := (y281.toInt)) (l := (-128)) (u := 127) h283 (by decide +kernel : TG 163 = 39) (by decide +kernel) (by omega) (lnI (by decide +kernel : LN _ = 1600) (by omega)) (FTsgl (by decide +kernel))
                      refine En_callV rfl rfl rfl rfl rfl rfl rfl rfl (by decide +kernel : TG 159 = 35) (by decide +kernel) rfl (c_313a σ282 h283 y281 (geI rfl (by omega)) (leI rfl (by omega)) z11 h285 z295 h296) (by decide) (by decide) (fun v300 σ301 h299 => ?_)
                      obtain ⟨h302, h303, z305, rfl, h304⟩ := h299
                      have h306 := Fr_trans h284 h303 (by decide +kernel)
                      refine En_Ps 3 (pc' := 98) (lv' := [(0, .ref 159), (1, .int z55)]) (st' := [.long ((122 : Int64)), .long ((97 : Int64)), .long z305.toInt64]) rfl ?_
                      have : z305.toInt64.toInt = z305.toInt := (i2lI rfl)
                      have := (by decide : ((97 : Int64)).toInt = 97)
                      have := (by decide : ((122 : Int64)).toInt = 122)
                      refine En_callS rfl rfl rfl rfl rfl rfl rfl rfl rfl (c_249 σ301 h302 z305.toInt64 ((97 : Int64)) ((122 : Int64))) (by decide) (by decide) (fun v308 σ309 h307 => ?_)
                      obtain ⟨h310, h311, z313, rfl, h312⟩ := h307
                      have h314 := Fr_trans h306 h311 (by decide +kernel)
                      refine En_iEq _ rfl rfl (fun h315 => ?_) (fun h315 => ?_)
                      · refine En_Ps 2 (pc' := 119) (lv' := [(0, .ref 159), (1, .int z55)]) (st' := [.int ((Int32.ofInt 1)), .ref 159]) rfl ?_
                        refine En_put (j := 10) rfl rfl rfl (by decide +kernel : TG 159 = 35) (by decide +kernel) rfl (vI (l := 0) (u := 4) (by decide +kernel) (by decide : (Int32.ofInt 1).toInt = 1) (by omega) (by omega)) h310 h314 (by decide +kernel) (fun σ316 h317 h318 h319 h320 => ?_)
                        refine En_Ps 1 (pc' := 239) (lv' := [(0, .ref 159), (1, .int z55)]) (st' := []) rfl ?_
                        have := (by decide : (Int32.ofInt 1).toInt = 1)
                        exact En_ret (v := none) rfl rfl rfl ⟨h317, h318, y281, ((h320 _ _ (Or.inr (by decide))).trans ((h311 _ _ (inW (by decide +kernel : TG 159 = 35) (by decide +kernel))).trans ((h303 _ _ (inW (by decide +kernel : TG 159 = 35) (by decide +kernel))).trans h288))), (Int32.ofInt 1), h319, rfl, (by omega)⟩
                      · refine En_Ps 2 (pc' := 106) (lv' := [(0, .ref 159), (1, .int z55)]) (st' := [.ref 159, .ref 159]) rfl ?_
                        refine En_getK (j := 8) ((h311 _ _ (inW (by decide +kernel : TG 159 = 35) (by decide +kernel))).trans ((h303 _ _ (inW (by decide +kernel : TG 159 = 35) (by decide +kernel))).trans h288)) rfl rfl rfl (by decide +kernel : TG 159 = 35) (by decide +kernel) ?_
                        refine En_Ps 2 (pc' := 111) (lv' := [(0, .ref 159), (1, .int z55)]) (st' := [.int ((y281 + ((Int32.ofInt 1)))), .ref 159]) rfl ?_
                        refine En_top (addI rfl (by decide : (Int32.ofInt 1).toInt = 1) (by omega) (by omega)) (fun z321 h322 => ?_)
                        refine En_put (j := 8) rfl rfl rfl (by decide +kernel : TG 159 = 35) (by decide +kernel) rfl (vI (l := 0) (u := 1600) (by decide +kernel) rfl (by omega) (by omega)) h310 h314 (by decide +kernel) (fun σ323 h324 h325 h326 h327 => ?_)
                        refine En_Ps 1 (pc' := 83) (lv' := [(0, .ref 159), (1, .int z55)]) (st' := []) rfl ?_
                        exact ih83 σ323 z321 h324 h325 ((h327 _ _ (Or.inr (by decide))).trans ((h311 _ _ (inW (by decide +kernel : TG 159 = 35) (by decide +kernel))).trans ((h303 _ _ (inW (by decide +kernel : TG 159 = 35) (by decide +kernel))).trans h285))) ((h327 _ _ (Or.inr (by decide))).trans ((h311 _ _ (inW (by decide +kernel : TG 159 = 35) (by decide +kernel))).trans ((h303 _ _ (inW (by decide +kernel : TG 159 = 35) (by decide +kernel))).trans h286))) ((h327 _ _ (Or.inl (neTG (by decide +kernel : TG 163 = 39) (by decide +kernel : TG 159 = 35) (by decide)))).trans ((h311 _ _ (inWa (by decide +kernel : TG 163 = 39) (by decide +kernel))).trans ((h303 _ _ (inWa (by decide +kernel : TG 163 = 39) (by decide +kernel))).trans h287))) h326 (by omega) (by omega) (by omega) (by omega) (by omega)
                    · refine En_Ps 2 (pc' := 85) (lv' := [(0, .ref 159), (1, .int z55)]) (st' := [.ref 159, .ref 159]) rfl ?_
                      refine En_getK (j := 8) h288 rfl rfl rfl (by decide +kernel : TG 159 = 35) (by decide +kernel) ?_
                      refine En_callV rfl rfl rfl rfl rfl rfl rfl rfl (by decide +kernel : TG 159 = 35) (by decide +kernel) rfl (c_313b σ282 h283 y281 (geI rfl (by omega)) (leI rfl (by omega)) z11 h285) (by decide) (by decide) (fun v329 σ330 h328 => ?_)
                      obtain ⟨h331, h332, z334, rfl, h333⟩ := h328
                      have h335 := Fr_trans h284 h332 (by decide +kernel)
                      refine En_Ps 3 (pc' := 98) (lv' := [(0, .ref 159), (1, .int z55)]) (st' := [.long ((122 : Int64)), .long ((97 : Int64)), .long z334.toInt64]) rfl ?_
                      have : z334.toInt64.toInt = z334.toInt := (i2lI rfl)
                      have := (by decide : ((97 : Int64)).toInt = 97)
                      have := (by decide : ((122 : Int64)).toInt = 122)
                      refine En_callS rfl rfl rfl rfl rfl rfl rfl rfl rfl (c_249 σ330 h331 z334.toInt64 ((97 : Int64)) ((122 : Int64))) (by decide) (by decide) (fun v337 σ338 h336 => ?_)
                      obtain ⟨h339, h340, z342, rfl, h341⟩ := h336
                      have h343 := Fr_trans h335 h340 (by decide +kernel)
                      refine En_iEq _ rfl rfl (fun h344 => ?_) (fun hx => by exfalso; omega)
                      refine En_Ps 2 (pc' := 119) (lv' := [(0, .ref 159), (1, .int z55)]) (st' := [.int ((Int32.ofInt 1)), .ref 159]) rfl ?_
                      refine En_put (j := 10) rfl rfl rfl (by decide +kernel : TG 159 = 35) (by decide +kernel) rfl (vI (l := 0) (u := 4) (by decide +kernel) (by decide : (Int32.ofInt 1).toInt = 1) (by omega) (by omega)) h339 h343 (by decide +kernel) (fun σ345 h346 h347 h348 h349 => ?_)
                      refine En_Ps 1 (pc' := 239) (lv' := [(0, .ref 159), (1, .int z55)]) (st' := []) rfl ?_
                      have := (by decide : (Int32.ofInt 1).toInt = 1)
                      exact En_ret (v := none) rfl rfl rfl ⟨h346, h347, y281, ((h349 _ _ (Or.inr (by decide))).trans ((h340 _ _ (inW (by decide +kernel : TG 159 = 35) (by decide +kernel))).trans ((h332 _ _ (inW (by decide +kernel : TG 159 = 35) (by decide +kernel))).trans h288))), (Int32.ofInt 1), h348, rfl, (by omega)⟩
                refine En_lv (lv := [(0, .ref 159), (1, .int z55)]) ⟨rfl, rfl, trivial⟩ ?_
                exact key83 (Int.toNat (z11.toInt - z274.toInt) + 1) σ276 z274 h277 h278 ((h280 _ _ (Or.inr (by decide))).trans ((h269 _ _ (inW (by decide +kernel : TG 159 = 35) (by decide +kernel))).trans ((h261 _ _ (inW (by decide +kernel : TG 159 = 35) (by decide +kernel))).trans ((h62 _ _ (inW (by decide +kernel : TG 159 = 35) (by decide +kernel))).trans ((h53 _ _ (inW (by decide +kernel : TG 159 = 35) (by decide +kernel))).trans ((h43 _ _ (Or.inr (by decide))).trans ((h34 _ _ (inW (by decide +kernel : TG 159 = 35) (by decide +kernel))).trans ((h18 _ _ (inW (by decide +kernel : TG 159 = 35) (by decide +kernel))).trans h10)))))))) ((h280 _ _ (Or.inr (by decide))).trans ((h269 _ _ (inW (by decide +kernel : TG 159 = 35) (by decide +kernel))).trans ((h261 _ _ (inW (by decide +kernel : TG 159 = 35) (by decide +kernel))).trans ((h62 _ _ (inW (by decide +kernel : TG 159 = 35) (by decide +kernel))).trans ((h53 _ _ (inW (by decide +kernel : TG 159 = 35) (by decide +kernel))).trans h42))))) ((h280 _ _ (Or.inl (neTG (by decide +kernel : TG 163 = 39) (by decide +kernel : TG 159 = 35) (by decide)))).trans ((h269 _ _ (inWa (by decide +kernel : TG 163 = 39) (by decide +kernel))).trans ((h261 _ _ (inWa (by decide +kernel : TG 163 = 39) (by decide +kernel))).trans ((h62 _ _ (inWa (by decide +kernel : TG 163 = 39) (by decide +kernel))).trans ((h53 _ _ (inWa (by decide +kernel : TG 163 = 39) (by decide +kernel))).trans h46))))) h279 (by omega) (by omega) (by omega) (by omega) (by omega)
            · refine En_Ps 2 (pc' := 63) (lv' := [(1, .int z55), (0, .ref 159)]) (st' := [.int ((Int32.ofInt 0)), .ref 159]) rfl ?_
              refine En_put (j := 10) rfl rfl rfl (by decide +kernel : TG 159 = 35) (by decide +kernel) rfl (vI (l := 0) (u := 4) (by decide +kernel) (by decide : (Int32.ofInt 0).toInt = 0) (by omega) (by omega)) h52 h56 (by decide +kernel) (fun σ350 h351 h352 h353 h354 => ?_)
              refine En_Ps 1 (pc' := 239) (lv' := [(1, .int z55), (0, .ref 159)]) (st' := []) rfl ?_
              have := (by decide : (Int32.ofInt 0).toInt = 0)
              exact En_ret (v := none) rfl rfl rfl ⟨h351, h352, y1, ((h354 _ _ (Or.inr (by decide))).trans ((h53 _ _ (inW (by decide +kernel : TG 159 = 35) (by decide +kernel))).trans ((h43 _ _ (Or.inr (by decide))).trans ((h34 _ _ (inW (by decide +kernel : TG 159 = 35) (by decide +kernel))).trans ((h18 _ _ (inW (by decide +kernel : TG 159 = 35) (by decide +kernel))).trans h5))))), (Int32.ofInt 0), h353, rfl, (by omega)⟩
          · refine En_Ps 2 (pc' := 49) (lv' := [(0, .ref 159)]) (st' := [.ref 159, .ref 159]) rfl ?_
            refine En_getK (j := 8) ((h43 _ _ (Or.inr (by decide))).trans ((h34 _ _ (inW (by decide +kernel : TG 159 = 35) (by decide +kernel))).trans ((h18 _ _ (inW (by decide +kernel : TG 159 = 35) (by decide +kernel))).trans h5))) rfl rfl rfl (by decide +kernel : TG 159 = 35) (by decide +kernel) ?_
            refine En_callV rfl rfl rfl rfl rfl rfl rfl rfl (by decide +kernel : TG 159 = 35) (by decide +kernel) rfl (c_313b σ39 h40 y1 (geI rfl (by omega)) (leI rfl (by omega)) z11 ((h43 _ _ (Or.inr (by decide))).trans ((h34 _ _ (inW (by decide +kernel : TG 159 = 35) (by decide +kernel))).trans ((h18 _ _ (inW (by decide +kernel : TG 159 = 35) (by decide +kernel))).trans h10)))) (by decide) (by decide) (fun v356 σ357 h355 => ?_)
            obtain ⟨h358, h359, z361, rfl, h360⟩ := h355
            have h362 := Fr_trans h41 h359 (by decide +kernel)
            refine En_Ps 3 (pc' := 58) (lv' := [(1, .int z361), (0, .ref 159)]) (st' := [.int ((Int32.ofInt (-1))), .int z361]) rfl ?_
            refine En_icNe _ rfl (by decide : (Int32.ofInt (-1)).toInt = -1) rfl (fun hx => by exfalso; omega) (fun h363 => ?_)
            refine En_Ps 2 (pc' := 63) (lv' := [(1, .int z361), (0, .ref 159)]) (st' := [.int ((Int32.ofInt 0)), .ref 159]) rfl ?_
            refine En_put (j := 10) rfl rfl rfl (by decide +kernel : TG 159 = 35) (by decide +kernel) rfl (vI (l := 0) (u := 4) (by decide +kernel) (by decide : (Int32.ofInt 0).toInt = 0) (by omega) (by omega)) h358 h362 (by decide +kernel) (fun σ364 h365 h366 h367 h368 => ?_)
            refine En_Ps 1 (pc' := 239) (lv' := [(1, .int z361), (0, .ref 159)]) (st' := []) rfl ?_
            have := (by decide : (Int32.ofInt 0).toInt = 0)
            exact En_ret (v := none) rfl rfl rfl ⟨h365, h366, y1, ((h368 _ _ (Or.inr (by decide))).trans ((h359 _ _ (inW (by decide +kernel : TG 159 = 35) (by decide +kernel))).trans ((h43 _ _ (Or.inr (by decide))).trans ((h34 _ _ (inW (by decide +kernel : TG 159 = 35) (by decide +kernel))).trans ((h18 _ _ (inW (by decide +kernel : TG 159 = 35) (by decide +kernel))).trans h5))))), (Int32.ofInt 0), h367, rfl, (by omega)⟩
        · refine En_Ps 2 (pc' := 28) (lv' := [(0, .ref 159)]) (st' := [.ref 159, .ref 159]) rfl ?_
          refine En_getK (j := 8) ((h34 _ _ (inW (by decide +kernel : TG 159 = 35) (by decide +kernel))).trans ((h18 _ _ (inW (by decide +kernel : TG 159 = 35) (by decide +kernel))).trans h5)) rfl rfl rfl (by decide +kernel : TG 159 = 35) (by decide +kernel) ?_
          refine En_Ps 2 (pc' := 33) (lv' := [(0, .ref 159)]) (st' := [.int ((y1 + ((Int32.ofInt 1)))), .ref 159]) rfl ?_
          refine En_top (addI rfl (by decide : (Int32.ofInt 1).toInt = 1) (by omega) (by omega)) (fun z369 h370 => ?_)
          refine En_put (j := 8) rfl rfl rfl (by decide +kernel : TG 159 = 35) (by decide +kernel) rfl (vI (l := 0) (u := 1600) (by decide +kernel) rfl (by omega) (by omega)) h33 h37 (by decide +kernel) (fun σ371 h372 h373 h374 h375 => ?_)
          refine En_Ps 1 (pc' := 0) (lv' := [(0, .ref 159)]) (st' := []) rfl ?_
          exact ih0 σ371 z369 h372 h373 h374 (by omega) (by omega) (by omega) (by omega)
  exact key0 (Int.toNat (-f.toInt + 1600) + 1) σ0 f hσ0 hF0 h_f (by omega) (by omega) (by omega) (by omega)
