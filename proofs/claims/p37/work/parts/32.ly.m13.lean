/-- DoorSchoolModel.next(II)I -/
abbrev P_287 (σ0 : SG) (a : Int32) (b : Int32) : PO := fun v σ => WT σ ∧ Fr [(35, 18), (35, 21), (35, 22), (35, 23), (42, 0), (43, 0), (44, 0), (45, 0), (46, 0)] σ0 σ ∧ ∃ ret : Int32, v = some (.int ret) ∧ -ret.toInt - 2 ≤ 0 ∧ ret.toInt - 15 ≤ 0
set_option maxRecDepth 10000 in
set_option maxHeartbeats 4000000 in
theorem c_287 (σ0 : SG) (hσ0 : WT σ0) (a : Int32) (b : Int32) : En 5 115 none mr_287 (P_287 σ0 a b) 0 [(0, .ref 159), (1, .int a), (2, .int b)] [] σ0 := by
  have hF0 : Fr [(35, 18), (35, 21), (35, 22), (35, 23), (42, 0), (43, 0), (44, 0), (45, 0), (46, 0)] σ0 σ0 := Fr_rfl
  refine En_Ps 1 (pc' := 1) (lv' := [(0, .ref 159), (1, .int a), (2, .int b)]) (st' := [.int a]) rfl ?_
  refine En_callS rfl rfl rfl rfl rfl rfl rfl rfl rfl (c_268 σ0 hσ0 a) (by decide) (by decide) (fun v2 σ3 h1 => ?_)
  obtain ⟨h4, h5, z7, rfl, h6⟩ := h1
  have h8 := Fr_trans hF0 h5 (by decide +kernel)
  refine En_iEq _ rfl rfl (fun h9 => ?_) (fun h9 => ?_)
  · refine En_Ps 1 (pc' := 17) (lv' := [(0, .ref 159), (1, .int a), (2, .int b)]) (st' := [.int (((Int8.ofInt (-2)).toInt32))]) rfl ?_
    refine En_top (by decide : ((Int8.ofInt (-2)).toInt32).toInt = -2) (fun z10 h11 => ?_)
    exact En_ret (v := some (.int z10)) rfl rfl rfl ⟨h4, h8, z10, rfl, (by omega)⟩
  · refine En_Ps 2 (pc' := 9) (lv' := [(0, .ref 159), (1, .int a), (2, .int b)]) (st' := [.int b, .ref 159]) rfl ?_
    refine En_callV rfl rfl rfl rfl rfl rfl rfl rfl (by decide +kernel : TG 159 = 35) (by decide +kernel) rfl (c_195 σ3 h4 b) (by decide) (by decide) (fun v13 σ14 h12 => ?_)
    obtain ⟨h15, h16, z18, rfl, h17⟩ := h12
    have h19 := Fr_trans h8 h16 (by decide +kernel)
    refine En_iNe _ rfl rfl (fun h20 => ?_) (fun h20 => ?_)
    · refine En_Ps 6 (pc' := 28) (lv' := [(5, .int ((Int32.ofInt 0))), (4, .int ((1000000 : Int32))), (3, .int ((Int32.ofInt (-1)))), (0, .ref 159), (1, .int a), (2, .int b)]) (st' := []) rfl ?_
      have key28 : ∀ (n28 : Nat) (σ24 : SG) (y21 : Int32) (y22 : Int32) (y23 : Int32), WT σ24 → Fr [(35, 18), (35, 21), (35, 22), (35, 23), (42, 0), (43, 0), (44, 0), (45, 0), (46, 0)] σ0 σ24 → (-1) ≤ y21.toInt → y21.toInt ≤ 15 → y22.toInt ≤ 1000000 → 0 ≤ y23.toInt → y23.toInt ≤ 16 → y21.toInt - y23.toInt + 1 ≤ 0 → -y23.toInt + 16 < (n28 : Int) → En 5 115 none mr_287 (P_287 σ0 a b) 28 [(0, .ref 159), (1, .int a), (2, .int b), (3, .int y21), (4, .int y22), (5, .int y23)] [] σ24 := by
        intro n28
        induction n28 with
        | zero =>
          intro σ24 y21 y22 y23 h25 h26 h27 h28 h29 h30 h31 h32 h33
          exfalso; omega
        | succ n28 ih28 =>
          intro σ24 y21 y22 y23 h25 h26 h27 h28 h29 h30 h31 h32 h33
          refine En_Ps 2 (pc' := 31) (lv' := [(0, .ref 159), (1, .int a), (2, .int b), (3, .int y21), (4, .int y22), (5, .int y23)]) (st' := [.ref 159, .int y23]) rfl ?_
          obtain ⟨z35, h34, h36, h37⟩ := WT_peekI h25 (by decide +kernel : TG 160 = 36) (by decide +kernel : FT 36 (0 : Int).toNat = (0, 0, 4)) (by decide +kernel)
          obtain ⟨z39, h38, h40, h41⟩ := WT_peekI h25 (by decide +kernel : TG 160 = 36) (by decide +kernel : FT 36 (7 : Int).toNat = (0, 0, 1600)) (by decide +kernel)
          refine En_callV rfl rfl rfl rfl rfl rfl rfl rfl (by decide +kernel : TG 159 = 35) (by decide +kernel) rfl (c_269 σ24 h25 z35 h34 z39 h38) (by decide) (by decide) (fun v43 σ44 h42 => ?_)
          obtain ⟨h45, h46, z48, rfl, h47⟩ := h42
          have h49 := h47.2.2
          have h50 := Fr_trans h26 h46 (by decide +kernel)
          refine En_icGe _ rfl rfl rfl (fun h51 => ?_) (fun h51 => ?_)
          · refine En_Ps 1 (pc' := 89) (lv' := [(0, .ref 159), (1, .int a), (2, .int b), (3, .int y21), (4, .int y22), (5, .int y23)]) (st' := [.int y21]) rfl ?_
            exact En_ret (v := some (.int y21)) rfl rfl rfl ⟨h45, h50, y21, rfl, (by omega)⟩
          · refine En_Ps 2 (pc' := 40) (lv' := [(0, .ref 159), (1, .int a), (2, .int b), (3, .int y21), (4, .int y22), (5, .int y23)]) (st' := [.int y23, .int b]) rfl ?_
            refine En_callS rfl rfl rfl rfl rfl rfl rfl rfl rfl (c_202b σ44 h45 b y23) (by decide) (by decide) (fun v53 σ54 h52 => ?_)
            obtain ⟨h55, h56, z58, rfl, h57⟩ := h52
            have h59 := Fr_trans h50 h56 (by decide +kernel)
            refine En_Ps 1 (pc' := 44) (lv' := [(0, .ref 159), (1, .int a), (2, .int b), (3, .int y21), (4, .int y22), (5, .int y23)]) (st' := [.int ((Int32.ofInt 1)), .int z58]) rfl ?_
            refine En_icNe _ rfl (by decide : (Int32.ofInt 1).toInt = 1) rfl (fun h60 => ?_) (fun h60 => ?_)
            · refine En_Ps 6 (pc' := 57) (lv' := [(0, .ref 159), (1, .int a), (2, .int b), (3, .int y21), (4, .int y22), (5, .int y23)]) (st' := [.int ((((Int32.ofInt 1)) <<< (y23 &&& 31))), .int b, .int a, .ref 159]) rfl ?_
              refine En_rng (shl1_p 15 rfl (by omega) (by omega) (by decide)) (fun z61 h62 h63 => ?_)
              refine En_Ps 1 (pc' := 58) (lv' := [(0, .ref 159), (1, .int a), (2, .int b), (3, .int y21), (4, .int y22), (5, .int y23)]) (st' := [.int ((b ||| z61)), .int a, .ref 159]) rfl ?_
              refine En_rng (l := 0) (u := 65535) (or_rng 16 rfl rfl (by omega) (by omega) (by omega) (by omega) (by decide)) (fun z64 h65 h66 => ?_)
              refine En_callV rfl rfl rfl rfl rfl rfl rfl rfl (by decide +kernel : TG 159 = 35) (by decide +kernel) rfl (c_321 σ54 h55 a z64) (by decide) (by decide) (fun v68 σ69 h67 => ?_)
              obtain ⟨h70, h71, rfl, h72⟩ := h67
              have h73 := Fr_trans h59 h71 (by decide +kernel)
              refine En_Ps 1 (pc' := 62) (lv' := [(0, .ref 159), (1, .int a), (2, .int b), (3, .int y21), (4, .int y22), (5, .int y23)]) (st' := [.ref 159]) rfl ?_
              refine En_getI (j := 22) (l := (-2147483648)) (u := 2147483647) rfl rfl rfl (by decide +kernel : TG 159 = 35) (by decide +kernel) h70 (by decide +kernel) (fun z75 h74 h76 h77 => ?_)
              refine En_Ps 1 (pc' := 67) (lv' := [(0, .ref 159), (1, .int a), (2, .int b), (3, .int y21), (4, .int y22), (5, .int y23)]) (st' := [.int y22, .int z75]) rfl ?_
              refine En_icLt _ rfl rfl rfl (fun h78 => ?_) (fun h78 => ?_)
              · refine En_Ps 1 (pc' := 74) (lv' := [(0, .ref 159), (1, .int a), (2, .int b), (3, .int y21), (4, .int y22), (5, .int y23)]) (st' := [.ref 159]) rfl ?_
                refine En_getK (j := 22) h74 rfl rfl rfl (by decide +kernel : TG 159 = 35) (by decide +kernel) ?_
                refine En_Ps 4 (pc' := 85) (lv' := [(5, .int ((y23 + Int32.ofInt 1))), (3, .int y23), (4, .int z75), (0, .ref 159), (1, .int a), (2, .int b)]) (st' := []) rfl ?_
                refine En_lv1 (addI rfl (by decide : (Int32.ofInt 1).toInt = 1) (by omega) (by omega)) (fun z79 h80 => ?_)
                refine En_Ps 1 (pc' := 28) (lv' := [(5, .int z79), (3, .int y23), (4, .int z75), (0, .ref 159), (1, .int a), (2, .int b)]) (st' := []) rfl ?_
                refine En_lv (lv := [(0, .ref 159), (1, .int a), (2, .int b), (3, .int y23), (4, .int z75), (5, .int z79)]) ⟨rfl, rfl, rfl, rfl, rfl, rfl, trivial⟩ ?_
                exact ih28 σ69 y23 z75 z79 h70 h73 (by omega) (by omega) (by omega) (by omega) (by omega) (by omega) (by omega)
              · refine En_Ps 2 (pc' := 85) (lv' := [(5, .int ((y23 + Int32.ofInt 1))), (0, .ref 159), (1, .int a), (2, .int b), (3, .int y21), (4, .int y22)]) (st' := []) rfl ?_
                refine En_lv1 (addI rfl (by decide : (Int32.ofInt 1).toInt = 1) (by omega) (by omega)) (fun z81 h82 => ?_)
                refine En_Ps 1 (pc' := 28) (lv' := [(5, .int z81), (0, .ref 159), (1, .int a), (2, .int b), (3, .int y21), (4, .int y22)]) (st' := []) rfl ?_
                refine En_lv (lv := [(0, .ref 159), (1, .int a), (2, .int b), (3, .int y21), (4, .int y22), (5, .int z81)]) ⟨rfl, rfl, rfl, rfl, rfl, rfl, trivial⟩ ?_
                exact ih28 σ69 y21 y22 z81 h70 h73 (by omega) (by omega) (by omega) (by omega) (by omega) (by omega) (by omega)
            · refine En_Ps 2 (pc' := 85) (lv' := [(5, .int ((y23 + Int32.ofInt 1))), (0, .ref 159), (1, .int a), (2, .int b), (3, .int y21), (4, .int y22)]) (st' := []) rfl ?_
              refine En_lv1 (addI rfl (by decide : (Int32.ofInt 1).toInt = 1) (by omega) (by omega)) (fun z83 h84 => ?_)
              refine En_Ps 1 (pc' := 28) (lv' := [(5, .int z83), (0, .ref 159), (1, .int a), (2, .int b), (3, .int y21), (4, .int y22)]) (st' := []) rfl ?_
              refine En_lv (lv := [(0, .ref 159), (1, .int a), (2, .int b), (3, .int y21), (4, .int y22), (5, .int z83)]) ⟨rfl, rfl, rfl, rfl, rfl, rfl, trivial⟩ ?_
              exact ih28 σ54 y21 y22 z83 h55 h59 (by omega) (by omega) (by omega) (by omega) (by omega) (by omega) (by omega)
      have := (by decide : (Int32.ofInt (-1)).toInt = -1)
      have := (by decide : (1000000 : Int32).toInt = 1000000)
      have := (by decide : (Int32.ofInt 0).toInt = 0)
      refine En_lv (lv := [(0, .ref 159), (1, .int a), (2, .int b), (3, .int ((Int32.ofInt (-1)))), (4, .int ((1000000 : Int32))), (5, .int ((Int32.ofInt 0)))]) ⟨rfl, rfl, rfl, rfl, rfl, rfl, trivial⟩ ?_
      exact key28 (Int.toNat (16) + 1) σ14 ((Int32.ofInt (-1))) ((1000000 : Int32)) ((Int32.ofInt 0)) h15 h19 (by omega) (by omega) (by omega) (by omega) (by omega) (by omega) (by omega)
    · refine En_Ps 1 (pc' := 17) (lv' := [(0, .ref 159), (1, .int a), (2, .int b)]) (st' := [.int (((Int8.ofInt (-2)).toInt32))]) rfl ?_
      refine En_top (by decide : ((Int8.ofInt (-2)).toInt32).toInt = -2) (fun z85 h86 => ?_)
      exact En_ret (v := some (.int z85)) rfl rfl rfl ⟨h15, h19, z85, rfl, (by omega)⟩
/-- DoorSchoolModel.paste(IIIII)I -/
abbrev P_297 (σ0 : SG) (a : Int32) (b : Int32) (c : Int32) (d : Int32) (e : Int32) : PO := fun v σ => WT σ ∧ Fr [(55, 0), (56, 0)] σ0 σ ∧ ∃ ret : Int32, v = some (.int ret) ∧ -ret.toInt - 8 ≤ 0 ∧ ret.toInt ≤ 0
set_option maxRecDepth 10000 in
set_option maxHeartbeats 4000000 in
theorem c_297 (σ0 : SG) (hσ0 : WT σ0) (a : Int32) (b : Int32) (c : Int32) (d : Int32) (e : Int32) : En 2 45 none mr_297 (P_297 σ0 a b c d e) 0 [(0, .ref 159), (1, .int a), (2, .int b), (3, .int c), (4, .int d), (5, .int e)] [] σ0 := by
  have hF0 : Fr [(55, 0), (56, 0)] σ0 σ0 := Fr_rfl
  refine En_Ps 1 (pc' := 1) (lv' := [(0, .ref 159), (1, .int a), (2, .int b), (3, .int c), (4, .int d), (5, .int e)]) (st' := [.int a]) rfl ?_
  refine En_callS rfl rfl rfl rfl rfl rfl rfl rfl rfl (c_266 σ0 hσ0 a) (by decide) (by decide) (fun v2 σ3 h1 => ?_)
  obtain ⟨h4, h5, z7, rfl, h6⟩ := h1
  have h8 := Fr_trans hF0 h5 (by decide +kernel)
  refine En_iEq _ rfl rfl (fun h9 => ?_) (fun h9 => ?_)
  · refine En_Ps 1 (pc' := 16) (lv' := [(0, .ref 159), (1, .int a), (2, .int b), (3, .int c), (4, .int d), (5, .int e)]) (st' := [.int (((Int8.ofInt (-2)).toInt32))]) rfl ?_
    refine En_top (by decide : ((Int8.ofInt (-2)).toInt32).toInt = -2) (fun z10 h11 => ?_)
    exact En_ret (v := some (.int z10)) rfl rfl rfl ⟨h4, h8, z10, rfl, (by omega)⟩
  · refine En_Ps 1 (pc' := 8) (lv' := [(0, .ref 159), (1, .int a), (2, .int b), (3, .int c), (4, .int d), (5, .int e)]) (st' := [.int c]) rfl ?_
    refine En_callS rfl rfl rfl rfl rfl rfl rfl rfl rfl (c_266 σ3 h4 c) (by decide) (by decide) (fun v13 σ14 h12 => ?_)
    obtain ⟨h15, h16, z18, rfl, h17⟩ := h12
    have h19 := Fr_trans h8 h16 (by decide +kernel)
    refine En_iNe _ rfl rfl (fun h20 => ?_) (fun h20 => ?_)
    · refine En_Ps 1 (pc' := 18) (lv' := [(0, .ref 159), (1, .int a), (2, .int b), (3, .int c), (4, .int d), (5, .int e)]) (st' := [.ref 159]) rfl ?_
      refine En_getU (j := 32) (u := 177) (g' := 53) (q := 0) rfl rfl rfl (by decide +kernel : TG 159 = 35) (by decide +kernel) h15 (by decide +kernel) (by decide +kernel) (fun h21 => ?_)
      refine En_Ps 1 (pc' := 22) (lv' := [(0, .ref 159), (1, .int a), (2, .int b), (3, .int c), (4, .int d), (5, .int e)]) (st' := [.int a, .ref 177]) rfl ?_
      refine En_iald (l := (-1)) (u := 60) rfl rfl (by decide +kernel : TG 177 = 53) (by decide +kernel) h15 (by omega) (lnI (by decide +kernel : LN _ = 4) (by omega)) (FTsgl (by decide +kernel)) (fun z24 h23 h25 h26 => ?_)
      refine En_Ps 1 (pc' := 24) (lv' := [(0, .ref 159), (1, .int a), (2, .int b), (3, .int c), (4, .int d), (5, .int e)]) (st' := [.int ((Int32.ofInt (-1))), .int z24]) rfl ?_
      refine En_icEq _ rfl (by decide : (Int32.ofInt (-1)).toInt = -1) rfl (fun h27 => ?_) (fun h27 => ?_)
      · refine En_Ps 1 (pc' := 39) (lv' := [(0, .ref 159), (1, .int a), (2, .int b), (3, .int c), (4, .int d), (5, .int e)]) (st' := [.int (((Int8.ofInt (-6)).toInt32))]) rfl ?_
        refine En_top (by decide : ((Int8.ofInt (-6)).toInt32).toInt = -6) (fun z28 h29 => ?_)
        exact En_ret (v := some (.int z28)) rfl rfl rfl ⟨h15, h19, z28, rfl, (by omega)⟩
      · refine En_Ps 1 (pc' := 28) (lv' := [(0, .ref 159), (1, .int a), (2, .int b), (3, .int c), (4, .int d), (5, .int e)]) (st' := [.ref 159]) rfl ?_
        refine En_getK (j := 32) h21 rfl rfl rfl (by decide +kernel : TG 159 = 35) (by decide +kernel) ?_
        refine En_Ps 1 (pc' := 32) (lv' := [(0, .ref 159), (1, .int a), (2, .int b), (3, .int c), (4, .int d), (5, .int e)]) (st' := [.int c, .ref 177]) rfl ?_
        refine En_iald (l := (-1)) (u := 60) rfl rfl (by decide +kernel : TG 177 = 53) (by decide +kernel) h15 (by omega) (lnI (by decide +kernel : LN _ = 4) (by omega)) (FTsgl (by decide +kernel)) (fun z31 h30 h32 h33 => ?_)
        refine En_Ps 1 (pc' := 34) (lv' := [(0, .ref 159), (1, .int a), (2, .int b), (3, .int c), (4, .int d), (5, .int e)]) (st' := [.int ((Int32.ofInt (-1))), .int z31]) rfl ?_
        refine En_icNe _ rfl (by decide : (Int32.ofInt (-1)).toInt = -1) rfl (fun h34 => ?_) (fun h34 => ?_)
        · refine En_Ps 1 (pc' := 41) (lv' := [(0, .ref 159), (1, .int a), (2, .int b), (3, .int c), (4, .int d), (5, .int e)]) (st' := [.ref 159]) rfl ?_
          refine En_getU (j := 33) (u := 178) (g' := 54) (q := 0) rfl rfl rfl (by decide +kernel : TG 159 = 35) (by decide +kernel) h15 (by decide +kernel) (by decide +kernel) (fun h35 => ?_)
          refine En_Ps 1 (pc' := 45) (lv' := [(0, .ref 159), (1, .int a), (2, .int b), (3, .int c), (4, .int d), (5, .int e)]) (st' := [.int a, .ref 178]) rfl ?_
          refine En_iald (l := 0) (u := 3) rfl rfl (by decide +kernel : TG 178 = 54) (by decide +kernel) h15 (by omega) (lnI (by decide +kernel : LN _ = 4) (by omega)) (FTsgl (by decide +kernel)) (fun z38 h37 h39 h40 => ?_)
          refine En_Ps 1 (pc' := 47) (lv' := [(0, .ref 159), (1, .int a), (2, .int b), (3, .int c), (4, .int d), (5, .int e)]) (st' := [.ref 159, .int z38]) rfl ?_
          refine En_getK (j := 33) h35 rfl rfl rfl (by decide +kernel : TG 159 = 35) (by decide +kernel) ?_
          refine En_Ps 1 (pc' := 51) (lv' := [(0, .ref 159), (1, .int a), (2, .int b), (3, .int c), (4, .int d), (5, .int e)]) (st' := [.int c, .ref 178, .int z38]) rfl ?_
          refine En_iald (l := 0) (u := 3) rfl rfl (by decide +kernel : TG 178 = 54) (by decide +kernel) h15 (by omega) (lnI (by decide +kernel : LN _ = 4) (by omega)) (FTsgl (by decide +kernel)) (fun z42 h41 h43 h44 => ?_)
          refine En_icEq _ rfl rfl rfl (fun h45 => ?_) (fun h45 => ?_)
          · refine En_Ps 1 (pc' := 59) (lv' := [(0, .ref 159), (1, .int a), (2, .int b), (3, .int c), (4, .int d), (5, .int e)]) (st' := [.int b]) rfl ?_
            refine En_iLt _ rfl rfl (fun h46 => ?_) (fun h46 => ?_)
            · refine En_Ps 1 (pc' := 109) (lv' := [(0, .ref 159), (1, .int a), (2, .int b), (3, .int c), (4, .int d), (5, .int e)]) (st' := [.int (((Int8.ofInt (-7)).toInt32))]) rfl ?_
              refine En_top (by decide : ((Int8.ofInt (-7)).toInt32).toInt = -7) (fun z47 h48 => ?_)
              exact En_ret (v := some (.int z47)) rfl rfl rfl ⟨h15, h19, z47, rfl, (by omega)⟩
            · refine En_Ps 1 (pc' := 64) (lv' := [(0, .ref 159), (1, .int a), (2, .int b), (3, .int c), (4, .int d), (5, .int e)]) (st' := [.int d]) rfl ?_
              refine En_iLt _ rfl rfl (fun h49 => ?_) (fun h49 => ?_)
              · refine En_Ps 1 (pc' := 109) (lv' := [(0, .ref 159), (1, .int a), (2, .int b), (3, .int c), (4, .int d), (5, .int e)]) (st' := [.int (((Int8.ofInt (-7)).toInt32))]) rfl ?_
                refine En_top (by decide : ((Int8.ofInt (-7)).toInt32).toInt = -7) (fun z50 h51 => ?_)
                exact En_ret (v := some (.int z50)) rfl rfl rfl ⟨h15, h19, z50, rfl, (by omega)⟩
              · refine En_Ps 1 (pc' := 69) (lv' := [(0, .ref 159), (1, .int a), (2, .int b), (3, .int c), (4, .int d), (5, .int e)]) (st' := [.int e]) rfl ?_
                refine En_iLt _ rfl rfl (fun h52 => ?_) (fun h52 => ?_)
                · refine En_Ps 1 (pc' := 109) (lv' := [(0, .ref 159), (1, .int a), (2, .int b), (3, .int c), (4, .int d), (5, .int e)]) (st' := [.int (((Int8.ofInt (-7)).toInt32))]) rfl ?_
                  refine En_top (by decide : ((Int8.ofInt (-7)).toInt32).toInt = -7) (fun z53 h54 => ?_)
                  exact En_ret (v := some (.int z53)) rfl rfl rfl ⟨h15, h19, z53, rfl, (by omega)⟩
                · refine En_Ps 1 (pc' := 73) (lv' := [(0, .ref 159), (1, .int a), (2, .int b), (3, .int c), (4, .int d), (5, .int e)]) (st' := [.int b]) rfl ?_
                  have := fullI b
                  refine En_Ps 2 (pc' := 76) (lv' := [(0, .ref 159), (1, .int a), (2, .int b), (3, .int c), (4, .int d), (5, .int e)]) (st' := [.int e, .long b.toInt64]) rfl ?_
                  have := fullI e
                  refine En_Ps 2 (pc' := 78) (lv' := [(0, .ref 159), (1, .int a), (2, .int b), (3, .int c), (4, .int d), (5, .int e)]) (st' := [.long ((b.toInt64 + e.toInt64))]) rfl ?_
                  refine En_topL (addL (i2lI rfl) (i2lI rfl) (by omega) (by omega)) (fun z55 h56 => ?_)
                  refine En_Ps 1 (pc' := 79) (lv' := [(0, .ref 159), (1, .int a), (2, .int b), (3, .int c), (4, .int d), (5, .int e)]) (st' := [.ref 159, .long z55]) rfl ?_
                  refine En_getK (j := 32) h21 rfl rfl rfl (by decide +kernel : TG 159 = 35) (by decide +kernel) ?_
                  refine En_Ps 1 (pc' := 83) (lv' := [(0, .ref 159), (1, .int a), (2, .int b), (3, .int c), (4, .int d), (5, .int e)]) (st' := [.int a, .ref 177, .long z55]) rfl ?_
                  refine En_ialdK h23 rfl rfl (by decide +kernel : TG 177 = 53) (by decide +kernel) h15 (by omega) (lnI (by decide +kernel : LN _ = 4) (by omega)) ?_
                  have := fullI z24
                  refine En_Ps 2 (pc' := 86) (lv' := [(0, .ref 159), (1, .int a), (2, .int b), (3, .int c), (4, .int d), (5, .int e)]) (st' := [.int (lg_cmp z55 z24.toInt64)]) rfl ?_
                  refine En_lgGt _ rfl (i2lI rfl) rfl (fun h58 => ?_) (fun h58 => ?_)
                  · refine En_Ps 1 (pc' := 109) (lv' := [(0, .ref 159), (1, .int a), (2, .int b), (3, .int c), (4, .int d), (5, .int e)]) (st' := [.int (((Int8.ofInt (-7)).toInt32))]) rfl ?_
                    refine En_top (by decide : ((Int8.ofInt (-7)).toInt32).toInt = -7) (fun z59 h60 => ?_)
                    exact En_ret (v := some (.int z59)) rfl rfl rfl ⟨h15, h19, z59, rfl, (by omega)⟩
                  · refine En_Ps 1 (pc' := 91) (lv' := [(0, .ref 159), (1, .int a), (2, .int b), (3, .int c), (4, .int d), (5, .int e)]) (st' := [.int d]) rfl ?_
                    have := fullI d
                    refine En_Ps 2 (pc' := 94) (lv' := [(0, .ref 159), (1, .int a), (2, .int b), (3, .int c), (4, .int d), (5, .int e)]) (st' := [.int e, .long d.toInt64]) rfl ?_
                    have := fullI e
                    refine En_Ps 2 (pc' := 96) (lv' := [(0, .ref 159), (1, .int a), (2, .int b), (3, .int c), (4, .int d), (5, .int e)]) (st' := [.long ((d.toInt64 + e.toInt64))]) rfl ?_
                    refine En_topL (addL (i2lI rfl) (i2lI rfl) (by omega) (by omega)) (fun z61 h62 => ?_)
                    refine En_Ps 1 (pc' := 97) (lv' := [(0, .ref 159), (1, .int a), (2, .int b), (3, .int c), (4, .int d), (5, .int e)]) (st' := [.ref 159, .long z61]) rfl ?_
                    refine En_getK (j := 32) h21 rfl rfl rfl (by decide +kernel : TG 159 = 35) (by decide +kernel) ?_
                    refine En_Ps 1 (pc' := 101) (lv' := [(0, .ref 159), (1, .int a), (2, .int b), (3, .int c), (4, .int d), (5, .int e)]) (st' := [.int c, .ref 177, .long z61]) rfl ?_
                    refine En_ialdK h30 rfl rfl (by decide +kernel : TG 177 = 53) (by decide +kernel) h15 (by omega) (lnI (by decide +kernel : LN _ = 4) (by omega)) ?_
                    have := fullI z31
                    refine En_Ps 2 (pc' := 104) (lv' := [(0, .ref 159), (1, .int a), (2, .int b), (3, .int c), (4, .int d), (5, .int e)]) (st' := [.int (lg_cmp z61 z31.toInt64)]) rfl ?_
                    refine En_lgLe _ rfl (i2lI rfl) rfl (fun h64 => ?_) (fun h64 => ?_)
                    · refine En_Ps 2 (pc' := 113) (lv' := [(6, .int ((Int32.ofInt 0))), (0, .ref 159), (1, .int a), (2, .int b), (3, .int c), (4, .int d), (5, .int e)]) (st' := []) rfl ?_
                      have key113 : ∀ (n113 : Nat) (σ66 : SG) (y65 : Int32), WT σ66 → Fr [(55, 0), (56, 0)] σ0 σ66 → (σ66 159)[32]? = some (.ref 177) → (σ66 177)[(a.toInt).toNat]? = some (.int z24) → (σ66 177)[(c.toInt).toNat]? = some (.int z31) → (σ66 159)[33]? = some (.ref 178) → (σ66 178)[(a.toInt).toNat]? = some (.int z38) → (σ66 178)[(c.toInt).toNat]? = some (.int z42) → 0 ≤ y65.toInt → y65.toInt ≤ 60 → y65.toInt - e.toInt ≤ 0 → e.toInt - y65.toInt < (n113 : Int) → En 2 45 none mr_297 (P_297 σ0 a b c d e) 113 [(0, .ref 159), (1, .int a), (2, .int b), (3, .int c), (4, .int d), (5, .int e), (6, .int y65)] [] σ66 := by
                        intro n113
                        induction n113 with
                        | zero =>
                          intro σ66 y65 h67 h68 h69 h70 h71 h72 h73 h74 h75 h76 h77 h78
                          exfalso; omega
                        | succ n113 ih113 =>
                          intro σ66 y65 h67 h68 h69 h70 h71 h72 h73 h74 h75 h76 h77 h78
                          refine En_Ps 2 (pc' := 117) (lv' := [(0, .ref 159), (1, .int a), (2, .int b), (3, .int c), (4, .int d), (5, .int e), (6, .int y65)]) (st' := [.int e, .int y65]) rfl ?_
                          refine En_icGe _ rfl rfl rfl (fun h79 => ?_) (fun h79 => ?_)
                          · refine En_Ps 2 (pc' := 150) (lv' := [(6, .int ((Int32.ofInt 0))), (0, .ref 159), (1, .int a), (2, .int b), (3, .int c), (4, .int d), (5, .int e)]) (st' := []) rfl ?_
                            have key150 : ∀ (n150 : Nat) (σ81 : SG) (y80 : Int32), WT σ81 → Fr [(55, 0), (56, 0)] σ0 σ81 → (σ81 159)[32]? = some (.ref 177) → (σ81 177)[(a.toInt).toNat]? = some (.int z24) → (σ81 177)[(c.toInt).toNat]? = some (.int z31) → (σ81 159)[33]? = some (.ref 178) → (σ81 178)[(a.toInt).toNat]? = some (.int z38) → (σ81 178)[(c.toInt).toNat]? = some (.int z42) → 0 ≤ y80.toInt → y80.toInt ≤ 60 → y80.toInt - e.toInt ≤ 0 → e.toInt - y80.toInt < (n150 : Int) → En 2 45 none mr_297 (P_297 σ0 a b c d e) 150 [(0, .ref 159), (1, .int a), (2, .int b), (3, .int c), (4, .int d), (5, .int e), (6, .int y80)] [] σ81 := by
                              intro n150
                              induction n150 with
                              | zero =>
                                intro σ81 y80 h82 h83 h84 h85 h86 h87 h88 h89 h90 h91 h92 h93
                                exfalso; omega
                              | succ n150 ih150 =>
                                intro σ81 y80 h82 h83 h84 h85 h86 h87 h88 h89 h90 h91 h92 h93
                                refine En_Ps 2 (pc' := 154) (lv' := [(0, .ref 159), (1, .int a), (2, .int b), (3, .int c), (4, .int d), (5, .int e), (6, .int y80)]) (st' := [.int e, .int y80]) rfl ?_
                                refine En_icGe _ rfl rfl rfl (fun h94 => ?_) (fun h94 => ?_)
                                · refine En_Ps 1 (pc' := 186) (lv' := [(0, .ref 159), (1, .int a), (2, .int b), (3, .int c), (4, .int d), (5, .int e), (6, .int y80)]) (st' := [.int ((Int32.ofInt 0))]) rfl ?_
                                  refine En_top (by decide : (Int32.ofInt 0).toInt = 0) (fun z95 h96 => ?_)
                                  exact En_ret (v := some (.int z95)) rfl rfl rfl ⟨h82, h83, z95, rfl, (by omega)⟩
                                · refine En_Ps 1 (pc' := 158) (lv' := [(0, .ref 159), (1, .int a), (2, .int b), (3, .int c), (4, .int d), (5, .int e), (6, .int y80)]) (st' := [.ref 159]) rfl ?_
                                  refine En_getU (j := 34) (u := 179) (g' := 55) (q := 0) rfl rfl rfl (by decide +kernel : TG 159 = 35) (by decide +kernel) h82 (by decide +kernel) (by decide +kernel) (fun h97 => ?_)
                                  refine En_Ps 3 (pc' := 165) (lv' := [(0, .ref 159), (1, .int a), (2, .int b), (3, .int c), (4, .int d), (5, .int e), (6, .int y80)]) (st' := [.int (((((Int8.ofInt 60).toInt32)) * c)), .ref 179]) rfl ?_
                                  refine En_top (mulI (by decide : ((Int8.ofInt 60).toInt32).toInt = 60) rfl (Z := 60 * c.toInt) (by omega) (by omega) (by omega)) (fun z99 h100 => ?_)
                                  refine En_Ps 2 (pc' := 168) (lv' := [(0, .ref 159), (1, .int a), (2, .int b), (3, .int c), (4, .int d), (5, .int e), (6, .int y80)]) (st' := [.int ((z99 + d)), .ref 179]) rfl ?_
                                  refine En_top (addI rfl rfl (by omega) (by omega)) (fun z101 h102 => ?_)
                                  refine En_Ps 2 (pc' := 171) (lv' := [(0, .ref 159), (1, .int a), (2, .int b), (3, .int c), (4, .int d), (5, .int e), (6, .int y80)]) (st' := [.int ((z101 + y80)), .ref 179]) rfl ?_
                                  refine En_top (addI rfl rfl (by omega) (by omega)) (fun z103 h104 => ?_)
                                  refine En_Ps 1 (pc' := 172) (lv' := [(0, .ref 159), (1, .int a), (2, .int b), (3, .int c), (4, .int d), (5, .int e), (6, .int y80)]) (st' := [.ref 159, .int z103, .ref 179]) rfl ?_
                                  refine En_getU (j := 35) (u := 180) (g' := 56) (q := 0) rfl rfl rfl (by decide +kernel : TG 159 = 35) (by decide +kernel) h82 (by decide +kernel) (by decide +kernel) (fun h105 => ?_)
                                  refine En_Ps 1 (pc' := 177) (lv' := [(0, .ref 159), (1, .int a), (2, .int b), (3, .int c), (4, .int d), (5, .int e), (6, .int y80)]) (st' := [.int y80, .ref 180, .int z103, .ref 179]) rfl ?_
                                  refine En_lald (l := (-9223372036854775808)) (u := 9223372036854775807) rfl rfl (by decide +kernel : TG 180 = 56) (by decide +kernel) h82 (by omega) (lnI (by decide +kernel : LN _ = 60) (by omega)) (FTsgl (by decide +kernel)) (fun z108 h107 h109 h110 => ?_)
                                  refine En_last (l := (-9223372036854775808)) (u := 9223372036854775807) rfl rfl (by decide +kernel : TG 179 = 55) (by decide +kernel) (by omega) (lnI (by decide +kernel : LN _ = 240) (by omega)) (FTsgl (by decide +kernel)) (fullL _) h82 h83 (by decide +kernel) (fun σ111 h112 h113 h114 h115 => ?_)
                                  refine En_Ps 1 (pc' := 182) (lv' := [(6, .int ((y80 + Int32.ofInt 1))), (0, .ref 159), (1, .int a), (2, .int b), (3, .int c), (4, .int d), (5, .int e)]) (st' := []) rfl ?_
                                  refine En_lv1 (addI rfl (by decide : (Int32.ofInt 1).toInt = 1) (by omega) (by omega)) (fun z116 h117 => ?_)
                                  refine En_Ps 1 (pc' := 150) (lv' := [(6, .int z116), (0, .ref 159), (1, .int a), (2, .int b), (3, .int c), (4, .int d), (5, .int e)]) (st' := []) rfl ?_
                                  refine En_lv (lv := [(0, .ref 159), (1, .int a), (2, .int b), (3, .int c), (4, .int d), (5, .int e), (6, .int z116)]) ⟨rfl, rfl, rfl, rfl, rfl, rfl, rfl, trivial⟩ ?_
                                  exact ih150 σ111 z116 h112 h113 ((h115 _ _ (Or.inl (neTG (by decide +kernel : TG 159 = 35) (by decide +kernel : TG 179 = 55) (by decide)))).trans h84) ((h115 _ _ (Or.inl (neTG (by decide +kernel : TG 177 = 53) (by decide +kernel : TG 179 = 55) (by decide)))).trans h85) ((h115 _ _ (Or.inl (neTG (by decide +kernel : TG 177 = 53) (by decide +kernel : TG 179 = 55) (by decide)))).trans h86) ((h115 _ _ (Or.inl (neTG (by decide +kernel : TG 159 = 35) (by decide +kernel : TG 179 = 55) (by decide)))).trans h87) ((h115 _ _ (Or.inl (neTG (by decide +kernel : TG 178 = 54) (by decide +kernel : TG 179 = 55) (by decide)))).trans h88) ((h115 _ _ (Or.inl (neTG (by decide +kernel : TG 178 = 54) (by decide +kernel : TG 179 = 55) (by decide)))).trans h89) (by omega) (by omega) (by omega) (by omega)
                            have := (by decide : (Int32.ofInt 0).toInt = 0)
                            refine En_lv (lv := [(0, .ref 159), (1, .int a), (2, .int b), (3, .int c), (4, .int d), (5, .int e), (6, .int ((Int32.ofInt 0)))]) ⟨rfl, rfl, rfl, rfl, rfl, rfl, rfl, trivial⟩ ?_
                            exact key150 (Int.toNat (e.toInt) + 1) σ66 ((Int32.ofInt 0)) h67 h68 h69 h70 h71 h72 h73 h74 (by omega) (by omega) (by omega) (by omega)
                          · refine En_Ps 1 (pc' := 121) (lv' := [(0, .ref 159), (1, .int a), (2, .int b), (3, .int c), (4, .int d), (5, .int e), (6, .int y65)]) (st' := [.ref 159]) rfl ?_
                            refine En_getU (j := 35) (u := 180) (g' := 56) (q := 0) rfl rfl rfl (by decide +kernel : TG 159 = 35) (by decide +kernel) h67 (by decide +kernel) (by decide +kernel) (fun h118 => ?_)
                            refine En_Ps 2 (pc' := 127) (lv' := [(0, .ref 159), (1, .int a), (2, .int b), (3, .int c), (4, .int d), (5, .int e), (6, .int y65)]) (st' := [.ref 159, .int y65, .ref 180]) rfl ?_
                            refine En_getU (j := 34) (u := 179) (g' := 55) (q := 0) rfl rfl rfl (by decide +kernel : TG 159 = 35) (by decide +kernel) h67 (by decide +kernel) (by decide +kernel) (fun h120 => ?_)
                            refine En_Ps 3 (pc' := 134) (lv' := [(0, .ref 159), (1, .int a), (2, .int b), (3, .int c), (4, .int d), (5, .int e), (6, .int y65)]) (st' := [.int (((((Int8.ofInt 60).toInt32)) * a)), .ref 179, .int y65, .ref 180]) rfl ?_
                            refine En_top (mulI (by decide : ((Int8.ofInt 60).toInt32).toInt = 60) rfl (Z := 60 * a.toInt) (by omega) (by omega) (by omega)) (fun z122 h123 => ?_)
                            refine En_Ps 2 (pc' := 136) (lv' := [(0, .ref 159), (1, .int a), (2, .int b), (3, .int c), (4, .int d), (5, .int e), (6, .int y65)]) (st' := [.int ((z122 + b)), .ref 179, .int y65, .ref 180]) rfl ?_
                            refine En_top (addI rfl rfl (by omega) (by omega)) (fun z124 h125 => ?_)
                            refine En_Ps 2 (pc' := 139) (lv' := [(0, .ref 159), (1, .int a), (2, .int b), (3, .int c), (4, .int d), (5, .int e), (6, .int y65)]) (st' := [.int ((z124 + y65)), .ref 179, .int y65, .ref 180]) rfl ?_
                            refine En_top (addI rfl rfl (by omega) (by omega)) (fun z126 h127 => ?_)
                            refine En_lald (l := (-9223372036854775808)) (u := 9223372036854775807) rfl rfl (by decide +kernel : TG 179 = 55) (by decide +kernel) h67 (by omega) (lnI (by decide +kernel : LN _ = 240) (by omega)) (FTsgl (by decide +kernel)) (fun z129 h128 h130 h131 => ?_)
                            refine En_last (l := (-9223372036854775808)) (u := 9223372036854775807) rfl rfl (by decide +kernel : TG 180 = 56) (by decide +kernel) (by omega) (lnI (by decide +kernel : LN _ = 60) (by omega)) (FTsgl (by decide +kernel)) (fullL _) h67 h68 (by decide +kernel) (fun σ132 h133 h134 h135 h136 => ?_)
                            refine En_Ps 1 (pc' := 144) (lv' := [(6, .int ((y65 + Int32.ofInt 1))), (0, .ref 159), (1, .int a), (2, .int b), (3, .int c), (4, .int d), (5, .int e)]) (st' := []) rfl ?_
                            refine En_lv1 (addI rfl (by decide : (Int32.ofInt 1).toInt = 1) (by omega) (by omega)) (fun z137 h138 => ?_)
                            refine En_Ps 1 (pc' := 113) (lv' := [(6, .int z137), (0, .ref 159), (1, .int a), (2, .int b), (3, .int c), (4, .int d), (5, .int e)]) (st' := []) rfl ?_
                            refine En_lv (lv := [(0, .ref 159), (1, .int a), (2, .int b), (3, .int c), (4, .int d), (5, .int e), (6, .int z137)]) ⟨rfl, rfl, rfl, rfl, rfl, rfl, rfl, trivial⟩ ?_
                            exact ih113 σ132 z137 h133 h134 ((h136 _ _ (Or.inl (neTG (by decide +kernel : TG 159 = 35) (by decide +kernel : TG 180 = 56) (by decide)))).trans h69) ((h136 _ _ (Or.inl (neTG (by decide +kernel : TG 177 = 53) (by decide +kernel : TG 180 = 56) (by decide)))).trans h70) ((h136 _ _ (Or.inl (neTG (by decide +kernel : TG 177 = 53) (by decide +kernel : TG 180 = 56) (by decide)))).trans h71) ((h136 _ _ (Or.inl (neTG (by decide +kernel : TG 159 = 35) (by decide +kernel : TG 180 = 56) (by decide)))).trans h72) ((h136 _ _ (Or.inl (neTG (by decide +kernel : TG 178 = 54) (by decide +kernel : TG 180 = 56) (by decide)))).trans h73) ((h136 _ _ (Or.inl (neTG (by decide +kernel : TG 178 = 54) (by decide +kernel : TG 180 = 56) (by decide)))).trans h74) (by omega) (by omega) (by omega) (by omega)
                      have := (by decide : (Int32.ofInt 0).toInt = 0)
                      refine En_lv (lv := [(0, .ref 159), (1, .int a), (2, .int b), (3, .int c), (4, .int d), (5, .int e), (6, .int ((Int32.ofInt 0)))]) ⟨rfl, rfl, rfl, rfl, rfl, rfl, rfl, trivial⟩ ?_
                      exact key113 (Int.toNat (e.toInt) + 1) σ14 ((Int32.ofInt 0)) h15 h19 h21 h23 h30 h35 h37 h41 (by omega) (by omega) (by omega) (by omega)
                    · refine En_Ps 1 (pc' := 109) (lv' := [(0, .ref 159), (1, .int a), (2, .int b), (3, .int c), (4, .int d), (5, .int e)]) (st' := [.int (((Int8.ofInt (-7)).toInt32))]) rfl ?_
                      refine En_top (by decide : ((Int8.ofInt (-7)).toInt32).toInt = -7) (fun z139 h140 => ?_)
                      exact En_ret (v := some (.int z139)) rfl rfl rfl ⟨h15, h19, z139, rfl, (by omega)⟩
          · refine En_Ps 1 (pc' := 57) (lv' := [(0, .ref 159), (1, .int a), (2, .int b), (3, .int c), (4, .int d), (5, .int e)]) (st' := [.int (((Int8.ofInt (-8)).toInt32))]) rfl ?_
            refine En_top (by decide : ((Int8.ofInt (-8)).toInt32).toInt = -8) (fun z141 h142 => ?_)
            exact En_ret (v := some (.int z141)) rfl rfl rfl ⟨h15, h19, z141, rfl, (by omega)⟩
        · refine En_Ps 1 (pc' := 39) (lv' := [(0, .ref 159), (1, .int a), (2, .int b), (3, .int c), (4, .int d), (5, .int e)]) (st' := [.int (((Int8.ofInt (-6)).toInt32))]) rfl ?_
          refine En_top (by decide : ((Int8.ofInt (-6)).toInt32).toInt = -6) (fun z143 h144 => ?_)
          exact En_ret (v := some (.int z143)) rfl rfl rfl ⟨h15, h19, z143, rfl, (by omega)⟩
    · refine En_Ps 1 (pc' := 16) (lv' := [(0, .ref 159), (1, .int a), (2, .int b), (3, .int c), (4, .int d), (5, .int e)]) (st' := [.int (((Int8.ofInt (-2)).toInt32))]) rfl ?_
      refine En_top (by decide : ((Int8.ofInt (-2)).toInt32).toInt = -2) (fun z145 h146 => ?_)
      exact En_ret (v := some (.int z145)) rfl rfl rfl ⟨h15, h19, z145, rfl, (by omega)⟩

