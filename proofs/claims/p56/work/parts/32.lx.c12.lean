/-- DoorSchool.leaves(I)I -/
abbrev P_151 (σ0 : SG) (a : Int32) (p : Nat) (sg : Int32) : PO := fun v σ => WT σ ∧ Fr [] σ0 σ ∧ ∃ ret : Int32, v = some (.int ret) ∧ -ret.toInt - 6 ≤ 0 ∧ ret.toInt - 81 ≤ 0
set_option maxRecDepth 10000 in
set_option maxHeartbeats 4000000 in
theorem c_151 (σ0 : SG) (hσ0 : WT σ0) (a : Int32) (p : Nat) (hp : TG p = 18) (h_p : (σ0 0)[9]? = some (.ref p)) (sg : Int32) (h_sg : (σ0 p)[1]? = some (.int sg)) (hp0 : -sg.toInt ≤ 0) : En 4 96 none mr_151 (P_151 σ0 a p sg) 0 [(0, .ref 0), (1, .int a)] [] σ0 := by
  obtain ⟨hl_sg, hu_sg⟩ := WT_int hσ0 (g := 18) hp (by decide +kernel) (l := (-1)) (u := 4) (by decide +kernel) h_sg
  have hF0 : Fr [] σ0 σ0 := Fr_rfl
  refine En_Ps 2 (pc' := 2) (lv' := [(0, .ref 0), (1, .int a)]) (st' := [.int a, .ref 0]) rfl ?_
  refine En_callV rfl rfl rfl rfl rfl rfl rfl rfl tgz_0 (by decide +kernel) rfl (c_180 σ0 hσ0 a p hp h_p sg h_sg (by first | exact q_a555021d16 hp0 | omega)) (by decide) (by decide) (fun v2 σ3 h1 => ?_)
  obtain ⟨h4, h5, z7, rfl, h6⟩ := h1
  have h8 := Fr_trans hF0 h5 (by decide +kernel)
  refine En_Ps 2 (pc' := 7) (lv' := [(2, .int z7), (0, .ref 0), (1, .int a)]) (st' := [.int z7]) rfl ?_
  refine En_iEq _ rfl rfl (fun h9 => ?_) (fun h9 => ?_)
  · refine En_Ps 2 (pc' := 14) (lv' := [(2, .int z7), (0, .ref 0), (1, .int a)]) (st' := [.ref 0, .ref 0]) rfl ?_
    refine En_getU (j := 6) (u := 150) (g' := 32) (q := 0) rfl rfl rfl tgz_0 (by decide +kernel) h4 (by decide +kernel) (by decide +kernel) (fun h10 => ?_)
    refine En_Ps 1 (pc' := 18) (lv' := [(2, .int z7), (0, .ref 0), (1, .int a)]) (st' := [.int a, .ref 150, .ref 0]) rfl ?_
    refine En_aald (g' := 33) (u := 0) rfl rfl tgz_150 (by decide +kernel) h4 (by omega) (lnI (by decide +kernel : LN _ = 4) (by omega)) (FTsgl (by decide +kernel)) (fun a13 h12 ha13 => ?_)
    refine En_callV rfl rfl rfl rfl rfl rfl rfl rfl tgz_0 (by decide +kernel) rfl (c_104 σ3 h4 a13 ha13 p hp ((h5 _ _ (inW tgz_0 (by decide +kernel))).trans h_p) sg ((h5 _ _ (inW hp (by decide +kernel))).trans h_sg) (by first | exact q_a555021d16 hp0 | omega)) (by decide) (by decide) (fun v15 σ16 h14 => ?_)
    obtain ⟨h17, h18, z20, rfl, h19⟩ := h14
    have h21 := Fr_trans h8 h18 (by decide +kernel)
    refine En_Ps 3 (pc' := 25) (lv' := [(3, .int z20), (2, .int z7), (0, .ref 0), (1, .int a)]) (st' := [.int ((Int32.ofInt (-1))), .int z20]) rfl ?_
    refine En_icNe _ rfl (by decide : (Int32.ofInt (-1)).toInt = -1) rfl (fun h22 => ?_) (fun h22 => ?_)
    · refine En_Ps 2 (pc' := 38) (lv' := [(3, .int z20), (2, .int z7), (0, .ref 0), (1, .int a)]) (st' := [.ref 0, .ref 0]) rfl ?_
      refine En_getK (j := 6) ((h18 _ _ (inW tgz_0 (by decide +kernel))).trans h10) rfl rfl rfl tgz_0 (by decide +kernel) ?_
      refine En_Ps 1 (pc' := 42) (lv' := [(3, .int z20), (2, .int z7), (0, .ref 0), (1, .int a)]) (st' := [.int a, .ref 150, .ref 0]) rfl ?_
      refine En_aald (g' := 33) (u := 0) rfl rfl tgz_150 (by decide +kernel) h17 (by omega) (lnI (by decide +kernel : LN _ = 4) (by omega)) (FTsgl (by decide +kernel)) (fun a24 h23 ha24 => ?_)
      refine En_Ps 1 (pc' := 44) (lv' := [(3, .int z20), (2, .int z7), (0, .ref 0), (1, .int a)]) (st' := [.int z20, .ref a24, .ref 0]) rfl ?_
      refine En_callV rfl rfl rfl rfl rfl rfl rfl rfl tgz_0 (by decide +kernel) rfl (c_153 σ16 h17 a24 ha24 z20 p hp ((h18 _ _ (inW tgz_0 (by decide +kernel))).trans ((h5 _ _ (inW tgz_0 (by decide +kernel))).trans h_p)) sg ((h18 _ _ (inW hp (by decide +kernel))).trans ((h5 _ _ (inW hp (by decide +kernel))).trans h_sg)) (by first | exact q_a555021d16 hp0 | omega)) (by decide) (by decide) (fun v26 σ27 h25 => ?_)
      obtain ⟨h28, h29, z31, rfl, h30⟩ := h25
      have h32 := Fr_trans h21 h29 (by decide +kernel)
      exact En_ret (v := some (.int z31)) rfl rfl rfl ⟨h28, h32, z31, rfl, ⟨by first | exact q_8061444f0d h30.1 | omega, by first | exact q_62172f5eca h30.2 | omega⟩⟩
    · refine En_Ps 2 (pc' := 30) (lv' := [(3, .int z20), (2, .int z7), (0, .ref 0), (1, .int a)]) (st' := [.int a, .ref 0]) rfl ?_
      refine En_callV rfl rfl rfl rfl rfl rfl rfl rfl tgz_0 (by decide +kernel) rfl (c_124 σ16 h17 a p hp ((h18 _ _ (inW tgz_0 (by decide +kernel))).trans ((h5 _ _ (inW tgz_0 (by decide +kernel))).trans h_p)) sg ((h18 _ _ (inW hp (by decide +kernel))).trans ((h5 _ _ (inW hp (by decide +kernel))).trans h_sg)) (by first | exact q_a555021d16 hp0 | omega)) (by decide) (by decide) (fun v34 σ35 h33 => ?_)
      obtain ⟨h36, h37, z39, rfl, h38⟩ := h33
      have h40 := Fr_trans h21 h37 (by decide +kernel)
      refine En_Ps 1 (pc' := 47) (lv' := [(3, .int z20), (2, .int z7), (0, .ref 0), (1, .int a)]) (st' := [.int z39]) rfl ?_
      exact En_ret (v := some (.int z39)) rfl rfl rfl ⟨h36, h40, z39, rfl, ⟨by first | exact q_629d629181 h38.1 | omega, by first | exact q_62172f5eca h38.2 | omega⟩⟩
  · refine En_Ps 1 (pc' := 11) (lv' := [(2, .int z7), (0, .ref 0), (1, .int a)]) (st' := [.int z7]) rfl ?_
    exact En_ret (v := some (.int z7)) rfl rfl rfl ⟨h4, h8, z7, rfl, ⟨by first | exact q_629d629181 h6.1 | omega, by first | exact q_debdfeb6c0 h9 h6.2.1 | omega⟩⟩
/-- DoorSchool.lesson(III)I -/
abbrev P_154 (σ0 : SG) (a : Int32) (b : Int32) (c : Int32) (p : Nat) (sg : Int32) : PO := fun v σ => WT σ ∧ Fr [] σ0 σ ∧ ∃ ret : Int32, v = some (.int ret) ∧ -ret.toInt - 2 ≤ 0 ∧ ret.toInt - 15 ≤ 0
set_option maxRecDepth 10000 in
set_option maxHeartbeats 4000000 in
theorem c_154 (σ0 : SG) (hσ0 : WT σ0) (a : Int32) (b : Int32) (c : Int32) (p : Nat) (hp : TG p = 18) (h_p : (σ0 0)[9]? = some (.ref p)) (sg : Int32) (h_sg : (σ0 p)[1]? = some (.int sg)) (hp0 : -sg.toInt ≤ 0) : En 1 21 none mr_154 (P_154 σ0 a b c p sg) 0 [(0, .ref 0), (1, .int a), (2, .int b), (3, .int c)] [] σ0 := by
  obtain ⟨hl_sg, hu_sg⟩ := WT_int hσ0 (g := 18) hp (by decide +kernel) (l := (-1)) (u := 4) (by decide +kernel) h_sg
  have hF0 : Fr [] σ0 σ0 := Fr_rfl
  refine En_Ps 1 (pc' := 1) (lv' := [(0, .ref 0), (1, .int a), (2, .int b), (3, .int c)]) (st' := [.ref 0]) rfl ?_
  refine En_getK (j := 9) h_p rfl rfl rfl tgz_0 (by decide +kernel) ?_
  refine En_Ps 1 (pc' := 5) (lv' := [(0, .ref 0), (1, .int a), (2, .int b), (3, .int c)]) (st' := [.int a, .ref p]) rfl ?_
  refine En_callV rfl rfl rfl rfl rfl rfl rfl rfl hp (by decide +kernel) rfl (c_47 σ0 hσ0 p hp a) (by decide) (by decide) (fun v2 σ3 h1 => ?_)
  obtain ⟨h4, h5, z7, rfl, h6⟩ := h1
  have h8 := Fr_trans hF0 h5 (by decide +kernel)
  refine En_iEq _ rfl rfl (fun h9 => ?_) (fun h9 => ?_)
  · refine En_Ps 1 (pc' := 20) (lv' := [(0, .ref 0), (1, .int a), (2, .int b), (3, .int c)]) (st' := [.int (((Int8.ofInt (-2)).toInt32))]) rfl ?_
    refine En_top (by decide : ((Int8.ofInt (-2)).toInt32).toInt = -2) (fun z10 h11 => ?_)
    exact En_ret (v := some (.int z10)) rfl rfl rfl ⟨h4, h8, z10, rfl, ⟨by first | exact q_f35c5d346c h11 | omega, by first | exact q_12a74e12a3 h11 | omega⟩⟩
  · refine En_Ps 1 (pc' := 12) (lv' := [(0, .ref 0), (1, .int a), (2, .int b), (3, .int c)]) (st' := [.int c]) rfl ?_
    refine En_callS rfl rfl rfl rfl rfl rfl rfl rfl rfl (c_149 σ3 h4 c) (by decide) (by decide) (fun v13 σ14 h12 => ?_)
    obtain ⟨h15, h16, z18, rfl, h17⟩ := h12
    have h19 := Fr_trans h8 h16 (by decide +kernel)
    refine En_iNe _ rfl rfl (fun h20 => ?_) (fun h20 => ?_)
    · refine En_Ps 1 (pc' := 22) (lv' := [(0, .ref 0), (1, .int a), (2, .int b), (3, .int c)]) (st' := [.ref 0]) rfl ?_
      refine En_getK (j := 9) ((h16 _ _ (inW tgz_0 (by decide +kernel))).trans ((h5 _ _ (inW tgz_0 (by decide +kernel))).trans h_p)) rfl rfl rfl tgz_0 (by decide +kernel) ?_
      refine En_getR (j := 4) (g' := 19) (u := 0) rfl rfl rfl hp (by decide +kernel) h15 (by decide +kernel) (fun a22 h21 ha22 => ?_)
      refine En_Ps 1 (pc' := 29) (lv' := [(0, .ref 0), (1, .int a), (2, .int b), (3, .int c)]) (st' := [.int a, .ref a22]) rfl ?_
      refine En_aald (g' := 28) (u := 0) rfl rfl ha22 (by decide +kernel) h15 (by omega) (lnI (by decide +kernel : LN _ = 4) (by omega)) (FTsgl (by decide +kernel)) (fun a24 h23 ha24 => ?_)
      refine En_getR (j := 0) (g' := 20) (u := 0) rfl rfl rfl ha24 (by decide +kernel) h15 (by decide +kernel) (fun a26 h25 ha26 => ?_)
      refine En_Ps 2 (pc' := 36) (lv' := [(4, .ref a26), (0, .ref 0), (1, .int a), (2, .int b), (3, .int c)]) (st' := [.int b]) rfl ?_
      refine En_iLt _ rfl rfl (fun h27 => ?_) (fun h27 => ?_)
      · refine En_Ps 1 (pc' := 49) (lv' := [(4, .ref a26), (0, .ref 0), (1, .int a), (2, .int b), (3, .int c)]) (st' := [.int ((Int32.ofInt (-1)))]) rfl ?_
        refine En_top (by decide : (Int32.ofInt (-1)).toInt = -1) (fun z28 h29 => ?_)
        exact En_ret (v := some (.int z28)) rfl rfl rfl ⟨h15, h19, z28, rfl, ⟨by first | exact q_e1de8c7867 h29 | omega, by first | exact q_af62099904 h29 | omega⟩⟩
      · refine En_Ps 2 (pc' := 42) (lv' := [(4, .ref a26), (0, .ref 0), (1, .int a), (2, .int b), (3, .int c)]) (st' := [.ref a26, .int b]) rfl ?_
        refine En_getI (j := 2) (l := 0) (u := 13) rfl rfl rfl ha26 (by decide +kernel) h15 (by decide +kernel) (fun z31 h30 h32 h33 => ?_)
        refine En_icLt _ rfl rfl rfl (fun h34 => ?_) (fun h34 => ?_)
        · refine En_Ps 1 (pc' := 51) (lv' := [(4, .ref a26), (0, .ref 0), (1, .int a), (2, .int b), (3, .int c)]) (st' := [.int c]) rfl ?_
          refine En_iNe _ rfl rfl (fun h35 => ?_) (fun h35 => ?_)
          · refine En_Ps 1 (pc' := 66) (lv' := [(4, .ref a26), (0, .ref 0), (1, .int a), (2, .int b), (3, .int c)]) (st' := [.ref a26]) rfl ?_
            refine En_getR (j := 1) (g' := 22) (u := 0) rfl rfl rfl ha26 (by decide +kernel) h15 (by decide +kernel) (fun a37 h36 ha37 => ?_)
            refine En_Ps 1 (pc' := 70) (lv' := [(4, .ref a26), (0, .ref 0), (1, .int a), (2, .int b), (3, .int c)]) (st' := [.int b, .ref a37]) rfl ?_
            refine En_iald (l := 0) (u := 1) rfl rfl ha37 (by decide +kernel) h15 (by first | exact q_58e6e51dcc h27 | omega) (lnI (by decide +kernel : LN _ = 13) (by first | exact q_314deb8953 h34 h33 | omega)) (FTsgl (by decide +kernel)) (fun z39 h38 h40 h41 => ?_)
            exact En_ret (v := some (.int z39)) rfl rfl rfl ⟨h15, h19, z39, rfl, ⟨by first | exact q_ea7f0ffdb1 h40 | omega, by first | exact q_31525ae3c9 h41 | omega⟩⟩
          · refine En_Ps 1 (pc' := 56) (lv' := [(4, .ref a26), (0, .ref 0), (1, .int a), (2, .int b), (3, .int c)]) (st' := [.ref a26]) rfl ?_
            refine En_getR (j := 0) (g' := 21) (u := 0) rfl rfl rfl ha26 (by decide +kernel) h15 (by decide +kernel) (fun a43 h42 ha43 => ?_)
            refine En_Ps 1 (pc' := 60) (lv' := [(4, .ref a26), (0, .ref 0), (1, .int a), (2, .int b), (3, .int c)]) (st' := [.int b, .ref a43]) rfl ?_
            refine En_iald (l := 0) (u := 15) rfl rfl ha43 (by decide +kernel) h15 (by first | exact q_58e6e51dcc h27 | omega) (lnI (by decide +kernel : LN _ = 13) (by first | exact q_314deb8953 h34 h33 | omega)) (FTsgl (by decide +kernel)) (fun z45 h44 h46 h47 => ?_)
            refine En_Ps 1 (pc' := 71) (lv' := [(4, .ref a26), (0, .ref 0), (1, .int a), (2, .int b), (3, .int c)]) (st' := [.int z45]) rfl ?_
            exact En_ret (v := some (.int z45)) rfl rfl rfl ⟨h15, h19, z45, rfl, ⟨by first | exact q_ea7f0ffdb1 h46 | omega, by first | exact q_867a9ac627 h47 | omega⟩⟩
        · refine En_Ps 1 (pc' := 49) (lv' := [(4, .ref a26), (0, .ref 0), (1, .int a), (2, .int b), (3, .int c)]) (st' := [.int ((Int32.ofInt (-1)))]) rfl ?_
          refine En_top (by decide : (Int32.ofInt (-1)).toInt = -1) (fun z48 h49 => ?_)
          exact En_ret (v := some (.int z48)) rfl rfl rfl ⟨h15, h19, z48, rfl, ⟨by first | exact q_e1de8c7867 h49 | omega, by first | exact q_af62099904 h49 | omega⟩⟩
    · refine En_Ps 1 (pc' := 20) (lv' := [(0, .ref 0), (1, .int a), (2, .int b), (3, .int c)]) (st' := [.int (((Int8.ofInt (-2)).toInt32))]) rfl ?_
      refine En_top (by decide : ((Int8.ofInt (-2)).toInt32).toInt = -2) (fun z50 h51 => ?_)
      exact En_ret (v := some (.int z50)) rfl rfl rfl ⟨h15, h19, z50, rfl, ⟨by first | exact q_f35c5d346c h51 | omega, by first | exact q_12a74e12a3 h51 | omega⟩⟩
/-- DoorSchool.marks(I)I -/
abbrev P_155 (σ0 : SG) (a : Int32) (p : Nat) (sg : Int32) : PO := fun v σ => WT σ ∧ Fr [] σ0 σ ∧ ∃ ret : Int32, v = some (.int ret) ∧ -ret.toInt - 2 ≤ 0 ∧ ret.toInt - 63 ≤ 0
set_option maxRecDepth 10000 in
set_option maxHeartbeats 4000000 in
theorem c_155 (σ0 : SG) (hσ0 : WT σ0) (a : Int32) (p : Nat) (hp : TG p = 18) (h_p : (σ0 0)[9]? = some (.ref p)) (sg : Int32) (h_sg : (σ0 p)[1]? = some (.int sg)) (hp0 : -sg.toInt ≤ 0) : En 4 92 none mr_155 (P_155 σ0 a p sg) 0 [(0, .ref 0), (1, .int a)] [] σ0 := by
  obtain ⟨hl_sg, hu_sg⟩ := WT_int hσ0 (g := 18) hp (by decide +kernel) (l := (-1)) (u := 4) (by decide +kernel) h_sg
  have hF0 : Fr [] σ0 σ0 := Fr_rfl
  refine En_Ps 1 (pc' := 1) (lv' := [(0, .ref 0), (1, .int a)]) (st' := [.ref 0]) rfl ?_
  refine En_getK (j := 9) h_p rfl rfl rfl tgz_0 (by decide +kernel) ?_
  refine En_Ps 1 (pc' := 5) (lv' := [(0, .ref 0), (1, .int a)]) (st' := [.int a, .ref p]) rfl ?_
  refine En_callV rfl rfl rfl rfl rfl rfl rfl rfl hp (by decide +kernel) rfl (c_47 σ0 hσ0 p hp a) (by decide) (by decide) (fun v2 σ3 h1 => ?_)
  obtain ⟨h4, h5, z7, rfl, h6⟩ := h1
  have h8 := Fr_trans hF0 h5 (by decide +kernel)
  refine En_iEq _ rfl rfl (fun h9 => ?_) (fun h9 => ?_)
  · refine En_Ps 1 (pc' := 25) (lv' := [(0, .ref 0), (1, .int a)]) (st' := [.int (((Int8.ofInt (-2)).toInt32))]) rfl ?_
    refine En_top (by decide : ((Int8.ofInt (-2)).toInt32).toInt = -2) (fun z10 h11 => ?_)
    exact En_ret (v := some (.int z10)) rfl rfl rfl ⟨h4, h8, z10, rfl, ⟨by first | exact q_f35c5d346c h11 | omega, by first | exact q_443ead751f h11 | omega⟩⟩
  · refine En_Ps 3 (pc' := 14) (lv' := [(0, .ref 0), (1, .int a)]) (st' := [.int a, .ref 0, .ref 0]) rfl ?_
    refine En_callV rfl rfl rfl rfl rfl rfl rfl rfl tgz_0 (by decide +kernel) rfl (c_114 σ3 h4 a (geI rfl (by omega)) (leI rfl (by omega)) p hp ((h5 _ _ (inW tgz_0 (by decide +kernel))).trans h_p) sg ((h5 _ _ (inW hp (by decide +kernel))).trans h_sg) (by first | exact q_a555021d16 hp0 | omega)) (by decide) (by decide) (fun v13 σ14 h12 => ?_)
    obtain ⟨h15, h16, z18, rfl, h17⟩ := h12
    have h19 := Fr_trans h8 h16 (by decide +kernel)
    refine En_callV rfl rfl rfl rfl rfl rfl rfl rfl tgz_0 (by decide +kernel) rfl (c_156 σ14 h15 z18 p hp ((h16 _ _ (inW tgz_0 (by decide +kernel))).trans ((h5 _ _ (inW tgz_0 (by decide +kernel))).trans h_p)) sg ((h16 _ _ (inW hp (by decide +kernel))).trans ((h5 _ _ (inW hp (by decide +kernel))).trans h_sg)) (by first | exact q_a555021d16 hp0 | omega)) (by decide) (by decide) (fun v21 σ22 h20 => ?_)
    obtain ⟨h23, h24, z26, rfl, h25⟩ := h20
    have h27 := Fr_trans h19 h24 (by decide +kernel)
    refine En_Ps 1 (pc' := 25) (lv' := [(0, .ref 0), (1, .int a)]) (st' := [.int z26]) rfl ?_
    exact En_ret (v := some (.int z26)) rfl rfl rfl ⟨h23, h27, z26, rfl, ⟨by first | exact q_70a249c7f8 h25.1 | omega, by first | exact q_4b9206e141 h25.2 | omega⟩⟩
/-- DoorSchool.next(II)I -/
abbrev P_157 (σ0 : SG) (a : Int32) (b : Int32) (p : Nat) (sg : Int32) : PO := fun v σ => WT σ ∧ Fr [] σ0 σ ∧ ∃ ret : Int32, v = some (.int ret) ∧ -ret.toInt - 2 ≤ 0 ∧ ret.toInt - 15 ≤ 0
set_option maxRecDepth 10000 in
set_option maxHeartbeats 4000000 in
theorem c_157 (σ0 : SG) (hσ0 : WT σ0) (a : Int32) (b : Int32) (p : Nat) (hp : TG p = 18) (h_p : (σ0 0)[9]? = some (.ref p)) (sg : Int32) (h_sg : (σ0 p)[1]? = some (.int sg)) (hp0 : -sg.toInt ≤ 0) : En 4 94 none mr_157 (P_157 σ0 a b p sg) 0 [(0, .ref 0), (1, .int a), (2, .int b)] [] σ0 := by
  obtain ⟨hl_sg, hu_sg⟩ := WT_int hσ0 (g := 18) hp (by decide +kernel) (l := (-1)) (u := 4) (by decide +kernel) h_sg
  have hF0 : Fr [] σ0 σ0 := Fr_rfl
  refine En_Ps 1 (pc' := 1) (lv' := [(0, .ref 0), (1, .int a), (2, .int b)]) (st' := [.int a]) rfl ?_
  refine En_callS rfl rfl rfl rfl rfl rfl rfl rfl rfl (c_148 σ0 hσ0 a) (by decide) (by decide) (fun v2 σ3 h1 => ?_)
  obtain ⟨h4, h5, z7, rfl, h6⟩ := h1
  have h8 := Fr_trans hF0 h5 (by decide +kernel)
  refine En_iEq _ rfl rfl (fun h9 => ?_) (fun h9 => ?_)
  · refine En_Ps 1 (pc' := 20) (lv' := [(0, .ref 0), (1, .int a), (2, .int b)]) (st' := [.int (((Int8.ofInt (-2)).toInt32))]) rfl ?_
    refine En_top (by decide : ((Int8.ofInt (-2)).toInt32).toInt = -2) (fun z10 h11 => ?_)
    exact En_ret (v := some (.int z10)) rfl rfl rfl ⟨h4, h8, z10, rfl, ⟨by first | exact q_f35c5d346c h11 | omega, by first | exact q_12a74e12a3 h11 | omega⟩⟩
  · refine En_Ps 1 (pc' := 8) (lv' := [(0, .ref 0), (1, .int a), (2, .int b)]) (st' := [.ref 0]) rfl ?_
    refine En_getK (j := 9) ((h5 _ _ (inW tgz_0 (by decide +kernel))).trans h_p) rfl rfl rfl tgz_0 (by decide +kernel) ?_
    refine En_Ps 1 (pc' := 12) (lv' := [(0, .ref 0), (1, .int a), (2, .int b)]) (st' := [.int b, .ref p]) rfl ?_
    refine En_callV rfl rfl rfl rfl rfl rfl rfl rfl hp (by decide +kernel) rfl (c_46 σ3 h4 p hp b sg ((h5 _ _ (inW hp (by decide +kernel))).trans h_sg) (by first | exact q_a555021d16 hp0 | omega)) (by decide) (by decide) (fun v13 σ14 h12 => ?_)
    obtain ⟨h15, h16, z18, rfl, h17⟩ := h12
    have h19 := Fr_trans h8 h16 (by decide +kernel)
    refine En_iNe _ rfl rfl (fun h20 => ?_) (fun h20 => ?_)
    · refine En_Ps 6 (pc' := 31) (lv' := [(5, .int ((Int32.ofInt 0))), (4, .int (((Int16.ofInt 1297).toInt32))), (3, .int ((Int32.ofInt (-1)))), (0, .ref 0), (1, .int a), (2, .int b)]) (st' := []) rfl ?_
      have key31 : ∀ (n31 : Nat) (σ24 : SG) (y21 : Int32) (y22 : Int32) (y23 : Int32), WT σ24 → Fr [] σ0 σ24 → (σ24 0)[9]? = some (.ref p) → (σ24 p)[1]? = some (.int sg) → (-1) ≤ y21.toInt → y21.toInt ≤ 15 → y22.toInt ≤ 1297 → 0 ≤ y23.toInt → y23.toInt ≤ 16 → y21.toInt - y23.toInt + 1 ≤ 0 → -y23.toInt + 16 < (n31 : Int) → En 4 94 none mr_157 (P_157 σ0 a b p sg) 31 [(0, .ref 0), (1, .int a), (2, .int b), (3, .int y21), (4, .int y22), (5, .int y23)] [] σ24 := by
        intro n31
        induction n31 with
        | zero =>
          intro σ24 y21 y22 y23 h25 h26 h27 h28 h29 h30 h31 h32 h33 h34 h35
          first | exact (q_511f6d33ac h35 h33).elim | (exfalso; omega)
        | succ n31 ih31 =>
          intro σ24 y21 y22 y23 h25 h26 h27 h28 h29 h30 h31 h32 h33 h34 h35
          refine En_Ps 2 (pc' := 34) (lv' := [(0, .ref 0), (1, .int a), (2, .int b), (3, .int y21), (4, .int y22), (5, .int y23)]) (st' := [.ref 0, .int y23]) rfl ?_
          refine En_getK (j := 9) h27 rfl rfl rfl tgz_0 (by decide +kernel) ?_
          refine En_callV rfl rfl rfl rfl rfl rfl rfl rfl hp (by decide +kernel) rfl (c_51 σ24 h25 p hp sg h28 (by first | exact q_a555021d16 hp0 | omega)) (by decide) (by decide) (fun v37 σ38 h36 => ?_)
          obtain ⟨h39, h40, z42, rfl, h41⟩ := h36
          have h43 := Fr_trans h26 h40 (by decide +kernel)
          refine En_icGe _ rfl rfl rfl (fun h44 => ?_) (fun h44 => ?_)
          · refine En_Ps 1 (pc' := 89) (lv' := [(0, .ref 0), (1, .int a), (2, .int b), (3, .int y21), (4, .int y22), (5, .int y23)]) (st' := [.int y21]) rfl ?_
            exact En_ret (v := some (.int y21)) rfl rfl rfl ⟨h39, h43, y21, rfl, ⟨by first | exact q_fe58cd40d0 h29 | omega, by first | exact q_867a9ac627 h30 | omega⟩⟩
          · refine En_Ps 2 (pc' := 46) (lv' := [(0, .ref 0), (1, .int a), (2, .int b), (3, .int y21), (4, .int y22), (5, .int y23)]) (st' := [.int y23, .int b]) rfl ?_
            refine En_callS rfl rfl rfl rfl rfl rfl rfl rfl rfl (c_108 σ38 h39 b y23) (by decide) (by decide) (fun v46 σ47 h45 => ?_)
            obtain ⟨h48, h49, z51, rfl, h50⟩ := h45
            have h52 := Fr_trans h43 h49 (by decide +kernel)
            refine En_iNe _ rfl rfl (fun h53 => ?_) (fun h53 => ?_)
            · refine En_Ps 1 (pc' := 85) (lv' := [(5, .int ((y23 + Int32.ofInt 1))), (0, .ref 0), (1, .int a), (2, .int b), (3, .int y21), (4, .int y22)]) (st' := []) rfl ?_
              refine En_lv1 (addI rfl (by decide : (Int32.ofInt 1).toInt = 1) (by first | exact q_465ab79ac1 h32 | omega) (by first | exact q_f3f8e04381 h33 | omega)) (fun z54 h55 => ?_)
              refine En_Ps 1 (pc' := 31) (lv' := [(5, .int z54), (0, .ref 0), (1, .int a), (2, .int b), (3, .int y21), (4, .int y22)]) (st' := []) rfl ?_
              refine En_lv (lv := [(0, .ref 0), (1, .int a), (2, .int b), (3, .int y21), (4, .int y22), (5, .int z54)]) ⟨rfl, rfl, rfl, rfl, rfl, rfl, trivial⟩ ?_
              exact ih31 σ47 y21 y22 z54 h48 h52 ((h49 _ _ (inW tgz_0 (by decide +kernel))).trans ((h40 _ _ (inW tgz_0 (by decide +kernel))).trans h27)) ((h49 _ _ (inW hp (by decide +kernel))).trans ((h40 _ _ (inW hp (by decide +kernel))).trans h28)) (by first | exact q_77b189e83d h29 | omega) (by first | exact q_5a4d8a7e08 h30 | omega) (by first | exact q_ce07321c0d h31 | omega) (by first | exact q_35104ce9d3 h55 h32 | omega) (by first | exact q_34dc714687 h55 h44 h41.2 | omega) (by first | exact q_6591527e3e h34 h55 | omega) (by first | exact q_c5d740bdff h55 h35 | omega)
            · refine En_Ps 1 (pc' := 53) (lv' := [(0, .ref 0), (1, .int a), (2, .int b), (3, .int y21), (4, .int y22), (5, .int y23)]) (st' := [.ref 0]) rfl ?_
              refine En_getU (j := 3) (u := 8) (g' := 8) (q := 0) rfl rfl rfl tgz_0 (by decide +kernel) h48 (by decide +kernel) (by decide +kernel) (fun h56 => ?_)
              refine En_Ps 5 (pc' := 62) (lv' := [(0, .ref 0), (1, .int a), (2, .int b), (3, .int y21), (4, .int y22), (5, .int y23)]) (st' := [.int ((((Int32.ofInt 1)) <<< (y23 &&& 31))), .int b, .int a, .ref 8]) rfl ?_
              refine En_rng (shl1_p 15 rfl (by omega) (by omega) (by decide)) (fun z58 h59 h60 => ?_)
              refine En_Ps 1 (pc' := 63) (lv' := [(0, .ref 0), (1, .int a), (2, .int b), (3, .int y21), (4, .int y22), (5, .int y23)]) (st' := [.int ((b ||| z58)), .int a, .ref 8]) rfl ?_
              refine En_rng (l := 0) (u := 65535) (or_rng 16 rfl rfl (by omega) (by omega) (by omega) (by omega) (by decide)) (fun z61 h62 h63 => ?_)
              refine En_callV rfl rfl rfl rfl rfl rfl rfl rfl tgz_8 (by decide +kernel) rfl (c_20 σ47 h48 a z61) (by decide) (by decide) (fun v65 σ66 h64 => ?_)
              obtain ⟨h67, h68, z70, rfl, h69⟩ := h64
              have h71 := Fr_trans h52 h68 (by decide +kernel)
              refine En_Ps 3 (pc' := 72) (lv' := [(6, .int z70), (0, .ref 0), (1, .int a), (2, .int b), (3, .int y21), (4, .int y22), (5, .int y23)]) (st' := [.int y22, .int z70]) rfl ?_
              refine En_icGe _ rfl rfl rfl (fun h72 => ?_) (fun h72 => ?_)
              · refine En_Ps 1 (pc' := 85) (lv' := [(5, .int ((y23 + Int32.ofInt 1))), (6, .int z70), (0, .ref 0), (1, .int a), (2, .int b), (3, .int y21), (4, .int y22)]) (st' := []) rfl ?_
                refine En_lv1 (addI rfl (by decide : (Int32.ofInt 1).toInt = 1) (by first | exact q_465ab79ac1 h32 | omega) (by first | exact q_f3f8e04381 h33 | omega)) (fun z73 h74 => ?_)
                refine En_Ps 1 (pc' := 31) (lv' := [(5, .int z73), (6, .int z70), (0, .ref 0), (1, .int a), (2, .int b), (3, .int y21), (4, .int y22)]) (st' := []) rfl ?_
                refine En_lv (lv := [(0, .ref 0), (1, .int a), (2, .int b), (3, .int y21), (4, .int y22), (5, .int z73)]) ⟨rfl, rfl, rfl, rfl, rfl, rfl, trivial⟩ ?_
                exact ih31 σ66 y21 y22 z73 h67 h71 ((h68 _ _ (inW tgz_0 (by decide +kernel))).trans ((h49 _ _ (inW tgz_0 (by decide +kernel))).trans ((h40 _ _ (inW tgz_0 (by decide +kernel))).trans h27))) ((h68 _ _ (inW hp (by decide +kernel))).trans ((h49 _ _ (inW hp (by decide +kernel))).trans ((h40 _ _ (inW hp (by decide +kernel))).trans h28))) (by first | exact q_77b189e83d h29 | omega) (by first | exact q_5a4d8a7e08 h30 | omega) (by first | exact q_ce07321c0d h31 | omega) (by first | exact q_35104ce9d3 h74 h32 | omega) (by first | exact q_34dc714687 h74 h44 h41.2 | omega) (by first | exact q_6591527e3e h34 h74 | omega) (by first | exact q_c5d740bdff h74 h35 | omega)
              · refine En_Ps 5 (pc' := 85) (lv' := [(5, .int ((y23 + Int32.ofInt 1))), (3, .int y23), (4, .int z70), (6, .int z70), (0, .ref 0), (1, .int a), (2, .int b)]) (st' := []) rfl ?_
                refine En_lv1 (addI rfl (by decide : (Int32.ofInt 1).toInt = 1) (by first | exact q_465ab79ac1 h32 | omega) (by first | exact q_f3f8e04381 h33 | omega)) (fun z75 h76 => ?_)
                refine En_Ps 1 (pc' := 31) (lv' := [(5, .int z75), (3, .int y23), (4, .int z70), (6, .int z70), (0, .ref 0), (1, .int a), (2, .int b)]) (st' := []) rfl ?_
                refine En_lv (lv := [(0, .ref 0), (1, .int a), (2, .int b), (3, .int y23), (4, .int z70), (5, .int z75)]) ⟨rfl, rfl, rfl, rfl, rfl, rfl, trivial⟩ ?_
                exact ih31 σ66 y23 z70 z75 h67 h71 ((h68 _ _ (inW tgz_0 (by decide +kernel))).trans ((h49 _ _ (inW tgz_0 (by decide +kernel))).trans ((h40 _ _ (inW tgz_0 (by decide +kernel))).trans h27))) ((h68 _ _ (inW hp (by decide +kernel))).trans ((h49 _ _ (inW hp (by decide +kernel))).trans ((h40 _ _ (inW hp (by decide +kernel))).trans h28))) (by first | exact q_5b439548fc h32 | omega) (by first | exact q_c15b485600 h44 h41.2 | omega) (by first | exact q_a1a35d549d h72 h31 | omega) (by first | exact q_35104ce9d3 h76 h32 | omega) (by first | exact q_34dc714687 h76 h44 h41.2 | omega) (by first | exact q_2fedec469a h76 | omega) (by first | exact q_c5d740bdff h76 h35 | omega)
      have := (by decide : (Int32.ofInt (-1)).toInt = -1)
      have := (by decide : ((Int16.ofInt 1297).toInt32).toInt = 1297)
      have := (by decide : (Int32.ofInt 0).toInt = 0)
      refine En_lv (lv := [(0, .ref 0), (1, .int a), (2, .int b), (3, .int ((Int32.ofInt (-1)))), (4, .int (((Int16.ofInt 1297).toInt32))), (5, .int ((Int32.ofInt 0)))]) ⟨rfl, rfl, rfl, rfl, rfl, rfl, trivial⟩ ?_
      exact key31 (Int.toNat (16) + 1) σ14 ((Int32.ofInt (-1))) (((Int16.ofInt 1297).toInt32)) ((Int32.ofInt 0)) h15 h19 ((h16 _ _ (inW tgz_0 (by decide +kernel))).trans ((h5 _ _ (inW tgz_0 (by decide +kernel))).trans h_p)) ((h16 _ _ (inW hp (by decide +kernel))).trans ((h5 _ _ (inW hp (by decide +kernel))).trans h_sg)) (by decide) (by decide) (by decide) (by decide) (by decide) (by omega) (by first | exact toN_lt _ | omega)
    · refine En_Ps 1 (pc' := 20) (lv' := [(0, .ref 0), (1, .int a), (2, .int b)]) (st' := [.int (((Int8.ofInt (-2)).toInt32))]) rfl ?_
      refine En_top (by decide : ((Int8.ofInt (-2)).toInt32).toInt = -2) (fun z77 h78 => ?_)
      exact En_ret (v := some (.int z77)) rfl rfl rfl ⟨h15, h19, z77, rfl, ⟨by first | exact q_f35c5d346c h78 | omega, by first | exact q_12a74e12a3 h78 | omega⟩⟩
/-- DoorSchool.often(I)I -/
abbrev P_158 (σ0 : SG) (a : Int32) (p : Nat) (sg : Int32) : PO := fun v σ => WT σ ∧ Fr [] σ0 σ ∧ ∃ ret : Int32, v = some (.int ret) ∧ -ret.toInt - 2 ≤ 0 ∧ ret.toInt - 63 ≤ 0
set_option maxRecDepth 10000 in
set_option maxHeartbeats 4000000 in
theorem c_158 (σ0 : SG) (hσ0 : WT σ0) (a : Int32) (p : Nat) (hp : TG p = 18) (h_p : (σ0 0)[9]? = some (.ref p)) (sg : Int32) (h_sg : (σ0 p)[1]? = some (.int sg)) (hp0 : -sg.toInt ≤ 0) : En 4 92 none mr_158 (P_158 σ0 a p sg) 0 [(0, .ref 0), (1, .int a)] [] σ0 := by
  obtain ⟨hl_sg, hu_sg⟩ := WT_int hσ0 (g := 18) hp (by decide +kernel) (l := (-1)) (u := 4) (by decide +kernel) h_sg
  have hF0 : Fr [] σ0 σ0 := Fr_rfl
  refine En_Ps 1 (pc' := 1) (lv' := [(0, .ref 0), (1, .int a)]) (st' := [.ref 0]) rfl ?_
  refine En_getK (j := 9) h_p rfl rfl rfl tgz_0 (by decide +kernel) ?_
  refine En_Ps 1 (pc' := 5) (lv' := [(0, .ref 0), (1, .int a)]) (st' := [.int a, .ref p]) rfl ?_
  refine En_callV rfl rfl rfl rfl rfl rfl rfl rfl hp (by decide +kernel) rfl (c_47 σ0 hσ0 p hp a) (by decide) (by decide) (fun v2 σ3 h1 => ?_)
  obtain ⟨h4, h5, z7, rfl, h6⟩ := h1
  have h8 := Fr_trans hF0 h5 (by decide +kernel)
  refine En_iEq _ rfl rfl (fun h9 => ?_) (fun h9 => ?_)
  · refine En_Ps 1 (pc' := 24) (lv' := [(0, .ref 0), (1, .int a)]) (st' := [.int (((Int8.ofInt (-2)).toInt32))]) rfl ?_
    refine En_top (by decide : ((Int8.ofInt (-2)).toInt32).toInt = -2) (fun z10 h11 => ?_)
    exact En_ret (v := some (.int z10)) rfl rfl rfl ⟨h4, h8, z10, rfl, ⟨by first | exact q_f35c5d346c h11 | omega, by first | exact q_443ead751f h11 | omega⟩⟩
  · refine En_Ps 2 (pc' := 13) (lv' := [(0, .ref 0), (1, .int a)]) (st' := [.int a, .ref 0]) rfl ?_
    refine En_callV rfl rfl rfl rfl rfl rfl rfl rfl tgz_0 (by decide +kernel) rfl (c_114 σ3 h4 a (geI rfl (by omega)) (leI rfl (by omega)) p hp ((h5 _ _ (inW tgz_0 (by decide +kernel))).trans h_p) sg ((h5 _ _ (inW hp (by decide +kernel))).trans h_sg) (by first | exact q_a555021d16 hp0 | omega)) (by decide) (by decide) (fun v13 σ14 h12 => ?_)
    obtain ⟨h15, h16, z18, rfl, h17⟩ := h12
    have h19 := Fr_trans h8 h16 (by decide +kernel)
    refine En_callS rfl rfl rfl rfl rfl rfl rfl rfl rfl (c_7 σ14 h15 z18) (by decide) (by decide) (fun v21 σ22 h20 => ?_)
    obtain ⟨h23, h24, z26, rfl, h25⟩ := h20
    have h27 := Fr_trans h19 h24 (by decide +kernel)
    refine En_Ps 1 (pc' := 24) (lv' := [(0, .ref 0), (1, .int a)]) (st' := [.int z26]) rfl ?_
    exact En_ret (v := some (.int z26)) rfl rfl rfl ⟨h23, h27, z26, rfl, ⟨by first | exact q_70a249c7f8 h25.1 | omega, by first | exact q_4b9206e141 h25.2 | omega⟩⟩
/-- DoorSchool.opens(II)I -/
abbrev P_159 (σ0 : SG) (a : Int32) (b : Int32) (p : Nat) (sg : Int32) : PO := fun v σ => WT σ ∧ Fr [] σ0 σ ∧ ∃ ret : Int32, v = some (.int ret) ∧ -ret.toInt - 2 ≤ 0 ∧ ret.toInt - 1 ≤ 0
set_option maxRecDepth 10000 in
set_option maxHeartbeats 4000000 in
theorem c_159 (σ0 : SG) (hσ0 : WT σ0) (a : Int32) (b : Int32) (p : Nat) (hp : TG p = 18) (h_p : (σ0 0)[9]? = some (.ref p)) (sg : Int32) (h_sg : (σ0 p)[1]? = some (.int sg)) (hp0 : -sg.toInt ≤ 0) : En 4 92 none mr_159 (P_159 σ0 a b p sg) 0 [(0, .ref 0), (1, .int a), (2, .int b)] [] σ0 := by
  obtain ⟨hl_sg, hu_sg⟩ := WT_int hσ0 (g := 18) hp (by decide +kernel) (l := (-1)) (u := 4) (by decide +kernel) h_sg
  have hF0 : Fr [] σ0 σ0 := Fr_rfl
  refine En_Ps 1 (pc' := 1) (lv' := [(0, .ref 0), (1, .int a), (2, .int b)]) (st' := [.ref 0]) rfl ?_
  refine En_getK (j := 9) h_p rfl rfl rfl tgz_0 (by decide +kernel) ?_
  refine En_Ps 1 (pc' := 5) (lv' := [(0, .ref 0), (1, .int a), (2, .int b)]) (st' := [.int a, .ref p]) rfl ?_
  refine En_callV rfl rfl rfl rfl rfl rfl rfl rfl hp (by decide +kernel) rfl (c_47 σ0 hσ0 p hp a) (by decide) (by decide) (fun v2 σ3 h1 => ?_)
  obtain ⟨h4, h5, z7, rfl, h6⟩ := h1
  have h8 := Fr_trans hF0 h5 (by decide +kernel)
  refine En_iEq _ rfl rfl (fun h9 => ?_) (fun h9 => ?_)
  · refine En_Ps 1 (pc' := 24) (lv' := [(0, .ref 0), (1, .int a), (2, .int b)]) (st' := [.int (((Int8.ofInt (-2)).toInt32))]) rfl ?_
    refine En_top (by decide : ((Int8.ofInt (-2)).toInt32).toInt = -2) (fun z10 h11 => ?_)
    exact En_ret (v := some (.int z10)) rfl rfl rfl ⟨h4, h8, z10, rfl, ⟨by first | exact q_f35c5d346c h11 | omega, by first | exact q_680688d8e6 h11 | omega⟩⟩
  · refine En_Ps 1 (pc' := 12) (lv' := [(0, .ref 0), (1, .int a), (2, .int b)]) (st' := [.ref 0]) rfl ?_
    refine En_getK (j := 9) ((h5 _ _ (inW tgz_0 (by decide +kernel))).trans h_p) rfl rfl rfl tgz_0 (by decide +kernel) ?_
    refine En_Ps 1 (pc' := 16) (lv' := [(0, .ref 0), (1, .int a), (2, .int b)]) (st' := [.int b, .ref p]) rfl ?_
    refine En_callV rfl rfl rfl rfl rfl rfl rfl rfl hp (by decide +kernel) rfl (c_49 σ3 h4 p hp b sg ((h5 _ _ (inW hp (by decide +kernel))).trans h_sg) (by first | exact q_a555021d16 hp0 | omega)) (by decide) (by decide) (fun v13 σ14 h12 => ?_)
    obtain ⟨h15, h16, z18, rfl, h17⟩ := h12
    have h19 := Fr_trans h8 h16 (by decide +kernel)
    refine En_iNe _ rfl rfl (fun h20 => ?_) (fun h20 => ?_)
    · refine En_Ps 2 (pc' := 27) (lv' := [(0, .ref 0), (1, .int a), (2, .int b)]) (st' := [.int a, .ref 0]) rfl ?_
      refine En_callV rfl rfl rfl rfl rfl rfl rfl rfl tgz_0 (by decide +kernel) rfl (c_114 σ14 h15 a (geI rfl (by omega)) (leI rfl (by omega)) p hp ((h16 _ _ (inW tgz_0 (by decide +kernel))).trans ((h5 _ _ (inW tgz_0 (by decide +kernel))).trans h_p)) sg ((h16 _ _ (inW hp (by decide +kernel))).trans ((h5 _ _ (inW hp (by decide +kernel))).trans h_sg)) (by first | exact q_a555021d16 hp0 | omega)) (by decide) (by decide) (fun v22 σ23 h21 => ?_)
      obtain ⟨h24, h25, z27, rfl, h26⟩ := h21
      have h28 := Fr_trans h19 h25 (by decide +kernel)
      refine En_Ps 1 (pc' := 31) (lv' := [(0, .ref 0), (1, .int a), (2, .int b)]) (st' := [.int b, .int z27]) rfl ?_
      refine En_callS rfl rfl rfl rfl rfl rfl rfl rfl rfl (c_108 σ23 h24 z27 b) (by decide) (by decide) (fun v30 σ31 h29 => ?_)
      obtain ⟨h32, h33, z35, rfl, h34⟩ := h29
      have h36 := Fr_trans h28 h33 (by decide +kernel)
      exact En_ret (v := some (.int z35)) rfl rfl rfl ⟨h32, h36, z35, rfl, ⟨by first | exact q_70a249c7f8 h34.1 | omega, by first | exact q_ad5b726bf8 h34.2 | omega⟩⟩
    · refine En_Ps 1 (pc' := 24) (lv' := [(0, .ref 0), (1, .int a), (2, .int b)]) (st' := [.int (((Int8.ofInt (-2)).toInt32))]) rfl ?_
      refine En_top (by decide : ((Int8.ofInt (-2)).toInt32).toInt = -2) (fun z37 h38 => ?_)
      exact En_ret (v := some (.int z37)) rfl rfl rfl ⟨h15, h19, z37, rfl, ⟨by first | exact q_f35c5d346c h38 | omega, by first | exact q_680688d8e6 h38 | omega⟩⟩
/-- DoorSchool.paste(IIIII)I -/
abbrev P_162 (σ0 : SG) (a : Int32) (b : Int32) (c : Int32) (d : Int32) (e : Int32) (p : Nat) (sg : Int32) : PO := fun v σ => WT σ ∧ Fr [(34, 0)] σ0 σ ∧ ∃ ret : Int32, v = some (.int ret) ∧ -ret.toInt - 8 ≤ 0 ∧ ret.toInt ≤ 0
set_option maxRecDepth 10000 in
set_option maxHeartbeats 4000000 in
theorem c_162 (σ0 : SG) (hσ0 : WT σ0) (a : Int32) (b : Int32) (c : Int32) (d : Int32) (e : Int32) (p : Nat) (hp : TG p = 18) (h_p : (σ0 0)[9]? = some (.ref p)) (sg : Int32) (h_sg : (σ0 p)[1]? = some (.int sg)) (hp0 : -sg.toInt ≤ 0) : En 1 60 none mr_162 (P_162 σ0 a b c d e p sg) 0 [(0, .ref 0), (1, .int a), (2, .int b), (3, .int c), (4, .int d), (5, .int e)] [] σ0 := by
  obtain ⟨hl_sg, hu_sg⟩ := WT_int hσ0 (g := 18) hp (by decide +kernel) (l := (-1)) (u := 4) (by decide +kernel) h_sg
  have hF0 : Fr [(34, 0)] σ0 σ0 := Fr_rfl
  refine En_Ps 1 (pc' := 1) (lv' := [(0, .ref 0), (1, .int a), (2, .int b), (3, .int c), (4, .int d), (5, .int e)]) (st' := [.int a]) rfl ?_
  refine En_callS rfl rfl rfl rfl rfl rfl rfl rfl rfl (c_147 σ0 hσ0 a) (by decide) (by decide) (fun v2 σ3 h1 => ?_)
  obtain ⟨h4, h5, z7, rfl, h6⟩ := h1
  have h8 := Fr_trans hF0 h5 (by decide +kernel)
  refine En_iEq _ rfl rfl (fun h9 => ?_) (fun h9 => ?_)
  · refine En_Ps 1 (pc' := 16) (lv' := [(0, .ref 0), (1, .int a), (2, .int b), (3, .int c), (4, .int d), (5, .int e)]) (st' := [.int (((Int8.ofInt (-2)).toInt32))]) rfl ?_
    refine En_top (by decide : ((Int8.ofInt (-2)).toInt32).toInt = -2) (fun z10 h11 => ?_)
    exact En_ret (v := some (.int z10)) rfl rfl rfl ⟨h4, h8, z10, rfl, ⟨by first | exact q_a9585dd42b h11 | omega, by first | exact q_bbb39ffa1e h11 | omega⟩⟩
  · refine En_Ps 1 (pc' := 8) (lv' := [(0, .ref 0), (1, .int a), (2, .int b), (3, .int c), (4, .int d), (5, .int e)]) (st' := [.int c]) rfl ?_
    refine En_callS rfl rfl rfl rfl rfl rfl rfl rfl rfl (c_147 σ3 h4 c) (by decide) (by decide) (fun v13 σ14 h12 => ?_)
    obtain ⟨h15, h16, z18, rfl, h17⟩ := h12
    have h19 := Fr_trans h8 h16 (by decide +kernel)
    refine En_iNe _ rfl rfl (fun h20 => ?_) (fun h20 => ?_)
    · refine En_Ps 1 (pc' := 18) (lv' := [(0, .ref 0), (1, .int a), (2, .int b), (3, .int c), (4, .int d), (5, .int e)]) (st' := [.ref 0]) rfl ?_
      refine En_getU (j := 6) (u := 150) (g' := 32) (q := 0) rfl rfl rfl tgz_0 (by decide +kernel) h15 (by decide +kernel) (by decide +kernel) (fun h21 => ?_)
      refine En_Ps 1 (pc' := 22) (lv' := [(0, .ref 0), (1, .int a), (2, .int b), (3, .int c), (4, .int d), (5, .int e)]) (st' := [.int a, .ref 150]) rfl ?_
      refine En_aald (g' := 33) (u := 0) rfl rfl tgz_150 (by decide +kernel) h15 (by omega) (lnI (by decide +kernel : LN _ = 4) (by omega)) (FTsgl (by decide +kernel)) (fun a24 h23 ha24 => ?_)
      refine En_Ps 2 (pc' := 26) (lv' := [(6, .ref a24), (0, .ref 0), (1, .int a), (2, .int b), (3, .int c), (4, .int d), (5, .int e)]) (st' := [.ref 0]) rfl ?_
      refine En_getK (j := 6) h21 rfl rfl rfl tgz_0 (by decide +kernel) ?_
      refine En_Ps 1 (pc' := 30) (lv' := [(6, .ref a24), (0, .ref 0), (1, .int a), (2, .int b), (3, .int c), (4, .int d), (5, .int e)]) (st' := [.int c, .ref 150]) rfl ?_
      refine En_aald (g' := 33) (u := 0) rfl rfl tgz_150 (by decide +kernel) h15 (by omega) (lnI (by decide +kernel : LN _ = 4) (by omega)) (FTsgl (by decide +kernel)) (fun a26 h25 ha26 => ?_)
      refine En_Ps 2 (pc' := 35) (lv' := [(7, .ref a26), (6, .ref a24), (0, .ref 0), (1, .int a), (2, .int b), (3, .int c), (4, .int d), (5, .int e)]) (st' := [.ref a24]) rfl ?_
      refine En_getI (j := 1) (l := 0) (u := 1) rfl rfl rfl ha24 (by decide +kernel) h15 (by decide +kernel) (fun z28 h27 h29 h30 => ?_)
      refine En_iEq _ rfl rfl (fun h31 => ?_) (fun h31 => ?_)
      · refine En_Ps 1 (pc' := 51) (lv' := [(7, .ref a26), (6, .ref a24), (0, .ref 0), (1, .int a), (2, .int b), (3, .int c), (4, .int d), (5, .int e)]) (st' := [.int (((Int8.ofInt (-6)).toInt32))]) rfl ?_
        refine En_top (by decide : ((Int8.ofInt (-6)).toInt32).toInt = -6) (fun z32 h33 => ?_)
        exact En_ret (v := some (.int z32)) rfl rfl rfl ⟨h15, h19, z32, rfl, ⟨by first | exact q_04810bc0c7 h33 | omega, by first | exact q_9bcb887de1 h33 | omega⟩⟩
      · refine En_Ps 1 (pc' := 43) (lv' := [(7, .ref a26), (6, .ref a24), (0, .ref 0), (1, .int a), (2, .int b), (3, .int c), (4, .int d), (5, .int e)]) (st' := [.ref a26]) rfl ?_
        refine En_getI (j := 1) (l := 0) (u := 1) rfl rfl rfl ha26 (by decide +kernel) h15 (by decide +kernel) (fun z35 h34 h36 h37 => ?_)
        refine En_iNe _ rfl rfl (fun h38 => ?_) (fun h38 => ?_)
        · refine En_Ps 1 (pc' := 54) (lv' := [(7, .ref a26), (6, .ref a24), (0, .ref 0), (1, .int a), (2, .int b), (3, .int c), (4, .int d), (5, .int e)]) (st' := [.ref a24]) rfl ?_
          refine En_getI (j := 2) (l := 0) (u := 3) rfl rfl rfl ha24 (by decide +kernel) h15 (by decide +kernel) (fun z40 h39 h41 h42 => ?_)
          refine En_Ps 1 (pc' := 59) (lv' := [(7, .ref a26), (6, .ref a24), (0, .ref 0), (1, .int a), (2, .int b), (3, .int c), (4, .int d), (5, .int e)]) (st' := [.ref a26, .int z40]) rfl ?_
          refine En_getI (j := 2) (l := 0) (u := 3) rfl rfl rfl ha26 (by decide +kernel) h15 (by decide +kernel) (fun z44 h43 h45 h46 => ?_)
          refine En_icEq _ rfl rfl rfl (fun h47 => ?_) (fun h47 => ?_)
          · refine En_Ps 3 (pc' := 73) (lv' := [(7, .ref a26), (6, .ref a24), (0, .ref 0), (1, .int a), (2, .int b), (3, .int c), (4, .int d), (5, .int e)]) (st' := [.int e, .int b, .ref a24]) rfl ?_
            obtain ⟨z49, h48, h50, h51⟩ := WT_peekI h15 ha24 (by decide +kernel : FT 33 3 = (0, 0, 60)) (by decide +kernel)
            refine En_callV rfl rfl rfl rfl rfl rfl rfl rfl ha24 (by decide +kernel) rfl (c_85 σ14 h15 a24 ha24 b e z49 h48) (by decide) (by decide) (fun v53 σ54 h52 => ?_)
            obtain ⟨h55, h56, z58, rfl, h57⟩ := h52
            have h59 := Fr_trans h19 h56 (by decide +kernel)
            refine En_iEq _ rfl rfl (fun h60 => ?_) (fun h60 => ?_)
            · refine En_Ps 1 (pc' := 93) (lv' := [(7, .ref a26), (6, .ref a24), (0, .ref 0), (1, .int a), (2, .int b), (3, .int c), (4, .int d), (5, .int e)]) (st' := [.int (((Int8.ofInt (-7)).toInt32))]) rfl ?_
              refine En_top (by decide : ((Int8.ofInt (-7)).toInt32).toInt = -7) (fun z61 h62 => ?_)
              exact En_ret (v := some (.int z61)) rfl rfl rfl ⟨h55, h59, z61, rfl, ⟨by first | exact q_bed7a61884 h62 | omega, by first | exact q_d916b56ab6 h62 | omega⟩⟩
            · refine En_Ps 3 (pc' := 85) (lv' := [(7, .ref a26), (6, .ref a24), (0, .ref 0), (1, .int a), (2, .int b), (3, .int c), (4, .int d), (5, .int e)]) (st' := [.int e, .int d, .ref a26]) rfl ?_
              obtain ⟨z64, h63, h65, h66⟩ := WT_peekI h55 ha26 (by decide +kernel : FT 33 3 = (0, 0, 60)) (by decide +kernel)
              refine En_callV rfl rfl rfl rfl rfl rfl rfl rfl ha26 (by decide +kernel) rfl (c_85 σ54 h55 a26 ha26 d e z64 h63) (by decide) (by decide) (fun v68 σ69 h67 => ?_)
              obtain ⟨h70, h71, z73, rfl, h72⟩ := h67
              have h74 := Fr_trans h59 h71 (by decide +kernel)
              refine En_iNe _ rfl rfl (fun h75 => ?_) (fun h75 => ?_)
              · refine En_Ps 1 (pc' := 96) (lv' := [(7, .ref a26), (6, .ref a24), (0, .ref 0), (1, .int a), (2, .int b), (3, .int c), (4, .int d), (5, .int e)]) (st' := [.ref a24]) rfl ?_
                refine En_getR (j := 0) (g' := 34) (u := 0) rfl rfl rfl ha24 (by decide +kernel) h70 (by decide +kernel) (fun a77 h76 ha77 => ?_)
                refine En_Ps 2 (pc' := 102) (lv' := [(7, .ref a26), (6, .ref a24), (0, .ref 0), (1, .int a), (2, .int b), (3, .int c), (4, .int d), (5, .int e)]) (st' := [.ref a26, .int b, .ref a77]) rfl ?_
                refine En_getR (j := 0) (g' := 34) (u := 0) rfl rfl rfl ha26 (by decide +kernel) h70 (by decide +kernel) (fun a79 h78 ha79 => ?_)
                refine En_Ps 2 (pc' := 109) (lv' := [(7, .ref a26), (6, .ref a24), (0, .ref 0), (1, .int a), (2, .int b), (3, .int c), (4, .int d), (5, .int e)]) (st' := [.int e, .int d, .ref a79, .int b, .ref a77]) rfl ?_
                refine En_copy (n0 := 60) (n1 := 60) rfl rfl rfl rfl rfl rfl rfl ha77 ha79 (by decide +kernel) (by decide +kernel) (by decide +kernel) (by decide +kernel) (by decide +kernel) (by omega) (by omega) (by omega) (by omega) (by omega) h70 h74 (by decide +kernel) (fun σ80 h81 h82 h83 => ?_)
                refine En_Ps 1 (pc' := 113) (lv' := [(7, .ref a26), (6, .ref a24), (0, .ref 0), (1, .int a), (2, .int b), (3, .int c), (4, .int d), (5, .int e)]) (st' := [.int ((Int32.ofInt 0))]) rfl ?_
                refine En_top (by decide : (Int32.ofInt 0).toInt = 0) (fun z84 h85 => ?_)
                exact En_ret (v := some (.int z84)) rfl rfl rfl ⟨h81, h82, z84, rfl, ⟨by first | exact q_444a964a01 h85 | omega, by first | exact q_c5d285f1b9 h85 | omega⟩⟩
              · refine En_Ps 1 (pc' := 93) (lv' := [(7, .ref a26), (6, .ref a24), (0, .ref 0), (1, .int a), (2, .int b), (3, .int c), (4, .int d), (5, .int e)]) (st' := [.int (((Int8.ofInt (-7)).toInt32))]) rfl ?_
                refine En_top (by decide : ((Int8.ofInt (-7)).toInt32).toInt = -7) (fun z86 h87 => ?_)
                exact En_ret (v := some (.int z86)) rfl rfl rfl ⟨h70, h74, z86, rfl, ⟨by first | exact q_bed7a61884 h87 | omega, by first | exact q_d916b56ab6 h87 | omega⟩⟩
          · refine En_Ps 1 (pc' := 67) (lv' := [(7, .ref a26), (6, .ref a24), (0, .ref 0), (1, .int a), (2, .int b), (3, .int c), (4, .int d), (5, .int e)]) (st' := [.int (((Int8.ofInt (-8)).toInt32))]) rfl ?_
            refine En_top (by decide : ((Int8.ofInt (-8)).toInt32).toInt = -8) (fun z88 h89 => ?_)
            exact En_ret (v := some (.int z88)) rfl rfl rfl ⟨h15, h19, z88, rfl, ⟨by first | exact q_433a6fecb0 h89 | omega, by first | exact q_e64e7d08e3 h89 | omega⟩⟩
        · refine En_Ps 1 (pc' := 51) (lv' := [(7, .ref a26), (6, .ref a24), (0, .ref 0), (1, .int a), (2, .int b), (3, .int c), (4, .int d), (5, .int e)]) (st' := [.int (((Int8.ofInt (-6)).toInt32))]) rfl ?_
          refine En_top (by decide : ((Int8.ofInt (-6)).toInt32).toInt = -6) (fun z90 h91 => ?_)
          exact En_ret (v := some (.int z90)) rfl rfl rfl ⟨h15, h19, z90, rfl, ⟨by first | exact q_04810bc0c7 h91 | omega, by first | exact q_9bcb887de1 h91 | omega⟩⟩
    · refine En_Ps 1 (pc' := 16) (lv' := [(0, .ref 0), (1, .int a), (2, .int b), (3, .int c), (4, .int d), (5, .int e)]) (st' := [.int (((Int8.ofInt (-2)).toInt32))]) rfl ?_
      refine En_top (by decide : ((Int8.ofInt (-2)).toInt32).toInt = -2) (fun z92 h93 => ?_)
      exact En_ret (v := some (.int z92)) rfl rfl rfl ⟨h15, h19, z92, rfl, ⟨by first | exact q_a9585dd42b h93 | omega, by first | exact q_bbb39ffa1e h93 | omega⟩⟩
/-- DoorSchool.rest(I)I -/
abbrev P_163 (σ0 : SG) (a : Int32) (p : Nat) (sg : Int32) : PO := fun v σ => WT σ ∧ Fr [] σ0 σ ∧ ∃ ret : Int32, v = some (.int ret) ∧ -ret.toInt - 2 ≤ 0 ∧ ret.toInt - 215 ≤ 0
set_option maxRecDepth 10000 in
set_option maxHeartbeats 4000000 in
theorem c_163 (σ0 : SG) (hσ0 : WT σ0) (a : Int32) (p : Nat) (hp : TG p = 18) (h_p : (σ0 0)[9]? = some (.ref p)) (sg : Int32) (h_sg : (σ0 p)[1]? = some (.int sg)) (hp0 : -sg.toInt ≤ 0) : En 6 138 none mr_163 (P_163 σ0 a p sg) 0 [(0, .ref 0), (1, .int a)] [] σ0 := by
  obtain ⟨hl_sg, hu_sg⟩ := WT_int hσ0 (g := 18) hp (by decide +kernel) (l := (-1)) (u := 4) (by decide +kernel) h_sg
  have hF0 : Fr [] σ0 σ0 := Fr_rfl
  refine En_Ps 1 (pc' := 1) (lv' := [(0, .ref 0), (1, .int a)]) (st' := [.ref 0]) rfl ?_
  refine En_getK (j := 9) h_p rfl rfl rfl tgz_0 (by decide +kernel) ?_
  refine En_Ps 1 (pc' := 5) (lv' := [(0, .ref 0), (1, .int a)]) (st' := [.int a, .ref p]) rfl ?_
  refine En_callV rfl rfl rfl rfl rfl rfl rfl rfl hp (by decide +kernel) rfl (c_47 σ0 hσ0 p hp a) (by decide) (by decide) (fun v2 σ3 h1 => ?_)
  obtain ⟨h4, h5, z7, rfl, h6⟩ := h1
  have h8 := Fr_trans hF0 h5 (by decide +kernel)
  refine En_iNe _ rfl rfl (fun h9 => ?_) (fun h9 => ?_)
  · refine En_Ps 2 (pc' := 16) (lv' := [(2, .int ((Int32.ofInt 0))), (0, .ref 0), (1, .int a)]) (st' := []) rfl ?_
    have key16 : ∀ (n16 : Nat) (σ11 : SG) (y10 : Int32), WT σ11 → Fr [] σ0 σ11 → (σ11 0)[9]? = some (.ref p) → (σ11 p)[1]? = some (.int sg) → 0 ≤ y10.toInt → y10.toInt ≤ 3 → -y10.toInt + 3 < (n16 : Int) → En 6 138 none mr_163 (P_163 σ0 a p sg) 16 [(0, .ref 0), (1, .int a), (2, .int y10)] [] σ11 := by
      intro n16
      induction n16 with
      | zero =>
        intro σ11 y10 h12 h13 h14 h15 h16 h17 h18
        first | exact (q_9f1e7068c9 h18 h17).elim | (exfalso; omega)
      | succ n16 ih16 =>
        intro σ11 y10 h12 h13 h14 h15 h16 h17 h18
        refine En_Ps 2 (pc' := 18) (lv' := [(0, .ref 0), (1, .int a), (2, .int y10)]) (st' := [.int ((Int32.ofInt 3)), .int y10]) rfl ?_
        refine En_icGe _ rfl (by decide : (Int32.ofInt 3).toInt = 3) rfl (fun h19 => ?_) (fun h19 => ?_)
        · refine En_Ps 1 (pc' := 64) (lv' := [(0, .ref 0), (1, .int a), (2, .int y10)]) (st' := [.int ((Int32.ofInt (-1)))]) rfl ?_
          refine En_top (by decide : (Int32.ofInt (-1)).toInt = -1) (fun z20 h21 => ?_)
          exact En_ret (v := some (.int z20)) rfl rfl rfl ⟨h12, h13, z20, rfl, ⟨by first | exact q_e1de8c7867 h21 | omega, by first | exact q_bfbda685e5 h21 | omega⟩⟩
        · refine En_Ps 2 (pc' := 23) (lv' := [(3, .int ((Int32.ofInt 0))), (0, .ref 0), (1, .int a), (2, .int y10)]) (st' := []) rfl ?_
          have key23 : ∀ (n23 : Nat) (σ23 : SG) (y22 : Int32), WT σ23 → Fr [] σ0 σ23 → (σ23 0)[9]? = some (.ref p) → (σ23 p)[1]? = some (.int sg) → 0 ≤ y22.toInt → y22.toInt ≤ 16 → -y22.toInt + 16 < (n23 : Int) → En 6 138 none mr_163 (P_163 σ0 a p sg) 23 [(0, .ref 0), (1, .int a), (2, .int y10), (3, .int y22)] [] σ23 := by
            intro n23
            induction n23 with
            | zero =>
              intro σ23 y22 h24 h25 h26 h27 h28 h29 h30
              first | exact (q_511f6d33ac h30 h29).elim | (exfalso; omega)
            | succ n23 ih23 =>
              intro σ23 y22 h24 h25 h26 h27 h28 h29 h30
              refine En_Ps 2 (pc' := 25) (lv' := [(0, .ref 0), (1, .int a), (2, .int y10), (3, .int y22)]) (st' := [.ref 0, .int y22]) rfl ?_
              refine En_getK (j := 9) h26 rfl rfl rfl tgz_0 (by decide +kernel) ?_
              refine En_callV rfl rfl rfl rfl rfl rfl rfl rfl hp (by decide +kernel) rfl (c_51 σ23 h24 p hp sg h27 (by first | exact q_a555021d16 hp0 | omega)) (by decide) (by decide) (fun v32 σ33 h31 => ?_)
              obtain ⟨h34, h35, z37, rfl, h36⟩ := h31
              have h38 := Fr_trans h25 h35 (by decide +kernel)
              refine En_icGe _ rfl rfl rfl (fun h39 => ?_) (fun h39 => ?_)
              · refine En_Ps 1 (pc' := 60) (lv' := [(2, .int ((y10 + Int32.ofInt 1))), (0, .ref 0), (1, .int a), (3, .int y22)]) (st' := []) rfl ?_
                refine En_lv1 (addI rfl (by decide : (Int32.ofInt 1).toInt = 1) (by first | exact q_465ab79ac1 h16 | omega) (by first | exact q_6ae830b01d h19 | omega)) (fun z40 h41 => ?_)
                refine En_Ps 1 (pc' := 16) (lv' := [(2, .int z40), (0, .ref 0), (1, .int a), (3, .int y22)]) (st' := []) rfl ?_
                refine En_lv (lv := [(0, .ref 0), (1, .int a), (2, .int z40)]) ⟨rfl, rfl, rfl, trivial⟩ ?_
                exact ih16 σ33 z40 h34 h38 ((h35 _ _ (inW tgz_0 (by decide +kernel))).trans h26) ((h35 _ _ (inW hp (by decide +kernel))).trans h27) (by first | exact q_35104ce9d3 h41 h16 | omega) (by first | exact q_84805d5d8e h41 h19 | omega) (by first | exact q_6272716eb4 h41 h18 | omega)
              · refine En_Ps 4 (pc' := 38) (lv' := [(0, .ref 0), (1, .int a), (2, .int y10), (3, .int y22)]) (st' := [.int y22, .int y10, .int a, .ref 0]) rfl ?_
                refine En_callV rfl rfl rfl rfl rfl rfl rfl rfl tgz_0 (by decide +kernel) rfl (c_145 σ33 h34 a y10 y22 (geI rfl (by omega)) (leI rfl (by omega)) (geI rfl (by first | exact q_58e6e51dcc h16 | omega)) (leI rfl (by first | exact q_f1519f12c0 h19 | omega)) p hp ((h35 _ _ (inW tgz_0 (by decide +kernel))).trans h26) sg ((h35 _ _ (inW hp (by decide +kernel))).trans h27) (by first | exact q_a555021d16 hp0 | omega)) (by decide) (by decide) (fun v43 σ44 h42 => ?_)
                obtain ⟨h45, h46, z48, rfl, h47⟩ := h42
                have h49 := Fr_trans h38 h46 (by decide +kernel)
                refine En_iEq _ rfl rfl (fun h50 => ?_) (fun h50 => ?_)
                · refine En_Ps 1 (pc' := 54) (lv' := [(3, .int ((y22 + Int32.ofInt 1))), (0, .ref 0), (1, .int a), (2, .int y10)]) (st' := []) rfl ?_
                  refine En_lv1 (addI rfl (by decide : (Int32.ofInt 1).toInt = 1) (by first | exact q_465ab79ac1 h28 | omega) (by first | exact q_f3f8e04381 h29 | omega)) (fun z51 h52 => ?_)
                  refine En_Ps 1 (pc' := 23) (lv' := [(3, .int z51), (0, .ref 0), (1, .int a), (2, .int y10)]) (st' := []) rfl ?_
                  refine En_lv (lv := [(0, .ref 0), (1, .int a), (2, .int y10), (3, .int z51)]) ⟨rfl, rfl, rfl, rfl, trivial⟩ ?_
                  exact ih23 σ44 z51 h45 h49 ((h46 _ _ (inW tgz_0 (by decide +kernel))).trans ((h35 _ _ (inW tgz_0 (by decide +kernel))).trans h26)) ((h46 _ _ (inW hp (by decide +kernel))).trans ((h35 _ _ (inW hp (by decide +kernel))).trans h27)) (by first | exact q_35104ce9d3 h52 h28 | omega) (by first | exact q_34dc714687 h52 h39 h36.2 | omega) (by first | exact q_c5d740bdff h52 h30 | omega)
                · refine En_Ps 3 (pc' := 48) (lv' := [(0, .ref 0), (1, .int a), (2, .int y10), (3, .int y22)]) (st' := [.int (((((Int8.ofInt 100).toInt32)) * y10))]) rfl ?_
                  refine En_top (mulI (by decide : ((Int8.ofInt 100).toInt32).toInt = 100) rfl (Z := 100 * y10.toInt) (by first | exact q_ec6b471118 | omega) (by first | exact q_c2dc73a4d1 h16 | omega) (by first | exact q_4849263c2c h19 | omega)) (fun z53 h54 => ?_)
                  refine En_Ps 2 (pc' := 50) (lv' := [(0, .ref 0), (1, .int a), (2, .int y10), (3, .int y22)]) (st' := [.int ((z53 + y22))]) rfl ?_
                  refine En_top (addI rfl rfl (by first | exact q_5f97f9cf0f h28 h54 h16 | omega) (by first | exact q_969932ee8b h39 h54 h19 h36.2 | omega)) (fun z55 h56 => ?_)
                  exact En_ret (v := some (.int z55)) rfl rfl rfl ⟨h45, h49, z55, rfl, ⟨by first | exact q_89fb32ea47 h56 h28 h54 h16 | omega, by first | exact q_f0f33d7539 h56 h39 h54 h19 h36.2 | omega⟩⟩
          have := (by decide : (Int32.ofInt 0).toInt = 0)
          refine En_lv (lv := [(0, .ref 0), (1, .int a), (2, .int y10), (3, .int ((Int32.ofInt 0)))]) ⟨rfl, rfl, rfl, rfl, trivial⟩ ?_
          exact key23 (Int.toNat (16) + 1) σ11 ((Int32.ofInt 0)) h12 h13 h14 h15 (by decide) (by decide) (by first | exact toN_lt _ | omega)
    have := (by decide : (Int32.ofInt 0).toInt = 0)
    refine En_lv (lv := [(0, .ref 0), (1, .int a), (2, .int ((Int32.ofInt 0)))]) ⟨rfl, rfl, rfl, trivial⟩ ?_
    exact key16 (Int.toNat (3) + 1) σ3 ((Int32.ofInt 0)) h4 h8 ((h5 _ _ (inW tgz_0 (by decide +kernel))).trans h_p) ((h5 _ _ (inW hp (by decide +kernel))).trans h_sg) (by decide) (by decide) (by first | exact toN_lt _ | omega)
  · refine En_Ps 1 (pc' := 13) (lv' := [(0, .ref 0), (1, .int a)]) (st' := [.int (((Int8.ofInt (-2)).toInt32))]) rfl ?_
    refine En_top (by decide : ((Int8.ofInt (-2)).toInt32).toInt = -2) (fun z57 h58 => ?_)
    exact En_ret (v := some (.int z57)) rfl rfl rfl ⟨h4, h8, z57, rfl, ⟨by first | exact q_f35c5d346c h58 | omega, by first | exact q_45d2ac33e5 h58 | omega⟩⟩
/-- DoorSchool.rests(I)I -/
abbrev P_164 (σ0 : SG) (a : Int32) (p : Nat) (sg : Int32) : PO := fun v σ => WT σ ∧ Fr [] σ0 σ ∧ ∃ ret : Int32, v = some (.int ret) ∧ True
set_option maxRecDepth 10000 in
set_option maxHeartbeats 4000000 in
theorem c_164 (σ0 : SG) (hσ0 : WT σ0) (a : Int32) (p : Nat) (hp : TG p = 18) (h_p : (σ0 0)[9]? = some (.ref p)) (sg : Int32) (h_sg : (σ0 p)[1]? = some (.int sg)) (hp0 : -sg.toInt ≤ 0) : En 6 138 none mr_164 (P_164 σ0 a p sg) 0 [(0, .ref 0), (1, .int a)] [] σ0 := by
  obtain ⟨hl_sg, hu_sg⟩ := WT_int hσ0 (g := 18) hp (by decide +kernel) (l := (-1)) (u := 4) (by decide +kernel) h_sg
  have hF0 : Fr [] σ0 σ0 := Fr_rfl
  refine En_Ps 1 (pc' := 1) (lv' := [(0, .ref 0), (1, .int a)]) (st' := [.ref 0]) rfl ?_
  refine En_getK (j := 9) h_p rfl rfl rfl tgz_0 (by decide +kernel) ?_
  refine En_Ps 1 (pc' := 5) (lv' := [(0, .ref 0), (1, .int a)]) (st' := [.int a, .ref p]) rfl ?_
  refine En_callV rfl rfl rfl rfl rfl rfl rfl rfl hp (by decide +kernel) rfl (c_47 σ0 hσ0 p hp a) (by decide) (by decide) (fun v2 σ3 h1 => ?_)
  obtain ⟨h4, h5, z7, rfl, h6⟩ := h1
  have h8 := Fr_trans hF0 h5 (by decide +kernel)
  refine En_iNe _ rfl rfl (fun h9 => ?_) (fun h9 => ?_)
  · refine En_Ps 4 (pc' := 18) (lv' := [(3, .int ((Int32.ofInt 0))), (2, .int ((Int32.ofInt 0))), (0, .ref 0), (1, .int a)]) (st' := []) rfl ?_
    have key18 : ∀ (n18 : Nat) (σ12 : SG) (y10 : Int32) (y11 : Int32), WT σ12 → Fr [] σ0 σ12 → (σ12 0)[9]? = some (.ref p) → (σ12 p)[1]? = some (.int sg) → 0 ≤ y11.toInt → y11.toInt ≤ 3 → -y11.toInt + 3 < (n18 : Int) → En 6 138 none mr_164 (P_164 σ0 a p sg) 18 [(0, .ref 0), (1, .int a), (2, .int y10), (3, .int y11)] [] σ12 := by
      intro n18
      induction n18 with
      | zero =>
        intro σ12 y10 y11 h13 h14 h15 h16 h17 h18 h19
        first | exact (q_9f1e7068c9 h19 h18).elim | (exfalso; omega)
      | succ n18 ih18 =>
        intro σ12 y10 y11 h13 h14 h15 h16 h17 h18 h19
        refine En_Ps 2 (pc' := 20) (lv' := [(0, .ref 0), (1, .int a), (2, .int y10), (3, .int y11)]) (st' := [.int ((Int32.ofInt 3)), .int y11]) rfl ?_
        refine En_icGe _ rfl (by decide : (Int32.ofInt 3).toInt = 3) rfl (fun h20 => ?_) (fun h20 => ?_)
        · refine En_Ps 1 (pc' := 65) (lv' := [(0, .ref 0), (1, .int a), (2, .int y10), (3, .int y11)]) (st' := [.int y10]) rfl ?_
          exact En_ret (v := some (.int y10)) rfl rfl rfl ⟨h13, h14, y10, rfl, trivial⟩
        · refine En_Ps 2 (pc' := 26) (lv' := [(4, .int ((Int32.ofInt 0))), (0, .ref 0), (1, .int a), (2, .int y10), (3, .int y11)]) (st' := []) rfl ?_
          have key26 : ∀ (n26 : Nat) (σ23 : SG) (y21 : Int32) (y22 : Int32), WT σ23 → Fr [] σ0 σ23 → (σ23 0)[9]? = some (.ref p) → (σ23 p)[1]? = some (.int sg) → 0 ≤ y22.toInt → y22.toInt ≤ 16 → -y22.toInt + 16 < (n26 : Int) → En 6 138 none mr_164 (P_164 σ0 a p sg) 26 [(0, .ref 0), (1, .int a), (2, .int y21), (3, .int y11), (4, .int y22)] [] σ23 := by
            intro n26
            induction n26 with
            | zero =>
              intro σ23 y21 y22 h24 h25 h26 h27 h28 h29 h30
              first | exact (q_511f6d33ac h30 h29).elim | (exfalso; omega)
            | succ n26 ih26 =>
              intro σ23 y21 y22 h24 h25 h26 h27 h28 h29 h30
              refine En_Ps 2 (pc' := 29) (lv' := [(0, .ref 0), (1, .int a), (2, .int y21), (3, .int y11), (4, .int y22)]) (st' := [.ref 0, .int y22]) rfl ?_
              refine En_getK (j := 9) h26 rfl rfl rfl tgz_0 (by decide +kernel) ?_
              refine En_callV rfl rfl rfl rfl rfl rfl rfl rfl hp (by decide +kernel) rfl (c_51 σ23 h24 p hp sg h27 (by first | exact q_a555021d16 hp0 | omega)) (by decide) (by decide) (fun v32 σ33 h31 => ?_)
              obtain ⟨h34, h35, z37, rfl, h36⟩ := h31
              have h38 := Fr_trans h25 h35 (by decide +kernel)
              refine En_icGe _ rfl rfl rfl (fun h39 => ?_) (fun h39 => ?_)
              · refine En_Ps 1 (pc' := 61) (lv' := [(3, .int ((y11 + Int32.ofInt 1))), (0, .ref 0), (1, .int a), (2, .int y21), (4, .int y22)]) (st' := []) rfl ?_
                refine En_lv1 (addI rfl (by decide : (Int32.ofInt 1).toInt = 1) (by first | exact q_465ab79ac1 h17 | omega) (by first | exact q_6ae830b01d h20 | omega)) (fun z40 h41 => ?_)
                refine En_Ps 1 (pc' := 18) (lv' := [(3, .int z40), (0, .ref 0), (1, .int a), (2, .int y21), (4, .int y22)]) (st' := []) rfl ?_
                refine En_lv (lv := [(0, .ref 0), (1, .int a), (2, .int y21), (3, .int z40)]) ⟨rfl, rfl, rfl, rfl, trivial⟩ ?_
                exact ih18 σ33 y21 z40 h34 h38 ((h35 _ _ (inW tgz_0 (by decide +kernel))).trans h26) ((h35 _ _ (inW hp (by decide +kernel))).trans h27) (by first | exact q_35104ce9d3 h41 h17 | omega) (by first | exact q_84805d5d8e h41 h20 | omega) (by first | exact q_6272716eb4 h41 h19 | omega)
              · refine En_Ps 4 (pc' := 43) (lv' := [(0, .ref 0), (1, .int a), (2, .int y21), (3, .int y11), (4, .int y22)]) (st' := [.int y22, .int y11, .int a, .ref 0]) rfl ?_
                refine En_callV rfl rfl rfl rfl rfl rfl rfl rfl tgz_0 (by decide +kernel) rfl (c_145 σ33 h34 a y11 y22 (geI rfl (by omega)) (leI rfl (by omega)) (geI rfl (by first | exact q_58e6e51dcc h17 | omega)) (leI rfl (by first | exact q_f1519f12c0 h20 | omega)) p hp ((h35 _ _ (inW tgz_0 (by decide +kernel))).trans h26) sg ((h35 _ _ (inW hp (by decide +kernel))).trans h27) (by first | exact q_a555021d16 hp0 | omega)) (by decide) (by decide) (fun v43 σ44 h42 => ?_)
                obtain ⟨h45, h46, z48, rfl, h47⟩ := h42
                have h49 := Fr_trans h38 h46 (by decide +kernel)
                refine En_iEq _ rfl rfl (fun h50 => ?_) (fun h50 => ?_)
                · refine En_Ps 1 (pc' := 55) (lv' := [(4, .int ((y22 + Int32.ofInt 1))), (0, .ref 0), (1, .int a), (2, .int y21), (3, .int y11)]) (st' := []) rfl ?_
                  refine En_lv1 (addI rfl (by decide : (Int32.ofInt 1).toInt = 1) (by first | exact q_465ab79ac1 h28 | omega) (by first | exact q_f3f8e04381 h29 | omega)) (fun z51 h52 => ?_)
                  refine En_Ps 1 (pc' := 26) (lv' := [(4, .int z51), (0, .ref 0), (1, .int a), (2, .int y21), (3, .int y11)]) (st' := []) rfl ?_
                  refine En_lv (lv := [(0, .ref 0), (1, .int a), (2, .int y21), (3, .int y11), (4, .int z51)]) ⟨rfl, rfl, rfl, rfl, rfl, trivial⟩ ?_
                  exact ih26 σ44 y21 z51 h45 h49 ((h46 _ _ (inW tgz_0 (by decide +kernel))).trans ((h35 _ _ (inW tgz_0 (by decide +kernel))).trans h26)) ((h46 _ _ (inW hp (by decide +kernel))).trans ((h35 _ _ (inW hp (by decide +kernel))).trans h27)) (by first | exact q_35104ce9d3 h52 h28 | omega) (by first | exact q_34dc714687 h52 h39 h36.2 | omega) (by first | exact q_c5d740bdff h52 h30 | omega)
                · refine En_Ps 1 (pc' := 52) (lv' := [(2, .int ((y21 + Int32.ofInt 1))), (0, .ref 0), (1, .int a), (3, .int y11), (4, .int y22)]) (st' := []) rfl ?_
                  refine En_lv1h (fun z53 => ?_)
                  refine En_Ps 1 (pc' := 55) (lv' := [(4, .int ((y22 + Int32.ofInt 1))), (2, .int z53), (0, .ref 0), (1, .int a), (3, .int y11)]) (st' := []) rfl ?_
                  refine En_lv1 (addI rfl (by decide : (Int32.ofInt 1).toInt = 1) (by first | exact q_465ab79ac1 h28 | omega) (by first | exact q_f3f8e04381 h29 | omega)) (fun z55 h56 => ?_)
                  refine En_Ps 1 (pc' := 26) (lv' := [(4, .int z55), (2, .int z53), (0, .ref 0), (1, .int a), (3, .int y11)]) (st' := []) rfl ?_
                  refine En_lv (lv := [(0, .ref 0), (1, .int a), (2, .int z53), (3, .int y11), (4, .int z55)]) ⟨rfl, rfl, rfl, rfl, rfl, trivial⟩ ?_
                  exact ih26 σ44 z53 z55 h45 h49 ((h46 _ _ (inW tgz_0 (by decide +kernel))).trans ((h35 _ _ (inW tgz_0 (by decide +kernel))).trans h26)) ((h46 _ _ (inW hp (by decide +kernel))).trans ((h35 _ _ (inW hp (by decide +kernel))).trans h27)) (by first | exact q_35104ce9d3 h56 h28 | omega) (by first | exact q_34dc714687 h56 h39 h36.2 | omega) (by first | exact q_c5d740bdff h56 h30 | omega)
          have := (by decide : (Int32.ofInt 0).toInt = 0)
          refine En_lv (lv := [(0, .ref 0), (1, .int a), (2, .int y10), (3, .int y11), (4, .int ((Int32.ofInt 0)))]) ⟨rfl, rfl, rfl, rfl, rfl, trivial⟩ ?_
          exact key26 (Int.toNat (16) + 1) σ12 y10 ((Int32.ofInt 0)) h13 h14 h15 h16 (by decide) (by decide) (by first | exact toN_lt _ | omega)
    have := (by decide : (Int32.ofInt 0).toInt = 0)
    have := (by decide : (Int32.ofInt 0).toInt = 0)
    refine En_lv (lv := [(0, .ref 0), (1, .int a), (2, .int ((Int32.ofInt 0))), (3, .int ((Int32.ofInt 0)))]) ⟨rfl, rfl, rfl, rfl, trivial⟩ ?_
    exact key18 (Int.toNat (3) + 1) σ3 ((Int32.ofInt 0)) ((Int32.ofInt 0)) h4 h8 ((h5 _ _ (inW tgz_0 (by decide +kernel))).trans h_p) ((h5 _ _ (inW hp (by decide +kernel))).trans h_sg) (by decide) (by decide) (by first | exact toN_lt _ | omega)
  · refine En_Ps 1 (pc' := 13) (lv' := [(0, .ref 0), (1, .int a)]) (st' := [.int (((Int8.ofInt (-2)).toInt32))]) rfl ?_
    refine En_top (by decide : ((Int8.ofInt (-2)).toInt32).toInt = -2) (fun z57 h58 => ?_)
    exact En_ret (v := some (.int z57)) rfl rfl rfl ⟨h4, h8, z57, rfl, trivial⟩
/-- DoorSchool.rule(II)I -/
abbrev P_166 (σ0 : SG) (a : Int32) (b : Int32) (p : Nat) (sg : Int32) : PO := fun v σ => WT σ ∧ Fr [] σ0 σ ∧ ∃ ret : Int32, v = some (.int ret) ∧ -ret.toInt - 2 ≤ 0 ∧ ret.toInt - 80 ≤ 0
set_option maxRecDepth 10000 in
set_option maxHeartbeats 4000000 in
theorem c_166 (σ0 : SG) (hσ0 : WT σ0) (a : Int32) (b : Int32) (p : Nat) (hp : TG p = 18) (h_p : (σ0 0)[9]? = some (.ref p)) (sg : Int32) (h_sg : (σ0 p)[1]? = some (.int sg)) (hp0 : -sg.toInt ≤ 0) : En 2 45 none mr_166 (P_166 σ0 a b p sg) 0 [(0, .ref 0), (1, .int a), (2, .int b)] [] σ0 := by
  obtain ⟨hl_sg, hu_sg⟩ := WT_int hσ0 (g := 18) hp (by decide +kernel) (l := (-1)) (u := 4) (by decide +kernel) h_sg
  have hF0 : Fr [] σ0 σ0 := Fr_rfl
  refine En_Ps 1 (pc' := 1) (lv' := [(0, .ref 0), (1, .int a), (2, .int b)]) (st' := [.ref 0]) rfl ?_
  refine En_getK (j := 9) h_p rfl rfl rfl tgz_0 (by decide +kernel) ?_
  refine En_Ps 1 (pc' := 5) (lv' := [(0, .ref 0), (1, .int a), (2, .int b)]) (st' := [.int a, .ref p]) rfl ?_
  refine En_callV rfl rfl rfl rfl rfl rfl rfl rfl hp (by decide +kernel) rfl (c_47 σ0 hσ0 p hp a) (by decide) (by decide) (fun v2 σ3 h1 => ?_)
  obtain ⟨h4, h5, z7, rfl, h6⟩ := h1
  have h8 := Fr_trans hF0 h5 (by decide +kernel)
  refine En_iEq _ rfl rfl (fun h9 => ?_) (fun h9 => ?_)
  · refine En_Ps 1 (pc' := 22) (lv' := [(0, .ref 0), (1, .int a), (2, .int b)]) (st' := [.int (((Int8.ofInt (-2)).toInt32))]) rfl ?_
    refine En_top (by decide : ((Int8.ofInt (-2)).toInt32).toInt = -2) (fun z10 h11 => ?_)
    exact En_ret (v := some (.int z10)) rfl rfl rfl ⟨h4, h8, z10, rfl, ⟨by first | exact q_f35c5d346c h11 | omega, by first | exact q_e35b2e457c h11 | omega⟩⟩
  · refine En_Ps 1 (pc' := 12) (lv' := [(0, .ref 0), (1, .int a), (2, .int b)]) (st' := [.int b]) rfl ?_
    refine En_iLt _ rfl rfl (fun h12 => ?_) (fun h12 => ?_)
    · refine En_Ps 1 (pc' := 22) (lv' := [(0, .ref 0), (1, .int a), (2, .int b)]) (st' := [.int (((Int8.ofInt (-2)).toInt32))]) rfl ?_
      refine En_top (by decide : ((Int8.ofInt (-2)).toInt32).toInt = -2) (fun z13 h14 => ?_)
      exact En_ret (v := some (.int z13)) rfl rfl rfl ⟨h4, h8, z13, rfl, ⟨by first | exact q_f35c5d346c h14 | omega, by first | exact q_e35b2e457c h14 | omega⟩⟩
    · refine En_Ps 2 (pc' := 17) (lv' := [(0, .ref 0), (1, .int a), (2, .int b)]) (st' := [.int ((Int32.ofInt 2)), .int b]) rfl ?_
      refine En_icLe _ rfl (by decide : (Int32.ofInt 2).toInt = 2) rfl (fun h15 => ?_) (fun h15 => ?_)
      · refine En_Ps 1 (pc' := 24) (lv' := [(0, .ref 0), (1, .int a), (2, .int b)]) (st' := [.ref 0]) rfl ?_
        refine En_getK (j := 9) ((h5 _ _ (inW tgz_0 (by decide +kernel))).trans h_p) rfl rfl rfl tgz_0 (by decide +kernel) ?_
        refine En_getR (j := 4) (g' := 19) (u := 0) rfl rfl rfl hp (by decide +kernel) h4 (by decide +kernel) (fun a17 h16 ha17 => ?_)
        refine En_Ps 1 (pc' := 31) (lv' := [(0, .ref 0), (1, .int a), (2, .int b)]) (st' := [.int a, .ref a17]) rfl ?_
        refine En_aald (g' := 28) (u := 0) rfl rfl ha17 (by decide +kernel) h4 (by omega) (lnI (by decide +kernel : LN _ = 4) (by omega)) (FTsgl (by decide +kernel)) (fun a19 h18 ha19 => ?_)
        refine En_getR (j := 0) (g' := 20) (u := 0) rfl rfl rfl ha19 (by decide +kernel) h4 (by decide +kernel) (fun a21 h20 ha21 => ?_)
        refine En_Ps 2 (pc' := 37) (lv' := [(3, .ref a21), (0, .ref 0), (1, .int a), (2, .int b)]) (st' := [.ref 0]) rfl ?_
        refine En_getU (j := 2) (u := 4) (g' := 4) (q := 0) rfl rfl rfl tgz_0 (by decide +kernel) h4 (by decide +kernel) (by decide +kernel) (fun h22 => ?_)
        refine En_Ps 2 (pc' := 42) (lv' := [(3, .ref a21), (0, .ref 0), (1, .int a), (2, .int b)]) (st' := [.int ((Int32.ofInt 1)), .ref a21, .ref 4]) rfl ?_
        have := (by decide : ((Int32.ofInt 1)).toInt = 1)
        refine En_callV rfl rfl rfl rfl rfl rfl rfl rfl ha21 (by decide +kernel) rfl (c_39 σ3 h4 a21 ha21 ((Int32.ofInt 1))) (by decide) (by decide) (fun v25 σ26 h24 => ?_)
        obtain ⟨h27, h28, z30, rfl, h29⟩ := h24
        have h31 := Fr_trans h8 h28 (by decide +kernel)
        refine En_Ps 2 (pc' := 47) (lv' := [(3, .ref a21), (0, .ref 0), (1, .int a), (2, .int b)]) (st' := [.int ((Int32.ofInt 0)), .ref a21, .int z30, .ref 4]) rfl ?_
        have := (by decide : ((Int32.ofInt 0)).toInt = 0)
        refine En_callV rfl rfl rfl rfl rfl rfl rfl rfl ha21 (by decide +kernel) rfl (c_39 σ26 h27 a21 ha21 ((Int32.ofInt 0))) (by decide) (by decide) (fun v33 σ34 h32 => ?_)
        obtain ⟨h35, h36, z38, rfl, h37⟩ := h32
        have h39 := Fr_trans h31 h36 (by decide +kernel)
        refine En_callV rfl rfl rfl rfl rfl rfl rfl rfl tgz_4 (by decide +kernel) rfl (c_78 σ34 h35 z30 z38) (by decide) (by decide) (fun v41 σ42 h40 => ?_)
        obtain ⟨h43, h44, z46, rfl, h45⟩ := h40
        have h47 := Fr_trans h39 h44 (by decide +kernel)
        refine En_Ps 3 (pc' := 58) (lv' := [(4, .int z46), (3, .ref a21), (0, .ref 0), (1, .int a), (2, .int b)]) (st' := [.int ((Int32.ofInt (-1))), .int z46]) rfl ?_
        refine En_icEq _ rfl (by decide : (Int32.ofInt (-1)).toInt = -1) rfl (fun h48 => ?_) (fun h48 => ?_)
        · refine En_Ps 1 (pc' := 68) (lv' := [(4, .int z46), (3, .ref a21), (0, .ref 0), (1, .int a), (2, .int b)]) (st' := [.int z46]) rfl ?_
          exact En_ret (v := some (.int z46)) rfl rfl rfl ⟨h43, h47, z46, rfl, ⟨by first | exact q_108dc72d76 h45.1 | omega, by first | exact q_ed1bd306dd h48 | omega⟩⟩
        · refine En_Ps 2 (pc' := 63) (lv' := [(4, .int z46), (3, .ref a21), (0, .ref 0), (1, .int a), (2, .int b)]) (st' := [.int ((Int32.ofInt 2)), .int b]) rfl ?_
          refine En_icNe _ rfl (by decide : (Int32.ofInt 2).toInt = 2) rfl (fun h49 => ?_) (fun h49 => ?_)
          · refine En_Ps 1 (pc' := 70) (lv' := [(4, .int z46), (3, .ref a21), (0, .ref 0), (1, .int a), (2, .int b)]) (st' := [.int b]) rfl ?_
            refine En_iNe _ rfl rfl (fun h50 => ?_) (fun h50 => ?_)
            · refine En_Ps 1 (pc' := 87) (lv' := [(4, .int z46), (3, .ref a21), (0, .ref 0), (1, .int a), (2, .int b)]) (st' := [.ref 0]) rfl ?_
              refine En_getK (j := 2) ((h44 _ _ (inW tgz_0 (by decide +kernel))).trans ((h36 _ _ (inW tgz_0 (by decide +kernel))).trans ((h28 _ _ (inW tgz_0 (by decide +kernel))).trans h22))) rfl rfl rfl tgz_0 (by decide +kernel) ?_
              refine En_getU (j := 3) (u := 6) (g' := 6) (q := 0) rfl rfl rfl tgz_4 (by decide +kernel) h43 (by decide +kernel) (by decide +kernel) (fun h51 => ?_)
              refine En_Ps 1 (pc' := 95) (lv' := [(4, .int z46), (3, .ref a21), (0, .ref 0), (1, .int a), (2, .int b)]) (st' := [.int z46, .ref 6]) rfl ?_
              refine En_iald (l := 0) (u := 15) rfl rfl tgz_6 (by decide +kernel) h43 (by first | exact q_b1cade0df5 h48 h45.1 | omega) (lnI (by decide +kernel : LN _ = 81) (by first | exact q_3ac9ed8367 h45.2 | omega)) (FTsgl (by decide +kernel)) (fun z54 h53 h55 h56 => ?_)
              exact En_ret (v := some (.int z54)) rfl rfl rfl ⟨h43, h47, z54, rfl, ⟨by first | exact q_ea7f0ffdb1 h55 | omega, by first | exact q_8ed889c819 h56 | omega⟩⟩
            · refine En_Ps 1 (pc' := 74) (lv' := [(4, .int z46), (3, .ref a21), (0, .ref 0), (1, .int a), (2, .int b)]) (st' := [.ref 0]) rfl ?_
              refine En_getK (j := 2) ((h44 _ _ (inW tgz_0 (by decide +kernel))).trans ((h36 _ _ (inW tgz_0 (by decide +kernel))).trans ((h28 _ _ (inW tgz_0 (by decide +kernel))).trans h22))) rfl rfl rfl tgz_0 (by decide +kernel) ?_
              refine En_getU (j := 2) (u := 5) (g' := 5) (q := 0) rfl rfl rfl tgz_4 (by decide +kernel) h43 (by decide +kernel) (by decide +kernel) (fun h57 => ?_)
              refine En_Ps 1 (pc' := 82) (lv' := [(4, .int z46), (3, .ref a21), (0, .ref 0), (1, .int a), (2, .int b)]) (st' := [.int z46, .ref 5]) rfl ?_
              refine En_iald (l := 0) (u := 15) rfl rfl tgz_5 (by decide +kernel) h43 (by first | exact q_b1cade0df5 h48 h45.1 | omega) (lnI (by decide +kernel : LN _ = 81) (by first | exact q_3ac9ed8367 h45.2 | omega)) (FTsgl (by decide +kernel)) (fun z60 h59 h61 h62 => ?_)
              refine En_Ps 1 (pc' := 96) (lv' := [(4, .int z46), (3, .ref a21), (0, .ref 0), (1, .int a), (2, .int b)]) (st' := [.int z60]) rfl ?_
              exact En_ret (v := some (.int z60)) rfl rfl rfl ⟨h43, h47, z60, rfl, ⟨by first | exact q_ea7f0ffdb1 h61 | omega, by first | exact q_8ed889c819 h62 | omega⟩⟩
          · refine En_Ps 1 (pc' := 68) (lv' := [(4, .int z46), (3, .ref a21), (0, .ref 0), (1, .int a), (2, .int b)]) (st' := [.int z46]) rfl ?_
            exact En_ret (v := some (.int z46)) rfl rfl rfl ⟨h43, h47, z46, rfl, ⟨by first | exact q_3d8d12402f h48 h45.1 | omega, by first | exact q_370493a97e h45.2 | omega⟩⟩
      · refine En_Ps 1 (pc' := 22) (lv' := [(0, .ref 0), (1, .int a), (2, .int b)]) (st' := [.int (((Int8.ofInt (-2)).toInt32))]) rfl ?_
        refine En_top (by decide : ((Int8.ofInt (-2)).toInt32).toInt = -2) (fun z63 h64 => ?_)
        exact En_ret (v := some (.int z63)) rfl rfl rfl ⟨h4, h8, z63, rfl, ⟨by first | exact q_f35c5d346c h64 | omega, by first | exact q_e35b2e457c h64 | omega⟩⟩
/-- DoorSchool.rules(I)I -/
abbrev P_167 (σ0 : SG) (a : Int32) (p : Nat) (sg : Int32) : PO := fun v σ => WT σ ∧ Fr [] σ0 σ ∧ ∃ ret : Int32, v = some (.int ret) ∧ -ret.toInt - 2 ≤ 0 ∧ ret.toInt - 81 ≤ 0
set_option maxRecDepth 10000 in
set_option maxHeartbeats 4000000 in
theorem c_167 (σ0 : SG) (hσ0 : WT σ0) (a : Int32) (p : Nat) (hp : TG p = 18) (h_p : (σ0 0)[9]? = some (.ref p)) (sg : Int32) (h_sg : (σ0 p)[1]? = some (.int sg)) (hp0 : -sg.toInt ≤ 0) : En 2 46 none mr_167 (P_167 σ0 a p sg) 0 [(0, .ref 0), (1, .int a)] [] σ0 := by
  obtain ⟨hl_sg, hu_sg⟩ := WT_int hσ0 (g := 18) hp (by decide +kernel) (l := (-1)) (u := 4) (by decide +kernel) h_sg
  have hF0 : Fr [] σ0 σ0 := Fr_rfl
  refine En_Ps 1 (pc' := 1) (lv' := [(0, .ref 0), (1, .int a)]) (st' := [.ref 0]) rfl ?_
  refine En_getK (j := 9) h_p rfl rfl rfl tgz_0 (by decide +kernel) ?_
  refine En_Ps 1 (pc' := 5) (lv' := [(0, .ref 0), (1, .int a)]) (st' := [.int a, .ref p]) rfl ?_
  refine En_callV rfl rfl rfl rfl rfl rfl rfl rfl hp (by decide +kernel) rfl (c_47 σ0 hσ0 p hp a) (by decide) (by decide) (fun v2 σ3 h1 => ?_)
  obtain ⟨h4, h5, z7, rfl, h6⟩ := h1
  have h8 := Fr_trans hF0 h5 (by decide +kernel)
  refine En_iNe _ rfl rfl (fun h9 => ?_) (fun h9 => ?_)
  · refine En_Ps 1 (pc' := 15) (lv' := [(0, .ref 0), (1, .int a)]) (st' := [.ref 0]) rfl ?_
    refine En_getK (j := 9) ((h5 _ _ (inW tgz_0 (by decide +kernel))).trans h_p) rfl rfl rfl tgz_0 (by decide +kernel) ?_
    refine En_getR (j := 4) (g' := 19) (u := 0) rfl rfl rfl hp (by decide +kernel) h4 (by decide +kernel) (fun a11 h10 ha11 => ?_)
    refine En_Ps 1 (pc' := 22) (lv' := [(0, .ref 0), (1, .int a)]) (st' := [.int a, .ref a11]) rfl ?_
    refine En_aald (g' := 28) (u := 0) rfl rfl ha11 (by decide +kernel) h4 (by omega) (lnI (by decide +kernel : LN _ = 4) (by omega)) (FTsgl (by decide +kernel)) (fun a13 h12 ha13 => ?_)
    refine En_getR (j := 0) (g' := 20) (u := 0) rfl rfl rfl ha13 (by decide +kernel) h4 (by decide +kernel) (fun a15 h14 ha15 => ?_)
    refine En_Ps 2 (pc' := 28) (lv' := [(2, .ref a15), (0, .ref 0), (1, .int a)]) (st' := [.ref 0]) rfl ?_
    refine En_getU (j := 2) (u := 4) (g' := 4) (q := 0) rfl rfl rfl tgz_0 (by decide +kernel) h4 (by decide +kernel) (by decide +kernel) (fun h16 => ?_)
    refine En_Ps 2 (pc' := 33) (lv' := [(2, .ref a15), (0, .ref 0), (1, .int a)]) (st' := [.int ((Int32.ofInt 1)), .ref a15, .ref 4]) rfl ?_
    have := (by decide : ((Int32.ofInt 1)).toInt = 1)
    refine En_callV rfl rfl rfl rfl rfl rfl rfl rfl ha15 (by decide +kernel) rfl (c_39 σ3 h4 a15 ha15 ((Int32.ofInt 1))) (by decide) (by decide) (fun v19 σ20 h18 => ?_)
    obtain ⟨h21, h22, z24, rfl, h23⟩ := h18
    have h25 := Fr_trans h8 h22 (by decide +kernel)
    refine En_Ps 2 (pc' := 38) (lv' := [(2, .ref a15), (0, .ref 0), (1, .int a)]) (st' := [.int ((Int32.ofInt 0)), .ref a15, .int z24, .ref 4]) rfl ?_
    have := (by decide : ((Int32.ofInt 0)).toInt = 0)
    refine En_callV rfl rfl rfl rfl rfl rfl rfl rfl ha15 (by decide +kernel) rfl (c_39 σ20 h21 a15 ha15 ((Int32.ofInt 0))) (by decide) (by decide) (fun v27 σ28 h26 => ?_)
    obtain ⟨h29, h30, z32, rfl, h31⟩ := h26
    have h33 := Fr_trans h25 h30 (by decide +kernel)
    refine En_callV rfl rfl rfl rfl rfl rfl rfl rfl tgz_4 (by decide +kernel) rfl (c_79 σ28 h29 z24 z32) (by decide) (by decide) (fun v35 σ36 h34 => ?_)
    obtain ⟨h37, h38, z40, rfl, h39⟩ := h34
    have h41 := Fr_trans h33 h38 (by decide +kernel)
    exact En_ret (v := some (.int z40)) rfl rfl rfl ⟨h37, h41, z40, rfl, ⟨by first | exact q_70a249c7f8 h39.1 | omega, by first | exact q_62172f5eca h39.2 | omega⟩⟩
  · refine En_Ps 1 (pc' := 13) (lv' := [(0, .ref 0), (1, .int a)]) (st' := [.int (((Int8.ofInt (-2)).toInt32))]) rfl ?_
    refine En_top (by decide : ((Int8.ofInt (-2)).toInt32).toInt = -2) (fun z42 h43 => ?_)
    exact En_ret (v := some (.int z42)) rfl rfl rfl ⟨h4, h8, z42, rfl, ⟨by first | exact q_f35c5d346c h43 | omega, by first | exact q_a224a6b9a0 h43 | omega⟩⟩

