/-! 32.lx.c12 -/
section
/-- DoorSchool.leaves(I)I -/
abbrev P_151 (σ0 : SG) (a : Int32) (p : Nat) (sg : Int32) : PO := fun v σ => WT σ ∧ Fr [] σ0 σ ∧ ∃ ret : Int32, v = some (Value.int ret) ∧ -ret.toInt - 6 ≤ 0 ∧ ret.toInt - 81 ≤ 0
set_option maxRecDepth 10000 in
set_option maxHeartbeats 4000000 in
theorem c_151 (σ0 : SG) (hσ0 : WT σ0) (a : Int32) (p : Nat) (hp : TG p = 18) (h_p : (σ0 0)[9]? = some (Value.ref p)) (sg : Int32) (h_sg : (σ0 p)[1]? = some (Value.int sg)) (hp0 : -sg.toInt ≤ 0) : En 4 96 none mr_151 (P_151 σ0 a p sg) 0 [(0, .ref 0), (1, .int a)] [] σ0 := by
  obtain ⟨hl_sg, hu_sg⟩ := WT_int hσ0 (g := 18) hp (by decide +kernel) (l := (-1)) (u := 4) (by decide +kernel) h_sg
  have hF0 : Fr [] σ0 σ0 := Fr_rfl
  refine En_Ps 2 (pc' := 2) (lv' := [(0, .ref 0), (1, .int a)]) (st' := [.int a, .ref 0]) rfl ?_
  refine En_callV rfl rfl rfl rfl rfl rfl rfl rfl tgz_0 (by decide +kernel) rfl (c_180 σ0 hσ0 a p hp h_p sg h_sg (by first | exact q_a555021d16 hp0 | omega)) (by decide) (by decide) (fun v2 σ3 h1 => ?_)
  obtain ⟨h4, h5, z7, rfl, h6⟩ := h1
  have h8 := Fr_trans hF0 h5 (by decide +kernel)
  refine En_Ps 2 (pc' := 7) (lv' := [(2, .int z7), (0, .ref 0), (1, .int a)]) (st' := [.int z7]) rfl ?_
  refine En_iEq _ rfl rfl (fun h9 => ?_) (fun h9 => ?_)
  · refine En_Ps 2 (pc' := 14) (lv' := [(2, .int z7), (0, .ref 0), (1, .int a)]) (st' := [.ref 0, .ref 0]) rfl ?_
    refine En_getU (j := 6) (u := 150) (g' := 32) (q := 0) rfl rfl rfl tgz_0 (by decide +kernel) h4 (by decide +kernel) un_32_150 (fun h10 => ?_)
    refine En_Ps 1 (pc' := 18) (lv' := [(2, .int z7), (0, .ref 0), (1, .int a)]) (st' := [.int a, .ref 150, .ref 0]) rfl ?_
    refine En_aald (g' := 33) (u := 0) rfl rfl tgz_150 (by decide +kernel) h4 (by omega) (lnI (by decide +kernel : LN _ = 4) (by omega)) (FTsgl (by decide +kernel)) (fun a13 h12 ha13 => ?_)
    refine En_callV rfl rfl rfl rfl rfl rfl rfl rfl tgz_0 (by decide +kernel) rfl (c_104 σ3 h4 a13 ha13 p hp ((h5 _ _ (inW tgz_0 (by decide +kernel))).trans h_p) sg ((h5 _ _ (inW hp (by decide +kernel))).trans h_sg) (by first | exact q_a555021d16 hp0 | omega)) (by decide) (by decide) (fun v15 σ16 h14 => ?_)
    obtain ⟨h17, h18, z20, rfl, h19⟩ := h14
    have h21 := Fr_trans h8 h18 (by decide +kernel)
    refine En_Ps 3 (pc' := 25) (lv' := [(3, .int z20), (2, .int z7), (0, .ref 0), (1, .int a)]) (st' := [.int ((Int32.ofInt (-1))), .int z20]) rfl ?_
    refine En_icNe _ rfl (by decide : (Int32.ofInt (-1)).toInt = -1) rfl (fun h22 => ?_) (fun h22 => ?_)
    · refine En_Ps 2 (pc' := 38) (lv' := [(3, .int z20), (2, .int z7), (0, .ref 0), (1, .int a)]) (st' := [.ref 0, .ref 0]) rfl ?_
      refine En_getK (j := 6) ((h18 _ _ (inW tgz_0 (by decide +kernel))).trans h10) rfl rfl rfl tgz_0 (by decide +kernel) ?_
      refine En_Ps 1 (pc' := 42) (lv' := [(3, .int z20), (2, .int z7), (0, .ref 0), (1, .int a)]) (st' := [.int a, .ref 150, .ref 0]) rfl ?_
      refine En_aald (g' := 33) (u := 0) rfl rfl tgz_150 (by decide +kernel) h17 (by omega) (lnI (by decide +kernel : LN _ = 4) (by omega)) (FTsgl (by decide +kernel)) (fun a24 h23 ha24 => ?_)
      refine En_Ps 1 (pc' := 44) (lv' := [(3, .int z20), (2, .int z7), (0, .ref 0), (1, .int a)]) (st' := [.int z20, .ref a24, .ref 0]) rfl ?_
      refine En_callV rfl rfl rfl rfl rfl rfl rfl rfl tgz_0 (by decide +kernel) rfl (c_153 σ16 h17 a24 ha24 z20 p hp ((h18 _ _ (inW tgz_0 (by decide +kernel))).trans ((h5 _ _ (inW tgz_0 (by decide +kernel))).trans h_p)) sg ((h18 _ _ (inW hp (by decide +kernel))).trans ((h5 _ _ (inW hp (by decide +kernel))).trans h_sg)) (by first | exact q_a555021d16 hp0 | omega)) (by decide) (by decide) (fun v26 σ27 h25 => ?_)
      obtain ⟨h28, h29, z31, rfl, h30⟩ := h25
      have h32 := Fr_trans h21 h29 (by decide +kernel)
      exact En_ret (v := some (Value.int z31)) rfl rfl rfl ⟨h28, h32, z31, rfl, ⟨by first | exact q_8061444f0d h30.1 | omega, by first | exact q_62172f5eca h30.2 | omega⟩⟩
    · refine En_Ps 2 (pc' := 30) (lv' := [(3, .int z20), (2, .int z7), (0, .ref 0), (1, .int a)]) (st' := [.int a, .ref 0]) rfl ?_
      refine En_callV rfl rfl rfl rfl rfl rfl rfl rfl tgz_0 (by decide +kernel) rfl (c_124 σ16 h17 a p hp ((h18 _ _ (inW tgz_0 (by decide +kernel))).trans ((h5 _ _ (inW tgz_0 (by decide +kernel))).trans h_p)) sg ((h18 _ _ (inW hp (by decide +kernel))).trans ((h5 _ _ (inW hp (by decide +kernel))).trans h_sg)) (by first | exact q_a555021d16 hp0 | omega)) (by decide) (by decide) (fun v34 σ35 h33 => ?_)
      obtain ⟨h36, h37, z39, rfl, h38⟩ := h33
      have h40 := Fr_trans h21 h37 (by decide +kernel)
      refine En_Ps 1 (pc' := 47) (lv' := [(3, .int z20), (2, .int z7), (0, .ref 0), (1, .int a)]) (st' := [.int z39]) rfl ?_
      exact En_ret (v := some (Value.int z39)) rfl rfl rfl ⟨h36, h40, z39, rfl, ⟨by first | exact q_629d629181 h38.1 | omega, by first | exact q_62172f5eca h38.2 | omega⟩⟩
  · refine En_Ps 1 (pc' := 11) (lv' := [(2, .int z7), (0, .ref 0), (1, .int a)]) (st' := [.int z7]) rfl ?_
    exact En_ret (v := some (Value.int z7)) rfl rfl rfl ⟨h4, h8, z7, rfl, ⟨by first | exact q_629d629181 h6.1 | omega, by first | exact q_debdfeb6c0 h9 h6.2.1 | omega⟩⟩
/-- DoorSchool.lesson(III)I -/
abbrev P_154 (σ0 : SG) (a : Int32) (b : Int32) (c : Int32) (p : Nat) (sg : Int32) : PO := fun v σ => WT σ ∧ Fr [] σ0 σ ∧ ∃ ret : Int32, v = some (Value.int ret) ∧ -ret.toInt - 2 ≤ 0 ∧ ret.toInt - 15 ≤ 0
set_option maxRecDepth 10000 in
set_option maxHeartbeats 4000000 in
theorem c_154 (σ0 : SG) (hσ0 : WT σ0) (a : Int32) (b : Int32) (c : Int32) (p : Nat) (hp : TG p = 18) (h_p : (σ0 0)[9]? = some (Value.ref p)) (sg : Int32) (h_sg : (σ0 p)[1]? = some (Value.int sg)) (hp0 : -sg.toInt ≤ 0) : En 1 21 none mr_154 (P_154 σ0 a b c p sg) 0 [(0, .ref 0), (1, .int a), (2, .int b), (3, .int c)] [] σ0 := by
  obtain ⟨hl_sg, hu_sg⟩ := WT_int hσ0 (g := 18) hp (by decide +kernel) (l := (-1)) (u := 4) (by decide +kernel) h_sg
  have hF0 : Fr [] σ0 σ0 := Fr_rfl
  refine En_Ps 1 (pc' := 1) (lv' := [(0, .ref 0), (1, .int a), (2, .int b), (3, .int c)]) (st' := [.ref 0]) rfl ?_
  refine En_getK (j := 9) h_p rfl rfl rfl tgz_0 (by decide +kernel) ?_
  refine En_Ps 1 (pc' := 5) (lv' := [(0, .ref 0), (1, .int a), (2, .int b), (3, .int c)]) (st' := [.int a, .ref p]) rfl ?_
  refine En_callV rfl rfl rfl rfl rfl rfl rfl rfl hp (by decide +kernel) rfl (c_47 σ0 hσ0 p hp a) (by decide) (by decide) (fun v2 σ3 h1 => ?_)
  obtain ⟨h4, h5, z7, rfl, h6⟩ := h1
  have h8 := Fr_trans hF0 h5 (by decide +kernel)
  refine En_iEq _ rfl rfl (fun h9 => ?_) (fun h9 => ?_)
  · refine En_Ps 1 (pc' := 20) (lv' := [(0, .ref 0), (1, .int a), (2, .int b), (3, .int c)]) (st' := [.int (((Int8.ofInt (-2)).toInt32))]) rfl ?_
    refine En_top (by decide : ((Int8.ofInt (-2)).toInt32).toInt = -2) (fun z10 h11 => ?_)
    exact En_ret (v := some (Value.int z10)) rfl rfl rfl ⟨h4, h8, z10, rfl, ⟨by first | exact q_f35c5d346c h11 | omega, by first | exact q_12a74e12a3 h11 | omega⟩⟩
  · refine En_Ps 1 (pc' := 12) (lv' := [(0, .ref 0), (1, .int a), (2, .int b), (3, .int c)]) (st' := [.int c]) rfl ?_
    refine En_callS rfl rfl rfl rfl rfl rfl rfl rfl rfl (c_149 σ3 h4 c) (by decide) (by decide) (fun v13 σ14 h12 => ?_)
    obtain ⟨h15, h16, z18, rfl, h17⟩ := h12
    have h19 := Fr_trans h8 h16 (by decide +kernel)
    refine En_iNe _ rfl rfl (fun h20 => ?_) (fun h20 => ?_)
    · refine En_Ps 1 (pc' := 22) (lv' := [(0, .ref 0), (1, .int a), (2, .int b), (3, .int c)]) (st' := [.ref 0]) rfl ?_
      refine En_getK (j := 9) ((h16 _ _ (inW tgz_0 (by decide +kernel))).trans ((h5 _ _ (inW tgz_0 (by decide +kernel))).trans h_p)) rfl rfl rfl tgz_0 (by decide +kernel) ?_
      refine En_getR (j := 4) (g' := 19) (u := 0) rfl rfl rfl hp (by decide +kernel) h15 (by decide +kernel) (fun a22 h21 ha22 => ?_)
      refine En_Ps 1 (pc' := 29) (lv' := [(0, .ref 0), (1, .int a), (2, .int b), (3, .int c)]) (st' := [.int a, .ref a22]) rfl ?_
      refine En_aald (g' := 28) (u := 0) rfl rfl ha22 (by decide +kernel) h15 (by omega) (lnI (by decide +kernel : LN _ = 4) (by omega)) (FTsgl (by decide +kernel)) (fun a24 h23 ha24 => ?_)
      refine En_getR (j := 0) (g' := 20) (u := 0) rfl rfl rfl ha24 (by decide +kernel) h15 (by decide +kernel) (fun a26 h25 ha26 => ?_)
      refine En_Ps 2 (pc' := 36) (lv' := [(4, .ref a26), (0, .ref 0), (1, .int a), (2, .int b), (3, .int c)]) (st' := [.int b]) rfl ?_
      refine En_iLt _ rfl rfl (fun h27 => ?_) (fun h27 => ?_)
      · refine En_Ps 1 (pc' := 49) (lv' := [(4, .ref a26), (0, .ref 0), (1, .int a), (2, .int b), (3, .int c)]) (st' := [.int ((Int32.ofInt (-1)))]) rfl ?_
        refine En_top (by decide : (Int32.ofInt (-1)).toInt = -1) (fun z28 h29 => ?_)
        exact En_ret (v := some (Value.int z28)) rfl rfl rfl ⟨h15, h19, z28, rfl, ⟨by first | exact q_e1de8c7867 h29 | omega, by first | exact q_af62099904 h29 | omega⟩⟩
      · refine En_Ps 2 (pc' := 42) (lv' := [(4, .ref a26), (0, .ref 0), (1, .int a), (2, .int b), (3, .int c)]) (st' := [.ref a26, .int b]) rfl ?_
        refine En_getI (j := 2) (l := 0) (u := 13) rfl rfl rfl ha26 (by decide +kernel) h15 (by decide +kernel) (fun z31 h30 h32 h33 => ?_)
        refine En_icLt _ rfl rfl rfl (fun h34 => ?_) (fun h34 => ?_)
        · refine En_Ps 1 (pc' := 51) (lv' := [(4, .ref a26), (0, .ref 0), (1, .int a), (2, .int b), (3, .int c)]) (st' := [.int c]) rfl ?_
          refine En_iNe _ rfl rfl (fun h35 => ?_) (fun h35 => ?_)
          · refine En_Ps 1 (pc' := 66) (lv' := [(4, .ref a26), (0, .ref 0), (1, .int a), (2, .int b), (3, .int c)]) (st' := [.ref a26]) rfl ?_
            refine En_getR (j := 1) (g' := 22) (u := 0) rfl rfl rfl ha26 (by decide +kernel) h15 (by decide +kernel) (fun a37 h36 ha37 => ?_)
            refine En_Ps 1 (pc' := 70) (lv' := [(4, .ref a26), (0, .ref 0), (1, .int a), (2, .int b), (3, .int c)]) (st' := [.int b, .ref a37]) rfl ?_
            refine En_iald (l := 0) (u := 1) rfl rfl ha37 (by decide +kernel) h15 (by first | exact q_58e6e51dcc h27 | omega) (lnI (by decide +kernel : LN _ = 13) (by first | exact q_314deb8953 h34 h33 | omega)) (FTsgl (by decide +kernel)) (fun z39 h38 h40 h41 => ?_)
            exact En_ret (v := some (Value.int z39)) rfl rfl rfl ⟨h15, h19, z39, rfl, ⟨by first | exact q_ea7f0ffdb1 h40 | omega, by first | exact q_31525ae3c9 h41 | omega⟩⟩
          · refine En_Ps 1 (pc' := 56) (lv' := [(4, .ref a26), (0, .ref 0), (1, .int a), (2, .int b), (3, .int c)]) (st' := [.ref a26]) rfl ?_
            refine En_getR (j := 0) (g' := 21) (u := 0) rfl rfl rfl ha26 (by decide +kernel) h15 (by decide +kernel) (fun a43 h42 ha43 => ?_)
            refine En_Ps 1 (pc' := 60) (lv' := [(4, .ref a26), (0, .ref 0), (1, .int a), (2, .int b), (3, .int c)]) (st' := [.int b, .ref a43]) rfl ?_
            refine En_iald (l := 0) (u := 15) rfl rfl ha43 (by decide +kernel) h15 (by first | exact q_58e6e51dcc h27 | omega) (lnI (by decide +kernel : LN _ = 13) (by first | exact q_314deb8953 h34 h33 | omega)) (FTsgl (by decide +kernel)) (fun z45 h44 h46 h47 => ?_)
            refine En_Ps 1 (pc' := 71) (lv' := [(4, .ref a26), (0, .ref 0), (1, .int a), (2, .int b), (3, .int c)]) (st' := [.int z45]) rfl ?_
            exact En_ret (v := some (Value.int z45)) rfl rfl rfl ⟨h15, h19, z45, rfl, ⟨by first | exact q_ea7f0ffdb1 h46 | omega, by first | exact q_867a9ac627 h47 | omega⟩⟩
        · refine En_Ps 1 (pc' := 49) (lv' := [(4, .ref a26), (0, .ref 0), (1, .int a), (2, .int b), (3, .int c)]) (st' := [.int ((Int32.ofInt (-1)))]) rfl ?_
          refine En_top (by decide : (Int32.ofInt (-1)).toInt = -1) (fun z48 h49 => ?_)
          exact En_ret (v := some (Value.int z48)) rfl rfl rfl ⟨h15, h19, z48, rfl, ⟨by first | exact q_e1de8c7867 h49 | omega, by first | exact q_af62099904 h49 | omega⟩⟩
    · refine En_Ps 1 (pc' := 20) (lv' := [(0, .ref 0), (1, .int a), (2, .int b), (3, .int c)]) (st' := [.int (((Int8.ofInt (-2)).toInt32))]) rfl ?_
      refine En_top (by decide : ((Int8.ofInt (-2)).toInt32).toInt = -2) (fun z50 h51 => ?_)
      exact En_ret (v := some (Value.int z50)) rfl rfl rfl ⟨h15, h19, z50, rfl, ⟨by first | exact q_f35c5d346c h51 | omega, by first | exact q_12a74e12a3 h51 | omega⟩⟩
/-- DoorSchool.marks(I)I -/
abbrev P_155 (σ0 : SG) (a : Int32) (p : Nat) (sg : Int32) : PO := fun v σ => WT σ ∧ Fr [] σ0 σ ∧ ∃ ret : Int32, v = some (Value.int ret) ∧ -ret.toInt - 2 ≤ 0 ∧ ret.toInt - 63 ≤ 0
set_option maxRecDepth 10000 in
set_option maxHeartbeats 4000000 in
theorem c_155 (σ0 : SG) (hσ0 : WT σ0) (a : Int32) (p : Nat) (hp : TG p = 18) (h_p : (σ0 0)[9]? = some (Value.ref p)) (sg : Int32) (h_sg : (σ0 p)[1]? = some (Value.int sg)) (hp0 : -sg.toInt ≤ 0) : En 4 92 none mr_155 (P_155 σ0 a p sg) 0 [(0, .ref 0), (1, .int a)] [] σ0 := by
  obtain ⟨hl_sg, hu_sg⟩ := WT_int hσ0 (g := 18) hp (by decide +kernel) (l := (-1)) (u := 4) (by decide +kernel) h_sg
  have hF0 : Fr [] σ0 σ0 := Fr_rfl
  refine En_Ps 1 (pc' := 1) (lv' := [(0, .ref 0), (1, .int a)]) (st' := [.ref 0]) rfl ?_
  refine En_getK (j := 9) h_p rfl rfl rfl tgz_0 (by decide +kernel) ?_
  refine En_Ps 1 (pc' := 5) (lv' := [(0, .ref 0), (1, .int a)]) (st' := [.int a, .ref p]) rfl ?_
  refine En_callV rfl rfl rfl rfl rfl rfl rfl rfl hp (by decide +kernel) rfl (c_47 σ0 hσ0 p hp a) (by decide) (by decide) (fun v2 σ3 h1 => ?_)
  obtain ⟨h4, h5, z7, rfl, h6⟩ := h1
  have h8 := Fr_trans hF0 h5 (by decide +kernel)
  refine En_iEq _ rfl rfl (fun h9 => ?_) (fun h9 => ?_)
  · refine En_Ps 1 (pc' := 25) (lv' := [(0, .ref 0), (1, .int a)]) (st' := [.int (((Int8.ofInt (-2)).toInt32))]) rfl ?_
    refine En_top (by decide : ((Int8.ofInt (-2)).toInt32).toInt = -2) (fun z10 h11 => ?_)
    exact En_ret (v := some (Value.int z10)) rfl rfl rfl ⟨h4, h8, z10, rfl, ⟨by first | exact q_f35c5d346c h11 | omega, by first | exact q_443ead751f h11 | omega⟩⟩
  · refine En_Ps 3 (pc' := 14) (lv' := [(0, .ref 0), (1, .int a)]) (st' := [.int a, .ref 0, .ref 0]) rfl ?_
    refine En_callV rfl rfl rfl rfl rfl rfl rfl rfl tgz_0 (by decide +kernel) rfl (c_114 σ3 h4 a (geI rfl (by omega)) (leI rfl (by omega)) p hp ((h5 _ _ (inW tgz_0 (by decide +kernel))).trans h_p) sg ((h5 _ _ (inW hp (by decide +kernel))).trans h_sg) (by first | exact q_a555021d16 hp0 | omega)) (by decide) (by decide) (fun v13 σ14 h12 => ?_)
    obtain ⟨h15, h16, z18, rfl, h17⟩ := h12
    have h19 := Fr_trans h8 h16 (by decide +kernel)
    refine En_callV rfl rfl rfl rfl rfl rfl rfl rfl tgz_0 (by decide +kernel) rfl (c_156 σ14 h15 z18 p hp ((h16 _ _ (inW tgz_0 (by decide +kernel))).trans ((h5 _ _ (inW tgz_0 (by decide +kernel))).trans h_p)) sg ((h16 _ _ (inW hp (by decide +kernel))).trans ((h5 _ _ (inW hp (by decide +kernel))).trans h_sg)) (by first | exact q_a555021d16 hp0 | omega)) (by decide) (by decide) (fun v21 σ22 h20 => ?_)
    obtain ⟨h23, h24, z26, rfl, h25⟩ := h20
    have h27 := Fr_trans h19 h24 (by decide +kernel)
    refine En_Ps 1 (pc' := 25) (lv' := [(0, .ref 0), (1, .int a)]) (st' := [.int z26]) rfl ?_
    exact En_ret (v := some (Value.int z26)) rfl rfl rfl ⟨h23, h27, z26, rfl, ⟨by first | exact q_70a249c7f8 h25.1 | omega, by first | exact q_4b9206e141 h25.2 | omega⟩⟩
/-- DoorSchool.next(II)I -/
abbrev P_157 (σ0 : SG) (a : Int32) (b : Int32) (p : Nat) (sg : Int32) : PO := fun v σ => WT σ ∧ Fr [] σ0 σ ∧ ∃ ret : Int32, v = some (Value.int ret) ∧ -ret.toInt - 2 ≤ 0 ∧ ret.toInt - 15 ≤ 0
set_option maxRecDepth 10000 in
set_option maxHeartbeats 4000000 in
theorem c_157 (σ0 : SG) (hσ0 : WT σ0) (a : Int32) (b : Int32) (p : Nat) (hp : TG p = 18) (h_p : (σ0 0)[9]? = some (Value.ref p)) (sg : Int32) (h_sg : (σ0 p)[1]? = some (Value.int sg)) (hp0 : -sg.toInt ≤ 0) : En 4 94 none mr_157 (P_157 σ0 a b p sg) 0 [(0, .ref 0), (1, .int a), (2, .int b)] [] σ0 := by
  obtain ⟨hl_sg, hu_sg⟩ := WT_int hσ0 (g := 18) hp (by decide +kernel) (l := (-1)) (u := 4) (by decide +kernel) h_sg
  have hF0 : Fr [] σ0 σ0 := Fr_rfl
  refine En_Ps 1 (pc' := 1) (lv' := [(0, .ref 0), (1, .int a), (2, .int b)]) (st' := [.int a]) rfl ?_
  refine En_callS rfl rfl rfl rfl rfl rfl rfl rfl rfl (c_148 σ0 hσ0 a) (by decide) (by decide) (fun v2 σ3 h1 => ?_)
  obtain ⟨h4, h5, z7, rfl, h6⟩ := h1
  have h8 := Fr_trans hF0 h5 (by decide +kernel)
  refine En_iEq _ rfl rfl (fun h9 => ?_) (fun h9 => ?_)
  · refine En_Ps 1 (pc' := 20) (lv' := [(0, .ref 0), (1, .int a), (2, .int b)]) (st' := [.int (((Int8.ofInt (-2)).toInt32))]) rfl ?_
    refine En_top (by decide : ((Int8.ofInt (-2)).toInt32).toInt = -2) (fun z10 h11 => ?_)
    exact En_ret (v := some (Value.int z10)) rfl rfl rfl ⟨h4, h8, z10, rfl, ⟨by first | exact q_f35c5d346c h11 | omega, by first | exact q_12a74e12a3 h11 | omega⟩⟩
  · refine En_Ps 1 (pc' := 8) (lv' := [(0, .ref 0), (1, .int a), (2, .int b)]) (st' := [.ref 0]) rfl ?_
    refine En_getK (j := 9) ((h5 _ _ (inW tgz_0 (by decide +kernel))).trans h_p) rfl rfl rfl tgz_0 (by decide +kernel) ?_
    refine En_Ps 1 (pc' := 12) (lv' := [(0, .ref 0), (1, .int a), (2, .int b)]) (st' := [.int b, .ref p]) rfl ?_
    refine En_callV rfl rfl rfl rfl rfl rfl rfl rfl hp (by decide +kernel) rfl (c_46 σ3 h4 p hp b sg ((h5 _ _ (inW hp (by decide +kernel))).trans h_sg) (by first | exact q_a555021d16 hp0 | omega)) (by decide) (by decide) (fun v13 σ14 h12 => ?_)
    obtain ⟨h15, h16, z18, rfl, h17⟩ := h12
    have h19 := Fr_trans h8 h16 (by decide +kernel)
    refine En_iNe _ rfl rfl (fun h20 => ?_) (fun h20 => ?_)
    · refine En_Ps 6 (pc' := 31) (lv' := [(5, .int ((Int32.ofInt 0))), (4, .int (((Int16.ofInt 1297).toInt32))), (3, .int ((Int32.ofInt (-1)))), (0, .ref 0), (1, .int a), (2, .int b)]) (st' := []) rfl ?_
      have key31 : ∀ (n31 : Nat) (σ24 : SG) (y21 : Int32) (y22 : Int32) (y23 : Int32), WT σ24 → Fr [] σ0 σ24 → (σ24 0)[9]? = some (Value.ref p) → (σ24 p)[1]? = some (Value.int sg) → (-1) ≤ y21.toInt → y21.toInt ≤ 15 → y22.toInt ≤ 1297 → 0 ≤ y23.toInt → y23.toInt ≤ 16 → y21.toInt - y23.toInt + 1 ≤ 0 → -y23.toInt + 16 < (n31 : Int) → En 4 94 none mr_157 (P_157 σ0 a b p sg) 31 [(0, .ref 0), (1, .int a), (2, .int b), (3, .int y21), (4, .int y22), (5, .int y23)] [] σ24 := by
        intro n31
        induction n31 with
        | zero =>
          intro σ24 y21 y22 y23 h25 h26 h27 h28 h29 h30 h31 h32 h33 h34 h35
          first | exact (q_511f6d33ac h35 h33).elim | (exfalso; omega)
        | succ n31 ih31 =>
          intro σ24 y21 y22 y23 h25 h26 h27 h28 h29 h30 h31 h32 h33 h34 h35
          refine En_Ps 2 (pc' := 34) (lv' := [(0, .ref 0), (1, .int a), (2, .int b), (3, .int y21), (4, .int y22), (5, .int y23)]) (st' := [.ref 0, .int y23]) rfl ?_
          refine En_getK (j := 9) h27 rfl rfl rfl tgz_0 (by decide +kernel) ?_
          refine En_callV rfl rfl rfl rfl rfl rfl rfl rfl hp (by decide +kernel) rfl (c_51 σ24 h25 p hp sg h28 (by first | exact q_a555021d16 hp0 | omega)) (by decide) (by decide) (fun v37 σ38 h36 => ?_)
          obtain ⟨h39, h40, z42, rfl, h41⟩ := h36
          have h43 := Fr_trans h26 h40 (by decide +kernel)
          refine En_icGe _ rfl rfl rfl (fun h44 => ?_) (fun h44 => ?_)
          · refine En_Ps 1 (pc' := 89) (lv' := [(0, .ref 0), (1, .int a), (2, .int b), (3, .int y21), (4, .int y22), (5, .int y23)]) (st' := [.int y21]) rfl ?_
            exact En_ret (v := some (Value.int y21)) rfl rfl rfl ⟨h39, h43, y21, rfl, ⟨by first | exact q_fe58cd40d0 h29 | omega, by first | exact q_867a9ac627 h30 | omega⟩⟩
          · refine En_Ps 2 (pc' := 46) (lv' := [(0, .ref 0), (1, .int a), (2, .int b), (3, .int y21), (4, .int y22), (5, .int y23)]) (st' := [.int y23, .int b]) rfl ?_
            refine En_callS rfl rfl rfl rfl rfl rfl rfl rfl rfl (c_108 σ38 h39 b y23) (by decide) (by decide) (fun v46 σ47 h45 => ?_)
            obtain ⟨h48, h49, z51, rfl, h50⟩ := h45
            have h52 := Fr_trans h43 h49 (by decide +kernel)
            refine En_iNe _ rfl rfl (fun h53 => ?_) (fun h53 => ?_)
            · refine En_Ps 1 (pc' := 85) (lv' := [(5, .int ((y23 + Int32.ofInt 1))), (0, .ref 0), (1, .int a), (2, .int b), (3, .int y21), (4, .int y22)]) (st' := []) rfl ?_
              refine En_lv1 (addI rfl (by decide : (Int32.ofInt 1).toInt = 1) (by first | exact q_465ab79ac1 h32 | omega) (by first | exact q_f3f8e04381 h33 | omega)) (fun z54 h55 => ?_)
              refine En_Ps 1 (pc' := 31) (lv' := [(5, .int z54), (0, .ref 0), (1, .int a), (2, .int b), (3, .int y21), (4, .int y22)]) (st' := []) rfl ?_
              refine En_lv (lv := [(0, .ref 0), (1, .int a), (2, .int b), (3, .int y21), (4, .int y22), (5, .int z54)]) ⟨rfl, rfl, rfl, rfl, rfl, rfl, trivial⟩ ?_
              exact ih31 σ47 y21 y22 z54 h48 h52 ((h49 _ _ (inW tgz_0 (by decide +kernel))).trans ((h40 _ _ (inW tgz_0 (by decide +kernel))).trans h27)) ((h49 _ _ (inW hp (by decide +kernel))).trans ((h40 _ _ (inW hp (by decide +kernel))).trans h28)) (by first | exact q_77b189e83d h29 | omega) (by first | exact q_5a4d8a7e08 h30 | omega) (by first | exact q_ce07321c0d h31 | omega) (by first | exact q_35104ce9d3 h55 h32 | omega) (by first | exact q_34dc714687 h55 h44 h41.2 | omega) (by first | exact q_6591527e3e h34 h55 | omega) (by first | exact q_c5d740bdff h55 h35 | omega)
            · refine En_Ps 1 (pc' := 53) (lv' := [(0, .ref 0), (1, .int a), (2, .int b), (3, .int y21), (4, .int y22), (5, .int y23)]) (st' := [.ref 0]) rfl ?_
              refine En_getU (j := 3) (u := 8) (g' := 8) (q := 0) rfl rfl rfl tgz_0 (by decide +kernel) h48 (by decide +kernel) un_8_8 (fun h56 => ?_)
              refine En_Ps 5 (pc' := 62) (lv' := [(0, .ref 0), (1, .int a), (2, .int b), (3, .int y21), (4, .int y22), (5, .int y23)]) (st' := [.int ((((Int32.ofInt 1)) <<< (y23 &&& 31))), .int b, .int a, .ref 8]) rfl ?_
              refine En_rng (shl1_p 15 rfl (by omega) (by omega) (by decide)) (fun z58 h59 h60 => ?_)
              refine En_Ps 1 (pc' := 63) (lv' := [(0, .ref 0), (1, .int a), (2, .int b), (3, .int y21), (4, .int y22), (5, .int y23)]) (st' := [.int ((b ||| z58)), .int a, .ref 8]) rfl ?_
              refine En_rng (l := 0) (u := 65535) (or_rng 16 rfl rfl (by omega) (by omega) (by omega) (by omega) (by decide)) (fun z61 h62 h63 => ?_)
              refine En_callV rfl rfl rfl rfl rfl rfl rfl rfl tgz_8 (by decide +kernel) rfl (c_20 σ47 h48 a z61) (by decide) (by decide) (fun v65 σ66 h64 => ?_)
              obtain ⟨h67, h68, z70, rfl, h69⟩ := h64
              have h71 := Fr_trans h52 h68 (by decide +kernel)
              refine En_Ps 3 (pc' := 72) (lv' := [(6, .int z70), (0, .ref 0), (1, .int a), (2, .int b), (3, .int y21), (4, .int y22), (5, .int y23)]) (st' := [.int y22, .int z70]) rfl ?_
              refine En_icGe _ rfl rfl rfl (fun h72 => ?_) (fun h72 => ?_)
              · refine En_Ps 1 (pc' := 85) (lv' := [(5, .int ((y23 + Int32.ofInt 1))), (6, .int z70), (0, .ref 0), (1, .int a), (2, .int b), (3, .int y21), (4, .int y22)]) (st' := []) rfl ?_
                refine En_lv1 (addI rfl (by decide : (Int32.ofInt 1).toInt = 1) (by first | exact q_465ab79ac1 h32 | omega) (by first | exact q_f3f8e04381 h33 | omega)) (fun z73 h74 => ?_)
                refine En_Ps 1 (pc' := 31) (lv' := [(5, .int z73), (6, .int z70), (0, .ref 0), (1, .int a), (2, .int b), (3, .int y21), (4, .int y22)]) (st' := []) rfl ?_
                refine En_lv (lv := [(0, .ref 0), (1, .int a), (2, .int b), (3, .int y21), (4, .int y22), (5, .int z73)]) ⟨rfl, rfl, rfl, rfl, rfl, rfl, trivial⟩ ?_
                exact ih31 σ66 y21 y22 z73 h67 h71 ((h68 _ _ (inW tgz_0 (by decide +kernel))).trans ((h49 _ _ (inW tgz_0 (by decide +kernel))).trans ((h40 _ _ (inW tgz_0 (by decide +kernel))).trans h27))) ((h68 _ _ (inW hp (by decide +kernel))).trans ((h49 _ _ (inW hp (by decide +kernel))).trans ((h40 _ _ (inW hp (by decide +kernel))).trans h28))) (by first | exact q_77b189e83d h29 | omega) (by first | exact q_5a4d8a7e08 h30 | omega) (by first | exact q_ce07321c0d h31 | omega) (by first | exact q_35104ce9d3 h74 h32 | omega) (by first | exact q_34dc714687 h74 h44 h41.2 | omega) (by first | exact q_6591527e3e h34 h74 | omega) (by first | exact q_c5d740bdff h74 h35 | omega)
              · refine En_Ps 5 (pc' := 85) (lv' := [(5, .int ((y23 + Int32.ofInt 1))), (3, .int y23), (4, .int z70), (6, .int z70), (0, .ref 0), (1, .int a), (2, .int b)]) (st' := []) rfl ?_
                refine En_lv1 (addI rfl (by decide : (Int32.ofInt 1).toInt = 1) (by first | exact q_465ab79ac1 h32 | omega) (by first | exact q_f3f8e04381 h33 | omega)) (fun z75 h76 => ?_)
                refine En_Ps 1 (pc' := 31) (lv' := [(5, .int z75), (3, .int y23), (4, .int z70), (6, .int z70), (0, .ref 0), (1, .int a), (2, .int b)]) (st' := []) rfl ?_
                refine En_lv (lv := [(0, .ref 0), (1, .int a), (2, .int b), (3, .int y23), (4, .int z70), (5, .int z75)]) ⟨rfl, rfl, rfl, rfl, rfl, rfl, trivial⟩ ?_
                exact ih31 σ66 y23 z70 z75 h67 h71 ((h68 _ _ (inW tgz_0 (by decide +kernel))).trans ((h49 _ _ (inW tgz_0 (by decide +kernel))).trans ((h40 _ _ (inW tgz_0 (by decide +kernel))).trans h27))) ((h68 _ _ (inW hp (by decide +kernel))).trans ((h49 _ _ (inW hp (by decide +kernel))).trans ((h40 _ _ (inW hp (by decide +kernel))).trans h28))) (by first | exact q_5b439548fc h32 | omega) (by first | exact q_c15b485600 h44 h41.2 | omega) (by first | exact q_a1a35d549d h72 h31 | omega) (by first | exact q_35104ce9d3 h76 h32 | omega) (by first | exact q_34dc714687 h76 h44 h41.2 | omega) (by first | exact q_2fedec469a h76 | omega) (by first | exact q_c5d740bdff h76 h35 | omega)
      have := (by decide : (Int32.ofInt (-1)).toInt = -1)
      have := (by decide : ((Int16.ofInt 1297).toInt32).toInt = 1297)
      have := (by decide : (Int32.ofInt 0).toInt = 0)
      refine En_lv (lv := [(0, .ref 0), (1, .int a), (2, .int b), (3, .int ((Int32.ofInt (-1)))), (4, .int (((Int16.ofInt 1297).toInt32))), (5, .int ((Int32.ofInt 0)))]) ⟨rfl, rfl, rfl, rfl, rfl, rfl, trivial⟩ ?_
      exact key31 (Int.toNat (16) + 1) σ14 ((Int32.ofInt (-1))) (((Int16.ofInt 1297).toInt32)) ((Int32.ofInt 0)) h15 h19 ((h16 _ _ (inW tgz_0 (by decide +kernel))).trans ((h5 _ _ (inW tgz_0 (by decide +kernel))).trans h_p)) ((h16 _ _ (inW hp (by decide +kernel))).trans ((h5 _ _ (inW hp (by decide +kernel))).trans h_sg)) (by decide) (by decide) (by decide) (by decide) (by decide) (by omega) (by first | exact toN_lt _ | omega)
    · refine En_Ps 1 (pc' := 20) (lv' := [(0, .ref 0), (1, .int a), (2, .int b)]) (st' := [.int (((Int8.ofInt (-2)).toInt32))]) rfl ?_
      refine En_top (by decide : ((Int8.ofInt (-2)).toInt32).toInt = -2) (fun z77 h78 => ?_)
      exact En_ret (v := some (Value.int z77)) rfl rfl rfl ⟨h15, h19, z77, rfl, ⟨by first | exact q_f35c5d346c h78 | omega, by first | exact q_12a74e12a3 h78 | omega⟩⟩
/-- DoorSchool.often(I)I -/
abbrev P_158 (σ0 : SG) (a : Int32) (p : Nat) (sg : Int32) : PO := fun v σ => WT σ ∧ Fr [] σ0 σ ∧ ∃ ret : Int32, v = some (Value.int ret) ∧ -ret.toInt - 2 ≤ 0 ∧ ret.toInt - 63 ≤ 0
set_option maxRecDepth 10000 in
set_option maxHeartbeats 4000000 in
theorem c_158 (σ0 : SG) (hσ0 : WT σ0) (a : Int32) (p : Nat) (hp : TG p = 18) (h_p : (σ0 0)[9]? = some (Value.ref p)) (sg : Int32) (h_sg : (σ0 p)[1]? = some (Value.int sg)) (hp0 : -sg.toInt ≤ 0) : En 4 92 none mr_158 (P_158 σ0 a p sg) 0 [(0, .ref 0), (1, .int a)] [] σ0 := by
  obtain ⟨hl_sg, hu_sg⟩ := WT_int hσ0 (g := 18) hp (by decide +kernel) (l := (-1)) (u := 4) (by decide +kernel) h_sg
  have hF0 : Fr [] σ0 σ0 := Fr_rfl
  refine En_Ps 1 (pc' := 1) (lv' := [(0, .ref 0), (1, .int a)]) (st' := [.ref 0]) rfl ?_
  refine En_getK (j := 9) h_p rfl rfl rfl tgz_0 (by decide +kernel) ?_
  refine En_Ps 1 (pc' := 5) (lv' := [(0, .ref 0), (1, .int a)]) (st' := [.int a, .ref p]) rfl ?_
  refine En_callV rfl rfl rfl rfl rfl rfl rfl rfl hp (by decide +kernel) rfl (c_47 σ0 hσ0 p hp a) (by decide) (by decide) (fun v2 σ3 h1 => ?_)
  obtain ⟨h4, h5, z7, rfl, h6⟩ := h1
  have h8 := Fr_trans hF0 h5 (by decide +kernel)
  refine En_iEq _ rfl rfl (fun h9 => ?_) (fun h9 => ?_)
  · refine En_Ps 1 (pc' := 24) (lv' := [(0, .ref 0), (1, .int a)]) (st' := [.int (((Int8.ofInt (-2)).toInt32))]) rfl ?_
    refine En_top (by decide : ((Int8.ofInt (-2)).toInt32).toInt = -2) (fun z10 h11 => ?_)
    exact En_ret (v := some (Value.int z10)) rfl rfl rfl ⟨h4, h8, z10, rfl, ⟨by first | exact q_f35c5d346c h11 | omega, by first | exact q_443ead751f h11 | omega⟩⟩
  · refine En_Ps 2 (pc' := 13) (lv' := [(0, .ref 0), (1, .int a)]) (st' := [.int a, .ref 0]) rfl ?_
    refine En_callV rfl rfl rfl rfl rfl rfl rfl rfl tgz_0 (by decide +kernel) rfl (c_114 σ3 h4 a (geI rfl (by omega)) (leI rfl (by omega)) p hp ((h5 _ _ (inW tgz_0 (by decide +kernel))).trans h_p) sg ((h5 _ _ (inW hp (by decide +kernel))).trans h_sg) (by first | exact q_a555021d16 hp0 | omega)) (by decide) (by decide) (fun v13 σ14 h12 => ?_)
    obtain ⟨h15, h16, z18, rfl, h17⟩ := h12
    have h19 := Fr_trans h8 h16 (by decide +kernel)
    refine En_callS rfl rfl rfl rfl rfl rfl rfl rfl rfl (c_7 σ14 h15 z18) (by decide) (by decide) (fun v21 σ22 h20 => ?_)
    obtain ⟨h23, h24, z26, rfl, h25⟩ := h20
    have h27 := Fr_trans h19 h24 (by decide +kernel)
    refine En_Ps 1 (pc' := 24) (lv' := [(0, .ref 0), (1, .int a)]) (st' := [.int z26]) rfl ?_
    exact En_ret (v := some (Value.int z26)) rfl rfl rfl ⟨h23, h27, z26, rfl, ⟨by first | exact q_70a249c7f8 h25.1 | omega, by first | exact q_4b9206e141 h25.2 | omega⟩⟩
/-- DoorSchool.opens(II)I -/
abbrev P_159 (σ0 : SG) (a : Int32) (b : Int32) (p : Nat) (sg : Int32) : PO := fun v σ => WT σ ∧ Fr [] σ0 σ ∧ ∃ ret : Int32, v = some (Value.int ret) ∧ -ret.toInt - 2 ≤ 0 ∧ ret.toInt - 1 ≤ 0
set_option maxRecDepth 10000 in
set_option maxHeartbeats 4000000 in
theorem c_159 (σ0 : SG) (hσ0 : WT σ0) (a : Int32) (b : Int32) (p : Nat) (hp : TG p = 18) (h_p : (σ0 0)[9]? = some (Value.ref p)) (sg : Int32) (h_sg : (σ0 p)[1]? = some (Value.int sg)) (hp0 : -sg.toInt ≤ 0) : En 4 92 none mr_159 (P_159 σ0 a b p sg) 0 [(0, .ref 0), (1, .int a), (2, .int b)] [] σ0 := by
  obtain ⟨hl_sg, hu_sg⟩ := WT_int hσ0 (g := 18) hp (by decide +kernel) (l := (-1)) (u := 4) (by decide +kernel) h_sg
  have hF0 : Fr [] σ0 σ0 := Fr_rfl
  refine En_Ps 1 (pc' := 1) (lv' := [(0, .ref 0), (1, .int a), (2, .int b)]) (st' := [.ref 0]) rfl ?_
  refine En_getK (j := 9) h_p rfl rfl rfl tgz_0 (by decide +kernel) ?_
  refine En_Ps 1 (pc' := 5) (lv' := [(0, .ref 0), (1, .int a), (2, .int b)]) (st' := [.int a, .ref p]) rfl ?_
  refine En_callV rfl rfl rfl rfl rfl rfl rfl rfl hp (by decide +kernel) rfl (c_47 σ0 hσ0 p hp a) (by decide) (by decide) (fun v2 σ3 h1 => ?_)
  obtain ⟨h4, h5, z7, rfl, h6⟩ := h1
  have h8 := Fr_trans hF0 h5 (by decide +kernel)
  refine En_iEq _ rfl rfl (fun h9 => ?_) (fun h9 => ?_)
  · refine En_Ps 1 (pc' := 24) (lv' := [(0, .ref 0), (1, .int a), (2, .int b)]) (st' := [.int (((Int8.ofInt (-2)).toInt32))]) rfl ?_
    refine En_top (by decide : ((Int8.ofInt (-2)).toInt32).toInt = -2) (fun z10 h11 => ?_)
    exact En_ret (v := some (Value.int z10)) rfl rfl rfl ⟨h4, h8, z10, rfl, ⟨by first | exact q_f35c5d346c h11 | omega, by first | exact q_680688d8e6 h11 | omega⟩⟩
  · refine En_Ps 1 (pc' := 12) (lv' := [(0, .ref 0), (1, .int a), (2, .int b)]) (st' := [.ref 0]) rfl ?_
    refine En_getK (j := 9) ((h5 _ _ (inW tgz_0 (by decide +kernel))).trans h_p) rfl rfl rfl tgz_0 (by decide +kernel) ?_
    refine En_Ps 1 (pc' := 16) (lv' := [(0, .ref 0), (1, .int a), (2, .int b)]) (st' := [.int b, .ref p]) rfl ?_
    refine En_callV rfl rfl rfl rfl rfl rfl rfl rfl hp (by decide +kernel) rfl (c_49 σ3 h4 p hp b sg ((h5 _ _ (inW hp (by decide +kernel))).trans h_sg) (by first | exact q_a555021d16 hp0 | omega)) (by decide) (by decide) (fun v13 σ14 h12 => ?_)
    obtain ⟨h15, h16, z18, rfl, h17⟩ := h12
    have h19 := Fr_trans h8 h16 (by decide +kernel)
    refine En_iNe _ rfl rfl (fun h20 => ?_) (fun h20 => ?_)
    · refine En_Ps 2 (pc' := 27) (lv' := [(0, .ref 0), (1, .int a), (2, .int b)]) (st' := [.int a, .ref 0]) rfl ?_
      refine En_callV rfl rfl rfl rfl rfl rfl rfl rfl tgz_0 (by decide +kernel) rfl (c_114 σ14 h15 a (geI rfl (by omega)) (leI rfl (by omega)) p hp ((h16 _ _ (inW tgz_0 (by decide +kernel))).trans ((h5 _ _ (inW tgz_0 (by decide +kernel))).trans h_p)) sg ((h16 _ _ (inW hp (by decide +kernel))).trans ((h5 _ _ (inW hp (by decide +kernel))).trans h_sg)) (by first | exact q_a555021d16 hp0 | omega)) (by decide) (by decide) (fun v22 σ23 h21 => ?_)
      obtain ⟨h24, h25, z27, rfl, h26⟩ := h21
      have h28 := Fr_trans h19 h25 (by decide +kernel)
      refine En_Ps 1 (pc' := 31) (lv' := [(0, .ref 0), (1, .int a), (2, .int b)]) (st' := [.int b, .int z27]) rfl ?_
      refine En_callS rfl rfl rfl rfl rfl rfl rfl rfl rfl (c_108 σ23 h24 z27 b) (by decide) (by decide) (fun v30 σ31 h29 => ?_)
      obtain ⟨h32, h33, z35, rfl, h34⟩ := h29
      have h36 := Fr_trans h28 h33 (by decide +kernel)
      exact En_ret (v := some (Value.int z35)) rfl rfl rfl ⟨h32, h36, z35, rfl, ⟨by first | exact q_70a249c7f8 h34.1 | omega, by first | exact q_ad5b726bf8 h34.2 | omega⟩⟩
    · refine En_Ps 1 (pc' := 24) (lv' := [(0, .ref 0), (1, .int a), (2, .int b)]) (st' := [.int (((Int8.ofInt (-2)).toInt32))]) rfl ?_
      refine En_top (by decide : ((Int8.ofInt (-2)).toInt32).toInt = -2) (fun z37 h38 => ?_)
      exact En_ret (v := some (Value.int z37)) rfl rfl rfl ⟨h15, h19, z37, rfl, ⟨by first | exact q_f35c5d346c h38 | omega, by first | exact q_680688d8e6 h38 | omega⟩⟩
/-- DoorSchool.paste(IIIII)I -/
abbrev P_162 (σ0 : SG) (a : Int32) (b : Int32) (c : Int32) (d : Int32) (e : Int32) (p : Nat) (sg : Int32) : PO := fun v σ => WT σ ∧ Fr [(34, 0)] σ0 σ ∧ ∃ ret : Int32, v = some (Value.int ret) ∧ -ret.toInt - 8 ≤ 0 ∧ ret.toInt ≤ 0
set_option maxRecDepth 10000 in
set_option maxHeartbeats 4000000 in
theorem c_162 (σ0 : SG) (hσ0 : WT σ0) (a : Int32) (b : Int32) (c : Int32) (d : Int32) (e : Int32) (p : Nat) (hp : TG p = 18) (h_p : (σ0 0)[9]? = some (Value.ref p)) (sg : Int32) (h_sg : (σ0 p)[1]? = some (Value.int sg)) (hp0 : -sg.toInt ≤ 0) : En 1 60 none mr_162 (P_162 σ0 a b c d e p sg) 0 [(0, .ref 0), (1, .int a), (2, .int b), (3, .int c), (4, .int d), (5, .int e)] [] σ0 := by
  obtain ⟨hl_sg, hu_sg⟩ := WT_int hσ0 (g := 18) hp (by decide +kernel) (l := (-1)) (u := 4) (by decide +kernel) h_sg
  have hF0 : Fr [(34, 0)] σ0 σ0 := Fr_rfl
  refine En_Ps 1 (pc' := 1) (lv' := [(0, .ref 0), (1, .int a), (2, .int b), (3, .int c), (4, .int d), (5, .int e)]) (st' := [.int a]) rfl ?_
  refine En_callS rfl rfl rfl rfl rfl rfl rfl rfl rfl (c_147 σ0 hσ0 a) (by decide) (by decide) (fun v2 σ3 h1 => ?_)
  obtain ⟨h4, h5, z7, rfl, h6⟩ := h1
  have h8 := Fr_trans hF0 h5 (by decide +kernel)
  refine En_iEq _ rfl rfl (fun h9 => ?_) (fun h9 => ?_)
  · refine En_Ps 1 (pc' := 16) (lv' := [(0, .ref 0), (1, .int a), (2, .int b), (3, .int c), (4, .int d), (5, .int e)]) (st' := [.int (((Int8.ofInt (-2)).toInt32))]) rfl ?_
    refine En_top (by decide : ((Int8.ofInt (-2)).toInt32).toInt = -2) (fun z10 h11 => ?_)
    exact En_ret (v := some (Value.int z10)) rfl rfl rfl ⟨h4, h8, z10, rfl, ⟨by first | exact q_a9585dd42b h11 | omega, by first | exact q_bbb39ffa1e h11 | omega⟩⟩
  · refine En_Ps 1 (pc' := 8) (lv' := [(0, .ref 0), (1, .int a), (2, .int b), (3, .int c), (4, .int d), (5, .int e)]) (st' := [.int c]) rfl ?_
    refine En_callS rfl rfl rfl rfl rfl rfl rfl rfl rfl (c_147 σ3 h4 c) (by decide) (by decide) (fun v13 σ14 h12 => ?_)
    obtain ⟨h15, h16, z18, rfl, h17⟩ := h12
    have h19 := Fr_trans h8 h16 (by decide +kernel)
    refine En_iNe _ rfl rfl (fun h20 => ?_) (fun h20 => ?_)
    · refine En_Ps 1 (pc' := 18) (lv' := [(0, .ref 0), (1, .int a), (2, .int b), (3, .int c), (4, .int d), (5, .int e)]) (st' := [.ref 0]) rfl ?_
      refine En_getU (j := 6) (u := 150) (g' := 32) (q := 0) rfl rfl rfl tgz_0 (by decide +kernel) h15 (by decide +kernel) un_32_150 (fun h21 => ?_)
      refine En_Ps 1 (pc' := 22) (lv' := [(0, .ref 0), (1, .int a), (2, .int b), (3, .int c), (4, .int d), (5, .int e)]) (st' := [.int a, .ref 150]) rfl ?_
      refine En_aald (g' := 33) (u := 0) rfl rfl tgz_150 (by decide +kernel) h15 (by omega) (lnI (by decide +kernel : LN _ = 4) (by omega)) (FTsgl (by decide +kernel)) (fun a24 h23 ha24 => ?_)
      refine En_Ps 2 (pc' := 26) (lv' := [(6, .ref a24), (0, .ref 0), (1, .int a), (2, .int b), (3, .int c), (4, .int d), (5, .int e)]) (st' := [.ref 0]) rfl ?_
      refine En_getK (j := 6) h21 rfl rfl rfl tgz_0 (by decide +kernel) ?_
      refine En_Ps 1 (pc' := 30) (lv' := [(6, .ref a24), (0, .ref 0), (1, .int a), (2, .int b), (3, .int c), (4, .int d), (5, .int e)]) (st' := [.int c, .ref 150]) rfl ?_
      refine En_aald (g' := 33) (u := 0) rfl rfl tgz_150 (by decide +kernel) h15 (by omega) (lnI (by decide +kernel : LN _ = 4) (by omega)) (FTsgl (by decide +kernel)) (fun a26 h25 ha26 => ?_)
      refine En_Ps 2 (pc' := 35) (lv' := [(7, .ref a26), (6, .ref a24), (0, .ref 0), (1, .int a), (2, .int b), (3, .int c), (4, .int d), (5, .int e)]) (st' := [.ref a24]) rfl ?_
      refine En_getI (j := 1) (l := 0) (u := 1) rfl rfl rfl ha24 (by decide +kernel) h15 (by decide +kernel) (fun z28 h27 h29 h30 => ?_)
      refine En_iEq _ rfl rfl (fun h31 => ?_) (fun h31 => ?_)
      · refine En_Ps 1 (pc' := 51) (lv' := [(7, .ref a26), (6, .ref a24), (0, .ref 0), (1, .int a), (2, .int b), (3, .int c), (4, .int d), (5, .int e)]) (st' := [.int (((Int8.ofInt (-6)).toInt32))]) rfl ?_
        refine En_top (by decide : ((Int8.ofInt (-6)).toInt32).toInt = -6) (fun z32 h33 => ?_)
        exact En_ret (v := some (Value.int z32)) rfl rfl rfl ⟨h15, h19, z32, rfl, ⟨by first | exact q_04810bc0c7 h33 | omega, by first | exact q_9bcb887de1 h33 | omega⟩⟩
      · refine En_Ps 1 (pc' := 43) (lv' := [(7, .ref a26), (6, .ref a24), (0, .ref 0), (1, .int a), (2, .int b), (3, .int c), (4, .int d), (5, .int e)]) (st' := [.ref a26]) rfl ?_
        refine En_getI (j := 1) (l := 0) (u := 1) rfl rfl rfl ha26 (by decide +kernel) h15 (by decide +kernel) (fun z35 h34 h36 h37 => ?_)
        refine En_iNe _ rfl rfl (fun h38 => ?_) (fun h38 => ?_)
        · refine En_Ps 1 (pc' := 54) (lv' := [(7, .ref a26), (6, .ref a24), (0, .ref 0), (1, .int a), (2, .int b), (3, .int c), (4, .int d), (5, .int e)]) (st' := [.ref a24]) rfl ?_
          refine En_getI (j := 2) (l := 0) (u := 3) rfl rfl rfl ha24 (by decide +kernel) h15 (by decide +kernel) (fun z40 h39 h41 h42 => ?_)
          refine En_Ps 1 (pc' := 59) (lv' := [(7, .ref a26), (6, .ref a24), (0, .ref 0), (1, .int a), (2, .int b), (3, .int c), (4, .int d), (5, .int e)]) (st' := [.ref a26, .int z40]) rfl ?_
          refine En_getI (j := 2) (l := 0) (u := 3) rfl rfl rfl ha26 (by decide +kernel) h15 (by decide +kernel) (fun z44 h43 h45 h46 => ?_)
          refine En_icEq _ rfl rfl rfl (fun h47 => ?_) (fun h47 => ?_)
          · refine En_Ps 3 (pc' := 73) (lv' := [(7, .ref a26), (6, .ref a24), (0, .ref 0), (1, .int a), (2, .int b), (3, .int c), (4, .int d), (5, .int e)]) (st' := [.int e, .int b, .ref a24]) rfl ?_
            obtain ⟨z49, h48, h50, h51⟩ := WT_peekI h15 ha24 (by decide +kernel : FT 33 3 = (0, 0, 60)) (by decide +kernel)
            refine En_callV rfl rfl rfl rfl rfl rfl rfl rfl ha24 (by decide +kernel) rfl (c_85 σ14 h15 a24 ha24 b e z49 h48) (by decide) (by decide) (fun v53 σ54 h52 => ?_)
            obtain ⟨h55, h56, z58, rfl, h57⟩ := h52
            have h59 := Fr_trans h19 h56 (by decide +kernel)
            refine En_iEq _ rfl rfl (fun h60 => ?_) (fun h60 => ?_)
            · refine En_Ps 1 (pc' := 93) (lv' := [(7, .ref a26), (6, .ref a24), (0, .ref 0), (1, .int a), (2, .int b), (3, .int c), (4, .int d), (5, .int e)]) (st' := [.int (((Int8.ofInt (-7)).toInt32))]) rfl ?_
              refine En_top (by decide : ((Int8.ofInt (-7)).toInt32).toInt = -7) (fun z61 h62 => ?_)
              exact En_ret (v := some (Value.int z61)) rfl rfl rfl ⟨h55, h59, z61, rfl, ⟨by first | exact q_bed7a61884 h62 | omega, by first | exact q_d916b56ab6 h62 | omega⟩⟩
            · refine En_Ps 3 (pc' := 85) (lv' := [(7, .ref a26), (6, .ref a24), (0, .ref 0), (1, .int a), (2, .int b), (3, .int c), (4, .int d), (5, .int e)]) (st' := [.int e, .int d, .ref a26]) rfl ?_
              obtain ⟨z64, h63, h65, h66⟩ := WT_peekI h55 ha26 (by decide +kernel : FT 33 3 = (0, 0, 60)) (by decide +kernel)
              refine En_callV rfl rfl rfl rfl rfl rfl rfl rfl ha26 (by decide +kernel) rfl (c_85 σ54 h55 a26 ha26 d e z64 h63) (by decide) (by decide) (fun v68 σ69 h67 => ?_)
              obtain ⟨h70, h71, z73, rfl, h72⟩ := h67
              have h74 := Fr_trans h59 h71 (by decide +kernel)
              refine En_iNe _ rfl rfl (fun h75 => ?_) (fun h75 => ?_)
              · refine En_Ps 1 (pc' := 96) (lv' := [(7, .ref a26), (6, .ref a24), (0, .ref 0), (1, .int a), (2, .int b), (3, .int c), (4, .int d), (5, .int e)]) (st' := [.ref a24]) rfl ?_
                refine En_getR (j := 0) (g' := 34) (u := 0) rfl rfl rfl ha24 (by decide +kernel) h70 (by decide +kernel) (fun a77 h76 ha77 => ?_)
                refine En_Ps 2 (pc' := 102) (lv' := [(7, .ref a26), (6, .ref a24), (0, .ref 0), (1, .int a), (2, .int b), (3, .int c), (4, .int d), (5, .int e)]) (st' := [.ref a26, .int b, .ref a77]) rfl ?_
                refine En_getR (j := 0) (g' := 34) (u := 0) rfl rfl rfl ha26 (by decide +kernel) h70 (by decide +kernel) (fun a79 h78 ha79 => ?_)
                refine En_Ps 2 (pc' := 109) (lv' := [(7, .ref a26), (6, .ref a24), (0, .ref 0), (1, .int a), (2, .int b), (3, .int c), (4, .int d), (5, .int e)]) (st' := [.int e, .int d, .ref a79, .int b, .ref a77]) rfl ?_
                refine En_copy (n0 := 60) (n1 := 60) rfl rfl rfl rfl rfl rfl rfl ha77 ha79 (by decide +kernel) (by decide +kernel) (by decide +kernel) (by decide +kernel) (by decide +kernel) (by omega) (by omega) (by omega) (by omega) (by omega) h70 h74 (by decide +kernel) (fun σ80 h81 h82 h83 => ?_)
                refine En_Ps 1 (pc' := 113) (lv' := [(7, .ref a26), (6, .ref a24), (0, .ref 0), (1, .int a), (2, .int b), (3, .int c), (4, .int d), (5, .int e)]) (st' := [.int ((Int32.ofInt 0))]) rfl ?_
                refine En_top (by decide : (Int32.ofInt 0).toInt = 0) (fun z84 h85 => ?_)
                exact En_ret (v := some (Value.int z84)) rfl rfl rfl ⟨h81, h82, z84, rfl, ⟨by first | exact q_444a964a01 h85 | omega, by first | exact q_c5d285f1b9 h85 | omega⟩⟩
              · refine En_Ps 1 (pc' := 93) (lv' := [(7, .ref a26), (6, .ref a24), (0, .ref 0), (1, .int a), (2, .int b), (3, .int c), (4, .int d), (5, .int e)]) (st' := [.int (((Int8.ofInt (-7)).toInt32))]) rfl ?_
                refine En_top (by decide : ((Int8.ofInt (-7)).toInt32).toInt = -7) (fun z86 h87 => ?_)
                exact En_ret (v := some (Value.int z86)) rfl rfl rfl ⟨h70, h74, z86, rfl, ⟨by first | exact q_bed7a61884 h87 | omega, by first | exact q_d916b56ab6 h87 | omega⟩⟩
          · refine En_Ps 1 (pc' := 67) (lv' := [(7, .ref a26), (6, .ref a24), (0, .ref 0), (1, .int a), (2, .int b), (3, .int c), (4, .int d), (5, .int e)]) (st' := [.int (((Int8.ofInt (-8)).toInt32))]) rfl ?_
            refine En_top (by decide : ((Int8.ofInt (-8)).toInt32).toInt = -8) (fun z88 h89 => ?_)
            exact En_ret (v := some (Value.int z88)) rfl rfl rfl ⟨h15, h19, z88, rfl, ⟨by first | exact q_433a6fecb0 h89 | omega, by first | exact q_e64e7d08e3 h89 | omega⟩⟩
        · refine En_Ps 1 (pc' := 51) (lv' := [(7, .ref a26), (6, .ref a24), (0, .ref 0), (1, .int a), (2, .int b), (3, .int c), (4, .int d), (5, .int e)]) (st' := [.int (((Int8.ofInt (-6)).toInt32))]) rfl ?_
          refine En_top (by decide : ((Int8.ofInt (-6)).toInt32).toInt = -6) (fun z90 h91 => ?_)
          exact En_ret (v := some (Value.int z90)) rfl rfl rfl ⟨h15, h19, z90, rfl, ⟨by first | exact q_04810bc0c7 h91 | omega, by first | exact q_9bcb887de1 h91 | omega⟩⟩
    · refine En_Ps 1 (pc' := 16) (lv' := [(0, .ref 0), (1, .int a), (2, .int b), (3, .int c), (4, .int d), (5, .int e)]) (st' := [.int (((Int8.ofInt (-2)).toInt32))]) rfl ?_
      refine En_top (by decide : ((Int8.ofInt (-2)).toInt32).toInt = -2) (fun z92 h93 => ?_)
      exact En_ret (v := some (Value.int z92)) rfl rfl rfl ⟨h15, h19, z92, rfl, ⟨by first | exact q_a9585dd42b h93 | omega, by first | exact q_bbb39ffa1e h93 | omega⟩⟩
/-- DoorSchool.rests(I)I -/
abbrev P_164 (σ0 : SG) (a : Int32) (p : Nat) (sg : Int32) : PO := fun v σ => WT σ ∧ Fr [] σ0 σ ∧ ∃ ret : Int32, v = some (Value.int ret) ∧ True
set_option maxRecDepth 10000 in
set_option maxHeartbeats 4000000 in
theorem c_164 (σ0 : SG) (hσ0 : WT σ0) (a : Int32) (p : Nat) (hp : TG p = 18) (h_p : (σ0 0)[9]? = some (Value.ref p)) (sg : Int32) (h_sg : (σ0 p)[1]? = some (Value.int sg)) (hp0 : -sg.toInt ≤ 0) : En 6 138 none mr_164 (P_164 σ0 a p sg) 0 [(0, .ref 0), (1, .int a)] [] σ0 := by
  obtain ⟨hl_sg, hu_sg⟩ := WT_int hσ0 (g := 18) hp (by decide +kernel) (l := (-1)) (u := 4) (by decide +kernel) h_sg
  have hF0 : Fr [] σ0 σ0 := Fr_rfl
  refine En_Ps 1 (pc' := 1) (lv' := [(0, .ref 0), (1, .int a)]) (st' := [.ref 0]) rfl ?_
  refine En_getK (j := 9) h_p rfl rfl rfl tgz_0 (by decide +kernel) ?_
  refine En_Ps 1 (pc' := 5) (lv' := [(0, .ref 0), (1, .int a)]) (st' := [.int a, .ref p]) rfl ?_
  refine En_callV rfl rfl rfl rfl rfl rfl rfl rfl hp (by decide +kernel) rfl (c_47 σ0 hσ0 p hp a) (by decide) (by decide) (fun v2 σ3 h1 => ?_)
  obtain ⟨h4, h5, z7, rfl, h6⟩ := h1
  have h8 := Fr_trans hF0 h5 (by decide +kernel)
  refine En_iNe _ rfl rfl (fun h9 => ?_) (fun h9 => ?_)
  · refine En_Ps 4 (pc' := 18) (lv' := [(3, .int ((Int32.ofInt 0))), (2, .int ((Int32.ofInt 0))), (0, .ref 0), (1, .int a)]) (st' := []) rfl ?_
    have key18 : ∀ (n18 : Nat) (σ12 : SG) (y10 : Int32) (y11 : Int32), WT σ12 → Fr [] σ0 σ12 → (σ12 0)[9]? = some (Value.ref p) → (σ12 p)[1]? = some (Value.int sg) → 0 ≤ y11.toInt → y11.toInt ≤ 3 → -y11.toInt + 3 < (n18 : Int) → En 6 138 none mr_164 (P_164 σ0 a p sg) 18 [(0, .ref 0), (1, .int a), (2, .int y10), (3, .int y11)] [] σ12 := by
      intro n18
      induction n18 with
      | zero =>
        intro σ12 y10 y11 h13 h14 h15 h16 h17 h18 h19
        first | exact (q_9f1e7068c9 h19 h18).elim | (exfalso; omega)
      | succ n18 ih18 =>
        intro σ12 y10 y11 h13 h14 h15 h16 h17 h18 h19
        refine En_Ps 2 (pc' := 20) (lv' := [(0, .ref 0), (1, .int a), (2, .int y10), (3, .int y11)]) (st' := [.int ((Int32.ofInt 3)), .int y11]) rfl ?_
        refine En_icGe _ rfl (by decide : (Int32.ofInt 3).toInt = 3) rfl (fun h20 => ?_) (fun h20 => ?_)
        · refine En_Ps 1 (pc' := 65) (lv' := [(0, .ref 0), (1, .int a), (2, .int y10), (3, .int y11)]) (st' := [.int y10]) rfl ?_
          exact En_ret (v := some (Value.int y10)) rfl rfl rfl ⟨h13, h14, y10, rfl, trivial⟩
        · refine En_Ps 2 (pc' := 26) (lv' := [(4, .int ((Int32.ofInt 0))), (0, .ref 0), (1, .int a), (2, .int y10), (3, .int y11)]) (st' := []) rfl ?_
          have key26 : ∀ (n26 : Nat) (σ23 : SG) (y21 : Int32) (y22 : Int32), WT σ23 → Fr [] σ0 σ23 → (σ23 0)[9]? = some (Value.ref p) → (σ23 p)[1]? = some (Value.int sg) → 0 ≤ y22.toInt → y22.toInt ≤ 16 → -y22.toInt + 16 < (n26 : Int) → En 6 138 none mr_164 (P_164 σ0 a p sg) 26 [(0, .ref 0), (1, .int a), (2, .int y21), (3, .int y11), (4, .int y22)] [] σ23 := by
            intro n26
            induction n26 with
            | zero =>
              intro σ23 y21 y22 h24 h25 h26 h27 h28 h29 h30
              first | exact (q_511f6d33ac h30 h29).elim | (exfalso; omega)
            | succ n26 ih26 =>
              intro σ23 y21 y22 h24 h25 h26 h27 h28 h29 h30
              refine En_Ps 2 (pc' := 29) (lv' := [(0, .ref 0), (1, .int a), (2, .int y21), (3, .int y11), (4, .int y22)]) (st' := [.ref 0, .int y22]) rfl ?_
              refine En_getK (j := 9) h26 rfl rfl rfl tgz_0 (by decide +kernel) ?_
              refine En_callV rfl rfl rfl rfl rfl rfl rfl rfl hp (by decide +kernel) rfl (c_51 σ23 h24 p hp sg h27 (by first | exact q_a555021d16 hp0 | omega)) (by decide) (by decide) (fun v32 σ33 h31 => ?_)
              obtain ⟨h34, h35, z37, rfl, h36⟩ := h31
              have h38 := Fr_trans h25 h35 (by decide +kernel)
              refine En_icGe _ rfl rfl rfl (fun h39 => ?_) (fun h39 => ?_)
              · refine En_Ps 1 (pc' := 61) (lv' := [(3, .int ((y11 + Int32.ofInt 1))), (0, .ref 0), (1, .int a), (2, .int y21), (4, .int y22)]) (st' := []) rfl ?_
                refine En_lv1 (addI rfl (by decide : (Int32.ofInt 1).toInt = 1) (by first | exact q_465ab79ac1 h17 | omega) (by first | exact q_6ae830b01d h20 | omega)) (fun z40 h41 => ?_)
                refine En_Ps 1 (pc' := 18) (lv' := [(3, .int z40), (0, .ref 0), (1, .int a), (2, .int y21), (4, .int y22)]) (st' := []) rfl ?_
                refine En_lv (lv := [(0, .ref 0), (1, .int a), (2, .int y21), (3, .int z40)]) ⟨rfl, rfl, rfl, rfl, trivial⟩ ?_
                exact ih18 σ33 y21 z40 h34 h38 ((h35 _ _ (inW tgz_0 (by decide +kernel))).trans h26) ((h35 _ _ (inW hp (by decide +kernel))).trans h27) (by first | exact q_35104ce9d3 h41 h17 | omega) (by first | exact q_84805d5d8e h41 h20 | omega) (by first | exact q_6272716eb4 h41 h19 | omega)
              · refine En_Ps 4 (pc' := 43) (lv' := [(0, .ref 0), (1, .int a), (2, .int y21), (3, .int y11), (4, .int y22)]) (st' := [.int y22, .int y11, .int a, .ref 0]) rfl ?_
                refine En_callV rfl rfl rfl rfl rfl rfl rfl rfl tgz_0 (by decide +kernel) rfl (c_145 σ33 h34 a y11 y22 (geI rfl (by omega)) (leI rfl (by omega)) (geI rfl (by first | exact q_58e6e51dcc h17 | omega)) (leI rfl (by first | exact q_f1519f12c0 h20 | omega)) p hp ((h35 _ _ (inW tgz_0 (by decide +kernel))).trans h26) sg ((h35 _ _ (inW hp (by decide +kernel))).trans h27) (by first | exact q_a555021d16 hp0 | omega)) (by decide) (by decide) (fun v43 σ44 h42 => ?_)
                obtain ⟨h45, h46, z48, rfl, h47⟩ := h42
                have h49 := Fr_trans h38 h46 (by decide +kernel)
                refine En_iEq _ rfl rfl (fun h50 => ?_) (fun h50 => ?_)
                · refine En_Ps 1 (pc' := 55) (lv' := [(4, .int ((y22 + Int32.ofInt 1))), (0, .ref 0), (1, .int a), (2, .int y21), (3, .int y11)]) (st' := []) rfl ?_
                  refine En_lv1 (addI rfl (by decide : (Int32.ofInt 1).toInt = 1) (by first | exact q_465ab79ac1 h28 | omega) (by first | exact q_f3f8e04381 h29 | omega)) (fun z51 h52 => ?_)
                  refine En_Ps 1 (pc' := 26) (lv' := [(4, .int z51), (0, .ref 0), (1, .int a), (2, .int y21), (3, .int y11)]) (st' := []) rfl ?_
                  refine En_lv (lv := [(0, .ref 0), (1, .int a), (2, .int y21), (3, .int y11), (4, .int z51)]) ⟨rfl, rfl, rfl, rfl, rfl, trivial⟩ ?_
                  exact ih26 σ44 y21 z51 h45 h49 ((h46 _ _ (inW tgz_0 (by decide +kernel))).trans ((h35 _ _ (inW tgz_0 (by decide +kernel))).trans h26)) ((h46 _ _ (inW hp (by decide +kernel))).trans ((h35 _ _ (inW hp (by decide +kernel))).trans h27)) (by first | exact q_35104ce9d3 h52 h28 | omega) (by first | exact q_34dc714687 h52 h39 h36.2 | omega) (by first | exact q_c5d740bdff h52 h30 | omega)
                · refine En_Ps 1 (pc' := 52) (lv' := [(2, .int ((y21 + Int32.ofInt 1))), (0, .ref 0), (1, .int a), (3, .int y11), (4, .int y22)]) (st' := []) rfl ?_
                  refine En_lv1h (fun z53 => ?_)
                  refine En_Ps 1 (pc' := 55) (lv' := [(4, .int ((y22 + Int32.ofInt 1))), (2, .int z53), (0, .ref 0), (1, .int a), (3, .int y11)]) (st' := []) rfl ?_
                  refine En_lv1 (addI rfl (by decide : (Int32.ofInt 1).toInt = 1) (by first | exact q_465ab79ac1 h28 | omega) (by first | exact q_f3f8e04381 h29 | omega)) (fun z55 h56 => ?_)
                  refine En_Ps 1 (pc' := 26) (lv' := [(4, .int z55), (2, .int z53), (0, .ref 0), (1, .int a), (3, .int y11)]) (st' := []) rfl ?_
                  refine En_lv (lv := [(0, .ref 0), (1, .int a), (2, .int z53), (3, .int y11), (4, .int z55)]) ⟨rfl, rfl, rfl, rfl, rfl, trivial⟩ ?_
                  exact ih26 σ44 z53 z55 h45 h49 ((h46 _ _ (inW tgz_0 (by decide +kernel))).trans ((h35 _ _ (inW tgz_0 (by decide +kernel))).trans h26)) ((h46 _ _ (inW hp (by decide +kernel))).trans ((h35 _ _ (inW hp (by decide +kernel))).trans h27)) (by first | exact q_35104ce9d3 h56 h28 | omega) (by first | exact q_34dc714687 h56 h39 h36.2 | omega) (by first | exact q_c5d740bdff h56 h30 | omega)
          have := (by decide : (Int32.ofInt 0).toInt = 0)
          refine En_lv (lv := [(0, .ref 0), (1, .int a), (2, .int y10), (3, .int y11), (4, .int ((Int32.ofInt 0)))]) ⟨rfl, rfl, rfl, rfl, rfl, trivial⟩ ?_
          exact key26 (Int.toNat (16) + 1) σ12 y10 ((Int32.ofInt 0)) h13 h14 h15 h16 (by decide) (by decide) (by first | exact toN_lt _ | omega)
    have := (by decide : (Int32.ofInt 0).toInt = 0)
    have := (by decide : (Int32.ofInt 0).toInt = 0)
    refine En_lv (lv := [(0, .ref 0), (1, .int a), (2, .int ((Int32.ofInt 0))), (3, .int ((Int32.ofInt 0)))]) ⟨rfl, rfl, rfl, rfl, trivial⟩ ?_
    exact key18 (Int.toNat (3) + 1) σ3 ((Int32.ofInt 0)) ((Int32.ofInt 0)) h4 h8 ((h5 _ _ (inW tgz_0 (by decide +kernel))).trans h_p) ((h5 _ _ (inW hp (by decide +kernel))).trans h_sg) (by decide) (by decide) (by first | exact toN_lt _ | omega)
  · refine En_Ps 1 (pc' := 13) (lv' := [(0, .ref 0), (1, .int a)]) (st' := [.int (((Int8.ofInt (-2)).toInt32))]) rfl ?_
    refine En_top (by decide : ((Int8.ofInt (-2)).toInt32).toInt = -2) (fun z57 h58 => ?_)
    exact En_ret (v := some (Value.int z57)) rfl rfl rfl ⟨h4, h8, z57, rfl, trivial⟩
/-- DoorSchool.rule(II)I -/
abbrev P_166 (σ0 : SG) (a : Int32) (b : Int32) (p : Nat) (sg : Int32) : PO := fun v σ => WT σ ∧ Fr [] σ0 σ ∧ ∃ ret : Int32, v = some (Value.int ret) ∧ -ret.toInt - 2 ≤ 0 ∧ ret.toInt - 80 ≤ 0
set_option maxRecDepth 10000 in
set_option maxHeartbeats 4000000 in
theorem c_166 (σ0 : SG) (hσ0 : WT σ0) (a : Int32) (b : Int32) (p : Nat) (hp : TG p = 18) (h_p : (σ0 0)[9]? = some (Value.ref p)) (sg : Int32) (h_sg : (σ0 p)[1]? = some (Value.int sg)) (hp0 : -sg.toInt ≤ 0) : En 2 45 none mr_166 (P_166 σ0 a b p sg) 0 [(0, .ref 0), (1, .int a), (2, .int b)] [] σ0 := by
  obtain ⟨hl_sg, hu_sg⟩ := WT_int hσ0 (g := 18) hp (by decide +kernel) (l := (-1)) (u := 4) (by decide +kernel) h_sg
  have hF0 : Fr [] σ0 σ0 := Fr_rfl
  refine En_Ps 1 (pc' := 1) (lv' := [(0, .ref 0), (1, .int a), (2, .int b)]) (st' := [.ref 0]) rfl ?_
  refine En_getK (j := 9) h_p rfl rfl rfl tgz_0 (by decide +kernel) ?_
  refine En_Ps 1 (pc' := 5) (lv' := [(0, .ref 0), (1, .int a), (2, .int b)]) (st' := [.int a, .ref p]) rfl ?_
  refine En_callV rfl rfl rfl rfl rfl rfl rfl rfl hp (by decide +kernel) rfl (c_47 σ0 hσ0 p hp a) (by decide) (by decide) (fun v2 σ3 h1 => ?_)
  obtain ⟨h4, h5, z7, rfl, h6⟩ := h1
  have h8 := Fr_trans hF0 h5 (by decide +kernel)
  refine En_iEq _ rfl rfl (fun h9 => ?_) (fun h9 => ?_)
  · refine En_Ps 1 (pc' := 22) (lv' := [(0, .ref 0), (1, .int a), (2, .int b)]) (st' := [.int (((Int8.ofInt (-2)).toInt32))]) rfl ?_
    refine En_top (by decide : ((Int8.ofInt (-2)).toInt32).toInt = -2) (fun z10 h11 => ?_)
    exact En_ret (v := some (Value.int z10)) rfl rfl rfl ⟨h4, h8, z10, rfl, ⟨by first | exact q_f35c5d346c h11 | omega, by first | exact q_e35b2e457c h11 | omega⟩⟩
  · refine En_Ps 1 (pc' := 12) (lv' := [(0, .ref 0), (1, .int a), (2, .int b)]) (st' := [.int b]) rfl ?_
    refine En_iLt _ rfl rfl (fun h12 => ?_) (fun h12 => ?_)
    · refine En_Ps 1 (pc' := 22) (lv' := [(0, .ref 0), (1, .int a), (2, .int b)]) (st' := [.int (((Int8.ofInt (-2)).toInt32))]) rfl ?_
      refine En_top (by decide : ((Int8.ofInt (-2)).toInt32).toInt = -2) (fun z13 h14 => ?_)
      exact En_ret (v := some (Value.int z13)) rfl rfl rfl ⟨h4, h8, z13, rfl, ⟨by first | exact q_f35c5d346c h14 | omega, by first | exact q_e35b2e457c h14 | omega⟩⟩
    · refine En_Ps 2 (pc' := 17) (lv' := [(0, .ref 0), (1, .int a), (2, .int b)]) (st' := [.int ((Int32.ofInt 2)), .int b]) rfl ?_
      refine En_icLe _ rfl (by decide : (Int32.ofInt 2).toInt = 2) rfl (fun h15 => ?_) (fun h15 => ?_)
      · refine En_Ps 1 (pc' := 24) (lv' := [(0, .ref 0), (1, .int a), (2, .int b)]) (st' := [.ref 0]) rfl ?_
        refine En_getK (j := 9) ((h5 _ _ (inW tgz_0 (by decide +kernel))).trans h_p) rfl rfl rfl tgz_0 (by decide +kernel) ?_
        refine En_getR (j := 4) (g' := 19) (u := 0) rfl rfl rfl hp (by decide +kernel) h4 (by decide +kernel) (fun a17 h16 ha17 => ?_)
        refine En_Ps 1 (pc' := 31) (lv' := [(0, .ref 0), (1, .int a), (2, .int b)]) (st' := [.int a, .ref a17]) rfl ?_
        refine En_aald (g' := 28) (u := 0) rfl rfl ha17 (by decide +kernel) h4 (by omega) (lnI (by decide +kernel : LN _ = 4) (by omega)) (FTsgl (by decide +kernel)) (fun a19 h18 ha19 => ?_)
        refine En_getR (j := 0) (g' := 20) (u := 0) rfl rfl rfl ha19 (by decide +kernel) h4 (by decide +kernel) (fun a21 h20 ha21 => ?_)
        refine En_Ps 2 (pc' := 37) (lv' := [(3, .ref a21), (0, .ref 0), (1, .int a), (2, .int b)]) (st' := [.ref 0]) rfl ?_
        refine En_getU (j := 2) (u := 4) (g' := 4) (q := 0) rfl rfl rfl tgz_0 (by decide +kernel) h4 (by decide +kernel) un_4_4 (fun h22 => ?_)
        refine En_Ps 2 (pc' := 42) (lv' := [(3, .ref a21), (0, .ref 0), (1, .int a), (2, .int b)]) (st' := [.int ((Int32.ofInt 1)), .ref a21, .ref 4]) rfl ?_
        have := (by decide : ((Int32.ofInt 1)).toInt = 1)
        refine En_callV rfl rfl rfl rfl rfl rfl rfl rfl ha21 (by decide +kernel) rfl (c_39 σ3 h4 a21 ha21 ((Int32.ofInt 1))) (by decide) (by decide) (fun v25 σ26 h24 => ?_)
        obtain ⟨h27, h28, z30, rfl, h29⟩ := h24
        have h31 := Fr_trans h8 h28 (by decide +kernel)
        refine En_Ps 2 (pc' := 47) (lv' := [(3, .ref a21), (0, .ref 0), (1, .int a), (2, .int b)]) (st' := [.int ((Int32.ofInt 0)), .ref a21, .int z30, .ref 4]) rfl ?_
        have := (by decide : ((Int32.ofInt 0)).toInt = 0)
        refine En_callV rfl rfl rfl rfl rfl rfl rfl rfl ha21 (by decide +kernel) rfl (c_39 σ26 h27 a21 ha21 ((Int32.ofInt 0))) (by decide) (by decide) (fun v33 σ34 h32 => ?_)
        obtain ⟨h35, h36, z38, rfl, h37⟩ := h32
        have h39 := Fr_trans h31 h36 (by decide +kernel)
        refine En_callV rfl rfl rfl rfl rfl rfl rfl rfl tgz_4 (by decide +kernel) rfl (c_78 σ34 h35 z30 z38) (by decide) (by decide) (fun v41 σ42 h40 => ?_)
        obtain ⟨h43, h44, z46, rfl, h45⟩ := h40
        have h47 := Fr_trans h39 h44 (by decide +kernel)
        refine En_Ps 3 (pc' := 58) (lv' := [(4, .int z46), (3, .ref a21), (0, .ref 0), (1, .int a), (2, .int b)]) (st' := [.int ((Int32.ofInt (-1))), .int z46]) rfl ?_
        refine En_icEq _ rfl (by decide : (Int32.ofInt (-1)).toInt = -1) rfl (fun h48 => ?_) (fun h48 => ?_)
        · refine En_Ps 1 (pc' := 68) (lv' := [(4, .int z46), (3, .ref a21), (0, .ref 0), (1, .int a), (2, .int b)]) (st' := [.int z46]) rfl ?_
          exact En_ret (v := some (Value.int z46)) rfl rfl rfl ⟨h43, h47, z46, rfl, ⟨by first | exact q_108dc72d76 h45.1 | omega, by first | exact q_ed1bd306dd h48 | omega⟩⟩
        · refine En_Ps 2 (pc' := 63) (lv' := [(4, .int z46), (3, .ref a21), (0, .ref 0), (1, .int a), (2, .int b)]) (st' := [.int ((Int32.ofInt 2)), .int b]) rfl ?_
          refine En_icNe _ rfl (by decide : (Int32.ofInt 2).toInt = 2) rfl (fun h49 => ?_) (fun h49 => ?_)
          · refine En_Ps 1 (pc' := 70) (lv' := [(4, .int z46), (3, .ref a21), (0, .ref 0), (1, .int a), (2, .int b)]) (st' := [.int b]) rfl ?_
            refine En_iNe _ rfl rfl (fun h50 => ?_) (fun h50 => ?_)
            · refine En_Ps 1 (pc' := 87) (lv' := [(4, .int z46), (3, .ref a21), (0, .ref 0), (1, .int a), (2, .int b)]) (st' := [.ref 0]) rfl ?_
              refine En_getK (j := 2) ((h44 _ _ (inW tgz_0 (by decide +kernel))).trans ((h36 _ _ (inW tgz_0 (by decide +kernel))).trans ((h28 _ _ (inW tgz_0 (by decide +kernel))).trans h22))) rfl rfl rfl tgz_0 (by decide +kernel) ?_
              refine En_getU (j := 3) (u := 6) (g' := 6) (q := 0) rfl rfl rfl tgz_4 (by decide +kernel) h43 (by decide +kernel) un_6_6 (fun h51 => ?_)
              refine En_Ps 1 (pc' := 95) (lv' := [(4, .int z46), (3, .ref a21), (0, .ref 0), (1, .int a), (2, .int b)]) (st' := [.int z46, .ref 6]) rfl ?_
              refine En_iald (l := 0) (u := 15) rfl rfl tgz_6 (by decide +kernel) h43 (by first | exact q_b1cade0df5 h48 h45.1 | omega) (lnI (by decide +kernel : LN _ = 81) (by first | exact q_3ac9ed8367 h45.2 | omega)) (FTsgl (by decide +kernel)) (fun z54 h53 h55 h56 => ?_)
              exact En_ret (v := some (Value.int z54)) rfl rfl rfl ⟨h43, h47, z54, rfl, ⟨by first | exact q_ea7f0ffdb1 h55 | omega, by first | exact q_8ed889c819 h56 | omega⟩⟩
            · refine En_Ps 1 (pc' := 74) (lv' := [(4, .int z46), (3, .ref a21), (0, .ref 0), (1, .int a), (2, .int b)]) (st' := [.ref 0]) rfl ?_
              refine En_getK (j := 2) ((h44 _ _ (inW tgz_0 (by decide +kernel))).trans ((h36 _ _ (inW tgz_0 (by decide +kernel))).trans ((h28 _ _ (inW tgz_0 (by decide +kernel))).trans h22))) rfl rfl rfl tgz_0 (by decide +kernel) ?_
              refine En_getU (j := 2) (u := 5) (g' := 5) (q := 0) rfl rfl rfl tgz_4 (by decide +kernel) h43 (by decide +kernel) un_5_5 (fun h57 => ?_)
              refine En_Ps 1 (pc' := 82) (lv' := [(4, .int z46), (3, .ref a21), (0, .ref 0), (1, .int a), (2, .int b)]) (st' := [.int z46, .ref 5]) rfl ?_
              refine En_iald (l := 0) (u := 15) rfl rfl tgz_5 (by decide +kernel) h43 (by first | exact q_b1cade0df5 h48 h45.1 | omega) (lnI (by decide +kernel : LN _ = 81) (by first | exact q_3ac9ed8367 h45.2 | omega)) (FTsgl (by decide +kernel)) (fun z60 h59 h61 h62 => ?_)
              refine En_Ps 1 (pc' := 96) (lv' := [(4, .int z46), (3, .ref a21), (0, .ref 0), (1, .int a), (2, .int b)]) (st' := [.int z60]) rfl ?_
              exact En_ret (v := some (Value.int z60)) rfl rfl rfl ⟨h43, h47, z60, rfl, ⟨by first | exact q_ea7f0ffdb1 h61 | omega, by first | exact q_8ed889c819 h62 | omega⟩⟩
          · refine En_Ps 1 (pc' := 68) (lv' := [(4, .int z46), (3, .ref a21), (0, .ref 0), (1, .int a), (2, .int b)]) (st' := [.int z46]) rfl ?_
            exact En_ret (v := some (Value.int z46)) rfl rfl rfl ⟨h43, h47, z46, rfl, ⟨by first | exact q_3d8d12402f h48 h45.1 | omega, by first | exact q_370493a97e h45.2 | omega⟩⟩
      · refine En_Ps 1 (pc' := 22) (lv' := [(0, .ref 0), (1, .int a), (2, .int b)]) (st' := [.int (((Int8.ofInt (-2)).toInt32))]) rfl ?_
        refine En_top (by decide : ((Int8.ofInt (-2)).toInt32).toInt = -2) (fun z63 h64 => ?_)
        exact En_ret (v := some (Value.int z63)) rfl rfl rfl ⟨h4, h8, z63, rfl, ⟨by first | exact q_f35c5d346c h64 | omega, by first | exact q_e35b2e457c h64 | omega⟩⟩
/-- DoorSchool.rules(I)I -/
abbrev P_167 (σ0 : SG) (a : Int32) (p : Nat) (sg : Int32) : PO := fun v σ => WT σ ∧ Fr [] σ0 σ ∧ ∃ ret : Int32, v = some (Value.int ret) ∧ -ret.toInt - 2 ≤ 0 ∧ ret.toInt - 81 ≤ 0
set_option maxRecDepth 10000 in
set_option maxHeartbeats 4000000 in
theorem c_167 (σ0 : SG) (hσ0 : WT σ0) (a : Int32) (p : Nat) (hp : TG p = 18) (h_p : (σ0 0)[9]? = some (Value.ref p)) (sg : Int32) (h_sg : (σ0 p)[1]? = some (Value.int sg)) (hp0 : -sg.toInt ≤ 0) : En 2 46 none mr_167 (P_167 σ0 a p sg) 0 [(0, .ref 0), (1, .int a)] [] σ0 := by
  obtain ⟨hl_sg, hu_sg⟩ := WT_int hσ0 (g := 18) hp (by decide +kernel) (l := (-1)) (u := 4) (by decide +kernel) h_sg
  have hF0 : Fr [] σ0 σ0 := Fr_rfl
  refine En_Ps 1 (pc' := 1) (lv' := [(0, .ref 0), (1, .int a)]) (st' := [.ref 0]) rfl ?_
  refine En_getK (j := 9) h_p rfl rfl rfl tgz_0 (by decide +kernel) ?_
  refine En_Ps 1 (pc' := 5) (lv' := [(0, .ref 0), (1, .int a)]) (st' := [.int a, .ref p]) rfl ?_
  refine En_callV rfl rfl rfl rfl rfl rfl rfl rfl hp (by decide +kernel) rfl (c_47 σ0 hσ0 p hp a) (by decide) (by decide) (fun v2 σ3 h1 => ?_)
  obtain ⟨h4, h5, z7, rfl, h6⟩ := h1
  have h8 := Fr_trans hF0 h5 (by decide +kernel)
  refine En_iNe _ rfl rfl (fun h9 => ?_) (fun h9 => ?_)
  · refine En_Ps 1 (pc' := 15) (lv' := [(0, .ref 0), (1, .int a)]) (st' := [.ref 0]) rfl ?_
    refine En_getK (j := 9) ((h5 _ _ (inW tgz_0 (by decide +kernel))).trans h_p) rfl rfl rfl tgz_0 (by decide +kernel) ?_
    refine En_getR (j := 4) (g' := 19) (u := 0) rfl rfl rfl hp (by decide +kernel) h4 (by decide +kernel) (fun a11 h10 ha11 => ?_)
    refine En_Ps 1 (pc' := 22) (lv' := [(0, .ref 0), (1, .int a)]) (st' := [.int a, .ref a11]) rfl ?_
    refine En_aald (g' := 28) (u := 0) rfl rfl ha11 (by decide +kernel) h4 (by omega) (lnI (by decide +kernel : LN _ = 4) (by omega)) (FTsgl (by decide +kernel)) (fun a13 h12 ha13 => ?_)
    refine En_getR (j := 0) (g' := 20) (u := 0) rfl rfl rfl ha13 (by decide +kernel) h4 (by decide +kernel) (fun a15 h14 ha15 => ?_)
    refine En_Ps 2 (pc' := 28) (lv' := [(2, .ref a15), (0, .ref 0), (1, .int a)]) (st' := [.ref 0]) rfl ?_
    refine En_getU (j := 2) (u := 4) (g' := 4) (q := 0) rfl rfl rfl tgz_0 (by decide +kernel) h4 (by decide +kernel) un_4_4 (fun h16 => ?_)
    refine En_Ps 2 (pc' := 33) (lv' := [(2, .ref a15), (0, .ref 0), (1, .int a)]) (st' := [.int ((Int32.ofInt 1)), .ref a15, .ref 4]) rfl ?_
    have := (by decide : ((Int32.ofInt 1)).toInt = 1)
    refine En_callV rfl rfl rfl rfl rfl rfl rfl rfl ha15 (by decide +kernel) rfl (c_39 σ3 h4 a15 ha15 ((Int32.ofInt 1))) (by decide) (by decide) (fun v19 σ20 h18 => ?_)
    obtain ⟨h21, h22, z24, rfl, h23⟩ := h18
    have h25 := Fr_trans h8 h22 (by decide +kernel)
    refine En_Ps 2 (pc' := 38) (lv' := [(2, .ref a15), (0, .ref 0), (1, .int a)]) (st' := [.int ((Int32.ofInt 0)), .ref a15, .int z24, .ref 4]) rfl ?_
    have := (by decide : ((Int32.ofInt 0)).toInt = 0)
    refine En_callV rfl rfl rfl rfl rfl rfl rfl rfl ha15 (by decide +kernel) rfl (c_39 σ20 h21 a15 ha15 ((Int32.ofInt 0))) (by decide) (by decide) (fun v27 σ28 h26 => ?_)
    obtain ⟨h29, h30, z32, rfl, h31⟩ := h26
    have h33 := Fr_trans h25 h30 (by decide +kernel)
    refine En_callV rfl rfl rfl rfl rfl rfl rfl rfl tgz_4 (by decide +kernel) rfl (c_79 σ28 h29 z24 z32) (by decide) (by decide) (fun v35 σ36 h34 => ?_)
    obtain ⟨h37, h38, z40, rfl, h39⟩ := h34
    have h41 := Fr_trans h33 h38 (by decide +kernel)
    exact En_ret (v := some (Value.int z40)) rfl rfl rfl ⟨h37, h41, z40, rfl, ⟨by first | exact q_70a249c7f8 h39.1 | omega, by first | exact q_62172f5eca h39.2 | omega⟩⟩
  · refine En_Ps 1 (pc' := 13) (lv' := [(0, .ref 0), (1, .int a)]) (st' := [.int (((Int8.ofInt (-2)).toInt32))]) rfl ?_
    refine En_top (by decide : ((Int8.ofInt (-2)).toInt32).toInt = -2) (fun z42 h43 => ?_)
    exact En_ret (v := some (Value.int z42)) rfl rfl rfl ⟨h4, h8, z42, rfl, ⟨by first | exact q_f35c5d346c h43 | omega, by first | exact q_a224a6b9a0 h43 | omega⟩⟩
end
/-! 32.lx.c13 -/
section
/-- DoorSchool.same(I)I -/
abbrev P_168 (σ0 : SG) (a : Int32) (p : Nat) (sg : Int32) : PO := fun v σ => WT σ ∧ Fr [] σ0 σ ∧ ∃ ret : Int32, v = some (Value.int ret) ∧ -ret.toInt - 6 ≤ 0 ∧ ret.toInt - 15 ≤ 0
set_option maxRecDepth 10000 in
set_option maxHeartbeats 4000000 in
theorem c_168 (σ0 : SG) (hσ0 : WT σ0) (a : Int32) (p : Nat) (hp : TG p = 18) (h_p : (σ0 0)[9]? = some (Value.ref p)) (sg : Int32) (h_sg : (σ0 p)[1]? = some (Value.int sg)) (hp0 : -sg.toInt ≤ 0) : En 4 92 none mr_168 (P_168 σ0 a p sg) 0 [(0, .ref 0), (1, .int a)] [] σ0 := by
  obtain ⟨hl_sg, hu_sg⟩ := WT_int hσ0 (g := 18) hp (by decide +kernel) (l := (-1)) (u := 4) (by decide +kernel) h_sg
  have hF0 : Fr [] σ0 σ0 := Fr_rfl
  refine En_Ps 2 (pc' := 2) (lv' := [(0, .ref 0), (1, .int a)]) (st' := [.int a, .ref 0]) rfl ?_
  refine En_callV rfl rfl rfl rfl rfl rfl rfl rfl tgz_0 (by decide +kernel) rfl (c_180 σ0 hσ0 a p hp h_p sg h_sg (by first | exact q_a555021d16 hp0 | omega)) (by decide) (by decide) (fun v2 σ3 h1 => ?_)
  obtain ⟨h4, h5, z7, rfl, h6⟩ := h1
  have h8 := Fr_trans hF0 h5 (by decide +kernel)
  refine En_Ps 2 (pc' := 7) (lv' := [(2, .int z7), (0, .ref 0), (1, .int a)]) (st' := [.int z7]) rfl ?_
  refine En_iEq _ rfl rfl (fun h9 => ?_) (fun h9 => ?_)
  · refine En_Ps 1 (pc' := 13) (lv' := [(2, .int z7), (0, .ref 0), (1, .int a)]) (st' := [.ref 0]) rfl ?_
    refine En_getU (j := 6) (u := 150) (g' := 32) (q := 0) rfl rfl rfl tgz_0 (by decide +kernel) h4 (by decide +kernel) un_32_150 (fun h10 => ?_)
    refine En_Ps 1 (pc' := 17) (lv' := [(2, .int z7), (0, .ref 0), (1, .int a)]) (st' := [.int a, .ref 150]) rfl ?_
    refine En_aald (g' := 33) (u := 0) rfl rfl tgz_150 (by decide +kernel) h4 (by omega) (lnI (by decide +kernel : LN _ = 4) (by omega)) (FTsgl (by decide +kernel)) (fun a13 h12 ha13 => ?_)
    refine En_Ps 1 (pc' := 19) (lv' := [(2, .int z7), (0, .ref 0), (1, .int a)]) (st' := [.int ((Int32.ofInt 1)), .ref a13]) rfl ?_
    have := (by decide : ((Int32.ofInt 1)).toInt = 1)
    refine En_callV rfl rfl rfl rfl rfl rfl rfl rfl ha13 (by decide +kernel) rfl (c_89 σ3 h4 a13 ha13 ((Int32.ofInt 1))) (by decide) (by decide) (fun v15 σ16 h14 => ?_)
    obtain ⟨h17, h18, z20, rfl, h19⟩ := h14
    have h21 := Fr_trans h8 h18 (by decide +kernel)
    refine En_Ps 2 (pc' := 24) (lv' := [(3, .int z20), (2, .int z7), (0, .ref 0), (1, .int a)]) (st' := [.ref 0]) rfl ?_
    refine En_getK (j := 6) ((h18 _ _ (inW tgz_0 (by decide +kernel))).trans h10) rfl rfl rfl tgz_0 (by decide +kernel) ?_
    refine En_Ps 1 (pc' := 28) (lv' := [(3, .int z20), (2, .int z7), (0, .ref 0), (1, .int a)]) (st' := [.int a, .ref 150]) rfl ?_
    refine En_aald (g' := 33) (u := 0) rfl rfl tgz_150 (by decide +kernel) h17 (by omega) (lnI (by decide +kernel : LN _ = 4) (by omega)) (FTsgl (by decide +kernel)) (fun a23 h22 ha23 => ?_)
    refine En_Ps 1 (pc' := 30) (lv' := [(3, .int z20), (2, .int z7), (0, .ref 0), (1, .int a)]) (st' := [.int ((Int32.ofInt 0)), .ref a23]) rfl ?_
    have := (by decide : ((Int32.ofInt 0)).toInt = 0)
    refine En_callV rfl rfl rfl rfl rfl rfl rfl rfl ha23 (by decide +kernel) rfl (c_89 σ16 h17 a23 ha23 ((Int32.ofInt 0))) (by decide) (by decide) (fun v25 σ26 h24 => ?_)
    obtain ⟨h27, h28, z30, rfl, h29⟩ := h24
    have h31 := Fr_trans h21 h28 (by decide +kernel)
    refine En_Ps 5 (pc' := 41) (lv' := [(6, .int ((Int32.ofInt 0))), (5, .int ((Int32.ofInt 0))), (4, .int z30), (3, .int z20), (2, .int z7), (0, .ref 0), (1, .int a)]) (st' := []) rfl ?_
    have key41 : ∀ (n41 : Nat) (σ34 : SG) (y32 : Int32) (y33 : Int32), WT σ34 → Fr [] σ0 σ34 → (σ34 0)[9]? = some (Value.ref p) → (σ34 p)[1]? = some (Value.int sg) → (σ34 0)[6]? = some (Value.ref 150) → (σ34 150)[(a.toInt).toNat]? = some (Value.ref a23) → 0 ≤ y32.toInt → y32.toInt ≤ 15 → 0 ≤ y33.toInt → y33.toInt ≤ 4 → -y33.toInt + 4 < (n41 : Int) → En 4 92 none mr_168 (P_168 σ0 a p sg) 41 [(0, .ref 0), (1, .int a), (2, .int z7), (3, .int z20), (4, .int z30), (5, .int y32), (6, .int y33)] [] σ34 := by
      intro n41
      induction n41 with
      | zero =>
        intro σ34 y32 y33 h35 h36 h37 h38 h39 h40 h41 h42 h43 h44 h45
        first | exact (q_20d6385c6f h45 h44).elim | (exfalso; omega)
      | succ n41 ih41 =>
        intro σ34 y32 y33 h35 h36 h37 h38 h39 h40 h41 h42 h43 h44 h45
        refine En_Ps 2 (pc' := 44) (lv' := [(0, .ref 0), (1, .int a), (2, .int z7), (3, .int z20), (4, .int z30), (5, .int y32), (6, .int y33)]) (st' := [.ref 0, .int y33]) rfl ?_
        refine En_getK (j := 9) h37 rfl rfl rfl tgz_0 (by decide +kernel) ?_
        refine En_getI (j := 3) (l := 0) (u := 4) rfl rfl rfl hp (by decide +kernel) h35 (by decide +kernel) (fun z47 h46 h48 h49 => ?_)
        refine En_icGe _ rfl rfl rfl (fun h50 => ?_) (fun h50 => ?_)
        · refine En_Ps 1 (pc' := 85) (lv' := [(0, .ref 0), (1, .int a), (2, .int z7), (3, .int z20), (4, .int z30), (5, .int y32), (6, .int y33)]) (st' := [.int y32]) rfl ?_
          exact En_ret (v := some (Value.int y32)) rfl rfl rfl ⟨h35, h36, y32, rfl, ⟨by first | exact q_7430e21245 h41 | omega, by first | exact q_867a9ac627 h42 | omega⟩⟩
        · refine En_Ps 2 (pc' := 56) (lv' := [(0, .ref 0), (1, .int a), (2, .int z7), (3, .int z20), (4, .int z30), (5, .int y32), (6, .int y33)]) (st' := [.int y33, .ref 0]) rfl ?_
          refine En_callV rfl rfl rfl rfl rfl rfl rfl rfl tgz_0 (by decide +kernel) rfl (c_114 σ34 h35 y33 (geI rfl (by first | exact q_58e6e51dcc h43 | omega)) (leI rfl (by first | exact q_5ab2e90ecc h50 h49 | omega)) p hp h37 sg h38 (by first | exact q_a555021d16 hp0 | omega)) (by decide) (by decide) (fun v52 σ53 h51 => ?_)
          obtain ⟨h54, h55, z57, rfl, h56⟩ := h51
          have h58 := Fr_trans h36 h55 (by decide +kernel)
          refine En_Ps 2 (pc' := 62) (lv' := [(0, .ref 0), (1, .int a), (2, .int z7), (3, .int z20), (4, .int z30), (5, .int y32), (6, .int y33)]) (st' := [.int z30, .int z20, .int z57]) rfl ?_
          refine En_callS rfl rfl rfl rfl rfl rfl rfl rfl rfl (c_100 σ53 h54 z57 z20 z30) (by decide) (by decide) (fun v60 σ61 h59 => ?_)
          obtain ⟨h62, h63, z65, rfl, h64⟩ := h59
          have h66 := Fr_trans h58 h63 (by decide +kernel)
          refine En_iEq _ rfl rfl (fun h67 => ?_) (fun h67 => ?_)
          · refine En_Ps 1 (pc' := 80) (lv' := [(6, .int ((y33 + Int32.ofInt 1))), (0, .ref 0), (1, .int a), (2, .int z7), (3, .int z20), (4, .int z30), (5, .int y32)]) (st' := []) rfl ?_
            refine En_lv1 (addI rfl (by decide : (Int32.ofInt 1).toInt = 1) (by first | exact q_465ab79ac1 h43 | omega) (by first | exact q_f7282962fd h44 | omega)) (fun z68 h69 => ?_)
            refine En_Ps 1 (pc' := 41) (lv' := [(6, .int z68), (0, .ref 0), (1, .int a), (2, .int z7), (3, .int z20), (4, .int z30), (5, .int y32)]) (st' := []) rfl ?_
            refine En_lv (lv := [(0, .ref 0), (1, .int a), (2, .int z7), (3, .int z20), (4, .int z30), (5, .int y32), (6, .int z68)]) ⟨rfl, rfl, rfl, rfl, rfl, rfl, rfl, trivial⟩ ?_
            exact ih41 σ61 y32 z68 h62 h66 ((h63 _ _ (inW tgz_0 (by decide +kernel))).trans ((h55 _ _ (inW tgz_0 (by decide +kernel))).trans h37)) ((h63 _ _ (inW hp (by decide +kernel))).trans ((h55 _ _ (inW hp (by decide +kernel))).trans h38)) ((h63 _ _ (inW tgz_0 (by decide +kernel))).trans ((h55 _ _ (inW tgz_0 (by decide +kernel))).trans h39)) ((h63 _ _ (inWa tgz_150 (by decide +kernel))).trans ((h55 _ _ (inWa tgz_150 (by decide +kernel))).trans h40)) (by first | exact q_58e6e51dcc h41 | omega) (by first | exact q_5a4d8a7e08 h42 | omega) (by first | exact q_35104ce9d3 h69 h43 | omega) (by first | exact q_de42116b63 h69 h50 h49 | omega) (by first | exact q_3d8d70ace2 h69 h45 | omega)
          · refine En_Ps 4 (pc' := 74) (lv' := [(0, .ref 0), (1, .int a), (2, .int z7), (3, .int z20), (4, .int z30), (5, .int y32), (6, .int y33)]) (st' := [.int ((((Int32.ofInt 1)) <<< (y33 &&& 31))), .int y32]) rfl ?_
            refine En_rng (shl1_p 3 rfl (by omega) (by omega) (by decide)) (fun z70 h71 h72 => ?_)
            refine En_Ps 1 (pc' := 75) (lv' := [(0, .ref 0), (1, .int a), (2, .int z7), (3, .int z20), (4, .int z30), (5, .int y32), (6, .int y33)]) (st' := [.int ((y32 ||| z70))]) rfl ?_
            refine En_rng (l := 0) (u := 15) (or_rng 4 rfl rfl (by omega) (by omega) (by omega) (by omega) (by decide)) (fun z73 h74 h75 => ?_)
            refine En_Ps 2 (pc' := 80) (lv' := [(6, .int ((y33 + Int32.ofInt 1))), (5, .int z73), (0, .ref 0), (1, .int a), (2, .int z7), (3, .int z20), (4, .int z30)]) (st' := []) rfl ?_
            refine En_lv1 (addI rfl (by decide : (Int32.ofInt 1).toInt = 1) (by first | exact q_465ab79ac1 h43 | omega) (by first | exact q_f7282962fd h44 | omega)) (fun z76 h77 => ?_)
            refine En_Ps 1 (pc' := 41) (lv' := [(6, .int z76), (5, .int z73), (0, .ref 0), (1, .int a), (2, .int z7), (3, .int z20), (4, .int z30)]) (st' := []) rfl ?_
            refine En_lv (lv := [(0, .ref 0), (1, .int a), (2, .int z7), (3, .int z20), (4, .int z30), (5, .int z73), (6, .int z76)]) ⟨rfl, rfl, rfl, rfl, rfl, rfl, rfl, trivial⟩ ?_
            exact ih41 σ61 z73 z76 h62 h66 ((h63 _ _ (inW tgz_0 (by decide +kernel))).trans ((h55 _ _ (inW tgz_0 (by decide +kernel))).trans h37)) ((h63 _ _ (inW hp (by decide +kernel))).trans ((h55 _ _ (inW hp (by decide +kernel))).trans h38)) ((h63 _ _ (inW tgz_0 (by decide +kernel))).trans ((h55 _ _ (inW tgz_0 (by decide +kernel))).trans h39)) ((h63 _ _ (inWa tgz_150 (by decide +kernel))).trans ((h55 _ _ (inWa tgz_150 (by decide +kernel))).trans h40)) (by first | exact q_58e6e51dcc h74 | omega) (by first | exact q_5a4d8a7e08 h75 | omega) (by first | exact q_35104ce9d3 h77 h43 | omega) (by first | exact q_de42116b63 h77 h50 h49 | omega) (by first | exact q_3d8d70ace2 h77 h45 | omega)
    have := (by decide : (Int32.ofInt 0).toInt = 0)
    have := (by decide : (Int32.ofInt 0).toInt = 0)
    refine En_lv (lv := [(0, .ref 0), (1, .int a), (2, .int z7), (3, .int z20), (4, .int z30), (5, .int ((Int32.ofInt 0))), (6, .int ((Int32.ofInt 0)))]) ⟨rfl, rfl, rfl, rfl, rfl, rfl, rfl, trivial⟩ ?_
    exact key41 (Int.toNat (4) + 1) σ26 ((Int32.ofInt 0)) ((Int32.ofInt 0)) h27 h31 ((h28 _ _ (inW tgz_0 (by decide +kernel))).trans ((h18 _ _ (inW tgz_0 (by decide +kernel))).trans ((h5 _ _ (inW tgz_0 (by decide +kernel))).trans h_p))) ((h28 _ _ (inW hp (by decide +kernel))).trans ((h18 _ _ (inW hp (by decide +kernel))).trans ((h5 _ _ (inW hp (by decide +kernel))).trans h_sg))) ((h28 _ _ (inW tgz_0 (by decide +kernel))).trans ((h18 _ _ (inW tgz_0 (by decide +kernel))).trans h10)) ((h28 _ _ (inWa tgz_150 (by decide +kernel))).trans h22) (by decide) (by decide) (by decide) (by decide) (by first | exact toN_lt _ | omega)
  · refine En_Ps 1 (pc' := 11) (lv' := [(2, .int z7), (0, .ref 0), (1, .int a)]) (st' := [.int z7]) rfl ?_
    exact En_ret (v := some (Value.int z7)) rfl rfl rfl ⟨h4, h8, z7, rfl, ⟨by first | exact q_629d629181 h6.1 | omega, by first | exact q_c633bca181 h9 h6.2.1 | omega⟩⟩
/-- DoorSchool.sets(III)I -/
abbrev P_170 (σ0 : SG) (a : Int32) (b : Int32) (c : Int32) (p : Nat) (sg : Int32) : PO := fun v σ => WT σ ∧ Fr [] σ0 σ ∧ ∃ ret : Int32, v = some (Value.int ret) ∧ -ret.toInt - 2 ≤ 0 ∧ ret.toInt - 65536 ≤ 0
set_option maxRecDepth 10000 in
set_option maxHeartbeats 4000000 in
theorem c_170 (σ0 : SG) (hσ0 : WT σ0) (a : Int32) (b : Int32) (c : Int32) (p : Nat) (hp : TG p = 18) (h_p : (σ0 0)[9]? = some (Value.ref p)) (sg : Int32) (h_sg : (σ0 p)[1]? = some (Value.int sg)) (hp0 : -sg.toInt ≤ 0) : En 6 145 none mr_170 (P_170 σ0 a b c p sg) 0 [(0, .ref 0), (1, .int a), (2, .int b), (3, .int c)] [] σ0 := by
  obtain ⟨hl_sg, hu_sg⟩ := WT_int hσ0 (g := 18) hp (by decide +kernel) (l := (-1)) (u := 4) (by decide +kernel) h_sg
  have hF0 : Fr [] σ0 σ0 := Fr_rfl
  refine En_Ps 1 (pc' := 1) (lv' := [(0, .ref 0), (1, .int a), (2, .int b), (3, .int c)]) (st' := [.int a]) rfl ?_
  refine En_callS rfl rfl rfl rfl rfl rfl rfl rfl rfl (c_148 σ0 hσ0 a) (by decide) (by decide) (fun v2 σ3 h1 => ?_)
  obtain ⟨h4, h5, z7, rfl, h6⟩ := h1
  have h8 := Fr_trans hF0 h5 (by decide +kernel)
  refine En_iEq _ rfl rfl (fun h9 => ?_) (fun h9 => ?_)
  · refine En_Ps 1 (pc' := 30) (lv' := [(0, .ref 0), (1, .int a), (2, .int b), (3, .int c)]) (st' := [.int (((Int8.ofInt (-2)).toInt32))]) rfl ?_
    refine En_top (by decide : ((Int8.ofInt (-2)).toInt32).toInt = -2) (fun z10 h11 => ?_)
    exact En_ret (v := some (Value.int z10)) rfl rfl rfl ⟨h4, h8, z10, rfl, ⟨by first | exact q_f35c5d346c h11 | omega, by first | exact q_2eeef1728f h11 | omega⟩⟩
  · refine En_Ps 1 (pc' := 8) (lv' := [(0, .ref 0), (1, .int a), (2, .int b), (3, .int c)]) (st' := [.ref 0]) rfl ?_
    refine En_getK (j := 9) ((h5 _ _ (inW tgz_0 (by decide +kernel))).trans h_p) rfl rfl rfl tgz_0 (by decide +kernel) ?_
    refine En_Ps 1 (pc' := 12) (lv' := [(0, .ref 0), (1, .int a), (2, .int b), (3, .int c)]) (st' := [.int b, .ref p]) rfl ?_
    refine En_callV rfl rfl rfl rfl rfl rfl rfl rfl hp (by decide +kernel) rfl (c_46 σ3 h4 p hp b sg ((h5 _ _ (inW hp (by decide +kernel))).trans h_sg) (by first | exact q_a555021d16 hp0 | omega)) (by decide) (by decide) (fun v13 σ14 h12 => ?_)
    obtain ⟨h15, h16, z18, rfl, h17⟩ := h12
    have h19 := Fr_trans h8 h16 (by decide +kernel)
    refine En_iEq _ rfl rfl (fun h20 => ?_) (fun h20 => ?_)
    · refine En_Ps 1 (pc' := 30) (lv' := [(0, .ref 0), (1, .int a), (2, .int b), (3, .int c)]) (st' := [.int (((Int8.ofInt (-2)).toInt32))]) rfl ?_
      refine En_top (by decide : ((Int8.ofInt (-2)).toInt32).toInt = -2) (fun z21 h22 => ?_)
      exact En_ret (v := some (Value.int z21)) rfl rfl rfl ⟨h15, h19, z21, rfl, ⟨by first | exact q_f35c5d346c h22 | omega, by first | exact q_2eeef1728f h22 | omega⟩⟩
    · refine En_Ps 1 (pc' := 19) (lv' := [(0, .ref 0), (1, .int a), (2, .int b), (3, .int c)]) (st' := [.int c]) rfl ?_
      refine En_iLt _ rfl rfl (fun h23 => ?_) (fun h23 => ?_)
      · refine En_Ps 1 (pc' := 30) (lv' := [(0, .ref 0), (1, .int a), (2, .int b), (3, .int c)]) (st' := [.int (((Int8.ofInt (-2)).toInt32))]) rfl ?_
        refine En_top (by decide : ((Int8.ofInt (-2)).toInt32).toInt = -2) (fun z24 h25 => ?_)
        exact En_ret (v := some (Value.int z24)) rfl rfl rfl ⟨h15, h19, z24, rfl, ⟨by first | exact q_f35c5d346c h25 | omega, by first | exact q_2eeef1728f h25 | omega⟩⟩
      · refine En_Ps 2 (pc' := 25) (lv' := [(0, .ref 0), (1, .int a), (2, .int b), (3, .int c)]) (st' := [.int (((Int8.ofInt 16).toInt32)), .int c]) rfl ?_
        refine En_icLe _ rfl (by decide : ((Int8.ofInt 16).toInt32).toInt = 16) rfl (fun h26 => ?_) (fun h26 => ?_)
        · refine En_Ps 1 (pc' := 32) (lv' := [(0, .ref 0), (1, .int a), (2, .int b), (3, .int c)]) (st' := [.ref 0]) rfl ?_
          refine En_getU (j := 3) (u := 8) (g' := 8) (q := 0) rfl rfl rfl tgz_0 (by decide +kernel) h15 (by decide +kernel) un_8_8 (fun h27 => ?_)
          refine En_Ps 3 (pc' := 38) (lv' := [(0, .ref 0), (1, .int a), (2, .int b), (3, .int c)]) (st' := [.int c, .int b, .int a, .ref 8]) rfl ?_
          refine En_callV rfl rfl rfl rfl rfl rfl rfl rfl tgz_8 (by decide +kernel) rfl (c_29 σ14 h15 a b c) (by decide) (by decide) (fun v30 σ31 h29 => ?_)
          obtain ⟨h32, h33, z35, rfl, h34⟩ := h29
          have h36 := Fr_trans h19 h33 (by decide +kernel)
          exact En_ret (v := some (Value.int z35)) rfl rfl rfl ⟨h32, h36, z35, rfl, ⟨by first | exact q_70a249c7f8 h34.1 | omega, by first | exact q_c5fc87f58a h34.2 | omega⟩⟩
        · refine En_Ps 1 (pc' := 30) (lv' := [(0, .ref 0), (1, .int a), (2, .int b), (3, .int c)]) (st' := [.int (((Int8.ofInt (-2)).toInt32))]) rfl ?_
          refine En_top (by decide : ((Int8.ofInt (-2)).toInt32).toInt = -2) (fun z37 h38 => ?_)
          exact En_ret (v := some (Value.int z37)) rfl rfl rfl ⟨h15, h19, z37, rfl, ⟨by first | exact q_f35c5d346c h38 | omega, by first | exact q_2eeef1728f h38 | omega⟩⟩
/-- DoorSchool.storm(III)I -/
abbrev P_172 (σ0 : SG) (a : Int32) (b : Int32) (c : Int32) (p : Nat) (sg : Int32) : PO := fun v σ => WT σ ∧ Fr [] σ0 σ ∧ ∃ ret : Int32, v = some (Value.int ret) ∧ True
set_option maxRecDepth 10000 in
set_option maxHeartbeats 4000000 in
theorem c_172 (σ0 : SG) (hσ0 : WT σ0) (a : Int32) (b : Int32) (c : Int32) (p : Nat) (hp : TG p = 18) (h_p : (σ0 0)[9]? = some (Value.ref p)) (sg : Int32) (h_sg : (σ0 p)[1]? = some (Value.int sg)) (hp0 : -sg.toInt ≤ 0) : En 5 118 none mr_172 (P_172 σ0 a b c p sg) 0 [(0, .ref 0), (1, .int a), (2, .int b), (3, .int c)] [] σ0 := by
  obtain ⟨hl_sg, hu_sg⟩ := WT_int hσ0 (g := 18) hp (by decide +kernel) (l := (-1)) (u := 4) (by decide +kernel) h_sg
  have hF0 : Fr [] σ0 σ0 := Fr_rfl
  refine En_Ps 1 (pc' := 1) (lv' := [(0, .ref 0), (1, .int a), (2, .int b), (3, .int c)]) (st' := [.int a]) rfl ?_
  refine En_callS rfl rfl rfl rfl rfl rfl rfl rfl rfl (c_146 σ0 hσ0 a) (by decide) (by decide) (fun v2 σ3 h1 => ?_)
  obtain ⟨h4, h5, z7, rfl, h6⟩ := h1
  have h8 := Fr_trans hF0 h5 (by decide +kernel)
  refine En_iEq _ rfl rfl (fun h9 => ?_) (fun h9 => ?_)
  · refine En_Ps 1 (pc' := 20) (lv' := [(0, .ref 0), (1, .int a), (2, .int b), (3, .int c)]) (st' := [.int (((Int8.ofInt (-2)).toInt32))]) rfl ?_
    refine En_top (by decide : ((Int8.ofInt (-2)).toInt32).toInt = -2) (fun z10 h11 => ?_)
    exact En_ret (v := some (Value.int z10)) rfl rfl rfl ⟨h4, h8, z10, rfl, trivial⟩
  · refine En_Ps 1 (pc' := 8) (lv' := [(0, .ref 0), (1, .int a), (2, .int b), (3, .int c)]) (st' := [.ref 0]) rfl ?_
    refine En_getK (j := 9) ((h5 _ _ (inW tgz_0 (by decide +kernel))).trans h_p) rfl rfl rfl tgz_0 (by decide +kernel) ?_
    refine En_Ps 1 (pc' := 12) (lv' := [(0, .ref 0), (1, .int a), (2, .int b), (3, .int c)]) (st' := [.int b, .ref p]) rfl ?_
    refine En_callV rfl rfl rfl rfl rfl rfl rfl rfl hp (by decide +kernel) rfl (c_47 σ3 h4 p hp b) (by decide) (by decide) (fun v13 σ14 h12 => ?_)
    obtain ⟨h15, h16, z18, rfl, h17⟩ := h12
    have h19 := Fr_trans h8 h16 (by decide +kernel)
    refine En_iNe _ rfl rfl (fun h20 => ?_) (fun h20 => ?_)
    · refine En_Ps 3 (pc' := 24) (lv' := [(0, .ref 0), (1, .int a), (2, .int b), (3, .int c)]) (st' := [.int b, .int a, .ref 0]) rfl ?_
      refine En_callV rfl rfl rfl rfl rfl rfl rfl rfl tgz_0 (by decide +kernel) rfl (c_115 σ14 h15 a b (geI rfl (by omega)) (leI rfl (by omega)) (geI rfl (by omega)) (leI rfl (by omega)) p hp ((h16 _ _ (inW tgz_0 (by decide +kernel))).trans ((h5 _ _ (inW tgz_0 (by decide +kernel))).trans h_p)) sg ((h16 _ _ (inW hp (by decide +kernel))).trans ((h5 _ _ (inW hp (by decide +kernel))).trans h_sg)) (by first | exact q_a555021d16 hp0 | omega)) (by decide) (by decide) (fun v22 σ23 h21 => ?_)
      obtain ⟨h24, h25, z27, rfl, h26⟩ := h21
      have h28 := Fr_trans h19 h25 (by decide +kernel)
      refine En_Ps 2 (pc' := 30) (lv' := [(4, .int z27), (0, .ref 0), (1, .int a), (2, .int b), (3, .int c)]) (st' := [.int c]) rfl ?_
      rcases (show c.toInt = 0 ∨ c.toInt = 1 ∨ c.toInt = 2 ∨ c.toInt < 0 ∨ 2 < c.toInt by omega) with h29 | h29 | h29 | h29 | h29
      · refine En_swI (t := 56) (n := 0) rfl h29 rfl (by decide +kernel) ?_
        refine En_Ps 1 (pc' := 58) (lv' := [(4, .int z27), (0, .ref 0), (1, .int a), (2, .int b), (3, .int c)]) (st' := [.int z27]) rfl ?_
        exact En_ret (v := some (Value.int z27)) rfl rfl rfl ⟨h24, h28, z27, rfl, trivial⟩
      · refine En_swI (t := 59) (n := 1) rfl h29 rfl (by decide +kernel) ?_
        refine En_Ps 2 (pc' := 62) (lv' := [(4, .int z27), (0, .ref 0), (1, .int a), (2, .int b), (3, .int c)]) (st' := [.int z27, .ref 0]) rfl ?_
        refine En_callV rfl rfl rfl rfl rfl rfl rfl rfl tgz_0 (by decide +kernel) rfl (c_156 σ23 h24 z27 p hp ((h25 _ _ (inW tgz_0 (by decide +kernel))).trans ((h16 _ _ (inW tgz_0 (by decide +kernel))).trans ((h5 _ _ (inW tgz_0 (by decide +kernel))).trans h_p))) sg ((h25 _ _ (inW hp (by decide +kernel))).trans ((h16 _ _ (inW hp (by decide +kernel))).trans ((h5 _ _ (inW hp (by decide +kernel))).trans h_sg))) (by first | exact q_a555021d16 hp0 | omega)) (by decide) (by decide) (fun v31 σ32 h30 => ?_)
        obtain ⟨h33, h34, z36, rfl, h35⟩ := h30
        have h37 := Fr_trans h28 h34 (by decide +kernel)
        exact En_ret (v := some (Value.int z36)) rfl rfl rfl ⟨h33, h37, z36, rfl, trivial⟩
      · refine En_swI (t := 66) (n := 2) rfl h29 rfl (by decide +kernel) ?_
        refine En_Ps 3 (pc' := 70) (lv' := [(4, .int z27), (0, .ref 0), (1, .int a), (2, .int b), (3, .int c)]) (st' := [.int b, .ref 0, .int z27]) rfl ?_
        refine En_callV rfl rfl rfl rfl rfl rfl rfl rfl tgz_0 (by decide +kernel) rfl (c_114 σ23 h24 b (geI rfl (by omega)) (leI rfl (by omega)) p hp ((h25 _ _ (inW tgz_0 (by decide +kernel))).trans ((h16 _ _ (inW tgz_0 (by decide +kernel))).trans ((h5 _ _ (inW tgz_0 (by decide +kernel))).trans h_p))) sg ((h25 _ _ (inW hp (by decide +kernel))).trans ((h16 _ _ (inW hp (by decide +kernel))).trans ((h5 _ _ (inW hp (by decide +kernel))).trans h_sg))) (by first | exact q_a555021d16 hp0 | omega)) (by decide) (by decide) (fun v39 σ40 h38 => ?_)
        obtain ⟨h41, h42, z44, rfl, h43⟩ := h38
        have h45 := Fr_trans h28 h42 (by decide +kernel)
        refine En_Ps 1 (pc' := 74) (lv' := [(4, .int z27), (0, .ref 0), (1, .int a), (2, .int b), (3, .int c)]) (st' := [.int ((z27 ^^^ z44))]) rfl ?_
        refine En_hav (fun z46 => ?_)
        refine En_callS rfl rfl rfl rfl rfl rfl rfl rfl rfl (c_7 σ40 h41 z46) (by decide) (by decide) (fun v48 σ49 h47 => ?_)
        obtain ⟨h50, h51, z53, rfl, h52⟩ := h47
        have h54 := Fr_trans h45 h51 (by decide +kernel)
        exact En_ret (v := some (Value.int z53)) rfl rfl rfl ⟨h50, h54, z53, rfl, trivial⟩
      · refine En_swO (t := 78) rfl (by omega) rfl (by decide +kernel) ?_
        refine En_Ps 1 (pc' := 80) (lv' := [(4, .int z27), (0, .ref 0), (1, .int a), (2, .int b), (3, .int c)]) (st' := [.int (((Int8.ofInt (-2)).toInt32))]) rfl ?_
        refine En_top (by decide : ((Int8.ofInt (-2)).toInt32).toInt = -2) (fun z55 h56 => ?_)
        exact En_ret (v := some (Value.int z55)) rfl rfl rfl ⟨h24, h28, z55, rfl, trivial⟩
      · refine En_swO (t := 78) rfl (by omega) rfl (by decide +kernel) ?_
        refine En_Ps 1 (pc' := 80) (lv' := [(4, .int z27), (0, .ref 0), (1, .int a), (2, .int b), (3, .int c)]) (st' := [.int (((Int8.ofInt (-2)).toInt32))]) rfl ?_
        refine En_top (by decide : ((Int8.ofInt (-2)).toInt32).toInt = -2) (fun z57 h58 => ?_)
        exact En_ret (v := some (Value.int z57)) rfl rfl rfl ⟨h24, h28, z57, rfl, trivial⟩
    · refine En_Ps 1 (pc' := 20) (lv' := [(0, .ref 0), (1, .int a), (2, .int b), (3, .int c)]) (st' := [.int (((Int8.ofInt (-2)).toInt32))]) rfl ?_
      refine En_top (by decide : ((Int8.ofInt (-2)).toInt32).toInt = -2) (fun z59 h60 => ?_)
      exact En_ret (v := some (Value.int z59)) rfl rfl rfl ⟨h15, h19, z59, rfl, trivial⟩
/-- DoorSchool.sure(II)I -/
abbrev P_173 (σ0 : SG) (a : Int32) (b : Int32) (p : Nat) (sg : Int32) : PO := fun v σ => WT σ ∧ Fr [] σ0 σ ∧ ∃ ret : Int32, v = some (Value.int ret) ∧ -ret.toInt - 6 ≤ 0 ∧ ret.toInt - 65535 ≤ 0
set_option maxRecDepth 10000 in
set_option maxHeartbeats 4000000 in
theorem c_173 (σ0 : SG) (hσ0 : WT σ0) (a : Int32) (b : Int32) (p : Nat) (hp : TG p = 18) (h_p : (σ0 0)[9]? = some (Value.ref p)) (sg : Int32) (h_sg : (σ0 p)[1]? = some (Value.int sg)) (hp0 : -sg.toInt ≤ 0) : En 2 47 none mr_173 (P_173 σ0 a b p sg) 0 [(0, .ref 0), (1, .int a), (2, .int b)] [] σ0 := by
  obtain ⟨hl_sg, hu_sg⟩ := WT_int hσ0 (g := 18) hp (by decide +kernel) (l := (-1)) (u := 4) (by decide +kernel) h_sg
  have hF0 : Fr [] σ0 σ0 := Fr_rfl
  refine En_Ps 1 (pc' := 1) (lv' := [(0, .ref 0), (1, .int a), (2, .int b)]) (st' := [.int b]) rfl ?_
  refine En_callS rfl rfl rfl rfl rfl rfl rfl rfl rfl (c_149 σ0 hσ0 b) (by decide) (by decide) (fun v2 σ3 h1 => ?_)
  obtain ⟨h4, h5, z7, rfl, h6⟩ := h1
  have h8 := Fr_trans hF0 h5 (by decide +kernel)
  refine En_iEq _ rfl rfl (fun h9 => ?_) (fun h9 => ?_)
  · refine En_Ps 3 (pc' := 19) (lv' := [(3, .int (((Int8.ofInt (-2)).toInt32))), (0, .ref 0), (1, .int a), (2, .int b)]) (st' := [.int (((Int8.ofInt (-2)).toInt32))]) rfl ?_
    refine En_iEq _ (by decide : ((Int8.ofInt (-2)).toInt32).toInt = -2) rfl (fun hx => by first | exact (q_5b19fa5313 hx).elim | (exfalso; omega)) (fun h10 => ?_)
    refine En_Ps 1 (pc' := 23) (lv' := [(3, .int (((Int8.ofInt (-2)).toInt32))), (0, .ref 0), (1, .int a), (2, .int b)]) (st' := [.int (((Int8.ofInt (-2)).toInt32))]) rfl ?_
    refine En_top (by decide : ((Int8.ofInt (-2)).toInt32).toInt = -2) (fun z11 h12 => ?_)
    exact En_ret (v := some (Value.int z11)) rfl rfl rfl ⟨h4, h8, z11, rfl, ⟨by first | exact q_2583522324 h12 | omega, by first | exact q_7aab8371ca h12 | omega⟩⟩
  · refine En_Ps 2 (pc' := 9) (lv' := [(0, .ref 0), (1, .int a), (2, .int b)]) (st' := [.int a, .ref 0]) rfl ?_
    refine En_callV rfl rfl rfl rfl rfl rfl rfl rfl tgz_0 (by decide +kernel) rfl (c_180 σ3 h4 a p hp ((h5 _ _ (inW tgz_0 (by decide +kernel))).trans h_p) sg ((h5 _ _ (inW hp (by decide +kernel))).trans h_sg) (by first | exact q_a555021d16 hp0 | omega)) (by decide) (by decide) (fun v14 σ15 h13 => ?_)
    obtain ⟨h16, h17, z19, rfl, h18⟩ := h13
    have h20 := Fr_trans h8 h17 (by decide +kernel)
    refine En_Ps 3 (pc' := 19) (lv' := [(3, .int z19), (0, .ref 0), (1, .int a), (2, .int b)]) (st' := [.int z19]) rfl ?_
    refine En_iEq _ rfl rfl (fun h21 => ?_) (fun h21 => ?_)
    · refine En_Ps 1 (pc' := 25) (lv' := [(3, .int z19), (0, .ref 0), (1, .int a), (2, .int b)]) (st' := [.ref 0]) rfl ?_
      refine En_getU (j := 2) (u := 4) (g' := 4) (q := 0) rfl rfl rfl tgz_0 (by decide +kernel) h16 (by decide +kernel) un_4_4 (fun h22 => ?_)
      refine En_Ps 1 (pc' := 29) (lv' := [(3, .int z19), (0, .ref 0), (1, .int a), (2, .int b)]) (st' := [.ref 0, .ref 4]) rfl ?_
      refine En_getU (j := 6) (u := 150) (g' := 32) (q := 0) rfl rfl rfl tgz_0 (by decide +kernel) h16 (by decide +kernel) un_32_150 (fun h24 => ?_)
      refine En_Ps 1 (pc' := 33) (lv' := [(3, .int z19), (0, .ref 0), (1, .int a), (2, .int b)]) (st' := [.int a, .ref 150, .ref 4]) rfl ?_
      refine En_aald (g' := 33) (u := 0) rfl rfl tgz_150 (by decide +kernel) h16 (by omega) (lnI (by decide +kernel : LN _ = 4) (by omega)) (FTsgl (by decide +kernel)) (fun a27 h26 ha27 => ?_)
      refine En_Ps 1 (pc' := 35) (lv' := [(3, .int z19), (0, .ref 0), (1, .int a), (2, .int b)]) (st' := [.int ((Int32.ofInt 1)), .ref a27, .ref 4]) rfl ?_
      have := (by decide : ((Int32.ofInt 1)).toInt = 1)
      refine En_callV rfl rfl rfl rfl rfl rfl rfl rfl ha27 (by decide +kernel) rfl (c_89 σ15 h16 a27 ha27 ((Int32.ofInt 1))) (by decide) (by decide) (fun v29 σ30 h28 => ?_)
      obtain ⟨h31, h32, z34, rfl, h33⟩ := h28
      have h35 := Fr_trans h20 h32 (by decide +kernel)
      refine En_Ps 1 (pc' := 39) (lv' := [(3, .int z19), (0, .ref 0), (1, .int a), (2, .int b)]) (st' := [.ref 0, .int z34, .ref 4]) rfl ?_
      refine En_getK (j := 6) ((h32 _ _ (inW tgz_0 (by decide +kernel))).trans h24) rfl rfl rfl tgz_0 (by decide +kernel) ?_
      refine En_Ps 1 (pc' := 43) (lv' := [(3, .int z19), (0, .ref 0), (1, .int a), (2, .int b)]) (st' := [.int a, .ref 150, .int z34, .ref 4]) rfl ?_
      refine En_aald (g' := 33) (u := 0) rfl rfl tgz_150 (by decide +kernel) h31 (by omega) (lnI (by decide +kernel : LN _ = 4) (by omega)) (FTsgl (by decide +kernel)) (fun a37 h36 ha37 => ?_)
      refine En_Ps 1 (pc' := 45) (lv' := [(3, .int z19), (0, .ref 0), (1, .int a), (2, .int b)]) (st' := [.int ((Int32.ofInt 0)), .ref a37, .int z34, .ref 4]) rfl ?_
      have := (by decide : ((Int32.ofInt 0)).toInt = 0)
      refine En_callV rfl rfl rfl rfl rfl rfl rfl rfl ha37 (by decide +kernel) rfl (c_89 σ30 h31 a37 ha37 ((Int32.ofInt 0))) (by decide) (by decide) (fun v39 σ40 h38 => ?_)
      obtain ⟨h41, h42, z44, rfl, h43⟩ := h38
      have h45 := Fr_trans h35 h42 (by decide +kernel)
      refine En_Ps 1 (pc' := 49) (lv' := [(3, .int z19), (0, .ref 0), (1, .int a), (2, .int b)]) (st' := [.int b, .int z44, .int z34, .ref 4]) rfl ?_
      refine En_iNe _ rfl rfl (fun h46 => ?_) (fun h46 => ?_)
      · refine En_Ps 1 (pc' := 57) (lv' := [(3, .int z19), (0, .ref 0), (1, .int a), (2, .int b)]) (st' := [.int ((Int32.ofInt 0)), .int z44, .int z34, .ref 4]) rfl ?_
        have := (by decide : ((Int32.ofInt 0)).toInt = 0)
        refine En_callV rfl rfl rfl rfl rfl rfl rfl rfl tgz_4 (by decide +kernel) rfl (c_83 σ40 h41 z34 z44 ((Int32.ofInt 0)) (geI (by decide : (Int32.ofInt 0).toInt = 0) (by decide)) (leI (by decide : (Int32.ofInt 0).toInt = 0) (by decide))) (by decide) (by decide) (fun v48 σ49 h47 => ?_)
        obtain ⟨h50, h51, z53, rfl, h52⟩ := h47
        have h54 := Fr_trans h45 h51 (by decide +kernel)
        exact En_ret (v := some (Value.int z53)) rfl rfl rfl ⟨h50, h54, z53, rfl, ⟨by first | exact q_8061444f0d h52.1 | omega, by first | exact q_ef123ba13c h52.2 | omega⟩⟩
      · refine En_Ps 2 (pc' := 57) (lv' := [(3, .int z19), (0, .ref 0), (1, .int a), (2, .int b)]) (st' := [.int ((Int32.ofInt 1)), .int z44, .int z34, .ref 4]) rfl ?_
        have := (by decide : ((Int32.ofInt 1)).toInt = 1)
        refine En_callV rfl rfl rfl rfl rfl rfl rfl rfl tgz_4 (by decide +kernel) rfl (c_83 σ40 h41 z34 z44 ((Int32.ofInt 1)) (geI (by decide : (Int32.ofInt 1).toInt = 1) (by decide)) (leI (by decide : (Int32.ofInt 1).toInt = 1) (by decide))) (by decide) (by decide) (fun v56 σ57 h55 => ?_)
        obtain ⟨h58, h59, z61, rfl, h60⟩ := h55
        have h62 := Fr_trans h45 h59 (by decide +kernel)
        exact En_ret (v := some (Value.int z61)) rfl rfl rfl ⟨h58, h62, z61, rfl, ⟨by first | exact q_8061444f0d h60.1 | omega, by first | exact q_ef123ba13c h60.2 | omega⟩⟩
    · refine En_Ps 1 (pc' := 23) (lv' := [(3, .int z19), (0, .ref 0), (1, .int a), (2, .int b)]) (st' := [.int z19]) rfl ?_
      exact En_ret (v := some (Value.int z19)) rfl rfl rfl ⟨h16, h20, z19, rfl, ⟨by first | exact q_629d629181 h18.1 | omega, by first | exact q_7c313bac4c h21 h18.2.1 | omega⟩⟩
/-- DoorSchool.teacher()I -/
abbrev P_175 (σ0 : SG) (p : Nat) (sg : Int32) : PO := fun v σ => WT σ ∧ Fr [(14, 3), (14, 4), (15, 0), (16, 0), (17, 0)] σ0 σ ∧ ∃ ret : Int32, v = some (Value.int ret) ∧ -ret.toInt - 1000 ≤ 0 ∧ ret.toInt - 1000 ≤ 0
set_option maxRecDepth 10000 in
set_option maxHeartbeats 4000000 in
theorem c_175 (σ0 : SG) (hσ0 : WT σ0) (p : Nat) (hp : TG p = 18) (h_p : (σ0 0)[9]? = some (Value.ref p)) (sg : Int32) (h_sg : (σ0 p)[1]? = some (Value.int sg)) (hp0 : -sg.toInt ≤ 0) : En 11 292 none mr_175 (P_175 σ0 p sg) 0 [(0, .ref 0)] [] σ0 := by
  obtain ⟨hl_sg, hu_sg⟩ := WT_int hσ0 (g := 18) hp (by decide +kernel) (l := (-1)) (u := 4) (by decide +kernel) h_sg
  have hF0 : Fr [(14, 3), (14, 4), (15, 0), (16, 0), (17, 0)] σ0 σ0 := Fr_rfl
  refine En_Ps 1 (pc' := 1) (lv' := [(0, .ref 0)]) (st' := [.ref 0]) rfl ?_
  refine En_getK (j := 9) h_p rfl rfl rfl tgz_0 (by decide +kernel) ?_
  refine En_callV rfl rfl rfl rfl rfl rfl rfl rfl hp (by decide +kernel) rfl (c_43 σ0 hσ0 p hp) (by decide) (by decide) (fun v2 σ3 h1 => ?_)
  obtain ⟨h4, h5, z7, rfl, h6⟩ := h1
  have h8 := Fr_trans hF0 h5 (by decide +kernel)
  refine En_iNe _ rfl rfl (fun h9 => ?_) (fun h9 => ?_)
  · refine En_Ps 1 (pc' := 14) (lv' := [(0, .ref 0)]) (st' := [.ref 0]) rfl ?_
    refine En_getU (j := 5) (u := 14) (g' := 14) (q := 0) rfl rfl rfl tgz_0 (by decide +kernel) h4 (by decide +kernel) un_14_14 (fun h10 => ?_)
    refine En_Ps 1 (pc' := 18) (lv' := [(0, .ref 0)]) (st' := [.ref 0, .ref 14]) rfl ?_
    refine En_getK (j := 9) ((h5 _ _ (inW tgz_0 (by decide +kernel))).trans h_p) rfl rfl rfl tgz_0 (by decide +kernel) ?_
    refine En_Ps 1 (pc' := 22) (lv' := [(0, .ref 0)]) (st' := [.ref 0, .ref p, .ref 14]) rfl ?_
    refine En_getK (j := 9) ((h5 _ _ (inW tgz_0 (by decide +kernel))).trans h_p) rfl rfl rfl tgz_0 (by decide +kernel) ?_
    refine En_getI (j := 2) (l := (-1)) (u := 3) rfl rfl rfl hp (by decide +kernel) h4 (by decide +kernel) (fun z13 h12 h14 h15 => ?_)
    refine En_callV rfl rfl rfl rfl rfl rfl rfl rfl tgz_14 (by decide +kernel) rfl (c_98 σ3 h4 p hp z13 (geI rfl (by first | exact q_77b189e83d h14 | omega)) (leI rfl (by first | exact q_571ae29550 h15 | omega))) (by decide) (by decide) (fun v17 σ18 h16 => ?_)
    obtain ⟨h19, h20, z22, rfl, h21⟩ := h16
    have h23 := Fr_trans h8 h20 (by decide +kernel)
    refine En_Ps 1 (pc' := 32) (lv' := [(0, .ref 0)]) (st' := [.ref 0, .int z22]) rfl ?_
    refine En_getK (j := 5) ((h20 _ _ (inW tgz_0 (by decide +kernel))).trans h10) rfl rfl rfl tgz_0 (by decide +kernel) ?_
    refine En_Ps 1 (pc' := 36) (lv' := [(0, .ref 0)]) (st' := [.ref 0, .ref 14, .int z22]) rfl ?_
    refine En_getK (j := 9) ((h20 _ _ (inW tgz_0 (by decide +kernel))).trans ((h5 _ _ (inW tgz_0 (by decide +kernel))).trans h_p)) rfl rfl rfl tgz_0 (by decide +kernel) ?_
    refine En_Ps 1 (pc' := 40) (lv' := [(0, .ref 0)]) (st' := [.ref 0, .ref p, .ref 14, .int z22]) rfl ?_
    refine En_getK (j := 9) ((h20 _ _ (inW tgz_0 (by decide +kernel))).trans ((h5 _ _ (inW tgz_0 (by decide +kernel))).trans h_p)) rfl rfl rfl tgz_0 (by decide +kernel) ?_
    refine En_getK (j := 2) ((h20 _ _ (inW hp (by decide +kernel))).trans h12) rfl rfl rfl hp (by decide +kernel) ?_
    refine En_Ps 2 (pc' := 48) (lv' := [(0, .ref 0)]) (st' := [.int ((z13 + ((Int32.ofInt 1)))), .ref p, .ref 14, .int z22]) rfl ?_
    refine En_top (addI rfl (by decide : (Int32.ofInt 1).toInt = 1) (by first | exact q_5236ee192b h14 | omega) (by first | exact q_30821ffab8 h15 | omega)) (fun z24 h25 => ?_)
    refine En_callV rfl rfl rfl rfl rfl rfl rfl rfl tgz_14 (by decide +kernel) rfl (c_98 σ18 h19 p hp z24 (geI rfl (by first | exact q_2df21898e4 h25 h14 | omega)) (leI rfl (by first | exact q_3d6de704c2 h25 h15 | omega))) (by decide) (by decide) (fun v27 σ28 h26 => ?_)
    obtain ⟨h29, h30, z32, rfl, h31⟩ := h26
    have h33 := Fr_trans h23 h30 (by decide +kernel)
    refine En_Ps 1 (pc' := 52) (lv' := [(0, .ref 0)]) (st' := [.int ((z22 - z32))]) rfl ?_
    refine En_top (subI rfl rfl (by first | exact q_af337f4dc9 h21.1 h31.2 | omega) (by first | exact q_3f5fcd62a2 h21.2 h31.1 | omega)) (fun z34 h35 => ?_)
    exact En_ret (v := some (Value.int z34)) rfl rfl rfl ⟨h29, h33, z34, rfl, ⟨by first | exact q_859da2f9a5 h35 h21.1 h31.2 | omega, by first | exact q_95980b6087 h35 h21.2 h31.1 | omega⟩⟩
  · refine En_Ps 1 (pc' := 12) (lv' := [(0, .ref 0)]) (st' := [.int (((Int8.ofInt (-2)).toInt32))]) rfl ?_
    refine En_top (by decide : ((Int8.ofInt (-2)).toInt32).toInt = -2) (fun z36 h37 => ?_)
    exact En_ret (v := some (Value.int z36)) rfl rfl rfl ⟨h4, h8, z36, rfl, ⟨by first | exact q_4f403e2227 h37 | omega, by first | exact q_a2119e8b7a h37 | omega⟩⟩
/-- DoorSchool.told(II)I -/
abbrev P_176 (σ0 : SG) (a : Int32) (b : Int32) (p : Nat) (sg : Int32) : PO := fun v σ => WT σ ∧ Fr [] σ0 σ ∧ ∃ ret : Int32, v = some (Value.int ret) ∧ -ret.toInt - 2 ≤ 0 ∧ ret.toInt - 15 ≤ 0
set_option maxRecDepth 10000 in
set_option maxHeartbeats 4000000 in
theorem c_176 (σ0 : SG) (hσ0 : WT σ0) (a : Int32) (b : Int32) (p : Nat) (hp : TG p = 18) (h_p : (σ0 0)[9]? = some (Value.ref p)) (sg : Int32) (h_sg : (σ0 p)[1]? = some (Value.int sg)) (hp0 : -sg.toInt ≤ 0) : En 2 41 none mr_176 (P_176 σ0 a b p sg) 0 [(0, .ref 0), (1, .int a), (2, .int b)] [] σ0 := by
  obtain ⟨hl_sg, hu_sg⟩ := WT_int hσ0 (g := 18) hp (by decide +kernel) (l := (-1)) (u := 4) (by decide +kernel) h_sg
  have hF0 : Fr [] σ0 σ0 := Fr_rfl
  refine En_Ps 1 (pc' := 1) (lv' := [(0, .ref 0), (1, .int a), (2, .int b)]) (st' := [.ref 0]) rfl ?_
  refine En_getK (j := 9) h_p rfl rfl rfl tgz_0 (by decide +kernel) ?_
  refine En_Ps 1 (pc' := 5) (lv' := [(0, .ref 0), (1, .int a), (2, .int b)]) (st' := [.int a, .ref p]) rfl ?_
  refine En_callV rfl rfl rfl rfl rfl rfl rfl rfl hp (by decide +kernel) rfl (c_46 σ0 hσ0 p hp a sg h_sg (by first | exact q_a555021d16 hp0 | omega)) (by decide) (by decide) (fun v2 σ3 h1 => ?_)
  obtain ⟨h4, h5, z7, rfl, h6⟩ := h1
  have h8 := Fr_trans hF0 h5 (by decide +kernel)
  refine En_iEq _ rfl rfl (fun h9 => ?_) (fun h9 => ?_)
  · refine En_Ps 1 (pc' := 20) (lv' := [(0, .ref 0), (1, .int a), (2, .int b)]) (st' := [.int (((Int8.ofInt (-2)).toInt32))]) rfl ?_
    refine En_top (by decide : ((Int8.ofInt (-2)).toInt32).toInt = -2) (fun z10 h11 => ?_)
    exact En_ret (v := some (Value.int z10)) rfl rfl rfl ⟨h4, h8, z10, rfl, ⟨by first | exact q_f35c5d346c h11 | omega, by first | exact q_12a74e12a3 h11 | omega⟩⟩
  · refine En_Ps 1 (pc' := 12) (lv' := [(0, .ref 0), (1, .int a), (2, .int b)]) (st' := [.int b]) rfl ?_
    refine En_callS rfl rfl rfl rfl rfl rfl rfl rfl rfl (c_149 σ3 h4 b) (by decide) (by decide) (fun v13 σ14 h12 => ?_)
    obtain ⟨h15, h16, z18, rfl, h17⟩ := h12
    have h19 := Fr_trans h8 h16 (by decide +kernel)
    refine En_iNe _ rfl rfl (fun h20 => ?_) (fun h20 => ?_)
    · refine En_Ps 1 (pc' := 22) (lv' := [(0, .ref 0), (1, .int a), (2, .int b)]) (st' := [.ref 0]) rfl ?_
      refine En_getU (j := 2) (u := 4) (g' := 4) (q := 0) rfl rfl rfl tgz_0 (by decide +kernel) h15 (by decide +kernel) un_4_4 (fun h21 => ?_)
      refine En_Ps 1 (pc' := 26) (lv' := [(0, .ref 0), (1, .int a), (2, .int b)]) (st' := [.int a, .ref 4]) rfl ?_
      refine En_callV rfl rfl rfl rfl rfl rfl rfl rfl tgz_4 (by decide +kernel) rfl (c_81 σ14 h15 a) (by decide) (by decide) (fun v24 σ25 h23 => ?_)
      obtain ⟨h26, h27, z29, rfl, h28⟩ := h23
      have h30 := Fr_trans h19 h27 (by decide +kernel)
      refine En_Ps 3 (pc' := 32) (lv' := [(3, .int z29), (0, .ref 0), (1, .int a), (2, .int b)]) (st' := [.int ((Int32.ofInt (-1))), .int z29]) rfl ?_
      refine En_icNe _ rfl (by decide : (Int32.ofInt (-1)).toInt = -1) rfl (fun h31 => ?_) (fun h31 => ?_)
      · refine En_Ps 1 (pc' := 38) (lv' := [(3, .int z29), (0, .ref 0), (1, .int a), (2, .int b)]) (st' := [.int b]) rfl ?_
        refine En_iNe _ rfl rfl (fun h32 => ?_) (fun h32 => ?_)
        · refine En_Ps 1 (pc' := 54) (lv' := [(3, .int z29), (0, .ref 0), (1, .int a), (2, .int b)]) (st' := [.ref 0]) rfl ?_
          refine En_getK (j := 2) ((h27 _ _ (inW tgz_0 (by decide +kernel))).trans h21) rfl rfl rfl tgz_0 (by decide +kernel) ?_
          refine En_getU (j := 3) (u := 6) (g' := 6) (q := 0) rfl rfl rfl tgz_4 (by decide +kernel) h26 (by decide +kernel) un_6_6 (fun h33 => ?_)
          refine En_Ps 1 (pc' := 61) (lv' := [(3, .int z29), (0, .ref 0), (1, .int a), (2, .int b)]) (st' := [.int z29, .ref 6]) rfl ?_
          refine En_iald (l := 0) (u := 15) rfl rfl tgz_6 (by decide +kernel) h26 (by first | exact q_b1cade0df5 h31 h28.1 | omega) (lnI (by decide +kernel : LN _ = 81) (by first | exact q_3ac9ed8367 h28.2 | omega)) (FTsgl (by decide +kernel)) (fun z36 h35 h37 h38 => ?_)
          exact En_ret (v := some (Value.int z36)) rfl rfl rfl ⟨h26, h30, z36, rfl, ⟨by first | exact q_ea7f0ffdb1 h37 | omega, by first | exact q_867a9ac627 h38 | omega⟩⟩
        · refine En_Ps 1 (pc' := 42) (lv' := [(3, .int z29), (0, .ref 0), (1, .int a), (2, .int b)]) (st' := [.ref 0]) rfl ?_
          refine En_getK (j := 2) ((h27 _ _ (inW tgz_0 (by decide +kernel))).trans h21) rfl rfl rfl tgz_0 (by decide +kernel) ?_
          refine En_getU (j := 2) (u := 5) (g' := 5) (q := 0) rfl rfl rfl tgz_4 (by decide +kernel) h26 (by decide +kernel) un_5_5 (fun h39 => ?_)
          refine En_Ps 1 (pc' := 49) (lv' := [(3, .int z29), (0, .ref 0), (1, .int a), (2, .int b)]) (st' := [.int z29, .ref 5]) rfl ?_
          refine En_iald (l := 0) (u := 15) rfl rfl tgz_5 (by decide +kernel) h26 (by first | exact q_b1cade0df5 h31 h28.1 | omega) (lnI (by decide +kernel : LN _ = 81) (by first | exact q_3ac9ed8367 h28.2 | omega)) (FTsgl (by decide +kernel)) (fun z42 h41 h43 h44 => ?_)
          refine En_Ps 1 (pc' := 62) (lv' := [(3, .int z29), (0, .ref 0), (1, .int a), (2, .int b)]) (st' := [.int z42]) rfl ?_
          exact En_ret (v := some (Value.int z42)) rfl rfl rfl ⟨h26, h30, z42, rfl, ⟨by first | exact q_ea7f0ffdb1 h43 | omega, by first | exact q_867a9ac627 h44 | omega⟩⟩
      · refine En_Ps 1 (pc' := 36) (lv' := [(3, .int z29), (0, .ref 0), (1, .int a), (2, .int b)]) (st' := [.int ((Int32.ofInt (-1)))]) rfl ?_
        refine En_top (by decide : (Int32.ofInt (-1)).toInt = -1) (fun z45 h46 => ?_)
        exact En_ret (v := some (Value.int z45)) rfl rfl rfl ⟨h26, h30, z45, rfl, ⟨by first | exact q_e1de8c7867 h46 | omega, by first | exact q_af62099904 h46 | omega⟩⟩
    · refine En_Ps 1 (pc' := 20) (lv' := [(0, .ref 0), (1, .int a), (2, .int b)]) (st' := [.int (((Int8.ofInt (-2)).toInt32))]) rfl ?_
      refine En_top (by decide : ((Int8.ofInt (-2)).toInt32).toInt = -2) (fun z47 h48 => ?_)
      exact En_ret (v := some (Value.int z47)) rfl rfl rfl ⟨h15, h19, z47, rfl, ⟨by first | exact q_f35c5d346c h48 | omega, by first | exact q_12a74e12a3 h48 | omega⟩⟩
/-- DoorSchool.trick(II)I -/
abbrev P_178 (σ0 : SG) (a : Int32) (b : Int32) (p : Nat) (sg : Int32) : PO := fun v σ => WT σ ∧ Fr [] σ0 σ ∧ ∃ ret : Int32, v = some (Value.int ret) ∧ -ret.toInt - 2 ≤ 0 ∧ ret.toInt - 15 ≤ 0
set_option maxRecDepth 10000 in
set_option maxHeartbeats 4000000 in
theorem c_178 (σ0 : SG) (hσ0 : WT σ0) (a : Int32) (b : Int32) (p : Nat) (hp : TG p = 18) (h_p : (σ0 0)[9]? = some (Value.ref p)) (sg : Int32) (h_sg : (σ0 p)[1]? = some (Value.int sg)) (hp0 : -sg.toInt ≤ 0) : En 4 92 none mr_178 (P_178 σ0 a b p sg) 0 [(0, .ref 0), (1, .int a), (2, .int b)] [] σ0 := by
  obtain ⟨hl_sg, hu_sg⟩ := WT_int hσ0 (g := 18) hp (by decide +kernel) (l := (-1)) (u := 4) (by decide +kernel) h_sg
  have hF0 : Fr [] σ0 σ0 := Fr_rfl
  refine En_Ps 1 (pc' := 1) (lv' := [(0, .ref 0), (1, .int a), (2, .int b)]) (st' := [.ref 0]) rfl ?_
  refine En_getK (j := 9) h_p rfl rfl rfl tgz_0 (by decide +kernel) ?_
  refine En_Ps 1 (pc' := 5) (lv' := [(0, .ref 0), (1, .int a), (2, .int b)]) (st' := [.int a, .ref p]) rfl ?_
  refine En_callV rfl rfl rfl rfl rfl rfl rfl rfl hp (by decide +kernel) rfl (c_47 σ0 hσ0 p hp a) (by decide) (by decide) (fun v2 σ3 h1 => ?_)
  obtain ⟨h4, h5, z7, rfl, h6⟩ := h1
  have h8 := Fr_trans hF0 h5 (by decide +kernel)
  refine En_iEq _ rfl rfl (fun h9 => ?_) (fun h9 => ?_)
  · refine En_Ps 1 (pc' := 24) (lv' := [(0, .ref 0), (1, .int a), (2, .int b)]) (st' := [.int (((Int8.ofInt (-2)).toInt32))]) rfl ?_
    refine En_top (by decide : ((Int8.ofInt (-2)).toInt32).toInt = -2) (fun z10 h11 => ?_)
    exact En_ret (v := some (Value.int z10)) rfl rfl rfl ⟨h4, h8, z10, rfl, ⟨by first | exact q_f35c5d346c h11 | omega, by first | exact q_12a74e12a3 h11 | omega⟩⟩
  · refine En_Ps 1 (pc' := 12) (lv' := [(0, .ref 0), (1, .int a), (2, .int b)]) (st' := [.ref 0]) rfl ?_
    refine En_getK (j := 9) ((h5 _ _ (inW tgz_0 (by decide +kernel))).trans h_p) rfl rfl rfl tgz_0 (by decide +kernel) ?_
    refine En_Ps 1 (pc' := 16) (lv' := [(0, .ref 0), (1, .int a), (2, .int b)]) (st' := [.int b, .ref p]) rfl ?_
    refine En_callV rfl rfl rfl rfl rfl rfl rfl rfl hp (by decide +kernel) rfl (c_49 σ3 h4 p hp b sg ((h5 _ _ (inW hp (by decide +kernel))).trans h_sg) (by first | exact q_a555021d16 hp0 | omega)) (by decide) (by decide) (fun v13 σ14 h12 => ?_)
    obtain ⟨h15, h16, z18, rfl, h17⟩ := h12
    have h19 := Fr_trans h8 h16 (by decide +kernel)
    refine En_iNe _ rfl rfl (fun h20 => ?_) (fun h20 => ?_)
    · refine En_Ps 2 (pc' := 27) (lv' := [(0, .ref 0), (1, .int a), (2, .int b)]) (st' := [.int a, .ref 0]) rfl ?_
      refine En_callV rfl rfl rfl rfl rfl rfl rfl rfl tgz_0 (by decide +kernel) rfl (c_114 σ14 h15 a (geI rfl (by omega)) (leI rfl (by omega)) p hp ((h16 _ _ (inW tgz_0 (by decide +kernel))).trans ((h5 _ _ (inW tgz_0 (by decide +kernel))).trans h_p)) sg ((h16 _ _ (inW hp (by decide +kernel))).trans ((h5 _ _ (inW hp (by decide +kernel))).trans h_sg)) (by first | exact q_a555021d16 hp0 | omega)) (by decide) (by decide) (fun v22 σ23 h21 => ?_)
      obtain ⟨h24, h25, z27, rfl, h26⟩ := h21
      have h28 := Fr_trans h19 h25 (by decide +kernel)
      refine En_Ps 7 (pc' := 40) (lv' := [(6, .int ((Int32.ofInt 0))), (5, .int ((Int32.ofInt 5))), (4, .int ((Int32.ofInt (-1)))), (3, .int z27), (0, .ref 0), (1, .int a), (2, .int b)]) (st' := []) rfl ?_
      have key40 : ∀ (n40 : Nat) (σ32 : SG) (y29 : Int32) (y30 : Int32) (y31 : Int32), WT σ32 → Fr [] σ0 σ32 → (σ32 0)[9]? = some (Value.ref p) → (σ32 p)[1]? = some (Value.int sg) → (-1) ≤ y29.toInt → y29.toInt ≤ 15 → 0 ≤ y30.toInt → y30.toInt ≤ 5 → 0 ≤ y31.toInt → y31.toInt ≤ 16 → y29.toInt - y31.toInt + 1 ≤ 0 → -y31.toInt + 16 < (n40 : Int) → En 4 92 none mr_178 (P_178 σ0 a b p sg) 40 [(0, .ref 0), (1, .int a), (2, .int b), (3, .int z27), (4, .int y29), (5, .int y30), (6, .int y31)] [] σ32 := by
        intro n40
        induction n40 with
        | zero =>
          intro σ32 y29 y30 y31 h33 h34 h35 h36 h37 h38 h39 h40 h41 h42 h43 h44
          first | exact (q_511f6d33ac h44 h42).elim | (exfalso; omega)
        | succ n40 ih40 =>
          intro σ32 y29 y30 y31 h33 h34 h35 h36 h37 h38 h39 h40 h41 h42 h43 h44
          refine En_Ps 2 (pc' := 43) (lv' := [(0, .ref 0), (1, .int a), (2, .int b), (3, .int z27), (4, .int y29), (5, .int y30), (6, .int y31)]) (st' := [.ref 0, .int y31]) rfl ?_
          refine En_getK (j := 9) h35 rfl rfl rfl tgz_0 (by decide +kernel) ?_
          refine En_callV rfl rfl rfl rfl rfl rfl rfl rfl hp (by decide +kernel) rfl (c_51 σ32 h33 p hp sg h36 (by first | exact q_a555021d16 hp0 | omega)) (by decide) (by decide) (fun v46 σ47 h45 => ?_)
          obtain ⟨h48, h49, z51, rfl, h50⟩ := h45
          have h52 := Fr_trans h34 h49 (by decide +kernel)
          refine En_icGe _ rfl rfl rfl (fun h53 => ?_) (fun h53 => ?_)
          · refine En_Ps 1 (pc' := 94) (lv' := [(0, .ref 0), (1, .int a), (2, .int b), (3, .int z27), (4, .int y29), (5, .int y30), (6, .int y31)]) (st' := [.int y29]) rfl ?_
            exact En_ret (v := some (Value.int y29)) rfl rfl rfl ⟨h48, h52, y29, rfl, ⟨by first | exact q_fe58cd40d0 h37 | omega, by first | exact q_867a9ac627 h38 | omega⟩⟩
          · refine En_Ps 3 (pc' := 56) (lv' := [(0, .ref 0), (1, .int a), (2, .int b), (3, .int z27), (4, .int y29), (5, .int y30), (6, .int y31)]) (st' := [.int ((y31 ^^^ b))]) rfl ?_
            refine En_hav (fun z54 => ?_)
            refine En_callS rfl rfl rfl rfl rfl rfl rfl rfl rfl (c_7 σ47 h48 z54) (by decide) (by decide) (fun v56 σ57 h55 => ?_)
            obtain ⟨h58, h59, z61, rfl, h60⟩ := h55
            have h62 := Fr_trans h52 h59 (by decide +kernel)
            refine En_Ps 3 (pc' := 64) (lv' := [(7, .int z61), (0, .ref 0), (1, .int a), (2, .int b), (3, .int z27), (4, .int y29), (5, .int y30), (6, .int y31)]) (st' := [.int y31, .int z27]) rfl ?_
            refine En_callS rfl rfl rfl rfl rfl rfl rfl rfl rfl (c_108 σ57 h58 z27 y31) (by decide) (by decide) (fun v64 σ65 h63 => ?_)
            obtain ⟨h66, h67, z69, rfl, h68⟩ := h63
            have h70 := Fr_trans h62 h67 (by decide +kernel)
            refine En_Ps 1 (pc' := 68) (lv' := [(7, .int z61), (0, .ref 0), (1, .int a), (2, .int b), (3, .int z27), (4, .int y29), (5, .int y30), (6, .int y31)]) (st' := [.int ((Int32.ofInt 1)), .int z69]) rfl ?_
            refine En_icNe _ rfl (by decide : (Int32.ofInt 1).toInt = 1) rfl (fun h71 => ?_) (fun h71 => ?_)
            · refine En_Ps 1 (pc' := 89) (lv' := [(6, .int ((y31 + Int32.ofInt 1))), (7, .int z61), (0, .ref 0), (1, .int a), (2, .int b), (3, .int z27), (4, .int y29), (5, .int y30)]) (st' := []) rfl ?_
              refine En_lv1 (addI rfl (by decide : (Int32.ofInt 1).toInt = 1) (by first | exact q_465ab79ac1 h41 | omega) (by first | exact q_f3f8e04381 h42 | omega)) (fun z72 h73 => ?_)
              refine En_Ps 1 (pc' := 40) (lv' := [(6, .int z72), (7, .int z61), (0, .ref 0), (1, .int a), (2, .int b), (3, .int z27), (4, .int y29), (5, .int y30)]) (st' := []) rfl ?_
              refine En_lv (lv := [(0, .ref 0), (1, .int a), (2, .int b), (3, .int z27), (4, .int y29), (5, .int y30), (6, .int z72)]) ⟨rfl, rfl, rfl, rfl, rfl, rfl, rfl, trivial⟩ ?_
              exact ih40 σ65 y29 y30 z72 h66 h70 ((h67 _ _ (inW tgz_0 (by decide +kernel))).trans ((h59 _ _ (inW tgz_0 (by decide +kernel))).trans ((h49 _ _ (inW tgz_0 (by decide +kernel))).trans h35))) ((h67 _ _ (inW hp (by decide +kernel))).trans ((h59 _ _ (inW hp (by decide +kernel))).trans ((h49 _ _ (inW hp (by decide +kernel))).trans h36))) (by first | exact q_77b189e83d h37 | omega) (by first | exact q_5a4d8a7e08 h38 | omega) (by first | exact q_58e6e51dcc h39 | omega) (by first | exact q_d9092b5ca1 h40 | omega) (by first | exact q_35104ce9d3 h73 h41 | omega) (by first | exact q_34dc714687 h73 h53 h50.2 | omega) (by first | exact q_6591527e3e h43 h73 | omega) (by first | exact q_c5d740bdff h73 h44 | omega)
            · refine En_Ps 2 (pc' := 75) (lv' := [(7, .int z61), (0, .ref 0), (1, .int a), (2, .int b), (3, .int z27), (4, .int y29), (5, .int y30), (6, .int y31)]) (st' := [.int y30, .int z61]) rfl ?_
              refine En_icGe _ rfl rfl rfl (fun h74 => ?_) (fun h74 => ?_)
              · refine En_Ps 1 (pc' := 89) (lv' := [(6, .int ((y31 + Int32.ofInt 1))), (7, .int z61), (0, .ref 0), (1, .int a), (2, .int b), (3, .int z27), (4, .int y29), (5, .int y30)]) (st' := []) rfl ?_
                refine En_lv1 (addI rfl (by decide : (Int32.ofInt 1).toInt = 1) (by first | exact q_465ab79ac1 h41 | omega) (by first | exact q_f3f8e04381 h42 | omega)) (fun z75 h76 => ?_)
                refine En_Ps 1 (pc' := 40) (lv' := [(6, .int z75), (7, .int z61), (0, .ref 0), (1, .int a), (2, .int b), (3, .int z27), (4, .int y29), (5, .int y30)]) (st' := []) rfl ?_
                refine En_lv (lv := [(0, .ref 0), (1, .int a), (2, .int b), (3, .int z27), (4, .int y29), (5, .int y30), (6, .int z75)]) ⟨rfl, rfl, rfl, rfl, rfl, rfl, rfl, trivial⟩ ?_
                exact ih40 σ65 y29 y30 z75 h66 h70 ((h67 _ _ (inW tgz_0 (by decide +kernel))).trans ((h59 _ _ (inW tgz_0 (by decide +kernel))).trans ((h49 _ _ (inW tgz_0 (by decide +kernel))).trans h35))) ((h67 _ _ (inW hp (by decide +kernel))).trans ((h59 _ _ (inW hp (by decide +kernel))).trans ((h49 _ _ (inW hp (by decide +kernel))).trans h36))) (by first | exact q_77b189e83d h37 | omega) (by first | exact q_5a4d8a7e08 h38 | omega) (by first | exact q_58e6e51dcc h39 | omega) (by first | exact q_d9092b5ca1 h40 | omega) (by first | exact q_35104ce9d3 h76 h41 | omega) (by first | exact q_34dc714687 h76 h53 h50.2 | omega) (by first | exact q_6591527e3e h43 h76 | omega) (by first | exact q_c5d740bdff h76 h44 | omega)
              · refine En_Ps 5 (pc' := 89) (lv' := [(6, .int ((y31 + Int32.ofInt 1))), (4, .int y31), (5, .int z61), (7, .int z61), (0, .ref 0), (1, .int a), (2, .int b), (3, .int z27)]) (st' := []) rfl ?_
                refine En_lv1 (addI rfl (by decide : (Int32.ofInt 1).toInt = 1) (by first | exact q_465ab79ac1 h41 | omega) (by first | exact q_f3f8e04381 h42 | omega)) (fun z77 h78 => ?_)
                refine En_Ps 1 (pc' := 40) (lv' := [(6, .int z77), (4, .int y31), (5, .int z61), (7, .int z61), (0, .ref 0), (1, .int a), (2, .int b), (3, .int z27)]) (st' := []) rfl ?_
                refine En_lv (lv := [(0, .ref 0), (1, .int a), (2, .int b), (3, .int z27), (4, .int y31), (5, .int z61), (6, .int z77)]) ⟨rfl, rfl, rfl, rfl, rfl, rfl, rfl, trivial⟩ ?_
                exact ih40 σ65 y31 z61 z77 h66 h70 ((h67 _ _ (inW tgz_0 (by decide +kernel))).trans ((h59 _ _ (inW tgz_0 (by decide +kernel))).trans ((h49 _ _ (inW tgz_0 (by decide +kernel))).trans h35))) ((h67 _ _ (inW hp (by decide +kernel))).trans ((h59 _ _ (inW hp (by decide +kernel))).trans ((h49 _ _ (inW hp (by decide +kernel))).trans h36))) (by first | exact q_5b439548fc h41 | omega) (by first | exact q_c15b485600 h53 h50.2 | omega) (by first | exact q_ef1e8e38bf h60.1 | omega) (by first | exact q_126a3d8de2 h74 h40 | omega) (by first | exact q_35104ce9d3 h78 h41 | omega) (by first | exact q_34dc714687 h78 h53 h50.2 | omega) (by first | exact q_2fedec469a h78 | omega) (by first | exact q_c5d740bdff h78 h44 | omega)
      have := (by decide : (Int32.ofInt (-1)).toInt = -1)
      have := (by decide : (Int32.ofInt 5).toInt = 5)
      have := (by decide : (Int32.ofInt 0).toInt = 0)
      refine En_lv (lv := [(0, .ref 0), (1, .int a), (2, .int b), (3, .int z27), (4, .int ((Int32.ofInt (-1)))), (5, .int ((Int32.ofInt 5))), (6, .int ((Int32.ofInt 0)))]) ⟨rfl, rfl, rfl, rfl, rfl, rfl, rfl, trivial⟩ ?_
      exact key40 (Int.toNat (16) + 1) σ23 ((Int32.ofInt (-1))) ((Int32.ofInt 5)) ((Int32.ofInt 0)) h24 h28 ((h25 _ _ (inW tgz_0 (by decide +kernel))).trans ((h16 _ _ (inW tgz_0 (by decide +kernel))).trans ((h5 _ _ (inW tgz_0 (by decide +kernel))).trans h_p))) ((h25 _ _ (inW hp (by decide +kernel))).trans ((h16 _ _ (inW hp (by decide +kernel))).trans ((h5 _ _ (inW hp (by decide +kernel))).trans h_sg))) (by decide) (by decide) (by decide) (by decide) (by decide) (by decide) (by omega) (by first | exact toN_lt _ | omega)
    · refine En_Ps 1 (pc' := 24) (lv' := [(0, .ref 0), (1, .int a), (2, .int b)]) (st' := [.int (((Int8.ofInt (-2)).toInt32))]) rfl ?_
      refine En_top (by decide : ((Int8.ofInt (-2)).toInt32).toInt = -2) (fun z79 h80 => ?_)
      exact En_ret (v := some (Value.int z79)) rfl rfl rfl ⟨h15, h19, z79, rfl, ⟨by first | exact q_f35c5d346c h80 | omega, by first | exact q_12a74e12a3 h80 | omega⟩⟩
/-- DoorSchool.tries(II)I -/
abbrev P_179 (σ0 : SG) (a : Int32) (b : Int32) (p : Nat) (sg : Int32) : PO := fun v σ => WT σ ∧ Fr [] σ0 σ ∧ ∃ ret : Int32, v = some (Value.int ret) ∧ -ret.toInt - 2 ≤ 0 ∧ ret.toInt - 63 ≤ 0
set_option maxRecDepth 10000 in
set_option maxHeartbeats 4000000 in
theorem c_179 (σ0 : SG) (hσ0 : WT σ0) (a : Int32) (b : Int32) (p : Nat) (hp : TG p = 18) (h_p : (σ0 0)[9]? = some (Value.ref p)) (sg : Int32) (h_sg : (σ0 p)[1]? = some (Value.int sg)) (hp0 : -sg.toInt ≤ 0) : En 5 119 none mr_179 (P_179 σ0 a b p sg) 0 [(0, .ref 0), (1, .int a), (2, .int b)] [] σ0 := by
  obtain ⟨hl_sg, hu_sg⟩ := WT_int hσ0 (g := 18) hp (by decide +kernel) (l := (-1)) (u := 4) (by decide +kernel) h_sg
  have hF0 : Fr [] σ0 σ0 := Fr_rfl
  refine En_Ps 3 (pc' := 3) (lv' := [(0, .ref 0), (1, .int a), (2, .int b)]) (st' := [.int b, .int a, .ref 0]) rfl ?_
  refine En_callV rfl rfl rfl rfl rfl rfl rfl rfl tgz_0 (by decide +kernel) rfl (c_178 σ0 hσ0 a b p hp h_p sg h_sg (by first | exact q_a555021d16 hp0 | omega)) (by decide) (by decide) (fun v2 σ3 h1 => ?_)
  obtain ⟨h4, h5, z7, rfl, h6⟩ := h1
  have h8 := Fr_trans hF0 h5 (by decide +kernel)
  refine En_Ps 2 (pc' := 8) (lv' := [(3, .int z7), (0, .ref 0), (1, .int a), (2, .int b)]) (st' := [.int z7]) rfl ?_
  refine En_iGe _ rfl rfl (fun h9 => ?_) (fun h9 => ?_)
  · refine En_Ps 3 (pc' := 18) (lv' := [(3, .int z7), (0, .ref 0), (1, .int a), (2, .int b)]) (st' := [.int ((z7 ^^^ b))]) rfl ?_
    refine En_hav (fun z10 => ?_)
    refine En_callS rfl rfl rfl rfl rfl rfl rfl rfl rfl (c_7 σ3 h4 z10) (by decide) (by decide) (fun v12 σ13 h11 => ?_)
    obtain ⟨h14, h15, z17, rfl, h16⟩ := h11
    have h18 := Fr_trans h8 h15 (by decide +kernel)
    exact En_ret (v := some (Value.int z17)) rfl rfl rfl ⟨h14, h18, z17, rfl, ⟨by first | exact q_70a249c7f8 h16.1 | omega, by first | exact q_4b9206e141 h16.2 | omega⟩⟩
  · refine En_Ps 2 (pc' := 21) (lv' := [(3, .int z7), (0, .ref 0), (1, .int a), (2, .int b)]) (st' := [.int z7]) rfl ?_
    exact En_ret (v := some (Value.int z7)) rfl rfl rfl ⟨h4, h8, z7, rfl, ⟨by first | exact q_0dccbb4f83 h6.1 | omega, by first | exact q_133b9801a0 h9 | omega⟩⟩
/-- DoorSchool.way(II)I -/
abbrev P_182 (σ0 : SG) (a : Int32) (b : Int32) (p : Nat) (sg : Int32) : PO := fun v σ => WT σ ∧ Fr [] σ0 σ ∧ ∃ ret : Int32, v = some (Value.int ret) ∧ -ret.toInt - 2 ≤ 0 ∧ ret.toInt - 17 ≤ 0
set_option maxRecDepth 10000 in
set_option maxHeartbeats 4000000 in
theorem c_182 (σ0 : SG) (hσ0 : WT σ0) (a : Int32) (b : Int32) (p : Nat) (hp : TG p = 18) (h_p : (σ0 0)[9]? = some (Value.ref p)) (sg : Int32) (h_sg : (σ0 p)[1]? = some (Value.int sg)) (hp0 : -sg.toInt ≤ 0) : En 4 92 none mr_182 (P_182 σ0 a b p sg) 0 [(0, .ref 0), (1, .int a), (2, .int b)] [] σ0 := by
  obtain ⟨hl_sg, hu_sg⟩ := WT_int hσ0 (g := 18) hp (by decide +kernel) (l := (-1)) (u := 4) (by decide +kernel) h_sg
  have hF0 : Fr [] σ0 σ0 := Fr_rfl
  refine En_Ps 1 (pc' := 1) (lv' := [(0, .ref 0), (1, .int a), (2, .int b)]) (st' := [.ref 0]) rfl ?_
  refine En_getK (j := 9) h_p rfl rfl rfl tgz_0 (by decide +kernel) ?_
  refine En_Ps 1 (pc' := 5) (lv' := [(0, .ref 0), (1, .int a), (2, .int b)]) (st' := [.int a, .ref p]) rfl ?_
  refine En_callV rfl rfl rfl rfl rfl rfl rfl rfl hp (by decide +kernel) rfl (c_47 σ0 hσ0 p hp a) (by decide) (by decide) (fun v2 σ3 h1 => ?_)
  obtain ⟨h4, h5, z7, rfl, h6⟩ := h1
  have h8 := Fr_trans hF0 h5 (by decide +kernel)
  refine En_iEq _ rfl rfl (fun h9 => ?_) (fun h9 => ?_)
  · refine En_Ps 1 (pc' := 20) (lv' := [(0, .ref 0), (1, .int a), (2, .int b)]) (st' := [.int (((Int8.ofInt (-2)).toInt32))]) rfl ?_
    refine En_top (by decide : ((Int8.ofInt (-2)).toInt32).toInt = -2) (fun z10 h11 => ?_)
    exact En_ret (v := some (Value.int z10)) rfl rfl rfl ⟨h4, h8, z10, rfl, ⟨by first | exact q_f35c5d346c h11 | omega, by first | exact q_b87250905e h11 | omega⟩⟩
  · refine En_Ps 1 (pc' := 12) (lv' := [(0, .ref 0), (1, .int a), (2, .int b)]) (st' := [.int b]) rfl ?_
    refine En_callS rfl rfl rfl rfl rfl rfl rfl rfl rfl (c_149 σ3 h4 b) (by decide) (by decide) (fun v13 σ14 h12 => ?_)
    obtain ⟨h15, h16, z18, rfl, h17⟩ := h12
    have h19 := Fr_trans h8 h16 (by decide +kernel)
    refine En_iNe _ rfl rfl (fun h20 => ?_) (fun h20 => ?_)
    · refine En_Ps 6 (pc' := 30) (lv' := [(5, .int ((Int32.ofInt 0))), (4, .int (((Int8.ofInt 17).toInt32))), (3, .int ((Int32.ofInt (-1)))), (0, .ref 0), (1, .int a), (2, .int b)]) (st' := []) rfl ?_
      have key30 : ∀ (n30 : Nat) (σ24 : SG) (y21 : Int32) (y22 : Int32) (y23 : Int32), WT σ24 → Fr [] σ0 σ24 → (σ24 0)[9]? = some (Value.ref p) → (σ24 p)[1]? = some (Value.int sg) → (-1) ≤ y21.toInt → y21.toInt ≤ 2 → 0 ≤ y22.toInt → y22.toInt ≤ 17 → 0 ≤ y23.toInt → y23.toInt ≤ 3 → y21.toInt - y23.toInt + 1 ≤ 0 → -y23.toInt + 3 < (n30 : Int) → En 4 92 none mr_182 (P_182 σ0 a b p sg) 30 [(0, .ref 0), (1, .int a), (2, .int b), (3, .int y21), (4, .int y22), (5, .int y23)] [] σ24 := by
        intro n30
        induction n30 with
        | zero =>
          intro σ24 y21 y22 y23 h25 h26 h27 h28 h29 h30 h31 h32 h33 h34 h35 h36
          first | exact (q_9f1e7068c9 h36 h34).elim | (exfalso; omega)
        | succ n30 ih30 =>
          intro σ24 y21 y22 y23 h25 h26 h27 h28 h29 h30 h31 h32 h33 h34 h35 h36
          refine En_Ps 2 (pc' := 33) (lv' := [(0, .ref 0), (1, .int a), (2, .int b), (3, .int y21), (4, .int y22), (5, .int y23)]) (st' := [.int ((Int32.ofInt 3)), .int y23]) rfl ?_
          refine En_icGe _ rfl (by decide : (Int32.ofInt 3).toInt = 3) rfl (fun h37 => ?_) (fun h37 => ?_)
          · refine En_Ps 1 (pc' := 74) (lv' := [(0, .ref 0), (1, .int a), (2, .int b), (3, .int y21), (4, .int y22), (5, .int y23)]) (st' := [.int b]) rfl ?_
            refine En_iNe _ rfl rfl (fun h38 => ?_) (fun h38 => ?_)
            · refine En_Ps 1 (pc' := 83) (lv' := [(0, .ref 0), (1, .int a), (2, .int b), (3, .int y21), (4, .int y22), (5, .int y23)]) (st' := [.int y22]) rfl ?_
              exact En_ret (v := some (Value.int y22)) rfl rfl rfl ⟨h25, h26, y22, rfl, ⟨by first | exact q_ea7f0ffdb1 h31 | omega, by first | exact q_49910fdb8e h32 | omega⟩⟩
            · refine En_Ps 2 (pc' := 83) (lv' := [(0, .ref 0), (1, .int a), (2, .int b), (3, .int y21), (4, .int y22), (5, .int y23)]) (st' := [.int y21]) rfl ?_
              exact En_ret (v := some (Value.int y21)) rfl rfl rfl ⟨h25, h26, y21, rfl, ⟨by first | exact q_fe58cd40d0 h29 | omega, by first | exact q_3a9328797d h30 | omega⟩⟩
          · refine En_Ps 3 (pc' := 40) (lv' := [(0, .ref 0), (1, .int a), (2, .int b), (3, .int y21), (4, .int y22), (5, .int y23)]) (st' := [.int y23, .int a, .ref 0]) rfl ?_
            refine En_callV rfl rfl rfl rfl rfl rfl rfl rfl tgz_0 (by decide +kernel) rfl (c_184 σ24 h25 a y23 (geI rfl (by omega)) (leI rfl (by omega)) (geI rfl (by first | exact q_58e6e51dcc h33 | omega)) (leI rfl (by first | exact q_f1519f12c0 h37 | omega)) p hp h27 sg h28 (by first | exact q_a555021d16 hp0 | omega)) (by decide) (by decide) (fun v40 σ41 h39 => ?_)
            obtain ⟨h42, h43, z45, rfl, h44⟩ := h39
            have h46 := Fr_trans h26 h43 (by decide +kernel)
            refine En_Ps 1 (pc' := 44) (lv' := [(0, .ref 0), (1, .int a), (2, .int b), (3, .int y21), (4, .int y22), (5, .int y23)]) (st' := [.ref 0, .int z45]) rfl ?_
            refine En_callV rfl rfl rfl rfl rfl rfl rfl rfl tgz_0 (by decide +kernel) rfl (c_160 σ41 h42 p hp ((h43 _ _ (inW tgz_0 (by decide +kernel))).trans h27) sg ((h43 _ _ (inW hp (by decide +kernel))).trans h28) (by first | exact q_a555021d16 hp0 | omega)) (by decide) (by decide) (fun v48 σ49 h47 => ?_)
            obtain ⟨h50, h51, z53, rfl, h52⟩ := h47
            have h54 := Fr_trans h46 h51 (by decide +kernel)
            refine En_Ps 1 (pc' := 48) (lv' := [(0, .ref 0), (1, .int a), (2, .int b), (3, .int y21), (4, .int y22), (5, .int y23)]) (st' := [.int ((z45 ^^^ z53))]) rfl ?_
            refine En_hav (fun z55 => ?_)
            refine En_callS rfl rfl rfl rfl rfl rfl rfl rfl rfl (c_7 σ49 h50 z55) (by decide) (by decide) (fun v57 σ58 h56 => ?_)
            obtain ⟨h59, h60, z62, rfl, h61⟩ := h56
            have h63 := Fr_trans h54 h60 (by decide +kernel)
            refine En_Ps 3 (pc' := 57) (lv' := [(6, .int z62), (0, .ref 0), (1, .int a), (2, .int b), (3, .int y21), (4, .int y22), (5, .int y23)]) (st' := [.int y22, .int z62]) rfl ?_
            refine En_icGe _ rfl rfl rfl (fun h64 => ?_) (fun h64 => ?_)
            · refine En_Ps 1 (pc' := 70) (lv' := [(5, .int ((y23 + Int32.ofInt 1))), (6, .int z62), (0, .ref 0), (1, .int a), (2, .int b), (3, .int y21), (4, .int y22)]) (st' := []) rfl ?_
              refine En_lv1 (addI rfl (by decide : (Int32.ofInt 1).toInt = 1) (by first | exact q_465ab79ac1 h33 | omega) (by first | exact q_6ae830b01d h37 | omega)) (fun z65 h66 => ?_)
              refine En_Ps 1 (pc' := 30) (lv' := [(5, .int z65), (6, .int z62), (0, .ref 0), (1, .int a), (2, .int b), (3, .int y21), (4, .int y22)]) (st' := []) rfl ?_
              refine En_lv (lv := [(0, .ref 0), (1, .int a), (2, .int b), (3, .int y21), (4, .int y22), (5, .int z65)]) ⟨rfl, rfl, rfl, rfl, rfl, rfl, trivial⟩ ?_
              exact ih30 σ58 y21 y22 z65 h59 h63 ((h60 _ _ (inW tgz_0 (by decide +kernel))).trans ((h51 _ _ (inW tgz_0 (by decide +kernel))).trans ((h43 _ _ (inW tgz_0 (by decide +kernel))).trans h27))) ((h60 _ _ (inW hp (by decide +kernel))).trans ((h51 _ _ (inW hp (by decide +kernel))).trans ((h43 _ _ (inW hp (by decide +kernel))).trans h28))) (by first | exact q_77b189e83d h29 | omega) (by first | exact q_a85463bd0d h30 | omega) (by first | exact q_58e6e51dcc h31 | omega) (by first | exact q_009443cf7f h32 | omega) (by first | exact q_35104ce9d3 h66 h33 | omega) (by first | exact q_84805d5d8e h66 h37 | omega) (by first | exact q_6591527e3e h35 h66 | omega) (by first | exact q_6272716eb4 h66 h36 | omega)
            · refine En_Ps 5 (pc' := 70) (lv' := [(5, .int ((y23 + Int32.ofInt 1))), (3, .int y23), (4, .int z62), (6, .int z62), (0, .ref 0), (1, .int a), (2, .int b)]) (st' := []) rfl ?_
              refine En_lv1 (addI rfl (by decide : (Int32.ofInt 1).toInt = 1) (by first | exact q_465ab79ac1 h33 | omega) (by first | exact q_6ae830b01d h37 | omega)) (fun z67 h68 => ?_)
              refine En_Ps 1 (pc' := 30) (lv' := [(5, .int z67), (3, .int y23), (4, .int z62), (6, .int z62), (0, .ref 0), (1, .int a), (2, .int b)]) (st' := []) rfl ?_
              refine En_lv (lv := [(0, .ref 0), (1, .int a), (2, .int b), (3, .int y23), (4, .int z62), (5, .int z67)]) ⟨rfl, rfl, rfl, rfl, rfl, rfl, trivial⟩ ?_
              exact ih30 σ58 y23 z62 z67 h59 h63 ((h60 _ _ (inW tgz_0 (by decide +kernel))).trans ((h51 _ _ (inW tgz_0 (by decide +kernel))).trans ((h43 _ _ (inW tgz_0 (by decide +kernel))).trans h27))) ((h60 _ _ (inW hp (by decide +kernel))).trans ((h51 _ _ (inW hp (by decide +kernel))).trans ((h43 _ _ (inW hp (by decide +kernel))).trans h28))) (by first | exact q_5b439548fc h33 | omega) (by first | exact q_f1519f12c0 h37 | omega) (by first | exact q_ef1e8e38bf h61.1 | omega) (by first | exact q_5f93834205 h64 h32 | omega) (by first | exact q_35104ce9d3 h68 h33 | omega) (by first | exact q_84805d5d8e h68 h37 | omega) (by first | exact q_2fedec469a h68 | omega) (by first | exact q_6272716eb4 h68 h36 | omega)
      have := (by decide : (Int32.ofInt (-1)).toInt = -1)
      have := (by decide : ((Int8.ofInt 17).toInt32).toInt = 17)
      have := (by decide : (Int32.ofInt 0).toInt = 0)
      refine En_lv (lv := [(0, .ref 0), (1, .int a), (2, .int b), (3, .int ((Int32.ofInt (-1)))), (4, .int (((Int8.ofInt 17).toInt32))), (5, .int ((Int32.ofInt 0)))]) ⟨rfl, rfl, rfl, rfl, rfl, rfl, trivial⟩ ?_
      exact key30 (Int.toNat (3) + 1) σ14 ((Int32.ofInt (-1))) (((Int8.ofInt 17).toInt32)) ((Int32.ofInt 0)) h15 h19 ((h16 _ _ (inW tgz_0 (by decide +kernel))).trans ((h5 _ _ (inW tgz_0 (by decide +kernel))).trans h_p)) ((h16 _ _ (inW hp (by decide +kernel))).trans ((h5 _ _ (inW hp (by decide +kernel))).trans h_sg)) (by decide) (by decide) (by decide) (by decide) (by decide) (by decide) (by omega) (by first | exact toN_lt _ | omega)
    · refine En_Ps 1 (pc' := 20) (lv' := [(0, .ref 0), (1, .int a), (2, .int b)]) (st' := [.int (((Int8.ofInt (-2)).toInt32))]) rfl ?_
      refine En_top (by decide : ((Int8.ofInt (-2)).toInt32).toInt = -2) (fun z69 h70 => ?_)
      exact En_ret (v := some (Value.int z69)) rfl rfl rfl ⟨h15, h19, z69, rfl, ⟨by first | exact q_f35c5d346c h70 | omega, by first | exact q_b87250905e h70 | omega⟩⟩
end
/-! 32.lx.c14 -/
section
/-- DoorSchool.why(II)I -/
abbrev P_183 (σ0 : SG) (a : Int32) (b : Int32) (p : Nat) (sg : Int32) : PO := fun v σ => WT σ ∧ Fr [] σ0 σ ∧ ∃ ret : Int32, v = some (Value.int ret) ∧ -ret.toInt - 2 ≤ 0 ∧ ret.toInt - 12 ≤ 0
set_option maxRecDepth 10000 in
set_option maxHeartbeats 4000000 in
theorem c_183 (σ0 : SG) (hσ0 : WT σ0) (a : Int32) (b : Int32) (p : Nat) (hp : TG p = 18) (h_p : (σ0 0)[9]? = some (Value.ref p)) (sg : Int32) (h_sg : (σ0 p)[1]? = some (Value.int sg)) (hp0 : -sg.toInt ≤ 0) : En 2 45 none mr_183 (P_183 σ0 a b p sg) 0 [(0, .ref 0), (1, .int a), (2, .int b)] [] σ0 := by
  obtain ⟨hl_sg, hu_sg⟩ := WT_int hσ0 (g := 18) hp (by decide +kernel) (l := (-1)) (u := 4) (by decide +kernel) h_sg
  have hF0 : Fr [] σ0 σ0 := Fr_rfl
  refine En_Ps 1 (pc' := 1) (lv' := [(0, .ref 0), (1, .int a), (2, .int b)]) (st' := [.ref 0]) rfl ?_
  refine En_getK (j := 9) h_p rfl rfl rfl tgz_0 (by decide +kernel) ?_
  refine En_Ps 1 (pc' := 5) (lv' := [(0, .ref 0), (1, .int a), (2, .int b)]) (st' := [.int a, .ref p]) rfl ?_
  refine En_callV rfl rfl rfl rfl rfl rfl rfl rfl hp (by decide +kernel) rfl (c_47 σ0 hσ0 p hp a) (by decide) (by decide) (fun v2 σ3 h1 => ?_)
  obtain ⟨h4, h5, z7, rfl, h6⟩ := h1
  have h8 := Fr_trans hF0 h5 (by decide +kernel)
  refine En_iEq _ rfl rfl (fun h9 => ?_) (fun h9 => ?_)
  · refine En_Ps 1 (pc' := 24) (lv' := [(0, .ref 0), (1, .int a), (2, .int b)]) (st' := [.int (((Int8.ofInt (-2)).toInt32))]) rfl ?_
    refine En_top (by decide : ((Int8.ofInt (-2)).toInt32).toInt = -2) (fun z10 h11 => ?_)
    exact En_ret (v := some (Value.int z10)) rfl rfl rfl ⟨h4, h8, z10, rfl, ⟨by first | exact q_f35c5d346c h11 | omega, by first | exact q_5a5c18c2ab h11 | omega⟩⟩
  · refine En_Ps 1 (pc' := 12) (lv' := [(0, .ref 0), (1, .int a), (2, .int b)]) (st' := [.ref 0]) rfl ?_
    refine En_getK (j := 9) ((h5 _ _ (inW tgz_0 (by decide +kernel))).trans h_p) rfl rfl rfl tgz_0 (by decide +kernel) ?_
    refine En_Ps 1 (pc' := 16) (lv' := [(0, .ref 0), (1, .int a), (2, .int b)]) (st' := [.int b, .ref p]) rfl ?_
    refine En_callV rfl rfl rfl rfl rfl rfl rfl rfl hp (by decide +kernel) rfl (c_49 σ3 h4 p hp b sg ((h5 _ _ (inW hp (by decide +kernel))).trans h_sg) (by first | exact q_a555021d16 hp0 | omega)) (by decide) (by decide) (fun v13 σ14 h12 => ?_)
    obtain ⟨h15, h16, z18, rfl, h17⟩ := h12
    have h19 := Fr_trans h8 h16 (by decide +kernel)
    refine En_iNe _ rfl rfl (fun h20 => ?_) (fun h20 => ?_)
    · refine En_Ps 1 (pc' := 26) (lv' := [(0, .ref 0), (1, .int a), (2, .int b)]) (st' := [.ref 0]) rfl ?_
      refine En_getK (j := 9) ((h16 _ _ (inW tgz_0 (by decide +kernel))).trans ((h5 _ _ (inW tgz_0 (by decide +kernel))).trans h_p)) rfl rfl rfl tgz_0 (by decide +kernel) ?_
      refine En_Ps 1 (pc' := 30) (lv' := [(0, .ref 0), (1, .int a), (2, .int b)]) (st' := [.int a, .ref p]) rfl ?_
      refine En_callV rfl rfl rfl rfl rfl rfl rfl rfl hp (by decide +kernel) rfl (c_52 σ14 h15 p hp a (geI rfl (by omega)) (leI rfl (by omega))) (by decide) (by decide) (fun v22 σ23 h21 => ?_)
      obtain ⟨h24, h25, a27, ha27, rfl, h26⟩ := h21
      have h28 := Fr_trans h19 h25 (by decide +kernel)
      refine En_Ps 2 (pc' := 35) (lv' := [(3, .ref a27), (0, .ref 0), (1, .int a), (2, .int b)]) (st' := [.ref a27]) rfl ?_
      refine En_getI (j := 1) (l := 0) (u := 2) rfl rfl rfl ha27 (by decide +kernel) h24 (by decide +kernel) (fun z30 h29 h31 h32 => ?_)
      rcases (show z30.toInt = 0 ∨ z30.toInt = 2 ∨ z30.toInt = 1 by omega) with h33 | h33 | h33
      · refine En_lsw (t := 64) (n := 0) rfl h33 rfl (by decide +kernel) ?_
        refine En_Ps 1 (pc' := 65) (lv' := [(3, .ref a27), (0, .ref 0), (1, .int a), (2, .int b)]) (st' := [.ref a27]) rfl ?_
        refine En_getR (j := 0) (g' := 20) (u := 0) rfl rfl rfl ha27 (by decide +kernel) h24 (by decide +kernel) (fun a35 h34 ha35 => ?_)
        refine En_Ps 1 (pc' := 69) (lv' := [(3, .ref a27), (0, .ref 0), (1, .int a), (2, .int b)]) (st' := [.int b, .ref a35]) rfl ?_
        refine En_callV rfl rfl rfl rfl rfl rfl rfl rfl ha35 (by decide +kernel) rfl (c_36 σ23 h24 a35 ha35 b) (by decide) (by decide) (fun v37 σ38 h36 => ?_)
        obtain ⟨h39, h40, z42, rfl, h41⟩ := h36
        have h43 := Fr_trans h28 h40 (by decide +kernel)
        exact En_ret (v := some (Value.int z42)) rfl rfl rfl ⟨h39, h43, z42, rfl, ⟨by first | exact q_108dc72d76 h41.1 | omega, by first | exact q_1d71e39f5f h41.2 | omega⟩⟩
      · refine En_lsw (t := 73) (n := 2) rfl h33 rfl (by decide +kernel) ?_
        refine En_Ps 1 (pc' := 74) (lv' := [(3, .ref a27), (0, .ref 0), (1, .int a), (2, .int b)]) (st' := [.ref a27]) rfl ?_
        refine En_getR (j := 0) (g' := 20) (u := 0) rfl rfl rfl ha27 (by decide +kernel) h24 (by decide +kernel) (fun a45 h44 ha45 => ?_)
        refine En_Ps 1 (pc' := 78) (lv' := [(3, .ref a27), (0, .ref 0), (1, .int a), (2, .int b)]) (st' := [.int b, .ref a45]) rfl ?_
        refine En_callV rfl rfl rfl rfl rfl rfl rfl rfl ha45 (by decide +kernel) rfl (c_37 σ23 h24 a45 ha45 b) (by decide) (by decide) (fun v47 σ48 h46 => ?_)
        obtain ⟨h49, h50, z52, rfl, h51⟩ := h46
        have h53 := Fr_trans h28 h50 (by decide +kernel)
        exact En_ret (v := some (Value.int z52)) rfl rfl rfl ⟨h49, h53, z52, rfl, ⟨by first | exact q_108dc72d76 h51.1 | omega, by first | exact q_1d71e39f5f h51.2 | omega⟩⟩
      · refine En_lsw (t := 82) (n := 1) rfl h33 rfl (by decide +kernel) ?_
        refine En_Ps 1 (pc' := 83) (lv' := [(3, .ref a27), (0, .ref 0), (1, .int a), (2, .int b)]) (st' := [.int ((Int32.ofInt (-1)))]) rfl ?_
        refine En_top (by decide : (Int32.ofInt (-1)).toInt = -1) (fun z54 h55 => ?_)
        exact En_ret (v := some (Value.int z54)) rfl rfl rfl ⟨h24, h28, z54, rfl, ⟨by first | exact q_e1de8c7867 h55 | omega, by first | exact q_af8bea0708 h55 | omega⟩⟩
    · refine En_Ps 1 (pc' := 24) (lv' := [(0, .ref 0), (1, .int a), (2, .int b)]) (st' := [.int (((Int8.ofInt (-2)).toInt32))]) rfl ?_
      refine En_top (by decide : ((Int8.ofInt (-2)).toInt32).toInt = -2) (fun z56 h57 => ?_)
      exact En_ret (v := some (Value.int z56)) rfl rfl rfl ⟨h15, h19, z56, rfl, ⟨by first | exact q_f35c5d346c h57 | omega, by first | exact q_5a5c18c2ab h57 | omega⟩⟩
/-- DoorSchool.write(IIJ)I -/
abbrev P_185 (σ0 : SG) (a : Int32) (b : Int32) (c : Int64) (p : Nat) (sg : Int32) : PO := fun v σ => WT σ ∧ Fr [(34, 0)] σ0 σ ∧ ∃ ret : Int32, v = some (Value.int ret) ∧ -ret.toInt - 7 ≤ 0 ∧ ret.toInt ≤ 0
set_option maxRecDepth 10000 in
set_option maxHeartbeats 4000000 in
theorem c_185 (σ0 : SG) (hσ0 : WT σ0) (a : Int32) (b : Int32) (c : Int64) (p : Nat) (hp : TG p = 18) (h_p : (σ0 0)[9]? = some (Value.ref p)) (sg : Int32) (h_sg : (σ0 p)[1]? = some (Value.int sg)) (hp0 : -sg.toInt ≤ 0) : En 1 24 none mr_185 (P_185 σ0 a b c p sg) 0 [(0, .ref 0), (1, .int a), (2, .int b), (3, .long c)] [] σ0 := by
  obtain ⟨hl_sg, hu_sg⟩ := WT_int hσ0 (g := 18) hp (by decide +kernel) (l := (-1)) (u := 4) (by decide +kernel) h_sg
  have hF0 : Fr [(34, 0)] σ0 σ0 := Fr_rfl
  refine En_Ps 1 (pc' := 1) (lv' := [(0, .ref 0), (1, .int a), (2, .int b), (3, .long c)]) (st' := [.int a]) rfl ?_
  refine En_callS rfl rfl rfl rfl rfl rfl rfl rfl rfl (c_147 σ0 hσ0 a) (by decide) (by decide) (fun v2 σ3 h1 => ?_)
  obtain ⟨h4, h5, z7, rfl, h6⟩ := h1
  have h8 := Fr_trans hF0 h5 (by decide +kernel)
  refine En_iNe _ rfl rfl (fun h9 => ?_) (fun h9 => ?_)
  · refine En_Ps 1 (pc' := 11) (lv' := [(0, .ref 0), (1, .int a), (2, .int b), (3, .long c)]) (st' := [.ref 0]) rfl ?_
    refine En_getU (j := 6) (u := 150) (g' := 32) (q := 0) rfl rfl rfl tgz_0 (by decide +kernel) h4 (by decide +kernel) un_32_150 (fun h10 => ?_)
    refine En_Ps 1 (pc' := 15) (lv' := [(0, .ref 0), (1, .int a), (2, .int b), (3, .long c)]) (st' := [.int a, .ref 150]) rfl ?_
    refine En_aald (g' := 33) (u := 0) rfl rfl tgz_150 (by decide +kernel) h4 (by omega) (lnI (by decide +kernel : LN _ = 4) (by omega)) (FTsgl (by decide +kernel)) (fun a13 h12 ha13 => ?_)
    refine En_Ps 2 (pc' := 20) (lv' := [(5, .ref a13), (0, .ref 0), (1, .int a), (2, .int b), (3, .long c)]) (st' := [.ref a13]) rfl ?_
    refine En_getI (j := 1) (l := 0) (u := 1) rfl rfl rfl ha13 (by decide +kernel) h4 (by decide +kernel) (fun z15 h14 h16 h17 => ?_)
    refine En_iNe _ rfl rfl (fun h18 => ?_) (fun h18 => ?_)
    · refine En_Ps 1 (pc' := 30) (lv' := [(5, .ref a13), (0, .ref 0), (1, .int a), (2, .int b), (3, .long c)]) (st' := [.int b]) rfl ?_
      refine En_iLt _ rfl rfl (fun h19 => ?_) (fun h19 => ?_)
      · refine En_Ps 1 (pc' := 44) (lv' := [(5, .ref a13), (0, .ref 0), (1, .int a), (2, .int b), (3, .long c)]) (st' := [.int (((Int8.ofInt (-7)).toInt32))]) rfl ?_
        refine En_top (by decide : ((Int8.ofInt (-7)).toInt32).toInt = -7) (fun z20 h21 => ?_)
        exact En_ret (v := some (Value.int z20)) rfl rfl rfl ⟨h4, h8, z20, rfl, ⟨by first | exact q_5f0d62c7c2 h21 | omega, by first | exact q_d916b56ab6 h21 | omega⟩⟩
      · refine En_Ps 2 (pc' := 36) (lv' := [(5, .ref a13), (0, .ref 0), (1, .int a), (2, .int b), (3, .long c)]) (st' := [.ref a13, .int b]) rfl ?_
        refine En_getI (j := 3) (l := 0) (u := 60) rfl rfl rfl ha13 (by decide +kernel) h4 (by decide +kernel) (fun z23 h22 h24 h25 => ?_)
        refine En_icLt _ rfl rfl rfl (fun h26 => ?_) (fun h26 => ?_)
        · refine En_Ps 3 (pc' := 49) (lv' := [(5, .ref a13), (0, .ref 0), (1, .int a), (2, .int b), (3, .long c)]) (st' := [.long c, .int b, .ref a13]) rfl ?_
          refine En_callV rfl rfl rfl rfl rfl rfl rfl rfl ha13 (by decide +kernel) rfl (c_88 σ3 h4 a13 ha13 b c (geI rfl (by first | exact q_58e6e51dcc h19 | omega)) (leI rfl (by first | exact q_a0748cdabb h26 h25 | omega))) (by decide) (by decide) (fun v28 σ29 h27 => ?_)
          obtain ⟨h30, h31, rfl, h32⟩ := h27
          have h33 := Fr_trans h8 h31 (by decide +kernel)
          refine En_Ps 1 (pc' := 53) (lv' := [(5, .ref a13), (0, .ref 0), (1, .int a), (2, .int b), (3, .long c)]) (st' := [.int ((Int32.ofInt 0))]) rfl ?_
          refine En_top (by decide : (Int32.ofInt 0).toInt = 0) (fun z34 h35 => ?_)
          exact En_ret (v := some (Value.int z34)) rfl rfl rfl ⟨h30, h33, z34, rfl, ⟨by first | exact q_6d44640201 h35 | omega, by first | exact q_c5d285f1b9 h35 | omega⟩⟩
        · refine En_Ps 1 (pc' := 44) (lv' := [(5, .ref a13), (0, .ref 0), (1, .int a), (2, .int b), (3, .long c)]) (st' := [.int (((Int8.ofInt (-7)).toInt32))]) rfl ?_
          refine En_top (by decide : ((Int8.ofInt (-7)).toInt32).toInt = -7) (fun z36 h37 => ?_)
          exact En_ret (v := some (Value.int z36)) rfl rfl rfl ⟨h4, h8, z36, rfl, ⟨by first | exact q_5f0d62c7c2 h37 | omega, by first | exact q_d916b56ab6 h37 | omega⟩⟩
    · refine En_Ps 1 (pc' := 28) (lv' := [(5, .ref a13), (0, .ref 0), (1, .int a), (2, .int b), (3, .long c)]) (st' := [.int (((Int8.ofInt (-6)).toInt32))]) rfl ?_
      refine En_top (by decide : ((Int8.ofInt (-6)).toInt32).toInt = -6) (fun z38 h39 => ?_)
      exact En_ret (v := some (Value.int z38)) rfl rfl rfl ⟨h4, h8, z38, rfl, ⟨by first | exact q_4b9e07ab0d h39 | omega, by first | exact q_9bcb887de1 h39 | omega⟩⟩
  · refine En_Ps 1 (pc' := 9) (lv' := [(0, .ref 0), (1, .int a), (2, .int b), (3, .long c)]) (st' := [.int (((Int8.ofInt (-2)).toInt32))]) rfl ?_
    refine En_top (by decide : ((Int8.ofInt (-2)).toInt32).toInt = -2) (fun z40 h41 => ?_)
    exact En_ret (v := some (Value.int z40)) rfl rfl rfl ⟨h4, h8, z40, rfl, ⟨by first | exact q_070af0ac3b h41 | omega, by first | exact q_bbb39ffa1e h41 | omega⟩⟩
/-- DoorSchool.wrong(I)I -/
abbrev P_186 (σ0 : SG) (a : Int32) (p : Nat) (sg : Int32) : PO := fun v σ => WT σ ∧ Fr [] σ0 σ ∧ ∃ ret : Int32, v = some (Value.int ret) ∧ -ret.toInt - 2 ≤ 0 ∧ ret.toInt - 12 ≤ 0
set_option maxRecDepth 10000 in
set_option maxHeartbeats 4000000 in
theorem c_186 (σ0 : SG) (hσ0 : WT σ0) (a : Int32) (p : Nat) (hp : TG p = 18) (h_p : (σ0 0)[9]? = some (Value.ref p)) (sg : Int32) (h_sg : (σ0 p)[1]? = some (Value.int sg)) (hp0 : -sg.toInt ≤ 0) : En 4 92 none mr_186 (P_186 σ0 a p sg) 0 [(0, .ref 0), (1, .int a)] [] σ0 := by
  obtain ⟨hl_sg, hu_sg⟩ := WT_int hσ0 (g := 18) hp (by decide +kernel) (l := (-1)) (u := 4) (by decide +kernel) h_sg
  have hF0 : Fr [] σ0 σ0 := Fr_rfl
  refine En_Ps 1 (pc' := 1) (lv' := [(0, .ref 0), (1, .int a)]) (st' := [.ref 0]) rfl ?_
  refine En_getK (j := 9) h_p rfl rfl rfl tgz_0 (by decide +kernel) ?_
  refine En_Ps 1 (pc' := 5) (lv' := [(0, .ref 0), (1, .int a)]) (st' := [.int a, .ref p]) rfl ?_
  refine En_callV rfl rfl rfl rfl rfl rfl rfl rfl hp (by decide +kernel) rfl (c_47 σ0 hσ0 p hp a) (by decide) (by decide) (fun v2 σ3 h1 => ?_)
  obtain ⟨h4, h5, z7, rfl, h6⟩ := h1
  have h8 := Fr_trans hF0 h5 (by decide +kernel)
  refine En_iEq _ rfl rfl (fun h9 => ?_) (fun h9 => ?_)
  · refine En_Ps 1 (pc' := 31) (lv' := [(0, .ref 0), (1, .int a)]) (st' := [.int (((Int8.ofInt (-2)).toInt32))]) rfl ?_
    refine En_top (by decide : ((Int8.ofInt (-2)).toInt32).toInt = -2) (fun z10 h11 => ?_)
    exact En_ret (v := some (Value.int z10)) rfl rfl rfl ⟨h4, h8, z10, rfl, ⟨by first | exact q_f35c5d346c h11 | omega, by first | exact q_5a5c18c2ab h11 | omega⟩⟩
  · refine En_Ps 1 (pc' := 12) (lv' := [(0, .ref 0), (1, .int a)]) (st' := [.ref 0]) rfl ?_
    refine En_getK (j := 9) ((h5 _ _ (inW tgz_0 (by decide +kernel))).trans h_p) rfl rfl rfl tgz_0 (by decide +kernel) ?_
    refine En_getR (j := 5) (g' := 20) (u := 0) rfl rfl rfl hp (by decide +kernel) h4 (by decide +kernel) (fun a13 h12 ha13 => ?_)
    refine En_Ps 2 (pc' := 20) (lv' := [(0, .ref 0), (1, .int a)]) (st' := [.int a, .ref 0, .ref a13]) rfl ?_
    refine En_callV rfl rfl rfl rfl rfl rfl rfl rfl tgz_0 (by decide +kernel) rfl (c_114 σ3 h4 a (geI rfl (by omega)) (leI rfl (by omega)) p hp ((h5 _ _ (inW tgz_0 (by decide +kernel))).trans h_p) sg ((h5 _ _ (inW hp (by decide +kernel))).trans h_sg) (by first | exact q_a555021d16 hp0 | omega)) (by decide) (by decide) (fun v15 σ16 h14 => ?_)
    obtain ⟨h17, h18, z20, rfl, h19⟩ := h14
    have h21 := Fr_trans h8 h18 (by decide +kernel)
    refine En_callV rfl rfl rfl rfl rfl rfl rfl rfl ha13 (by decide +kernel) rfl (c_34 σ16 h17 a13 ha13 z20) (by decide) (by decide) (fun v23 σ24 h22 => ?_)
    obtain ⟨h25, h26, z28, rfl, h27⟩ := h22
    have h29 := Fr_trans h21 h26 (by decide +kernel)
    refine En_Ps 1 (pc' := 31) (lv' := [(0, .ref 0), (1, .int a)]) (st' := [.int z28]) rfl ?_
    exact En_ret (v := some (Value.int z28)) rfl rfl rfl ⟨h25, h29, z28, rfl, ⟨by first | exact q_108dc72d76 h27.1 | omega, by first | exact q_1d71e39f5f h27.2 | omega⟩⟩
/-- DoorSchool.years(IIII)I -/
abbrev P_187 (σ0 : SG) (a : Int32) (b : Int32) (c : Int32) (d : Int32) (p : Nat) (sg : Int32) : PO := fun v σ => WT σ ∧ Fr [] σ0 σ ∧ ∃ ret : Int32, v = some (Value.int ret) ∧ -ret.toInt - 2 ≤ 0 ∧ ret.toInt - 20 ≤ 0
set_option maxRecDepth 10000 in
set_option maxHeartbeats 4000000 in
theorem c_187 (σ0 : SG) (hσ0 : WT σ0) (a : Int32) (b : Int32) (c : Int32) (d : Int32) (p : Nat) (hp : TG p = 18) (h_p : (σ0 0)[9]? = some (Value.ref p)) (sg : Int32) (h_sg : (σ0 p)[1]? = some (Value.int sg)) (hp0 : -sg.toInt ≤ 0) : En 5 118 none mr_187 (P_187 σ0 a b c d p sg) 0 [(0, .ref 0), (1, .int a), (2, .int b), (3, .int c), (4, .int d)] [] σ0 := by
  obtain ⟨hl_sg, hu_sg⟩ := WT_int hσ0 (g := 18) hp (by decide +kernel) (l := (-1)) (u := 4) (by decide +kernel) h_sg
  have hF0 : Fr [] σ0 σ0 := Fr_rfl
  refine En_Ps 1 (pc' := 1) (lv' := [(0, .ref 0), (1, .int a), (2, .int b), (3, .int c), (4, .int d)]) (st' := [.int a]) rfl ?_
  refine En_callS rfl rfl rfl rfl rfl rfl rfl rfl rfl (c_146 σ0 hσ0 a) (by decide) (by decide) (fun v2 σ3 h1 => ?_)
  obtain ⟨h4, h5, z7, rfl, h6⟩ := h1
  have h8 := Fr_trans hF0 h5 (by decide +kernel)
  refine En_iEq _ rfl rfl (fun h9 => ?_) (fun h9 => ?_)
  · refine En_Ps 1 (pc' := 31) (lv' := [(0, .ref 0), (1, .int a), (2, .int b), (3, .int c), (4, .int d)]) (st' := [.int (((Int8.ofInt (-2)).toInt32))]) rfl ?_
    refine En_top (by decide : ((Int8.ofInt (-2)).toInt32).toInt = -2) (fun z10 h11 => ?_)
    exact En_ret (v := some (Value.int z10)) rfl rfl rfl ⟨h4, h8, z10, rfl, ⟨by first | exact q_f35c5d346c h11 | omega, by first | exact q_1be818c737 h11 | omega⟩⟩
  · refine En_Ps 2 (pc' := 9) (lv' := [(0, .ref 0), (1, .int a), (2, .int b), (3, .int c), (4, .int d)]) (st' := [.int ((Int32.ofInt 1)), .int b]) rfl ?_
    refine En_icLt _ rfl (by decide : (Int32.ofInt 1).toInt = 1) rfl (fun h12 => ?_) (fun h12 => ?_)
    · refine En_Ps 1 (pc' := 31) (lv' := [(0, .ref 0), (1, .int a), (2, .int b), (3, .int c), (4, .int d)]) (st' := [.int (((Int8.ofInt (-2)).toInt32))]) rfl ?_
      refine En_top (by decide : ((Int8.ofInt (-2)).toInt32).toInt = -2) (fun z13 h14 => ?_)
      exact En_ret (v := some (Value.int z13)) rfl rfl rfl ⟨h4, h8, z13, rfl, ⟨by first | exact q_f35c5d346c h14 | omega, by first | exact q_1be818c737 h14 | omega⟩⟩
    · refine En_Ps 2 (pc' := 15) (lv' := [(0, .ref 0), (1, .int a), (2, .int b), (3, .int c), (4, .int d)]) (st' := [.int (((Int8.ofInt 20).toInt32)), .int b]) rfl ?_
      refine En_icGt _ rfl (by decide : ((Int8.ofInt 20).toInt32).toInt = 20) rfl (fun h15 => ?_) (fun h15 => ?_)
      · refine En_Ps 1 (pc' := 31) (lv' := [(0, .ref 0), (1, .int a), (2, .int b), (3, .int c), (4, .int d)]) (st' := [.int (((Int8.ofInt (-2)).toInt32))]) rfl ?_
        refine En_top (by decide : ((Int8.ofInt (-2)).toInt32).toInt = -2) (fun z16 h17 => ?_)
        exact En_ret (v := some (Value.int z16)) rfl rfl rfl ⟨h4, h8, z16, rfl, ⟨by first | exact q_f35c5d346c h17 | omega, by first | exact q_1be818c737 h17 | omega⟩⟩
      · refine En_Ps 1 (pc' := 19) (lv' := [(0, .ref 0), (1, .int a), (2, .int b), (3, .int c), (4, .int d)]) (st' := [.ref 0]) rfl ?_
        refine En_getK (j := 9) ((h5 _ _ (inW tgz_0 (by decide +kernel))).trans h_p) rfl rfl rfl tgz_0 (by decide +kernel) ?_
        refine En_Ps 1 (pc' := 23) (lv' := [(0, .ref 0), (1, .int a), (2, .int b), (3, .int c), (4, .int d)]) (st' := [.int c, .ref p]) rfl ?_
        refine En_callV rfl rfl rfl rfl rfl rfl rfl rfl hp (by decide +kernel) rfl (c_47 σ3 h4 p hp c) (by decide) (by decide) (fun v19 σ20 h18 => ?_)
        obtain ⟨h21, h22, z24, rfl, h23⟩ := h18
        have h25 := Fr_trans h8 h22 (by decide +kernel)
        refine En_iNe _ rfl rfl (fun h26 => ?_) (fun h26 => ?_)
        · refine En_Ps 4 (pc' := 38) (lv' := [(6, .int ((Int32.ofInt 0))), (5, .int ((Int32.ofInt 0))), (0, .ref 0), (1, .int a), (2, .int b), (3, .int c), (4, .int d)]) (st' := []) rfl ?_
          have key38 : ∀ (n38 : Nat) (σ29 : SG) (y27 : Int32) (y28 : Int32), WT σ29 → Fr [] σ0 σ29 → (σ29 0)[9]? = some (Value.ref p) → (σ29 p)[1]? = some (Value.int sg) → 0 ≤ y27.toInt → y27.toInt ≤ 20 → 0 ≤ y28.toInt → y28.toInt ≤ 20 → y28.toInt - b.toInt ≤ 0 → y27.toInt - y28.toInt ≤ 0 → b.toInt - y28.toInt < (n38 : Int) → En 5 118 none mr_187 (P_187 σ0 a b c d p sg) 38 [(0, .ref 0), (1, .int a), (2, .int b), (3, .int c), (4, .int d), (5, .int y27), (6, .int y28)] [] σ29 := by
            intro n38
            induction n38 with
            | zero =>
              intro σ29 y27 y28 h30 h31 h32 h33 h34 h35 h36 h37 h38 h39 h40
              first | exact (q_14257feae7 h38 h40).elim | (exfalso; omega)
            | succ n38 ih38 =>
              intro σ29 y27 y28 h30 h31 h32 h33 h34 h35 h36 h37 h38 h39 h40
              refine En_Ps 2 (pc' := 41) (lv' := [(0, .ref 0), (1, .int a), (2, .int b), (3, .int c), (4, .int d), (5, .int y27), (6, .int y28)]) (st' := [.int b, .int y28]) rfl ?_
              refine En_icGe _ rfl rfl rfl (fun h41 => ?_) (fun h41 => ?_)
              · refine En_Ps 1 (pc' := 73) (lv' := [(0, .ref 0), (1, .int a), (2, .int b), (3, .int c), (4, .int d), (5, .int y27), (6, .int y28)]) (st' := [.int y27]) rfl ?_
                exact En_ret (v := some (Value.int y27)) rfl rfl rfl ⟨h30, h31, y27, rfl, ⟨by first | exact q_ea7f0ffdb1 h34 | omega, by first | exact q_dfa22fc04d h35 | omega⟩⟩
              · refine En_Ps 5 (pc' := 50) (lv' := [(0, .ref 0), (1, .int a), (2, .int b), (3, .int c), (4, .int d), (5, .int y27), (6, .int y28)]) (st' := [.int ((a + y28)), .ref 0, .ref 0]) rfl ?_
                refine En_top (addI rfl rfl (by omega) (by omega)) (fun z42 h43 => ?_)
                refine En_Ps 1 (pc' := 51) (lv' := [(0, .ref 0), (1, .int a), (2, .int b), (3, .int c), (4, .int d), (5, .int y27), (6, .int y28)]) (st' := [.int c, .int z42, .ref 0, .ref 0]) rfl ?_
                refine En_callV rfl rfl rfl rfl rfl rfl rfl rfl tgz_0 (by decide +kernel) rfl (c_115 σ29 h30 z42 c (geI rfl (by omega)) (leI rfl (by omega)) (geI rfl (by omega)) (leI rfl (by omega)) p hp h32 sg h33 (by first | exact q_a555021d16 hp0 | omega)) (by decide) (by decide) (fun v45 σ46 h44 => ?_)
                obtain ⟨h47, h48, z50, rfl, h49⟩ := h44
                have h51 := Fr_trans h31 h48 (by decide +kernel)
                refine En_callV rfl rfl rfl rfl rfl rfl rfl rfl tgz_0 (by decide +kernel) rfl (c_156 σ46 h47 z50 p hp ((h48 _ _ (inW tgz_0 (by decide +kernel))).trans h32) sg ((h48 _ _ (inW hp (by decide +kernel))).trans h33) (by first | exact q_a555021d16 hp0 | omega)) (by decide) (by decide) (fun v53 σ54 h52 => ?_)
                obtain ⟨h55, h56, z58, rfl, h57⟩ := h52
                have h59 := Fr_trans h51 h56 (by decide +kernel)
                refine En_Ps 1 (pc' := 59) (lv' := [(0, .ref 0), (1, .int a), (2, .int b), (3, .int c), (4, .int d), (5, .int y27), (6, .int y28)]) (st' := [.int d, .int z58]) rfl ?_
                refine En_icLt _ rfl rfl rfl (fun h60 => ?_) (fun h60 => ?_)
                · refine En_Ps 1 (pc' := 68) (lv' := [(6, .int ((y28 + Int32.ofInt 1))), (0, .ref 0), (1, .int a), (2, .int b), (3, .int c), (4, .int d), (5, .int y27)]) (st' := []) rfl ?_
                  refine En_lv1 (addI rfl (by decide : (Int32.ofInt 1).toInt = 1) (by first | exact q_465ab79ac1 h36 | omega) (by first | exact q_ac83b3f23b h37 | omega)) (fun z61 h62 => ?_)
                  refine En_Ps 1 (pc' := 38) (lv' := [(6, .int z61), (0, .ref 0), (1, .int a), (2, .int b), (3, .int c), (4, .int d), (5, .int y27)]) (st' := []) rfl ?_
                  refine En_lv (lv := [(0, .ref 0), (1, .int a), (2, .int b), (3, .int c), (4, .int d), (5, .int y27), (6, .int z61)]) ⟨rfl, rfl, rfl, rfl, rfl, rfl, rfl, trivial⟩ ?_
                  exact ih38 σ54 y27 z61 h55 h59 ((h56 _ _ (inW tgz_0 (by decide +kernel))).trans ((h48 _ _ (inW tgz_0 (by decide +kernel))).trans h32)) ((h56 _ _ (inW hp (by decide +kernel))).trans ((h48 _ _ (inW hp (by decide +kernel))).trans h33)) (by first | exact q_58e6e51dcc h34 | omega) (by first | exact q_079ab43be6 h35 | omega) (by first | exact q_35104ce9d3 h62 h36 | omega) (by first | exact q_da74ed08cc h62 h41 h15 | omega) (by first | exact q_ae2dbf4292 h41 h62 | omega) (by first | exact q_3a5e225620 h39 h62 | omega) (by first | exact q_8d03a5a7cb h62 h40 | omega)
                · refine En_Ps 1 (pc' := 65) (lv' := [(5, .int ((y27 + Int32.ofInt 1))), (0, .ref 0), (1, .int a), (2, .int b), (3, .int c), (4, .int d), (6, .int y28)]) (st' := []) rfl ?_
                  refine En_lv1 (addI rfl (by decide : (Int32.ofInt 1).toInt = 1) (by first | exact q_465ab79ac1 h34 | omega) (by first | exact q_ac83b3f23b h35 | omega)) (fun z63 h64 => ?_)
                  refine En_Ps 1 (pc' := 68) (lv' := [(6, .int ((y28 + Int32.ofInt 1))), (5, .int z63), (0, .ref 0), (1, .int a), (2, .int b), (3, .int c), (4, .int d)]) (st' := []) rfl ?_
                  refine En_lv1 (addI rfl (by decide : (Int32.ofInt 1).toInt = 1) (by first | exact q_465ab79ac1 h36 | omega) (by first | exact q_ac83b3f23b h37 | omega)) (fun z65 h66 => ?_)
                  refine En_Ps 1 (pc' := 38) (lv' := [(6, .int z65), (5, .int z63), (0, .ref 0), (1, .int a), (2, .int b), (3, .int c), (4, .int d)]) (st' := []) rfl ?_
                  refine En_lv (lv := [(0, .ref 0), (1, .int a), (2, .int b), (3, .int c), (4, .int d), (5, .int z63), (6, .int z65)]) ⟨rfl, rfl, rfl, rfl, rfl, rfl, rfl, trivial⟩ ?_
                  exact ih38 σ54 z63 z65 h55 h59 ((h56 _ _ (inW tgz_0 (by decide +kernel))).trans ((h48 _ _ (inW tgz_0 (by decide +kernel))).trans h32)) ((h56 _ _ (inW hp (by decide +kernel))).trans ((h48 _ _ (inW hp (by decide +kernel))).trans h33)) (by first | exact q_35104ce9d3 h64 h34 | omega) (by first | exact q_26603d7e57 h64 h39 h41 h15 | omega) (by first | exact q_35104ce9d3 h66 h36 | omega) (by first | exact q_da74ed08cc h66 h41 h15 | omega) (by first | exact q_ae2dbf4292 h41 h66 | omega) (by first | exact q_1ff421e7a2 h64 h66 h39 | omega) (by first | exact q_8d03a5a7cb h66 h40 | omega)
          have := (by decide : (Int32.ofInt 0).toInt = 0)
          have := (by decide : (Int32.ofInt 0).toInt = 0)
          refine En_lv (lv := [(0, .ref 0), (1, .int a), (2, .int b), (3, .int c), (4, .int d), (5, .int ((Int32.ofInt 0))), (6, .int ((Int32.ofInt 0)))]) ⟨rfl, rfl, rfl, rfl, rfl, rfl, rfl, trivial⟩ ?_
          exact key38 (Int.toNat (b.toInt) + 1) σ20 ((Int32.ofInt 0)) ((Int32.ofInt 0)) h21 h25 ((h22 _ _ (inW tgz_0 (by decide +kernel))).trans ((h5 _ _ (inW tgz_0 (by decide +kernel))).trans h_p)) ((h22 _ _ (inW hp (by decide +kernel))).trans ((h5 _ _ (inW hp (by decide +kernel))).trans h_sg)) (by decide) (by decide) (by decide) (by decide) (by omega) (by omega) (by first | exact toN_lt _ | omega)
        · refine En_Ps 1 (pc' := 31) (lv' := [(0, .ref 0), (1, .int a), (2, .int b), (3, .int c), (4, .int d)]) (st' := [.int (((Int8.ofInt (-2)).toInt32))]) rfl ?_
          refine En_top (by decide : ((Int8.ofInt (-2)).toInt32).toInt = -2) (fun z67 h68 => ?_)
          exact En_ret (v := some (Value.int z67)) rfl rfl rfl ⟨h21, h25, z67, rfl, ⟨by first | exact q_f35c5d346c h68 | omega, by first | exact q_1be818c737 h68 | omega⟩⟩
end
/-! 32.ly.m00 -/
section
/-- DoorSchoolModel.add(II)V -/
abbrev P_188 (σ0 : SG) (a : Int32) (b : Int32) (m : Int32) : PO := fun v σ => WT σ ∧ Fr [(35, 21), (45, 0), (46, 0)] σ0 σ ∧ ∃ m1 : Int32, (σ 159)[21]? = some (Value.int m1) ∧ v = none ∧ -m1.toInt + 1 ≤ 0 ∧ m1.toInt - 17 ≤ 0 ∧ -m1.toInt + m.toInt + 1 ≤ 0 ∧ m1.toInt - m.toInt - 1 ≤ 0 ∧ m1.toInt - m.toInt - 1 ≤ 0 ∧ -m1.toInt + m.toInt + 1 ≤ 0
set_option maxRecDepth 10000 in
set_option maxHeartbeats 4000000 in
theorem c_188 (σ0 : SG) (hσ0 : WT σ0) (a : Int32) (b : Int32) (hl_a : 0 ≤ a.toInt) (hu_a : a.toInt ≤ 15) (hl_b : 0 ≤ b.toInt) (hu_b : b.toInt ≤ 1) (m : Int32) (h_m : (σ0 159)[21]? = some (Value.int m)) (hp0 : m.toInt - 16 ≤ 0) : En 0 0 none mr_188 (P_188 σ0 a b m) 0 [(0, .ref 159), (1, .int a), (2, .int b)] [] σ0 := by
  obtain ⟨hl_m, hu_m⟩ := WT_int hσ0 (g := 35) (by decide +kernel) (by decide +kernel) (l := 0) (u := 17) (by decide +kernel) h_m
  have hF0 : Fr [(35, 21), (45, 0), (46, 0)] σ0 σ0 := Fr_rfl
  refine En_Ps 1 (pc' := 1) (lv' := [(0, .ref 159), (1, .int a), (2, .int b)]) (st' := [.ref 159]) rfl ?_
  refine En_getU (j := 19) (u := 169) (g' := 45) (q := 0) rfl rfl rfl tgz_159 (by decide +kernel) hσ0 (by decide +kernel) un_45_169 (fun h1 => ?_)
  refine En_Ps 1 (pc' := 5) (lv' := [(0, .ref 159), (1, .int a), (2, .int b)]) (st' := [.ref 159, .ref 169]) rfl ?_
  refine En_getK (j := 21) h_m rfl rfl rfl tgz_159 (by decide +kernel) ?_
  refine En_Ps 1 (pc' := 9) (lv' := [(0, .ref 159), (1, .int a), (2, .int b)]) (st' := [.int a, .int m, .ref 169]) rfl ?_
  refine En_iast (l := 0) (u := 15) rfl rfl tgz_169 (by decide +kernel) (by first | exact q_58e6e51dcc hl_m | omega) (lnI (by decide +kernel : LN _ = 17) (by first | exact q_587b0aad9f hp0 | omega)) (FTsgl (by decide +kernel)) (rngI rfl (by first | exact q_58e6e51dcc hl_a | omega) (by first | exact q_5a4d8a7e08 hu_a | omega)) hσ0 hF0 (by decide +kernel) (fun σ3 h4 h5 h6 h7 => ?_)
  refine En_Ps 1 (pc' := 11) (lv' := [(0, .ref 159), (1, .int a), (2, .int b)]) (st' := [.ref 159]) rfl ?_
  refine En_getU (j := 20) (u := 170) (g' := 46) (q := 0) rfl rfl rfl tgz_159 (by decide +kernel) h4 (by decide +kernel) un_46_170 (fun h8 => ?_)
  refine En_Ps 1 (pc' := 15) (lv' := [(0, .ref 159), (1, .int a), (2, .int b)]) (st' := [.ref 159, .ref 170]) rfl ?_
  refine En_getK (j := 21) ((h7 _ _ (Or.inl (neTG tgz_159 tgz_169 (by decide)))).trans h_m) rfl rfl rfl tgz_159 (by decide +kernel) ?_
  refine En_Ps 1 (pc' := 19) (lv' := [(0, .ref 159), (1, .int a), (2, .int b)]) (st' := [.int b, .int m, .ref 170]) rfl ?_
  refine En_iast (l := 0) (u := 1) rfl rfl tgz_170 (by decide +kernel) (by first | exact q_58e6e51dcc hl_m | omega) (lnI (by decide +kernel : LN _ = 17) (by first | exact q_587b0aad9f hp0 | omega)) (FTsgl (by decide +kernel)) (rngI rfl (by first | exact q_58e6e51dcc hl_b | omega) (by first | exact q_9d0c30f9c5 hu_b | omega)) h4 h5 (by decide +kernel) (fun σ10 h11 h12 h13 h14 => ?_)
  refine En_Ps 2 (pc' := 22) (lv' := [(0, .ref 159), (1, .int a), (2, .int b)]) (st' := [.ref 159, .ref 159]) rfl ?_
  refine En_getK (j := 21) ((h14 _ _ (Or.inl (neTG tgz_159 tgz_170 (by decide)))).trans ((h7 _ _ (Or.inl (neTG tgz_159 tgz_169 (by decide)))).trans h_m)) rfl rfl rfl tgz_159 (by decide +kernel) ?_
  refine En_Ps 2 (pc' := 27) (lv' := [(0, .ref 159), (1, .int a), (2, .int b)]) (st' := [.int ((m + ((Int32.ofInt 1)))), .ref 159]) rfl ?_
  refine En_top (addI rfl (by decide : (Int32.ofInt 1).toInt = 1) (by first | exact q_465ab79ac1 hl_m | omega) (by first | exact q_f47f9b2586 hp0 | omega)) (fun z15 h16 => ?_)
  refine En_put (j := 21) rfl rfl rfl tgz_159 (by decide +kernel) rfl (vI (l := 0) (u := 17) (by decide +kernel) rfl (by first | exact q_35104ce9d3 h16 hl_m | omega) (by first | exact q_2809db51dd h16 hp0 | omega)) h11 h12 (by decide +kernel) (fun σ17 h18 h19 h20 h21 => ?_)
  exact En_ret (v := none) rfl rfl rfl ⟨h18, h19, z15, h20, rfl, ⟨by first | exact q_eeff886842 h16 hl_m | omega, by first | exact q_ccd2290ce9 h16 hp0 | omega, by first | exact q_0f0670fdd6 h16 | omega, by first | exact q_9a409ce733 h16 | omega, by first | exact q_9a409ce733 h16 | omega, by first | exact q_0f0670fdd6 h16 | omega⟩⟩
/-- DoorSchoolModel.in(JJJ)Z -/
abbrev P_249 (σ0 : SG) (a : Int64) (b : Int64) (c : Int64) : PO := fun v σ => WT σ ∧ Fr [] σ0 σ ∧ ∃ ret : Int32, v = some (Value.int ret) ∧ -ret.toInt ≤ 0 ∧ ret.toInt - 1 ≤ 0 ∧ (-ret.toInt + 1 ≤ 0 → b.toInt - a.toInt ≤ 0 ∧ a.toInt - c.toInt ≤ 0) ∧ (b.toInt - a.toInt ≤ 0 ∧ a.toInt - c.toInt ≤ 0 → -ret.toInt + 1 ≤ 0)
set_option maxRecDepth 10000 in
set_option maxHeartbeats 4000000 in
theorem c_249 (σ0 : SG) (hσ0 : WT σ0) (a : Int64) (b : Int64) (c : Int64) : En 0 0 none mr_249 (P_249 σ0 a b c) 0 [(0, .long a), (2, .long b), (4, .long c)] [] σ0 := by
  have hF0 : Fr [] σ0 σ0 := Fr_rfl
  refine En_Ps 3 (pc' := 3) (lv' := [(0, .long a), (2, .long b), (4, .long c)]) (st' := [.int (lg_cmp a b)]) rfl ?_
  refine En_lgLt _ rfl rfl rfl (fun h1 => ?_) (fun h1 => ?_)
  · refine En_Ps 1 (pc' := 18) (lv' := [(0, .long a), (2, .long b), (4, .long c)]) (st' := [.int ((Int32.ofInt 0))]) rfl ?_
    refine En_top (by decide : (Int32.ofInt 0).toInt = 0) (fun z2 h3 => ?_)
    exact En_ret (v := some (Value.int z2)) rfl rfl (retZ rfl rfl (by first | exact q_55451d0a83 h3 | omega) (by first | exact q_87849c3859 h3 | omega)) ⟨hσ0, hF0, z2, rfl, ⟨by first | exact q_097a37c2ae h3 | omega, by first | exact q_e269517bee h3 | omega, fun _ => by omega, fun _ => by omega⟩⟩
  · refine En_Ps 3 (pc' := 10) (lv' := [(0, .long a), (2, .long b), (4, .long c)]) (st' := [.int (lg_cmp a c)]) rfl ?_
    refine En_lgGt _ rfl rfl rfl (fun h4 => ?_) (fun h4 => ?_)
    · refine En_Ps 1 (pc' := 18) (lv' := [(0, .long a), (2, .long b), (4, .long c)]) (st' := [.int ((Int32.ofInt 0))]) rfl ?_
      refine En_top (by decide : (Int32.ofInt 0).toInt = 0) (fun z5 h6 => ?_)
      exact En_ret (v := some (Value.int z5)) rfl rfl (retZ rfl rfl (by first | exact q_55451d0a83 h6 | omega) (by first | exact q_87849c3859 h6 | omega)) ⟨hσ0, hF0, z5, rfl, ⟨by first | exact q_097a37c2ae h6 | omega, by first | exact q_e269517bee h6 | omega, fun _ => by omega, fun _ => by omega⟩⟩
    · refine En_Ps 2 (pc' := 18) (lv' := [(0, .long a), (2, .long b), (4, .long c)]) (st' := [.int ((Int32.ofInt 1))]) rfl ?_
      refine En_top (by decide : (Int32.ofInt 1).toInt = 1) (fun z7 h8 => ?_)
      exact En_ret (v := some (Value.int z7)) rfl rfl (retZ rfl rfl (by first | exact q_2b07c97645 h8 | omega) (by first | exact q_d9e7cbb253 h8 | omega)) ⟨hσ0, hF0, z7, rfl, ⟨by first | exact q_ad3eee31ca h8 | omega, by first | exact q_81cf297dc4 h8 | omega, fun _ => by (first | exact q_e7f5657886 h1 h4 | omega), fun _ => by (first | exact q_a439be255a h8 | omega)⟩⟩
/-- bit of a small set -/
abbrev P_202a (σ0 : SG) (a : Int32) (b : Int32) : PO := fun v σ => WT σ ∧ Fr [] σ0 σ ∧ ∃ ret : Int32, v = some (Value.int ret) ∧ -ret.toInt ≤ 0 ∧ ret.toInt - 1 ≤ 0 ∧ ret.toInt = bI a.toInt b.toInt
set_option maxRecDepth 10000 in
set_option maxHeartbeats 4000000 in
theorem c_202a (σ0 : SG) (hσ0 : WT σ0) (a : Int32) (b : Int32) (hl_a : 0 ≤ a.toInt) (hu_a : a.toInt ≤ 63) (hl_b : 0 ≤ b.toInt) (hu_b : b.toInt ≤ 7) : En 0 0 none mr_202 (P_202a σ0 a b) 0 [(0, .int a), (1, .int b)] [] σ0 := by
  refine En_Ps 5 (pc' := 5) (lv' := [(0, .int a), (1, .int b)]) (st' := [.int ((a >>> (b &&& 31)) &&& (Int32.ofInt 1))]) rfl ?_
  refine En_nam (fun z hz => ?_)
  have hb := bit_small hz hl_a hu_a hl_b hu_b
  have hr := bI_rng a.toInt b.toInt
  exact En_ret (v := some (Value.int z)) rfl rfl rfl ⟨hσ0, Fr_rfl, z, rfl, (by (first | exact q_eb255b5a83 hb hr.1 hr.2 | omega))⟩
/-- DoorSchoolModel.bit(II)I -/
abbrev P_202b (σ0 : SG) (a : Int32) (b : Int32) : PO := fun v σ => WT σ ∧ Fr [] σ0 σ ∧ ∃ ret : Int32, v = some (Value.int ret) ∧ -ret.toInt ≤ 0 ∧ ret.toInt - 1 ≤ 0
set_option maxRecDepth 10000 in
set_option maxHeartbeats 4000000 in
theorem c_202b (σ0 : SG) (hσ0 : WT σ0) (a : Int32) (b : Int32) : En 0 0 none mr_202 (P_202b σ0 a b) 0 [(0, .int a), (1, .int b)] [] σ0 := by
  have hF0 : Fr [] σ0 σ0 := Fr_rfl
  refine En_Ps 3 (pc' := 3) (lv' := [(0, .int a), (1, .int b)]) (st' := [.int ((a >>> (b &&& 31)))]) rfl ?_
  refine En_hav (fun z1 => ?_)
  refine En_Ps 2 (pc' := 5) (lv' := [(0, .int a), (1, .int b)]) (st' := [.int ((z1 &&& ((Int32.ofInt 1))))]) rfl ?_
  refine En_rng (l := 0) (u := 1) (andR_rng (by decide : (Int32.ofInt 1).toInt = 1) (by decide)) (fun z2 h3 h4 => ?_)
  exact En_ret (v := some (Value.int z2)) rfl rfl rfl ⟨hσ0, hF0, z2, rfl, ⟨by first | exact q_c803b490ef h3 | omega, by first | exact q_a83e15e6ad h4 | omega⟩⟩
/-- DoorSchoolModel.takesOf(I)I -/
abbrev P_319 (σ0 : SG) (a : Int32) : PO := fun v σ => WT σ ∧ Fr [] σ0 σ ∧ ∃ ret : Int32, v = some (Value.int ret) ∧ -ret.toInt ≤ 0 ∧ ret.toInt - 9 ≤ 0 ∧ ret.toInt = ci σ0 160 (154 + 2 * a.toInt)
set_option maxRecDepth 10000 in
set_option maxHeartbeats 4000000 in
theorem c_319 (σ0 : SG) (hσ0 : WT σ0) (a : Int32) (hl_a : 0 ≤ a.toInt) (hu_a : a.toInt ≤ 5) : En 0 0 none mr_319 (P_319 σ0 a) 0 [(0, .ref 159), (1, .int a)] [] σ0 := by
  have hF0 : Fr [] σ0 σ0 := Fr_rfl
  refine En_Ps 1 (pc' := 1) (lv' := [(0, .ref 159), (1, .int a)]) (st' := [.ref 159]) rfl ?_
  refine En_getU (j := 1) (u := 160) (g' := 36) (q := 0) rfl rfl rfl tgz_159 (by decide +kernel) hσ0 (by decide +kernel) un_36_160 (fun h1 => ?_)
  refine En_Ps 4 (pc' := 10) (lv' := [(0, .ref 159), (1, .int a)]) (st' := [.int ((((Int32.ofInt 2)) * a)), .int (((Int16.ofInt 154).toInt32)), .ref 160]) rfl ?_
  refine En_top (mulI (by decide : (Int32.ofInt 2).toInt = 2) rfl (Z := 2 * a.toInt) (by first | exact q_9c4c04fc55 | omega) (by first | exact q_1f719a6719 hl_a | omega) (by first | exact q_6084c30cbd hu_a | omega)) (fun z3 h4 => ?_)
  refine En_Ps 1 (pc' := 11) (lv' := [(0, .ref 159), (1, .int a)]) (st' := [.int (((((Int16.ofInt 154).toInt32)) + z3)), .ref 160]) rfl ?_
  refine En_top (addI (by decide : ((Int16.ofInt 154).toInt32).toInt = 154) rfl (by first | exact q_35d2865be9 h4 hl_a | omega) (by first | exact q_37b8e4bcc4 h4 hu_a | omega)) (fun z5 h6 => ?_)
  refine En_iald (l := 0) (u := 9) rfl rfl tgz_160 (by decide +kernel) hσ0 (by first | exact q_ccc63f2e7e h6 h4 hl_a | omega) (lnI (by decide +kernel : LN _ = 226) (by first | exact q_916e3ddc0c h6 h4 hu_a | omega)) (FTrow 36 154 2 6 (by decide +kernel) (by first | exact q_4f183090a0 h6 h4 hl_a | omega) (by first | exact q_a2deeb3a09 h6 h4 hu_a | omega) (by first | exact q_1f9eb023d9 h4 h6 | omega)) (fun z8 h7 h9 h10 => ?_)
  exact En_ret (v := some (Value.int z8)) rfl rfl rfl ⟨hσ0, hF0, z8, rfl, ⟨by (first | exact q_c803b490ef h9 | omega), by (first | exact q_5a84bfe790 h10 | omega), (ci_at h7 (by (first | exact q_8c21c8d38e h6 h4 | omega))).symm⟩⟩
/-- DoorSchoolModel.overOf(I)I -/
abbrev P_294 (σ0 : SG) (a : Int32) : PO := fun v σ => WT σ ∧ Fr [] σ0 σ ∧ ∃ ret : Int32, v = some (Value.int ret) ∧ -ret.toInt ≤ 0 ∧ ret.toInt - 120 ≤ 0 ∧ ret.toInt = ci σ0 173 a.toInt + ci σ0 160 (154 + 2 * a.toInt)
set_option maxRecDepth 10000 in
set_option maxHeartbeats 4000000 in
theorem c_294 (σ0 : SG) (hσ0 : WT σ0) (a : Int32) (hl_a : 0 ≤ a.toInt) (hu_a : a.toInt ≤ 5) : En 1 21 none mr_294 (P_294 σ0 a) 0 [(0, .ref 159), (1, .int a)] [] σ0 := by
  have hF0 : Fr [] σ0 σ0 := Fr_rfl
  refine En_Ps 1 (pc' := 1) (lv' := [(0, .ref 159), (1, .int a)]) (st' := [.ref 159]) rfl ?_
  refine En_getU (j := 27) (u := 173) (g' := 49) (q := 0) rfl rfl rfl tgz_159 (by decide +kernel) hσ0 (by decide +kernel) un_49_173 (fun h1 => ?_)
  refine En_Ps 1 (pc' := 5) (lv' := [(0, .ref 159), (1, .int a)]) (st' := [.int a, .ref 173]) rfl ?_
  refine En_iald (l := 0) (u := 111) rfl rfl tgz_173 (by decide +kernel) hσ0 (by first | exact q_58e6e51dcc hl_a | omega) (lnI (by decide +kernel : LN _ = 6) (by first | exact q_f6226e27c9 hu_a | omega)) (FTsgl (by decide +kernel)) (fun z4 h3 h5 h6 => ?_)
  refine En_Ps 2 (pc' := 8) (lv' := [(0, .ref 159), (1, .int a)]) (st' := [.int a, .ref 159, .int z4]) rfl ?_
  refine En_callV rfl rfl rfl rfl rfl rfl rfl rfl tgz_159 (by decide +kernel) rfl (c_319 σ0 hσ0 a (geI rfl (by first | exact q_58e6e51dcc hl_a | omega)) (leI rfl (by first | exact q_d9092b5ca1 hu_a | omega))) (by decide) (by decide) (fun v8 σ9 h7 => ?_)
  obtain ⟨h10, h11, z13, rfl, h12⟩ := h7
  have h14 := h12.2.2
  obtain rfl : σ0 = σ9 := Fr_nil h11
  refine En_Ps 1 (pc' := 12) (lv' := [(0, .ref 159), (1, .int a)]) (st' := [.int ((z4 + z13))]) rfl ?_
  refine En_top (addI rfl rfl (by first | exact q_eb9502dde8 h5 h12.1 | omega) (by first | exact q_59dac5040b h6 h12.2.1 | omega)) (fun z15 h16 => ?_)
  exact En_ret (v := some (Value.int z15)) rfl rfl rfl ⟨hσ0, hF0, z15, rfl, ⟨by (first | exact q_5ff162ce1d h16 h12.1 h5 | omega), by (first | exact q_01caf30339 h16 h12.2.1 h6 | omega), (by have e1 := ci_at h3 (rfl : a.toInt = a.toInt); (first | exact q_86bb4ff81c e1 h16 h14 | omega))⟩⟩
/-- DoorSchoolModel.afterAll(II)I -/
abbrev P_190 (σ0 : SG) (a : Int32) (b : Int32) : PO := fun v σ => WT σ ∧ Fr [] σ0 σ ∧ ∃ ret : Int32, v = some (Value.int ret) ∧ -ret.toInt - 1 ≤ 0 ∧ ret.toInt - 127 ≤ 0 ∧ AFTs σ0 a.toInt b.toInt ret.toInt
set_option maxRecDepth 10000 in
set_option maxHeartbeats 4000000 in
theorem c_190 (σ0 : SG) (hσ0 : WT σ0) (a : Int32) (b : Int32) (hl_a : 0 ≤ a.toInt) (hu_a : a.toInt ≤ 5) (hl_b : 0 ≤ b.toInt) (hu_b : b.toInt ≤ 63) : En 2 42 none mr_190 (P_190 σ0 a b) 0 [(0, .ref 159), (1, .int a), (2, .int b)] [] σ0 := by
  have hF0 : Fr [] σ0 σ0 := Fr_rfl
  refine En_Ps 4 (pc' := 5) (lv' := [(4, .int ((Int32.ofInt 0))), (3, .int ((Int32.ofInt 0))), (0, .ref 159), (1, .int a), (2, .int b)]) (st' := []) rfl ?_
  have key5 : ∀ (n5 : Nat) (y1 : Int32) (y2 : Int32), 0 ≤ y1.toInt → y1.toInt ≤ 127 → 0 ≤ y2.toInt → y2.toInt ≤ 5 → y2.toInt - a.toInt ≤ 0 → a.toInt - y2.toInt < (n5 : Int) → AFL σ0 a.toInt b.toInt y2.toInt y1.toInt → En 2 42 none mr_190 (P_190 σ0 a b) 5 [(0, .ref 159), (1, .int a), (2, .int b), (3, .int y1), (4, .int y2)] [] σ0 := by
    intro n5
    induction n5 with
    | zero =>
      intro y1 y2 h6 h7 h8 h9 h10 h11 h12
      first | exact (q_14257feae7 h10 h11).elim | (exfalso; omega)
    | succ n5 ih5 =>
      intro y1 y2 h6 h7 h8 h9 h10 h11 h12
      refine En_Ps 2 (pc' := 8) (lv' := [(0, .ref 159), (1, .int a), (2, .int b), (3, .int y1), (4, .int y2)]) (st' := [.int a, .int y2]) rfl ?_
      refine En_icGe _ rfl rfl rfl (fun h13 => ?_) (fun h13 => ?_)
      · refine En_Ps 1 (pc' := 65) (lv' := [(0, .ref 159), (1, .int a), (2, .int b), (3, .int y1), (4, .int y2)]) (st' := [.int y1]) rfl ?_
        exact En_ret (v := some (Value.int y1)) rfl rfl rfl ⟨hσ0, hF0, y1, rfl, ⟨by (first | exact q_565e7b05df h6 | omega), by (first | exact q_2b355a900d h7 | omega), AFT_yes h12 (by (first | exact q_58e6e51dcc h6 | omega)) (by (first | exact q_932907fca0 h13 h10 | omega))⟩⟩
      · refine En_Ps 1 (pc' := 12) (lv' := [(0, .ref 159), (1, .int a), (2, .int b), (3, .int y1), (4, .int y2)]) (st' := [.ref 159]) rfl ?_
        refine En_getU (j := 1) (u := 160) (g' := 36) (q := 0) rfl rfl rfl tgz_159 (by decide +kernel) hσ0 (by decide +kernel) un_36_160 (fun h14 => ?_)
        refine En_Ps 4 (pc' := 21) (lv' := [(0, .ref 159), (1, .int a), (2, .int b), (3, .int y1), (4, .int y2)]) (st' := [.int ((((Int32.ofInt 2)) * a)), .int (((Int16.ofInt 154).toInt32)), .ref 160]) rfl ?_
        refine En_top (mulI (by decide : (Int32.ofInt 2).toInt = 2) rfl (Z := 2 * a.toInt) (by first | exact q_9c4c04fc55 | omega) (by first | exact q_1f719a6719 hl_a | omega) (by first | exact q_6084c30cbd hu_a | omega)) (fun z16 h17 => ?_)
        refine En_Ps 1 (pc' := 22) (lv' := [(0, .ref 159), (1, .int a), (2, .int b), (3, .int y1), (4, .int y2)]) (st' := [.int (((((Int16.ofInt 154).toInt32)) + z16)), .ref 160]) rfl ?_
        refine En_top (addI (by decide : ((Int16.ofInt 154).toInt32).toInt = 154) rfl (by first | exact q_2a493b5167 h17 h13 h8 | omega) (by first | exact q_37b8e4bcc4 h17 hu_a | omega)) (fun z18 h19 => ?_)
        refine En_Ps 2 (pc' := 24) (lv' := [(0, .ref 159), (1, .int a), (2, .int b), (3, .int y1), (4, .int y2)]) (st' := [.int ((z18 + ((Int32.ofInt 1)))), .ref 160]) rfl ?_
        refine En_top (addI rfl (by decide : (Int32.ofInt 1).toInt = 1) (by first | exact q_e805c90172 h19 h17 h13 h8 | omega) (by first | exact q_ec28dd8106 h19 h17 hu_a | omega)) (fun z20 h21 => ?_)
        refine En_iald (l := 0) (u := 63) rfl rfl tgz_160 (by decide +kernel) hσ0 (by first | exact q_36622a292a h21 h19 h17 h13 h8 | omega) (lnI (by decide +kernel : LN _ = 226) (by first | exact q_9650422e8f h21 h19 h17 hu_a | omega)) (FTrow 36 157 2 5 (by decide +kernel) (by first | exact q_fb66f228a0 h21 h19 h17 h13 h8 | omega) (by first | exact q_756310faf7 h21 h19 h17 hu_a | omega) (by first | exact q_951b0f7e1b h17 h19 h21 | omega)) (fun z23 h22 h24 h25 => ?_)
        refine En_Ps 1 (pc' := 27) (lv' := [(0, .ref 159), (1, .int a), (2, .int b), (3, .int y1), (4, .int y2)]) (st' := [.int y2, .int z23]) rfl ?_
        refine En_callS rfl rfl rfl rfl rfl rfl rfl rfl rfl (c_202a σ0 hσ0 z23 y2 (geI rfl (by first | exact q_58e6e51dcc h24 | omega)) (leI rfl (by first | exact q_8bf848900a h25 | omega)) (geI rfl (by first | exact q_58e6e51dcc h8 | omega)) (leI rfl (by first | exact q_c4fbf921fa h9 | omega))) (by decide) (by decide) (fun v27 σ28 h26 => ?_)
        obtain ⟨h29, h30, z32, rfl, h31⟩ := h26
        have h33 := h31.2.2
        obtain rfl : σ0 = σ28 := Fr_nil h30
        refine En_iNe _ rfl rfl (fun h34 => ?_) (fun h34 => ?_)
        · refine En_Ps 2 (pc' := 39) (lv' := [(0, .ref 159), (1, .int a), (2, .int b), (3, .int y1), (4, .int y2)]) (st' := [.int y2, .int b]) rfl ?_
          refine En_callS rfl rfl rfl rfl rfl rfl rfl rfl rfl (c_202a σ0 hσ0 b y2 (geI rfl (by first | exact q_58e6e51dcc hl_b | omega)) (leI rfl (by first | exact q_8bf848900a hu_b | omega)) (geI rfl (by first | exact q_58e6e51dcc h8 | omega)) (leI rfl (by first | exact q_c4fbf921fa h9 | omega))) (by decide) (by decide) (fun v36 σ37 h35 => ?_)
          obtain ⟨h38, h39, z41, rfl, h40⟩ := h35
          have h42 := h40.2.2
          obtain rfl : σ0 = σ37 := Fr_nil h39
          refine En_iNe _ rfl rfl (fun h43 => ?_) (fun h43 => ?_)
          · refine En_Ps 3 (pc' := 51) (lv' := [(0, .ref 159), (1, .int a), (2, .int b), (3, .int y1), (4, .int y2)]) (st' := [.int y2, .ref 159, .int y1]) rfl ?_
            refine En_callV rfl rfl rfl rfl rfl rfl rfl rfl tgz_159 (by decide +kernel) rfl (c_294 σ0 hσ0 y2 (geI rfl (by first | exact q_58e6e51dcc h8 | omega)) (leI rfl (by first | exact q_d9092b5ca1 h9 | omega))) (by decide) (by decide) (fun v45 σ46 h44 => ?_)
            obtain ⟨h47, h48, z50, rfl, h49⟩ := h44
            have h51 := h49.2.2
            obtain rfl : σ0 = σ46 := Fr_nil h48
            refine En_callS rfl rfl rfl rfl rfl rfl rfl rfl rfl (c_10 σ0 hσ0 y1 z50) (by decide) (by decide) (fun v53 σ54 h52 => ?_)
            obtain ⟨h55, h56, z58, rfl, h57⟩ := h52
            obtain rfl : σ0 = σ54 := Fr_nil h56
            refine En_Ps 2 (pc' := 61) (lv' := [(4, .int ((y2 + Int32.ofInt 1))), (3, .int z58), (0, .ref 159), (1, .int a), (2, .int b)]) (st' := []) rfl ?_
            refine En_lv1 (addI rfl (by decide : (Int32.ofInt 1).toInt = 1) (by first | exact q_465ab79ac1 h8 | omega) (by first | exact q_aeda34609f h9 | omega)) (fun z59 h60 => ?_)
            refine En_Ps 1 (pc' := 5) (lv' := [(4, .int z59), (3, .int z58), (0, .ref 159), (1, .int a), (2, .int b)]) (st' := []) rfl ?_
            refine En_lv (lv := [(0, .ref 159), (1, .int a), (2, .int b), (3, .int z58), (4, .int z59)]) ⟨rfl, rfl, rfl, rfl, rfl, trivial⟩ ?_
            exact ih5 z58 z59 (by first | exact q_f062bc8aa8 h57.1 h6 | omega) (by (first | exact q_50d5666327 h57.2.2.2 h57.2.2.1 h7 h49.2.1 | omega)) (by first | exact q_35104ce9d3 h60 h8 | omega) (by first | exact q_b880857b86 h60 h13 hu_a | omega) (by first | exact q_ae2dbf4292 h13 h60 | omega) (by first | exact q_8d03a5a7cb h60 h11 | omega) (AFL_y hσ0 h12 h22 (by (first | exact q_19ee015df8 h21 h19 h17 | omega)) h33 (by (first | exact q_c82a63b4aa h34 h31.1 | omega)) h42 (by (first | exact q_c82a63b4aa h43 h40.1 | omega)) h51 (by (first | exact q_2f9e8475ec h57.1 | omega)) (by (first | exact q_2f9e8475ec h57.2.1 | omega)) (by (first | exact q_0ff0506318 h57.2.2.2 h57.2.2.1 h57.1 h57.2.1 | omega)) (by (first | exact q_58e6e51dcc h6 | omega)) (by (first | exact q_58e6e51dcc hl_a | omega)) (by (first | exact q_d9092b5ca1 hu_a | omega)) (by (first | exact q_58e6e51dcc h8 | omega)) (by (first | exact q_d9092b5ca1 h9 | omega)) (by (first | exact q_ba1b2c713b h60 | omega)))
          · refine En_Ps 1 (pc' := 46) (lv' := [(0, .ref 159), (1, .int a), (2, .int b), (3, .int y1), (4, .int y2)]) (st' := [.int ((Int32.ofInt (-1)))]) rfl ?_
            refine En_top (by decide : (Int32.ofInt (-1)).toInt = -1) (fun z61 h62 => ?_)
            exact En_ret (v := some (Value.int z61)) rfl rfl rfl ⟨hσ0, hF0, z61, rfl, ⟨by (first | exact q_667e555013 h62 | omega), by (first | exact q_fe4757541d h62 | omega), AFT_no hσ0 h22 (by (first | exact q_19ee015df8 h21 h19 h17 | omega)) h33 (by (first | exact q_c82a63b4aa h34 h31.1 | omega)) h42 (by (first | exact q_d2dcd30e56 h43 | omega)) (by (first | exact q_58e6e51dcc hl_a | omega)) (by (first | exact q_d9092b5ca1 hu_a | omega)) (by (first | exact q_58e6e51dcc h8 | omega)) (by (first | exact q_114b7bcb5b h13 | omega)) (by (first | exact q_b9e5c7e4b8 h62 | omega))⟩⟩
        · refine En_Ps 2 (pc' := 61) (lv' := [(4, .int ((y2 + Int32.ofInt 1))), (0, .ref 159), (1, .int a), (2, .int b), (3, .int y1)]) (st' := []) rfl ?_
          refine En_lv1 (addI rfl (by decide : (Int32.ofInt 1).toInt = 1) (by first | exact q_465ab79ac1 h8 | omega) (by first | exact q_aeda34609f h9 | omega)) (fun z63 h64 => ?_)
          refine En_Ps 1 (pc' := 5) (lv' := [(4, .int z63), (0, .ref 159), (1, .int a), (2, .int b), (3, .int y1)]) (st' := []) rfl ?_
          refine En_lv (lv := [(0, .ref 159), (1, .int a), (2, .int b), (3, .int y1), (4, .int z63)]) ⟨rfl, rfl, rfl, rfl, rfl, trivial⟩ ?_
          exact ih5 y1 z63 (by first | exact q_58e6e51dcc h6 | omega) (by first | exact q_a18ee2e349 h7 | omega) (by first | exact q_35104ce9d3 h64 h8 | omega) (by first | exact q_b880857b86 h64 h13 hu_a | omega) (by first | exact q_ae2dbf4292 h13 h64 | omega) (by first | exact q_8d03a5a7cb h64 h11 | omega) (AFL_n hσ0 h12 h22 (by (first | exact q_19ee015df8 h21 h19 h17 | omega)) h33 (by (first | exact q_d2dcd30e56 h34 | omega)) (by (first | exact q_58e6e51dcc hl_a | omega)) (by (first | exact q_d9092b5ca1 hu_a | omega)) (by (first | exact q_58e6e51dcc h8 | omega)) (by (first | exact q_ba1b2c713b h64 | omega)))
  have := (by decide : (Int32.ofInt 0).toInt = 0)
  have := (by decide : (Int32.ofInt 0).toInt = 0)
  refine En_lv (lv := [(0, .ref 159), (1, .int a), (2, .int b), (3, .int ((Int32.ofInt 0))), (4, .int ((Int32.ofInt 0)))]) ⟨rfl, rfl, rfl, rfl, rfl, trivial⟩ ?_
  exact key5 (Int.toNat (a.toInt) + 1) ((Int32.ofInt 0)) ((Int32.ofInt 0)) (by decide) (by decide) (by decide) (by decide) (by (first | exact q_d69f448e8e (by decide) hl_a | omega)) (by first | exact toN_lt _ | omega) (AFL_0 (by decide) (by decide))
/-- DoorSchoolModel.isDoor(I)Z -/
abbrev P_254 (σ0 : SG) (a : Int32) (nd : Int32) : PO := fun v σ => WT σ ∧ Fr [] σ0 σ ∧ ∃ ret : Int32, v = some (Value.int ret) ∧ -ret.toInt ≤ 0 ∧ ret.toInt - 1 ≤ 0 ∧ (-ret.toInt + 1 ≤ 0 → -a.toInt ≤ 0 ∧ a.toInt - nd.toInt + 1 ≤ 0) ∧ (-a.toInt ≤ 0 ∧ a.toInt - nd.toInt + 1 ≤ 0 → -ret.toInt + 1 ≤ 0) ∧ (ret.toInt - 1 ≤ 0 ∧ -ret.toInt + 1 ≤ 0 → -a.toInt ≤ 0 ∧ a.toInt - 3 ≤ 0)
set_option maxRecDepth 10000 in
set_option maxHeartbeats 4000000 in
theorem c_254 (σ0 : SG) (hσ0 : WT σ0) (a : Int32) (nd : Int32) (h_nd : (σ0 160)[(2 : Int).toNat]? = some (Value.int nd)) : En 1 25 none mr_254 (P_254 σ0 a nd) 0 [(0, .ref 159), (1, .int a)] [] σ0 := by
  obtain ⟨hl_nd, hu_nd⟩ := WT_int hσ0 (g := 36) (by decide +kernel) (by decide +kernel) (l := 0) (u := 4) (by decide +kernel) h_nd
  have hF0 : Fr [] σ0 σ0 := Fr_rfl
  refine En_Ps 4 (pc' := 4) (lv' := [(0, .ref 159), (1, .int a)]) (st' := [.ref 159, .long ((Int64.ofNat 0)), .long a.toInt64]) rfl ?_
  refine En_getU (j := 1) (u := 160) (g' := 36) (q := 0) rfl rfl rfl tgz_159 (by decide +kernel) hσ0 (by decide +kernel) un_36_160 (fun h1 => ?_)
  refine En_Ps 1 (pc' := 8) (lv' := [(0, .ref 159), (1, .int a)]) (st' := [.int ((Int32.ofInt 2)), .ref 160, .long ((Int64.ofNat 0)), .long a.toInt64]) rfl ?_
  refine En_ialdK h_nd rfl (by decide : (Int32.ofInt 2).toInt = 2) tgz_160 (by decide +kernel) hσ0 (by decide) (lnI (by decide +kernel : LN _ = 226) (by decide)) ?_
  refine En_Ps 2 (pc' := 11) (lv' := [(0, .ref 159), (1, .int a)]) (st' := [.int ((nd - ((Int32.ofInt 1)))), .long ((Int64.ofNat 0)), .long a.toInt64]) rfl ?_
  refine En_top (subI rfl (by decide : (Int32.ofInt 1).toInt = 1) (by first | exact q_93f9478bef hl_nd | omega) (by first | exact q_cc3cee8591 hu_nd | omega)) (fun z4 h5 => ?_)
  refine En_Ps 1 (pc' := 12) (lv' := [(0, .ref 159), (1, .int a)]) (st' := [.long z4.toInt64, .long ((Int64.ofNat 0)), .long a.toInt64]) rfl ?_
  have : a.toInt64.toInt = a.toInt := (i2lI rfl)
  have := (by decide : ((Int64.ofNat 0)).toInt = 0)
  have : z4.toInt64.toInt = z4.toInt := (i2lI rfl)
  refine En_callS rfl rfl rfl rfl rfl rfl rfl rfl rfl (c_249 σ0 hσ0 a.toInt64 ((Int64.ofNat 0)) z4.toInt64) (by decide) (by decide) (fun v7 σ8 h6 => ?_)
  obtain ⟨h9, h10, z12, rfl, h11⟩ := h6
  have h13 := Fr_trans hF0 h10 (by decide +kernel)
  exact En_ret (v := some (Value.int z12)) rfl rfl (retZ rfl rfl (by first | exact q_ef1e8e38bf h11.1 | omega) (by first | exact q_733c8bfbae h11.2.1 | omega)) ⟨h9, h13, z12, rfl, ⟨by first | exact q_a555021d16 h11.1 | omega, by first | exact q_ad5b726bf8 h11.2.1 | omega, fun _ => by omega, fun _ => by omega, fun _ => by omega⟩⟩
/-- DoorSchoolModel.isSchool()Z -/
abbrev P_264 (σ0 : SG) (sc : Int32) : PO := fun v σ => WT σ ∧ Fr [] σ0 σ ∧ ∃ ret : Int32, v = some (Value.int ret) ∧ -ret.toInt ≤ 0 ∧ ret.toInt - 1 ≤ 0 ∧ (-ret.toInt + 1 ≤ 0 → -sc.toInt + 1 ≤ 0) ∧ (ret.toInt ≤ 0 → sc.toInt ≤ 0)
set_option maxRecDepth 10000 in
set_option maxHeartbeats 4000000 in
theorem c_264 (σ0 : SG) (hσ0 : WT σ0) (sc : Int32) (h_sc : (σ0 160)[(7 : Int).toNat]? = some (Value.int sc)) : En 0 0 none mr_264 (P_264 σ0 sc) 0 [(0, .ref 159)] [] σ0 := by
  obtain ⟨hl_sc, hu_sc⟩ := WT_int hσ0 (g := 36) (by decide +kernel) (by decide +kernel) (l := 0) (u := 1600) (by decide +kernel) h_sc
  have hF0 : Fr [] σ0 σ0 := Fr_rfl
  refine En_Ps 1 (pc' := 1) (lv' := [(0, .ref 159)]) (st' := [.ref 159]) rfl ?_
  refine En_getU (j := 1) (u := 160) (g' := 36) (q := 0) rfl rfl rfl tgz_159 (by decide +kernel) hσ0 (by decide +kernel) un_36_160 (fun h1 => ?_)
  refine En_Ps 1 (pc' := 6) (lv' := [(0, .ref 159)]) (st' := [.int (((Int8.ofInt 7).toInt32)), .ref 160]) rfl ?_
  refine En_ialdK h_sc rfl (by decide : ((Int8.ofInt 7).toInt32).toInt = 7) tgz_160 (by decide +kernel) hσ0 (by decide) (lnI (by decide +kernel : LN _ = 226) (by decide)) ?_
  refine En_iLe _ rfl rfl (fun h4 => ?_) (fun h4 => ?_)
  · refine En_Ps 1 (pc' := 15) (lv' := [(0, .ref 159)]) (st' := [.int ((Int32.ofInt 0))]) rfl ?_
    refine En_top (by decide : (Int32.ofInt 0).toInt = 0) (fun z5 h6 => ?_)
    exact En_ret (v := some (Value.int z5)) rfl rfl (retZ rfl rfl (by first | exact q_55451d0a83 h6 | omega) (by first | exact q_87849c3859 h6 | omega)) ⟨hσ0, hF0, z5, rfl, ⟨by first | exact q_097a37c2ae h6 | omega, by first | exact q_e269517bee h6 | omega, fun _ => by omega, fun _ => by (first | exact q_35a72a35ef h4 | omega)⟩⟩
  · refine En_Ps 2 (pc' := 15) (lv' := [(0, .ref 159)]) (st' := [.int ((Int32.ofInt 1))]) rfl ?_
    refine En_top (by decide : (Int32.ofInt 1).toInt = 1) (fun z7 h8 => ?_)
    exact En_ret (v := some (Value.int z7)) rfl rfl (retZ rfl rfl (by first | exact q_2b07c97645 h8 | omega) (by first | exact q_d9e7cbb253 h8 | omega)) ⟨hσ0, hF0, z7, rfl, ⟨by first | exact q_ad3eee31ca h8 | omega, by first | exact q_81cf297dc4 h8 | omega, fun _ => by (first | exact q_f23a0149bf h4 | omega), fun _ => by omega⟩⟩
/-- DoorSchoolModel.knocks()I -/
abbrev P_269 (σ0 : SG) (s : Int32) (sc : Int32) : PO := fun v σ => WT σ ∧ Fr [] σ0 σ ∧ ∃ ret : Int32, v = some (Value.int ret) ∧ -ret.toInt ≤ 0 ∧ ret.toInt - 16 ≤ 0 ∧ ret.toInt = kI sc.toInt s.toInt
set_option maxRecDepth 10000 in
set_option maxHeartbeats 4000000 in
theorem c_269 (σ0 : SG) (hσ0 : WT σ0) (s : Int32) (h_s : (σ0 160)[(0 : Int).toNat]? = some (Value.int s)) (sc : Int32) (h_sc : (σ0 160)[(7 : Int).toNat]? = some (Value.int sc)) : En 1 20 none mr_269 (P_269 σ0 s sc) 0 [(0, .ref 159)] [] σ0 := by
  obtain ⟨hl_s, hu_s⟩ := WT_int hσ0 (g := 36) (by decide +kernel) (by decide +kernel) (l := 0) (u := 4) (by decide +kernel) h_s
  obtain ⟨hl_sc, hu_sc⟩ := WT_int hσ0 (g := 36) (by decide +kernel) (by decide +kernel) (l := 0) (u := 1600) (by decide +kernel) h_sc
  have hF0 : Fr [] σ0 σ0 := Fr_rfl
  have := kI_val sc.toInt s.toInt
  refine En_Ps 1 (pc' := 1) (lv' := [(0, .ref 159)]) (st' := [.ref 159]) rfl ?_
  refine En_callV rfl rfl rfl rfl rfl rfl rfl rfl tgz_159 (by decide +kernel) rfl (c_264 σ0 hσ0 sc h_sc) (by decide) (by decide) (fun v2 σ3 h1 => ?_)
  obtain ⟨h4, h5, z7, rfl, h6⟩ := h1
  have h8 := Fr_trans hF0 h5 (by decide +kernel)
  refine En_iEq _ rfl rfl (fun h9 => ?_) (fun h9 => ?_)
  · refine En_Ps 1 (pc' := 19) (lv' := [(0, .ref 159)]) (st' := [.int ((Int32.ofInt 0))]) rfl ?_
    refine En_top (by decide : (Int32.ofInt 0).toInt = 0) (fun z10 h11 => ?_)
    exact En_ret (v := some (Value.int z10)) rfl rfl rfl ⟨h4, h8, z10, rfl, (by (first | exact q_e8513144b6 h11 this.1 h6.2.2.2 h9 | omega))⟩
  · refine En_Ps 2 (pc' := 9) (lv' := [(0, .ref 159)]) (st' := [.ref 159, .int ((Int32.ofInt 1))]) rfl ?_
    refine En_getU (j := 1) (u := 160) (g' := 36) (q := 0) rfl rfl rfl tgz_159 (by decide +kernel) h4 (by decide +kernel) un_36_160 (fun h12 => ?_)
    refine En_Ps 1 (pc' := 13) (lv' := [(0, .ref 159)]) (st' := [.int ((Int32.ofInt 0)), .ref 160, .int ((Int32.ofInt 1))]) rfl ?_
    refine En_ialdK ((h5 _ _ (inWa tgz_160 (by decide +kernel))).trans h_s) rfl (by decide : (Int32.ofInt 0).toInt = 0) tgz_160 (by decide +kernel) h4 (by decide) (lnI (by decide +kernel : LN _ = 226) (by decide)) ?_
    refine En_Ps 1 (pc' := 15) (lv' := [(0, .ref 159)]) (st' := [.int ((((Int32.ofInt 1)) <<< (s &&& 31)))]) rfl ?_
    refine En_nam (fun z15 h16 => ?_)
    have h17 := shl1_v (y := s) rfl (by (first | exact q_58e6e51dcc hl_s | omega)) (by (first | exact q_c82ed93a8c hu_s | omega))
    rw [← h16] at h17
    have h18 := shl1_p (y := s) 4 rfl (by (first | exact q_58e6e51dcc hl_s | omega)) (by (first | exact q_584a054cc0 hu_s | omega)) (by decide)
    rw [← h16] at h18
    refine En_Ps 1 (pc' := 19) (lv' := [(0, .ref 159)]) (st' := [.int z15]) rfl ?_
    exact En_ret (v := some (Value.int z15)) rfl rfl rfl ⟨h4, h8, z15, rfl, (by omega)⟩
/-- DoorSchoolModel.bits(I)I of a small set -/
abbrev P_203a (σ0 : SG) (a : Int32) : PO := fun v σ => WT σ ∧ Fr [] σ0 σ ∧ ∃ ret : Int32, v = some (Value.int ret) ∧ -ret.toInt ≤ 0 ∧ ret.toInt - 4 ≤ 0 ∧ ret.toInt = bcI a.toInt
set_option maxRecDepth 10000 in
set_option maxHeartbeats 4000000 in
theorem c_203a (σ0 : SG) (hσ0 : WT σ0) (a : Int32) (hl_a : 0 ≤ a.toInt) (hu_a : a.toInt ≤ 15) : En 0 0 none mr_203 (P_203a σ0 a) 0 [(0, .int a)] [] σ0 := by
  have hF0 : Fr [] σ0 σ0 := Fr_rfl
  refine En_Ps 29 (pc' := 35) (lv' := [(2, .int ((((a - (((a.toUInt32 >>> ((Int32.ofInt 1).toUInt32 &&& Int32.toUInt32 31)).toInt32) &&& (1431655765 : Int32))) &&& (858993459 : Int32)) + ((((a - (((a.toUInt32 >>> ((Int32.ofInt 1).toUInt32 &&& Int32.toUInt32 31)).toInt32) &&& (1431655765 : Int32))).toUInt32 >>> ((Int32.ofInt 2).toUInt32 &&& Int32.toUInt32 31)).toInt32) &&& (858993459 : Int32))))), (1, .int ((a - (((a.toUInt32 >>> ((Int32.ofInt 1).toUInt32 &&& Int32.toUInt32 31)).toInt32) &&& (1431655765 : Int32))))), (0, .int a)]) (st' := [.int (((((((((a - (((a.toUInt32 >>> ((Int32.ofInt 1).toUInt32 &&& Int32.toUInt32 31)).toInt32) &&& (1431655765 : Int32))) &&& (858993459 : Int32)) + ((((a - (((a.toUInt32 >>> ((Int32.ofInt 1).toUInt32 &&& Int32.toUInt32 31)).toInt32) &&& (1431655765 : Int32))).toUInt32 >>> ((Int32.ofInt 2).toUInt32 &&& Int32.toUInt32 31)).toInt32) &&& (858993459 : Int32))) + (((((a - (((a.toUInt32 >>> ((Int32.ofInt 1).toUInt32 &&& Int32.toUInt32 31)).toInt32) &&& (1431655765 : Int32))) &&& (858993459 : Int32)) + ((((a - (((a.toUInt32 >>> ((Int32.ofInt 1).toUInt32 &&& Int32.toUInt32 31)).toInt32) &&& (1431655765 : Int32))).toUInt32 >>> ((Int32.ofInt 2).toUInt32 &&& Int32.toUInt32 31)).toInt32) &&& (858993459 : Int32))).toUInt32 >>> ((Int32.ofInt 4).toUInt32 &&& Int32.toUInt32 31)).toInt32)) &&& (252645135 : Int32)) * (16843009 : Int32)).toUInt32 >>> (((Int8.ofInt 24).toInt32).toUInt32 &&& Int32.toUInt32 31)).toInt32))]) rfl ?_
  refine En_nam (fun z hz => ?_)
  have hb := bits_small (fun x => ((((((((x - (((x.toUInt32 >>> ((Int32.ofInt 1).toUInt32 &&& Int32.toUInt32 31)).toInt32) &&& (1431655765 : Int32))) &&& (858993459 : Int32)) + ((((x - (((x.toUInt32 >>> ((Int32.ofInt 1).toUInt32 &&& Int32.toUInt32 31)).toInt32) &&& (1431655765 : Int32))).toUInt32 >>> ((Int32.ofInt 2).toUInt32 &&& Int32.toUInt32 31)).toInt32) &&& (858993459 : Int32))) + (((((x - (((x.toUInt32 >>> ((Int32.ofInt 1).toUInt32 &&& Int32.toUInt32 31)).toInt32) &&& (1431655765 : Int32))) &&& (858993459 : Int32)) + ((((x - (((x.toUInt32 >>> ((Int32.ofInt 1).toUInt32 &&& Int32.toUInt32 31)).toInt32) &&& (1431655765 : Int32))).toUInt32 >>> ((Int32.ofInt 2).toUInt32 &&& Int32.toUInt32 31)).toInt32) &&& (858993459 : Int32))).toUInt32 >>> ((Int32.ofInt 4).toUInt32 &&& Int32.toUInt32 31)).toInt32)) &&& (252645135 : Int32)) * (16843009 : Int32)).toUInt32 >>> (((Int8.ofInt 24).toInt32).toUInt32 &&& Int32.toUInt32 31)).toInt32)) hz (by decide +kernel) hl_a hu_a
  have hr := bcI_rng a.toInt
  exact En_ret (v := some (Value.int z)) rfl rfl rfl ⟨hσ0, hF0, z, rfl, (by (first | exact q_ce10a64c12 hb hr.1 hr.2 | omega))⟩
/-- DoorSchoolModel.bits(I)I -/
abbrev P_203b (σ0 : SG) (a : Int32) : PO := fun v σ => WT σ ∧ Fr [] σ0 σ ∧ ∃ ret : Int32, v = some (Value.int ret) ∧ True
set_option maxRecDepth 10000 in
set_option maxHeartbeats 4000000 in
theorem c_203b (σ0 : SG) (hσ0 : WT σ0) (a : Int32) : En 0 0 none mr_203 (P_203b σ0 a) 0 [(0, .int a)] [] σ0 := by
  have hF0 : Fr [] σ0 σ0 := Fr_rfl
  refine En_Ps 4 (pc' := 4) (lv' := [(0, .int a)]) (st' := [.int (((a.toUInt32 >>> (((Int32.ofInt 1)).toUInt32 &&& Int32.toUInt32 31)).toInt32)), .int a]) rfl ?_
  refine En_hav (fun z1 => ?_)
  refine En_Ps 2 (pc' := 7) (lv' := [(0, .int a)]) (st' := [.int ((z1 &&& ((1431655765 : Int32)))), .int a]) rfl ?_
  refine En_rng (l := 0) (u := 1431655765) (andR_rng (by decide : (1431655765 : Int32).toInt = 1431655765) (by decide)) (fun z2 h3 h4 => ?_)
  refine En_Ps 1 (pc' := 8) (lv' := [(0, .int a)]) (st' := [.int ((a - z2))]) rfl ?_
  refine En_hav (fun z5 => ?_)
  refine En_Ps 4 (pc' := 13) (lv' := [(1, .int z5), (0, .int a)]) (st' := [.int ((z5 &&& ((858993459 : Int32))))]) rfl ?_
  refine En_rng (l := 0) (u := 858993459) (andR_rng (by decide : (858993459 : Int32).toInt = 858993459) (by decide)) (fun z6 h7 h8 => ?_)
  refine En_Ps 3 (pc' := 16) (lv' := [(1, .int z5), (0, .int a)]) (st' := [.int (((z5.toUInt32 >>> (((Int32.ofInt 2)).toUInt32 &&& Int32.toUInt32 31)).toInt32)), .int z6]) rfl ?_
  refine En_hav (fun z9 => ?_)
  refine En_Ps 2 (pc' := 19) (lv' := [(1, .int z5), (0, .int a)]) (st' := [.int ((z9 &&& ((858993459 : Int32)))), .int z6]) rfl ?_
  refine En_rng (l := 0) (u := 858993459) (andR_rng (by decide : (858993459 : Int32).toInt = 858993459) (by decide)) (fun z10 h11 h12 => ?_)
  refine En_Ps 1 (pc' := 20) (lv' := [(1, .int z5), (0, .int a)]) (st' := [.int ((z6 + z10))]) rfl ?_
  refine En_top (addI rfl rfl (by first | exact q_3bb374bebc h7 h11 | omega) (by first | exact q_ce39e5e0e0 h8 h12 | omega)) (fun z13 h14 => ?_)
  refine En_Ps 5 (pc' := 25) (lv' := [(2, .int z13), (1, .int z5), (0, .int a)]) (st' := [.int (((z13.toUInt32 >>> (((Int32.ofInt 4)).toUInt32 &&& Int32.toUInt32 31)).toInt32)), .int z13]) rfl ?_
  refine En_hav (fun z15 => ?_)
  refine En_Ps 1 (pc' := 26) (lv' := [(2, .int z13), (1, .int z5), (0, .int a)]) (st' := [.int ((z13 + z15))]) rfl ?_
  refine En_hav (fun z16 => ?_)
  refine En_Ps 2 (pc' := 29) (lv' := [(2, .int z13), (1, .int z5), (0, .int a)]) (st' := [.int ((z16 &&& ((252645135 : Int32))))]) rfl ?_
  refine En_rng (l := 0) (u := 252645135) (andR_rng (by decide : (252645135 : Int32).toInt = 252645135) (by decide)) (fun z17 h18 h19 => ?_)
  refine En_Ps 2 (pc' := 32) (lv' := [(2, .int z13), (1, .int z5), (0, .int a)]) (st' := [.int ((z17 * ((16843009 : Int32))))]) rfl ?_
  refine En_hav (fun z20 => ?_)
  refine En_Ps 2 (pc' := 35) (lv' := [(2, .int z13), (1, .int z5), (0, .int a)]) (st' := [.int (((z20.toUInt32 >>> ((((Int8.ofInt 24).toInt32)).toUInt32 &&& Int32.toUInt32 31)).toInt32))]) rfl ?_
  refine En_hav (fun z21 => ?_)
  exact En_ret (v := some (Value.int z21)) rfl rfl rfl ⟨hσ0, hF0, z21, rfl, trivial⟩
end
/-! 32.ly.m01 -/
section
/-- DoorSchoolModel.deedsOf(II)I -/
abbrev P_212 (σ0 : SG) (a : Int32) (b : Int32) : PO := fun v σ => WT σ ∧ Fr [] σ0 σ ∧ ∃ ret : Int32, v = some (Value.int ret) ∧ -ret.toInt ≤ 0 ∧ ret.toInt - 65535 ≤ 0
set_option maxRecDepth 10000 in
set_option maxHeartbeats 4000000 in
theorem c_212 (σ0 : SG) (hσ0 : WT σ0) (a : Int32) (b : Int32) : En 2 40 none mr_212 (P_212 σ0 a b) 0 [(0, .ref 159), (1, .int a), (2, .int b)] [] σ0 := by
  have hF0 : Fr [] σ0 σ0 := Fr_rfl
  refine En_Ps 4 (pc' := 5) (lv' := [(4, .int ((Int32.ofInt 0))), (3, .int ((Int32.ofInt 0))), (0, .ref 159), (1, .int a), (2, .int b)]) (st' := []) rfl ?_
  have key5 : ∀ (n5 : Nat) (σ3 : SG) (y1 : Int32) (y2 : Int32), WT σ3 → Fr [] σ0 σ3 → 0 ≤ y1.toInt → y1.toInt ≤ 65535 → 0 ≤ y2.toInt → y2.toInt ≤ 16 → -y2.toInt + 16 < (n5 : Int) → En 2 40 none mr_212 (P_212 σ0 a b) 5 [(0, .ref 159), (1, .int a), (2, .int b), (3, .int y1), (4, .int y2)] [] σ3 := by
    intro n5
    induction n5 with
    | zero =>
      intro σ3 y1 y2 h4 h5 h6 h7 h8 h9 h10
      first | exact (q_511f6d33ac h10 h9).elim | (exfalso; omega)
    | succ n5 ih5 =>
      intro σ3 y1 y2 h4 h5 h6 h7 h8 h9 h10
      refine En_Ps 2 (pc' := 8) (lv' := [(0, .ref 159), (1, .int a), (2, .int b), (3, .int y1), (4, .int y2)]) (st' := [.ref 159, .int y2]) rfl ?_
      obtain ⟨z12, h11, h13, h14⟩ := WT_peekI h4 tgz_160 (by decide +kernel : FT 36 (0 : Int).toNat = (0, 0, 4)) (by decide +kernel)
      obtain ⟨z16, h15, h17, h18⟩ := WT_peekI h4 tgz_160 (by decide +kernel : FT 36 (7 : Int).toNat = (0, 0, 1600)) (by decide +kernel)
      refine En_callV rfl rfl rfl rfl rfl rfl rfl rfl tgz_159 (by decide +kernel) rfl (c_269 σ3 h4 z12 h11 z16 h15) (by decide) (by decide) (fun v20 σ21 h19 => ?_)
      obtain ⟨h22, h23, z25, rfl, h24⟩ := h19
      have h26 := h24.2.2
      have h27 := Fr_trans h5 h23 (by decide +kernel)
      refine En_icGe _ rfl rfl rfl (fun h28 => ?_) (fun h28 => ?_)
      · refine En_Ps 1 (pc' := 40) (lv' := [(0, .ref 159), (1, .int a), (2, .int b), (3, .int y1), (4, .int y2)]) (st' := [.int y1]) rfl ?_
        exact En_ret (v := some (Value.int y1)) rfl rfl rfl ⟨h22, h27, y1, rfl, ⟨by first | exact q_c803b490ef h6 | omega, by first | exact q_e7edf0f95a h7 | omega⟩⟩
      · refine En_Ps 4 (pc' := 19) (lv' := [(0, .ref 159), (1, .int a), (2, .int b), (3, .int y1), (4, .int y2)]) (st' := [.int ((y2 &&& a)), .int y1]) rfl ?_
        refine En_rng (l := 0) (u := 15) (andx_rng rfl (by (first | exact q_58e6e51dcc h8 | omega)) (by (first | exact q_c15b485600 h28 h24.2.1 | omega))) (fun z29 h30 h31 => ?_)
        refine En_Ps 1 (pc' := 20) (lv' := [(0, .ref 159), (1, .int a), (2, .int b), (3, .int y1), (4, .int y2)]) (st' := [.int b, .int z29, .int y1]) rfl ?_
        refine En_icNe _ rfl rfl rfl (fun h32 => ?_) (fun h32 => ?_)
        · refine En_Ps 2 (pc' := 32) (lv' := [(0, .ref 159), (1, .int a), (2, .int b), (3, .int y1), (4, .int y2)]) (st' := [.int ((y1 ||| ((Int32.ofInt 0))))]) rfl ?_
          refine En_rng (l := 0) (u := 65535) (or_rng 16 rfl (by decide : (Int32.ofInt 0).toInt = 0) (by (first | exact q_58e6e51dcc h6 | omega)) (by omega) (by (first | decide | omega)) (by omega) (by decide)) (fun z33 h34 h35 => ?_)
          refine En_Ps 2 (pc' := 36) (lv' := [(4, .int ((y2 + Int32.ofInt 1))), (3, .int z33), (0, .ref 159), (1, .int a), (2, .int b)]) (st' := []) rfl ?_
          refine En_lv1 (addI rfl (by decide : (Int32.ofInt 1).toInt = 1) (by first | exact q_465ab79ac1 h8 | omega) (by first | exact q_f3f8e04381 h9 | omega)) (fun z36 h37 => ?_)
          refine En_Ps 1 (pc' := 5) (lv' := [(4, .int z36), (3, .int z33), (0, .ref 159), (1, .int a), (2, .int b)]) (st' := []) rfl ?_
          refine En_lv (lv := [(0, .ref 159), (1, .int a), (2, .int b), (3, .int z33), (4, .int z36)]) ⟨rfl, rfl, rfl, rfl, rfl, trivial⟩ ?_
          exact ih5 σ21 z33 z36 h22 h27 (by first | exact q_58e6e51dcc h34 | omega) (by first | exact q_36eb0a70bf h35 | omega) (by first | exact q_35104ce9d3 h37 h8 | omega) (by first | exact q_34dc714687 h37 h28 h24.2.1 | omega) (by first | exact q_c5d740bdff h37 h10 | omega)
        · refine En_Ps 3 (pc' := 27) (lv' := [(0, .ref 159), (1, .int a), (2, .int b), (3, .int y1), (4, .int y2)]) (st' := [.int ((((Int32.ofInt 1)) <<< (y2 &&& 31))), .int y1]) rfl ?_
          refine En_rng (shl1_p 15 rfl (by (first | exact q_58e6e51dcc h8 | omega)) (by (first | exact q_e19f9506e1 h28 h24.2.1 | omega)) (by decide)) (fun z38 h39 h40 => ?_)
          refine En_Ps 2 (pc' := 32) (lv' := [(0, .ref 159), (1, .int a), (2, .int b), (3, .int y1), (4, .int y2)]) (st' := [.int ((y1 ||| z38))]) rfl ?_
          refine En_rng (l := 0) (u := 65535) (or_rng 16 rfl rfl (by (first | exact q_58e6e51dcc h6 | omega)) (by omega) (by (first | exact q_337a85e294 h39 | omega)) (by omega) (by decide)) (fun z41 h42 h43 => ?_)
          refine En_Ps 2 (pc' := 36) (lv' := [(4, .int ((y2 + Int32.ofInt 1))), (3, .int z41), (0, .ref 159), (1, .int a), (2, .int b)]) (st' := []) rfl ?_
          refine En_lv1 (addI rfl (by decide : (Int32.ofInt 1).toInt = 1) (by first | exact q_465ab79ac1 h8 | omega) (by first | exact q_f3f8e04381 h9 | omega)) (fun z44 h45 => ?_)
          refine En_Ps 1 (pc' := 5) (lv' := [(4, .int z44), (3, .int z41), (0, .ref 159), (1, .int a), (2, .int b)]) (st' := []) rfl ?_
          refine En_lv (lv := [(0, .ref 159), (1, .int a), (2, .int b), (3, .int z41), (4, .int z44)]) ⟨rfl, rfl, rfl, rfl, rfl, trivial⟩ ?_
          exact ih5 σ21 z41 z44 h22 h27 (by first | exact q_58e6e51dcc h42 | omega) (by first | exact q_36eb0a70bf h43 | omega) (by first | exact q_35104ce9d3 h45 h8 | omega) (by first | exact q_34dc714687 h45 h28 h24.2.1 | omega) (by first | exact q_c5d740bdff h45 h10 | omega)
  have := (by decide : (Int32.ofInt 0).toInt = 0)
  have := (by decide : (Int32.ofInt 0).toInt = 0)
  refine En_lv (lv := [(0, .ref 159), (1, .int a), (2, .int b), (3, .int ((Int32.ofInt 0))), (4, .int ((Int32.ofInt 0)))]) ⟨rfl, rfl, rfl, rfl, rfl, trivial⟩ ?_
  exact key5 (Int.toNat (16) + 1) σ0 ((Int32.ofInt 0)) ((Int32.ofInt 0)) hσ0 hF0 (by decide) (by decide) (by decide) (by decide) (by first | exact toN_lt _ | omega)
/-- DoorSchoolModel.layRules()V -/
abbrev P_272 (σ0 : SG) (s : Int32) (sc : Int32) : PO := fun v σ => WT σ ∧ Fr [(35, 18), (42, 0), (43, 0), (44, 0)] σ0 σ ∧ v = none ∧ True
set_option maxRecDepth 10000 in
set_option maxHeartbeats 4000000 in
theorem c_272 (σ0 : SG) (hσ0 : WT σ0) (s : Int32) (h_s : (σ0 160)[(0 : Int).toNat]? = some (Value.int s)) (sc : Int32) (h_sc : (σ0 160)[(7 : Int).toNat]? = some (Value.int sc)) : En 3 64 none mr_272 (P_272 σ0 s sc) 0 [(0, .ref 159)] [] σ0 := by
  obtain ⟨hl_s, hu_s⟩ := WT_int hσ0 (g := 36) (by decide +kernel) (by decide +kernel) (l := 0) (u := 4) (by decide +kernel) h_s
  obtain ⟨hl_sc, hu_sc⟩ := WT_int hσ0 (g := 36) (by decide +kernel) (by decide +kernel) (l := 0) (u := 1600) (by decide +kernel) h_sc
  have hF0 : Fr [(35, 18), (42, 0), (43, 0), (44, 0)] σ0 σ0 := Fr_rfl
  refine En_Ps 2 (pc' := 2) (lv' := [(0, .ref 159)]) (st' := [.int ((Int32.ofInt 0)), .ref 159]) rfl ?_
  refine En_put (j := 18) rfl rfl rfl tgz_159 (by decide +kernel) rfl (vI (l := 0) (u := 81) (by decide +kernel) (by decide : (Int32.ofInt 0).toInt = 0) (by decide) (by decide)) hσ0 hF0 (by decide +kernel) (fun σ1 h2 h3 h4 h5 => ?_)
  refine En_Ps 2 (pc' := 7) (lv' := [(1, .int ((Int32.ofInt 0))), (0, .ref 159)]) (st' := []) rfl ?_
  have key7 : ∀ (n7 : Nat) (σ8 : SG) (y6 : Int32) (y7 : Int32), WT σ8 → Fr [(35, 18), (42, 0), (43, 0), (44, 0)] σ0 σ8 → (σ8 160)[(0 : Int).toNat]? = some (Value.int s) → (σ8 160)[(7 : Int).toNat]? = some (Value.int sc) → (σ8 159)[18]? = some (Value.int y7) → 0 ≤ y6.toInt → y6.toInt ≤ 5 → 0 ≤ y7.toInt → y7.toInt ≤ 81 → -y6.toInt + 5 < (n7 : Int) → RN (kI sc.toInt s.toInt) (y6.toInt) 0 (y7.toInt) → En 3 64 none mr_272 (P_272 σ0 s sc) 7 [(0, .ref 159), (1, .int y6)] [] σ8 := by
    intro n7
    induction n7 with
    | zero =>
      intro σ8 y6 y7 h9 h10 h11 h12 h13 h14 h15 h16 h17 h18 h19
      first | exact (q_94ef5d5129 h18 h15).elim | (exfalso; omega)
    | succ n7 ih7 =>
      intro σ8 y6 y7 h9 h10 h11 h12 h13 h14 h15 h16 h17 h18 h19
      refine En_Ps 2 (pc' := 9) (lv' := [(0, .ref 159), (1, .int y6)]) (st' := [.ref 159, .int y6]) rfl ?_
      refine En_getU (j := 1) (u := 160) (g' := 36) (q := 0) rfl rfl rfl tgz_159 (by decide +kernel) h9 (by decide +kernel) un_36_160 (fun h20 => ?_)
      refine En_Ps 1 (pc' := 13) (lv' := [(0, .ref 159), (1, .int y6)]) (st' := [.int ((Int32.ofInt 0)), .ref 160, .int y6]) rfl ?_
      refine En_ialdK h11 rfl (by decide : (Int32.ofInt 0).toInt = 0) tgz_160 (by decide +kernel) h9 (by decide) (lnI (by decide +kernel : LN _ = 226) (by decide)) ?_
      refine En_icGt _ rfl rfl rfl (fun h23 => ?_) (fun h23 => ?_)
      · exact En_ret (v := none) rfl rfl rfl ⟨h9, h10, rfl, trivial⟩
      · refine En_Ps 2 (pc' := 19) (lv' := [(2, .int ((Int32.ofInt 0))), (0, .ref 159), (1, .int y6)]) (st' := []) rfl ?_
        have key19 : ∀ (n19 : Nat) (σ26 : SG) (y24 : Int32) (y25 : Int32), WT σ26 → Fr [(35, 18), (42, 0), (43, 0), (44, 0)] σ0 σ26 → (σ26 160)[(0 : Int).toNat]? = some (Value.int s) → (σ26 160)[(7 : Int).toNat]? = some (Value.int sc) → (σ26 159)[1]? = some (Value.ref 160) → (σ26 159)[18]? = some (Value.int y25) → 0 ≤ y24.toInt → y24.toInt ≤ 16 → 0 ≤ y25.toInt → y25.toInt ≤ 81 → -y24.toInt + 16 < (n19 : Int) → RN (kI sc.toInt s.toInt) (y6.toInt) (y24.toInt) (y25.toInt) → En 3 64 none mr_272 (P_272 σ0 s sc) 19 [(0, .ref 159), (1, .int y6), (2, .int y24)] [] σ26 := by
          intro n19
          induction n19 with
          | zero =>
            intro σ26 y24 y25 h27 h28 h29 h30 h31 h32 h33 h34 h35 h36 h37 h38
            first | exact (q_511f6d33ac h37 h34).elim | (exfalso; omega)
          | succ n19 ih19 =>
            intro σ26 y24 y25 h27 h28 h29 h30 h31 h32 h33 h34 h35 h36 h37 h38
            refine En_Ps 2 (pc' := 21) (lv' := [(0, .ref 159), (1, .int y6), (2, .int y24)]) (st' := [.ref 159, .int y24]) rfl ?_
            refine En_callV rfl rfl rfl rfl rfl rfl rfl rfl tgz_159 (by decide +kernel) rfl (c_269 σ26 h27 s h29 sc h30) (by decide) (by decide) (fun v40 σ41 h39 => ?_)
            obtain ⟨h42, h43, z45, rfl, h44⟩ := h39
            have h46 := h44.2.2
            have h47 := Fr_trans h28 h43 (by decide +kernel)
            refine En_icGe _ rfl rfl rfl (fun h48 => ?_) (fun h48 => ?_)
            · refine En_Ps 1 (pc' := 116) (lv' := [(1, .int ((y6 + Int32.ofInt 1))), (0, .ref 159), (2, .int y24)]) (st' := []) rfl ?_
              refine En_lv1 (addI rfl (by decide : (Int32.ofInt 1).toInt = 1) (by first | exact q_465ab79ac1 h14 | omega) (by first | exact q_aeda34609f h15 | omega)) (fun z49 h50 => ?_)
              refine En_Ps 1 (pc' := 7) (lv' := [(1, .int z49), (0, .ref 159), (2, .int y24)]) (st' := []) rfl ?_
              refine En_lv (lv := [(0, .ref 159), (1, .int z49)]) ⟨rfl, rfl, trivial⟩ ?_
              exact ih7 σ41 z49 y25 h42 h47 ((h43 _ _ (inWa tgz_160 (by decide +kernel))).trans h29) ((h43 _ _ (inWa tgz_160 (by decide +kernel))).trans h30) ((h43 _ _ (inW tgz_159 (by decide +kernel))).trans h32) (by first | exact q_35104ce9d3 h50 h14 | omega) (by first | exact q_45f670d5d5 h50 h23 hu_s | omega) (by first | exact q_58e6e51dcc h35 | omega) (by first | exact q_938d18a0b8 h36 | omega) (by first | exact q_4f8c136792 h50 h18 | omega) (by first | exact RN_eq h38 (by omega) (by omega) (by (first | exact q_61ddd2b576 | omega)) | exact RN_skip h38 (by omega) (by omega) (by omega) (by omega) (by omega) | exact RN_x h38 (by omega) (by omega) (by omega) (by omega) | exact RN_n h38 (by omega) (by omega) (by omega) (by omega) (by omega) | exact RV_in h38 (by omega) (by omega) (by omega) (by omega) (by omega) (by omega) | exact RV_put h38 (by omega) (by omega) (by omega) (by omega) (by omega) (by omega) | exact RV_not h38 (by omega) (by omega) (by omega) (by omega) (by omega) (by omega))
            · refine En_Ps 1 (pc' := 28) (lv' := [(0, .ref 159), (1, .int y6), (2, .int y24)]) (st' := [.int y24]) rfl ?_
              refine En_callS rfl rfl rfl rfl rfl rfl rfl rfl rfl (c_203a σ41 h42 y24 (geI rfl (by first | exact q_58e6e51dcc h33 | omega)) (leI rfl (by first | exact q_c15b485600 h48 h44.2.1 | omega))) (by decide) (by decide) (fun v52 σ53 h51 => ?_)
              obtain ⟨h54, h55, z57, rfl, h56⟩ := h51
              have h58 := h56.2.2
              have h59 := Fr_trans h47 h55 (by decide +kernel)
              refine En_Ps 1 (pc' := 32) (lv' := [(0, .ref 159), (1, .int y6), (2, .int y24)]) (st' := [.int y6, .int z57]) rfl ?_
              refine En_icEq _ rfl rfl rfl (fun h60 => ?_) (fun h60 => ?_)
              · refine En_Ps 2 (pc' := 40) (lv' := [(3, .int ((Int32.ofInt 0))), (0, .ref 159), (1, .int y6), (2, .int y24)]) (st' := []) rfl ?_
                have key40 : ∀ (n40 : Nat) (σ63 : SG) (y61 : Int32) (y62 : Int32), WT σ63 → Fr [(35, 18), (42, 0), (43, 0), (44, 0)] σ0 σ63 → (σ63 160)[(0 : Int).toNat]? = some (Value.int s) → (σ63 160)[(7 : Int).toNat]? = some (Value.int sc) → (σ63 159)[1]? = some (Value.ref 160) → (σ63 159)[18]? = some (Value.int y62) → 0 ≤ y61.toInt → y61.toInt ≤ 16 → 0 ≤ y62.toInt → y62.toInt ≤ 81 → -y61.toInt + 16 < (n40 : Int) → RV (kI sc.toInt s.toInt) (y6.toInt) (y24.toInt) (y61.toInt) (y62.toInt) → En 3 64 none mr_272 (P_272 σ0 s sc) 40 [(0, .ref 159), (1, .int y6), (2, .int y24), (3, .int y61)] [] σ63 := by
                  intro n40
                  induction n40 with
                  | zero =>
                    intro σ63 y61 y62 h64 h65 h66 h67 h68 h69 h70 h71 h72 h73 h74 h75
                    first | exact (q_511f6d33ac h74 h71).elim | (exfalso; omega)
                  | succ n40 ih40 =>
                    intro σ63 y61 y62 h64 h65 h66 h67 h68 h69 h70 h71 h72 h73 h74 h75
                    refine En_Ps 2 (pc' := 42) (lv' := [(0, .ref 159), (1, .int y6), (2, .int y24), (3, .int y61)]) (st' := [.int y24, .int y61]) rfl ?_
                    refine En_icGt _ rfl rfl rfl (fun h76 => ?_) (fun h76 => ?_)
                    · refine En_Ps 1 (pc' := 110) (lv' := [(2, .int ((y24 + Int32.ofInt 1))), (0, .ref 159), (1, .int y6), (3, .int y61)]) (st' := []) rfl ?_
                      refine En_lv1 (addI rfl (by decide : (Int32.ofInt 1).toInt = 1) (by first | exact q_465ab79ac1 h33 | omega) (by first | exact q_f3f8e04381 h34 | omega)) (fun z77 h78 => ?_)
                      refine En_Ps 1 (pc' := 19) (lv' := [(2, .int z77), (0, .ref 159), (1, .int y6), (3, .int y61)]) (st' := []) rfl ?_
                      refine En_lv (lv := [(0, .ref 159), (1, .int y6), (2, .int z77)]) ⟨rfl, rfl, rfl, trivial⟩ ?_
                      exact ih19 σ63 z77 y62 h64 h65 h66 h67 h68 h69 (by first | exact q_35104ce9d3 h78 h33 | omega) (by first | exact q_eba8fd3b5f h78 h76 h71 | omega) (by first | exact q_58e6e51dcc h72 | omega) (by first | exact q_938d18a0b8 h73 | omega) (by first | exact q_c5d740bdff h78 h37 | omega) (by first | exact RN_eq h75 (by omega) (by omega) (by omega) | exact RN_skip h75 (by omega) (by omega) (by omega) (by omega) (by omega) | exact RN_x h75 (by (first | exact q_114b7bcb5b h76 | omega)) (by (first | exact q_61ddd2b576 | omega)) (by (first | exact q_ba1b2c713b h78 | omega)) (by (first | exact q_61ddd2b576 | omega)) | exact RN_n h75 (by omega) (by omega) (by omega) (by omega) (by omega) | exact RV_in h75 (by omega) (by omega) (by omega) (by omega) (by omega) (by omega) | exact RV_put h75 (by omega) (by omega) (by omega) (by omega) (by omega) (by omega) | exact RV_not h75 (by omega) (by omega) (by omega) (by omega) (by omega) (by omega))
                    · refine En_Ps 4 (pc' := 49) (lv' := [(0, .ref 159), (1, .int y6), (2, .int y24), (3, .int y61)]) (st' := [.int ((y24 ^^^ ((Int32.ofInt (-1))))), .int y61]) rfl ?_
                      refine En_nam (fun z79 h80 => ?_)
                      refine En_Ps 1 (pc' := 50) (lv' := [(0, .ref 159), (1, .int y6), (2, .int y24), (3, .int y61)]) (st' := [.int ((y61 &&& z79))]) rfl ?_
                      refine En_nam (fun z81 h82 => ?_)
                      obtain ⟨h83, h84⟩ := andn_rng h82 rfl (by (first | exact q_58e6e51dcc h70 | omega)) (by (first | exact q_44d807139a h76 h48 h44.2.1 | omega) : _ ≤ (15 : Int))
                      refine En_iEq _ rfl rfl (fun h85 => ?_) (fun h85 => ?_)
                      · obtain ⟨h86, h87⟩ := andn_zero h82 h80 h85 rfl rfl (by (first | exact q_58e6e51dcc h33 | omega))
                        have := sub_sb h82 h80 rfl rfl (by (first | exact q_58e6e51dcc h86 | omega)) (by (first | exact q_44d807139a h87 h48 h44.2.1 | omega)) (by (first | exact q_58e6e51dcc h33 | omega)) (by (first | exact q_c15b485600 h48 h44.2.1 | omega))
                        have h88 := RV_le h75 (by (first | exact q_7b14c78c18 h87 | omega))
                        refine En_Ps 1 (pc' := 57) (lv' := [(0, .ref 159), (1, .int y6), (2, .int y24), (3, .int y61)]) (st' := [.ref 159]) rfl ?_
                        refine En_getU (j := 15) (u := 166) (g' := 42) (q := 0) rfl rfl rfl tgz_159 (by decide +kernel) h64 (by decide +kernel) un_42_166 (fun h89 => ?_)
                        refine En_Ps 1 (pc' := 61) (lv' := [(0, .ref 159), (1, .int y6), (2, .int y24), (3, .int y61)]) (st' := [.ref 159, .ref 166]) rfl ?_
                        refine En_getK (j := 18) h69 rfl rfl rfl tgz_159 (by decide +kernel) ?_
                        refine En_Ps 1 (pc' := 65) (lv' := [(0, .ref 159), (1, .int y6), (2, .int y24), (3, .int y61)]) (st' := [.int y24, .int y62, .ref 166]) rfl ?_
                        refine En_iast (l := 0) (u := 15) rfl rfl tgz_166 (by decide +kernel) (by first | exact q_58e6e51dcc h72 | omega) (lnI (by decide +kernel : LN _ = 81) (by (first | exact q_4361698ff4 h88.1 | omega))) (FTsgl (by decide +kernel)) (rngI rfl (by first | exact q_58e6e51dcc h33 | omega) (by first | exact q_c15b485600 h48 h44.2.1 | omega)) h64 h65 (by decide +kernel) (fun σ91 h92 h93 h94 h95 => ?_)
                        refine En_Ps 1 (pc' := 67) (lv' := [(0, .ref 159), (1, .int y6), (2, .int y24), (3, .int y61)]) (st' := [.ref 159]) rfl ?_
                        refine En_getU (j := 16) (u := 167) (g' := 43) (q := 0) rfl rfl rfl tgz_159 (by decide +kernel) h92 (by decide +kernel) un_43_167 (fun h96 => ?_)
                        refine En_Ps 1 (pc' := 71) (lv' := [(0, .ref 159), (1, .int y6), (2, .int y24), (3, .int y61)]) (st' := [.ref 159, .ref 167]) rfl ?_
                        refine En_getK (j := 18) ((h95 _ _ (Or.inl (neTG tgz_159 tgz_166 (by decide)))).trans h69) rfl rfl rfl tgz_159 (by decide +kernel) ?_
                        refine En_Ps 1 (pc' := 75) (lv' := [(0, .ref 159), (1, .int y6), (2, .int y24), (3, .int y61)]) (st' := [.int y61, .int y62, .ref 167]) rfl ?_
                        refine En_iast (l := 0) (u := 15) rfl rfl tgz_167 (by decide +kernel) (by first | exact q_58e6e51dcc h72 | omega) (lnI (by decide +kernel : LN _ = 81) (by (first | exact q_4361698ff4 h88.1 | omega))) (FTsgl (by decide +kernel)) (rngI rfl (by first | exact q_58e6e51dcc h70 | omega) (by first | exact q_44d807139a h76 h48 h44.2.1 | omega)) h92 h93 (by decide +kernel) (fun σ98 h99 h100 h101 h102 => ?_)
                        refine En_Ps 1 (pc' := 77) (lv' := [(0, .ref 159), (1, .int y6), (2, .int y24), (3, .int y61)]) (st' := [.ref 159]) rfl ?_
                        refine En_getU (j := 17) (u := 168) (g' := 44) (q := 0) rfl rfl rfl tgz_159 (by decide +kernel) h99 (by decide +kernel) un_44_168 (fun h103 => ?_)
                        refine En_Ps 1 (pc' := 81) (lv' := [(0, .ref 159), (1, .int y6), (2, .int y24), (3, .int y61)]) (st' := [.ref 159, .ref 168]) rfl ?_
                        refine En_getK (j := 18) ((h102 _ _ (Or.inl (neTG tgz_159 tgz_167 (by decide)))).trans ((h95 _ _ (Or.inl (neTG tgz_159 tgz_166 (by decide)))).trans h69)) rfl rfl rfl tgz_159 (by decide +kernel) ?_
                        refine En_Ps 3 (pc' := 87) (lv' := [(0, .ref 159), (1, .int y6), (2, .int y24), (3, .int y61)]) (st' := [.int y61, .int y24, .ref 159, .int y62, .ref 168]) rfl ?_
                        refine En_callV rfl rfl rfl rfl rfl rfl rfl rfl tgz_159 (by decide +kernel) rfl (c_212 σ98 h99 y24 y61) (by decide) (by decide) (fun v106 σ107 h105 => ?_)
                        obtain ⟨h108, h109, z111, rfl, h110⟩ := h105
                        have h112 := Fr_trans h100 h109 (by decide +kernel)
                        refine En_iast (l := (-2147483648)) (u := 2147483647) rfl rfl tgz_168 (by decide +kernel) (by first | exact q_58e6e51dcc h72 | omega) (lnI (by decide +kernel : LN _ = 81) (by (first | exact q_4361698ff4 h88.1 | omega))) (FTsgl (by decide +kernel)) (fullI _) h108 h112 (by decide +kernel) (fun σ113 h114 h115 h116 h117 => ?_)
                        refine En_Ps 2 (pc' := 93) (lv' := [(0, .ref 159), (1, .int y6), (2, .int y24), (3, .int y61)]) (st' := [.ref 159, .ref 159]) rfl ?_
                        refine En_getK (j := 18) ((h117 _ _ (Or.inl (neTG tgz_159 tgz_168 (by decide)))).trans ((h109 _ _ (inW tgz_159 (by decide +kernel))).trans ((h102 _ _ (Or.inl (neTG tgz_159 tgz_167 (by decide)))).trans ((h95 _ _ (Or.inl (neTG tgz_159 tgz_166 (by decide)))).trans h69)))) rfl rfl rfl tgz_159 (by decide +kernel) ?_
                        refine En_Ps 2 (pc' := 98) (lv' := [(0, .ref 159), (1, .int y6), (2, .int y24), (3, .int y61)]) (st' := [.int ((y62 + ((Int32.ofInt 1)))), .ref 159]) rfl ?_
                        refine En_top (addI rfl (by decide : (Int32.ofInt 1).toInt = 1) (by first | exact q_465ab79ac1 h72 | omega) (by first | exact q_d778ff18c8 h73 | omega)) (fun z118 h119 => ?_)
                        refine En_put (j := 18) rfl rfl rfl tgz_159 (by decide +kernel) rfl (vI (l := 0) (u := 81) (by decide +kernel) rfl (by first | exact q_35104ce9d3 h119 h72 | omega) (by (first | exact q_46b8d9d66b h119 h88.1 | omega))) h114 h115 (by decide +kernel) (fun σ120 h121 h122 h123 h124 => ?_)
                        refine En_Ps 1 (pc' := 104) (lv' := [(3, .int ((y61 + Int32.ofInt 1))), (0, .ref 159), (1, .int y6), (2, .int y24)]) (st' := []) rfl ?_
                        refine En_lv1 (addI rfl (by decide : (Int32.ofInt 1).toInt = 1) (by first | exact q_465ab79ac1 h70 | omega) (by first | exact q_f3f8e04381 h71 | omega)) (fun z125 h126 => ?_)
                        refine En_Ps 1 (pc' := 40) (lv' := [(3, .int z125), (0, .ref 159), (1, .int y6), (2, .int y24)]) (st' := []) rfl ?_
                        refine En_lv (lv := [(0, .ref 159), (1, .int y6), (2, .int y24), (3, .int z125)]) ⟨rfl, rfl, rfl, rfl, trivial⟩ ?_
                        exact ih40 σ120 z125 z118 h121 h122 ((h124 _ _ (Or.inl (neTG tgz_160 tgz_159 (by decide)))).trans ((h117 _ _ (Or.inl (neTG tgz_160 tgz_168 (by decide)))).trans ((h109 _ _ (inWa tgz_160 (by decide +kernel))).trans ((h102 _ _ (Or.inl (neTG tgz_160 tgz_167 (by decide)))).trans ((h95 _ _ (Or.inl (neTG tgz_160 tgz_166 (by decide)))).trans h66))))) ((h124 _ _ (Or.inl (neTG tgz_160 tgz_159 (by decide)))).trans ((h117 _ _ (Or.inl (neTG tgz_160 tgz_168 (by decide)))).trans ((h109 _ _ (inWa tgz_160 (by decide +kernel))).trans ((h102 _ _ (Or.inl (neTG tgz_160 tgz_167 (by decide)))).trans ((h95 _ _ (Or.inl (neTG tgz_160 tgz_166 (by decide)))).trans h67))))) ((h124 _ _ (Or.inr (by decide))).trans ((h117 _ _ (Or.inl (neTG tgz_159 tgz_168 (by decide)))).trans ((h109 _ _ (inW tgz_159 (by decide +kernel))).trans ((h102 _ _ (Or.inl (neTG tgz_159 tgz_167 (by decide)))).trans ((h95 _ _ (Or.inl (neTG tgz_159 tgz_166 (by decide)))).trans h68))))) h123 (by first | exact q_35104ce9d3 h126 h70 | omega) (by first | exact q_2cbd4aee36 h126 h76 h48 h44.2.1 | omega) (by first | exact q_35104ce9d3 h119 h72 | omega) (by (first | exact q_46b8d9d66b h119 h88.1 | omega)) (by first | exact q_c5d740bdff h126 h74 | omega) (by first | exact RN_eq h75 (by omega) (by omega) (by omega) | exact RN_skip h75 (by omega) (by omega) (by omega) (by omega) (by omega) | exact RN_x h75 (by omega) (by omega) (by omega) (by omega) | exact RN_n h75 (by omega) (by omega) (by omega) (by omega) (by omega) | exact RV_in h75 (by omega) (by omega) (by omega) (by omega) (by omega) (by omega) | exact RV_put h75 (by (first | exact q_7b14c78c18 h87 | omega)) (by (first | exact q_0fc2ad1196 this.1 h85 | omega)) (by (first | exact q_61ddd2b576 | omega)) (by (first | exact q_61ddd2b576 | omega)) (by (first | exact q_ba1b2c713b h126 | omega)) (by (first | exact q_ba1b2c713b h119 | omega)) | exact RV_not h75 (by omega) (by omega) (by omega) (by omega) (by omega) (by omega))
                      · have := sub_sb h82 h80 rfl rfl (by (first | exact q_58e6e51dcc h70 | omega)) (by (first | exact q_44d807139a h76 h48 h44.2.1 | omega)) (by (first | exact q_58e6e51dcc h33 | omega)) (by (first | exact q_c15b485600 h48 h44.2.1 | omega))
                        refine En_Ps 2 (pc' := 104) (lv' := [(3, .int ((y61 + Int32.ofInt 1))), (0, .ref 159), (1, .int y6), (2, .int y24)]) (st' := []) rfl ?_
                        refine En_lv1 (addI rfl (by decide : (Int32.ofInt 1).toInt = 1) (by first | exact q_465ab79ac1 h70 | omega) (by first | exact q_f3f8e04381 h71 | omega)) (fun z127 h128 => ?_)
                        refine En_Ps 1 (pc' := 40) (lv' := [(3, .int z127), (0, .ref 159), (1, .int y6), (2, .int y24)]) (st' := []) rfl ?_
                        refine En_lv (lv := [(0, .ref 159), (1, .int y6), (2, .int y24), (3, .int z127)]) ⟨rfl, rfl, rfl, rfl, trivial⟩ ?_
                        exact ih40 σ63 z127 y62 h64 h65 h66 h67 h68 h69 (by first | exact q_35104ce9d3 h128 h70 | omega) (by first | exact q_2cbd4aee36 h128 h76 h48 h44.2.1 | omega) (by first | exact q_58e6e51dcc h72 | omega) (by first | exact q_938d18a0b8 h73 | omega) (by first | exact q_c5d740bdff h128 h74 | omega) (by first | exact RN_eq h75 (by omega) (by omega) (by omega) | exact RN_skip h75 (by omega) (by omega) (by omega) (by omega) (by omega) | exact RN_x h75 (by omega) (by omega) (by omega) (by omega) | exact RN_n h75 (by omega) (by omega) (by omega) (by omega) (by omega) | exact RV_in h75 (by omega) (by omega) (by omega) (by omega) (by omega) (by omega) | exact RV_put h75 (by (first | exact q_7b14c78c18 h76 | omega)) (by omega) (by (first | exact q_61ddd2b576 | omega)) (by (first | exact q_61ddd2b576 | omega)) (by (first | exact q_ba1b2c713b h128 | omega)) (by omega) | exact RV_not h75 (by omega) (by omega) (by omega) (by omega) (by omega) (by omega))
                have := (by decide : (Int32.ofInt 0).toInt = 0)
                refine En_lv (lv := [(0, .ref 159), (1, .int y6), (2, .int y24), (3, .int ((Int32.ofInt 0)))]) ⟨rfl, rfl, rfl, rfl, trivial⟩ ?_
                exact key40 (Int.toNat (16) + 1) σ53 ((Int32.ofInt 0)) y25 h54 h59 ((h55 _ _ (inWa tgz_160 (by decide +kernel))).trans ((h43 _ _ (inWa tgz_160 (by decide +kernel))).trans h29)) ((h55 _ _ (inWa tgz_160 (by decide +kernel))).trans ((h43 _ _ (inWa tgz_160 (by decide +kernel))).trans h30)) ((h55 _ _ (inW tgz_159 (by decide +kernel))).trans ((h43 _ _ (inW tgz_159 (by decide +kernel))).trans h31)) ((h55 _ _ (inW tgz_159 (by decide +kernel))).trans ((h43 _ _ (inW tgz_159 (by decide +kernel))).trans h32)) (by decide) (by decide) (by first | exact q_58e6e51dcc h35 | omega) (by first | exact q_938d18a0b8 h36 | omega) (by first | exact toN_lt _ | omega) (by first | exact RN_eq h38 (by omega) (by omega) (by omega) | exact RN_skip h38 (by (first | exact q_ddb2b1de33 h48 h46 | omega)) (by omega) (by omega) (by omega) (by omega) | exact RN_x h38 (by omega) (by omega) (by omega) (by omega) | exact RN_n h38 (by omega) (by (first | exact q_d97751b118 h23 hu_s | omega)) (by omega) (by omega) (by omega) | exact RV_in h38 (by (first | exact q_ddb2b1de33 h48 h46 | omega)) (by (first | exact q_aeeede310e h60 h58 | omega)) (by (first | exact q_61ddd2b576 | omega)) (by (first | exact q_61ddd2b576 | omega)) (by (first | exact q_d2dcd30e56 this | omega)) (by (first | exact q_61ddd2b576 | omega)) | exact RV_put h38 (by omega) (by omega) (by omega) (by omega) (by omega) (by omega) | exact RV_not h38 (by omega) (by omega) (by omega) (by omega) (by omega) (by omega))
              · refine En_Ps 2 (pc' := 110) (lv' := [(2, .int ((y24 + Int32.ofInt 1))), (0, .ref 159), (1, .int y6)]) (st' := []) rfl ?_
                refine En_lv1 (addI rfl (by decide : (Int32.ofInt 1).toInt = 1) (by first | exact q_465ab79ac1 h33 | omega) (by first | exact q_f3f8e04381 h34 | omega)) (fun z129 h130 => ?_)
                refine En_Ps 1 (pc' := 19) (lv' := [(2, .int z129), (0, .ref 159), (1, .int y6)]) (st' := []) rfl ?_
                refine En_lv (lv := [(0, .ref 159), (1, .int y6), (2, .int z129)]) ⟨rfl, rfl, rfl, trivial⟩ ?_
                exact ih19 σ53 z129 y25 h54 h59 ((h55 _ _ (inWa tgz_160 (by decide +kernel))).trans ((h43 _ _ (inWa tgz_160 (by decide +kernel))).trans h29)) ((h55 _ _ (inWa tgz_160 (by decide +kernel))).trans ((h43 _ _ (inWa tgz_160 (by decide +kernel))).trans h30)) ((h55 _ _ (inW tgz_159 (by decide +kernel))).trans ((h43 _ _ (inW tgz_159 (by decide +kernel))).trans h31)) ((h55 _ _ (inW tgz_159 (by decide +kernel))).trans ((h43 _ _ (inW tgz_159 (by decide +kernel))).trans h32)) (by first | exact q_35104ce9d3 h130 h33 | omega) (by first | exact q_34dc714687 h130 h48 h44.2.1 | omega) (by first | exact q_58e6e51dcc h35 | omega) (by first | exact q_938d18a0b8 h36 | omega) (by first | exact q_c5d740bdff h130 h37 | omega) (by first | exact RN_eq h38 (by (first | exact q_61ddd2b576 | omega)) (by omega) (by (first | exact q_61ddd2b576 | omega)) | exact RN_skip h38 (by omega) (by omega) (by omega) (by omega) (by omega) | exact RN_x h38 (by omega) (by omega) (by omega) (by omega) | exact RN_n h38 (by omega) (by omega) (by omega) (by omega) (by omega) | exact RV_in h38 (by omega) (by omega) (by omega) (by omega) (by omega) (by omega) | exact RV_put h38 (by omega) (by omega) (by omega) (by omega) (by omega) (by omega) | exact RV_not h38 (by omega) (by omega) (by omega) (by omega) (by omega) (by omega))
        have := (by decide : (Int32.ofInt 0).toInt = 0)
        refine En_lv (lv := [(0, .ref 159), (1, .int y6), (2, .int ((Int32.ofInt 0)))]) ⟨rfl, rfl, rfl, trivial⟩ ?_
        exact key19 (Int.toNat (16) + 1) σ8 ((Int32.ofInt 0)) y7 h9 h10 h11 h12 h20 h13 (by decide) (by decide) (by first | exact q_58e6e51dcc h16 | omega) (by first | exact q_938d18a0b8 h17 | omega) (by first | exact toN_lt _ | omega) (by first | exact RN_eq h19 (by (first | exact q_61ddd2b576 | omega)) (by (first | exact q_d2dcd30e56 this | omega)) (by (first | exact q_61ddd2b576 | omega)) | exact RN_skip h19 (by omega) (by omega) (by omega) (by omega) (by omega) | exact RN_x h19 (by omega) (by omega) (by omega) (by omega) | exact RN_n h19 (by omega) (by omega) (by omega) (by omega) (by omega) | exact RV_in h19 (by omega) (by omega) (by omega) (by omega) (by omega) (by omega) | exact RV_put h19 (by omega) (by omega) (by omega) (by omega) (by omega) (by omega) | exact RV_not h19 (by omega) (by omega) (by omega) (by omega) (by omega) (by omega))
  have := (by decide : (Int32.ofInt 0).toInt = 0)
  have := (by decide : (Int32.ofInt 0).toInt = 0)
  refine En_lv (lv := [(0, .ref 159), (1, .int ((Int32.ofInt 0)))]) ⟨rfl, rfl, trivial⟩ ?_
  exact key7 (Int.toNat (5) + 1) σ1 ((Int32.ofInt 0)) ((Int32.ofInt 0)) h2 h3 ((h5 _ _ (Or.inl (neTG tgz_160 tgz_159 (by decide)))).trans h_s) ((h5 _ _ (Or.inl (neTG tgz_160 tgz_159 (by decide)))).trans h_sc) h4 (by decide) (by decide) (by decide) (by decide) (by first | exact toN_lt _ | omega) (by exact RN_0 (kI_rng _ (by (first | exact q_58e6e51dcc hl_s | omega)) (by (first | exact q_c82ed93a8c hu_s | omega))) (by (first | exact q_d2dcd30e56 (by decide) | omega)) (by (first | decide | omega)) (by (first | exact q_d2dcd30e56 (by decide) | omega)))
/-- DoorSchoolModel.of(II)I -/
abbrev P_290a (σ0 : SG) (a : Int32) (b : Int32) (c : Int32) : PO := fun v σ => WT σ ∧ Fr [] σ0 σ ∧ ∃ ret : Int32, v = some (Value.int ret) ∧ -ret.toInt ≤ 0 ∧ ret.toInt - 2 ≤ 0 ∧ ret.toInt - c.toInt ≤ 0 ∧ -ret.toInt + c.toInt ≤ 0
set_option maxRecDepth 10000 in
set_option maxHeartbeats 4000000 in
theorem c_290a (σ0 : SG) (hσ0 : WT σ0) (a : Int32) (b : Int32) (hl_a : 0 ≤ a.toInt) (hu_a : a.toInt ≤ 3) (hl_b : 0 ≤ b.toInt) (hu_b : b.toInt ≤ 0) (c : Int32) (h_c : (σ0 160)[(4 * a.toInt + b.toInt + 10).toNat]? = some (Value.int c)) : En 0 0 none mr_290 (P_290a σ0 a b c) 0 [(0, .ref 159), (1, .int a), (2, .int b)] [] σ0 := by
  have hF0 : Fr [] σ0 σ0 := Fr_rfl
  obtain ⟨hl_c, hu_c⟩ := WT_int hσ0 (g := 36) tgz_160 (by decide +kernel) (l := 0) (u := 2) (FTrow 36 10 4 4 (by decide +kernel) (by (first | exact q_bd29d30e82 hl_b hl_a | omega)) (by (first | exact q_932f5e6254 hu_b hu_a | omega)) (by omega)) h_c
  refine En_Ps 1 (pc' := 1) (lv' := [(0, .ref 159), (1, .int a), (2, .int b)]) (st' := [.ref 159]) rfl ?_
  refine En_getU (j := 1) (u := 160) (g' := 36) (q := 0) rfl rfl rfl tgz_159 (by decide +kernel) hσ0 (by decide +kernel) un_36_160 (fun h1 => ?_)
  refine En_Ps 4 (pc' := 9) (lv' := [(0, .ref 159), (1, .int a), (2, .int b)]) (st' := [.int ((((Int32.ofInt 4)) * a)), .int (((Int8.ofInt 10).toInt32)), .ref 160]) rfl ?_
  refine En_top (mulI (by decide : (Int32.ofInt 4).toInt = 4) rfl (Z := 4 * a.toInt) (by first | exact q_8696eb12a7 | omega) (by first | exact q_be45967ac2 hl_a | omega) (by first | exact q_395a9d924c hu_a | omega)) (fun z3 h4 => ?_)
  refine En_Ps 1 (pc' := 10) (lv' := [(0, .ref 159), (1, .int a), (2, .int b)]) (st' := [.int (((((Int8.ofInt 10).toInt32)) + z3)), .ref 160]) rfl ?_
  refine En_top (addI (by decide : ((Int8.ofInt 10).toInt32).toInt = 10) rfl (by first | exact q_7bfa00123f h4 hl_a | omega) (by first | exact q_a63fdf625c h4 hu_a | omega)) (fun z5 h6 => ?_)
  refine En_Ps 2 (pc' := 12) (lv' := [(0, .ref 159), (1, .int a), (2, .int b)]) (st' := [.int ((z5 + b)), .ref 160]) rfl ?_
  refine En_top (addI rfl rfl (by first | exact q_ea89b7ca88 hl_b h6 h4 hl_a | omega) (by first | exact q_889d81d609 hu_b h6 h4 hu_a | omega)) (fun z7 h8 => ?_)
  have h10 : (σ0 160)[(z7.toInt).toNat]? = some (Value.int c) := by rw [show (z7.toInt) = (4 * a.toInt + b.toInt + 10) by (first | exact q_a00f840b0a h8 h6 h4 | omega)]; exact h_c
  refine En_ialdK h10 rfl rfl tgz_160 (by decide +kernel) hσ0 (by first | exact q_0f25807f40 h8 hl_b h6 h4 hl_a | omega) (lnI (by decide +kernel : LN _ = 226) (by first | exact q_8ac9d8190d h8 hu_b h6 h4 hu_a | omega)) ?_
  exact En_ret (v := some (Value.int c)) rfl rfl rfl ⟨hσ0, hF0, c, rfl, ⟨by first | exact q_c803b490ef hl_c | omega, by first | exact q_316dab1512 hu_c | omega, by first | exact q_1bb76abeaf | omega, by first | exact q_857069189f | omega⟩⟩
/-- DoorSchoolModel.of(II)I -/
abbrev P_290b (σ0 : SG) (a : Int32) (b : Int32) (c : Int32) : PO := fun v σ => WT σ ∧ Fr [] σ0 σ ∧ ∃ ret : Int32, v = some (Value.int ret) ∧ -ret.toInt ≤ 0 ∧ ret.toInt - 50 ≤ 0 ∧ ret.toInt - c.toInt ≤ 0 ∧ -ret.toInt + c.toInt ≤ 0
set_option maxRecDepth 10000 in
set_option maxHeartbeats 4000000 in
theorem c_290b (σ0 : SG) (hσ0 : WT σ0) (a : Int32) (b : Int32) (hl_a : 0 ≤ a.toInt) (hu_a : a.toInt ≤ 3) (hl_b : 1 ≤ b.toInt) (hu_b : b.toInt ≤ 1) (c : Int32) (h_c : (σ0 160)[(4 * a.toInt + b.toInt + 10).toNat]? = some (Value.int c)) : En 0 0 none mr_290 (P_290b σ0 a b c) 0 [(0, .ref 159), (1, .int a), (2, .int b)] [] σ0 := by
  have hF0 : Fr [] σ0 σ0 := Fr_rfl
  obtain ⟨hl_c, hu_c⟩ := WT_int hσ0 (g := 36) tgz_160 (by decide +kernel) (l := 0) (u := 50) (FTrow 36 11 4 4 (by decide +kernel) (by (first | exact q_f6118c0c98 hl_b hl_a | omega)) (by (first | exact q_8ceafc02e8 hu_b hu_a | omega)) (by omega)) h_c
  refine En_Ps 1 (pc' := 1) (lv' := [(0, .ref 159), (1, .int a), (2, .int b)]) (st' := [.ref 159]) rfl ?_
  refine En_getU (j := 1) (u := 160) (g' := 36) (q := 0) rfl rfl rfl tgz_159 (by decide +kernel) hσ0 (by decide +kernel) un_36_160 (fun h1 => ?_)
  refine En_Ps 4 (pc' := 9) (lv' := [(0, .ref 159), (1, .int a), (2, .int b)]) (st' := [.int ((((Int32.ofInt 4)) * a)), .int (((Int8.ofInt 10).toInt32)), .ref 160]) rfl ?_
  refine En_top (mulI (by decide : (Int32.ofInt 4).toInt = 4) rfl (Z := 4 * a.toInt) (by first | exact q_8696eb12a7 | omega) (by first | exact q_be45967ac2 hl_a | omega) (by first | exact q_395a9d924c hu_a | omega)) (fun z3 h4 => ?_)
  refine En_Ps 1 (pc' := 10) (lv' := [(0, .ref 159), (1, .int a), (2, .int b)]) (st' := [.int (((((Int8.ofInt 10).toInt32)) + z3)), .ref 160]) rfl ?_
  refine En_top (addI (by decide : ((Int8.ofInt 10).toInt32).toInt = 10) rfl (by first | exact q_7bfa00123f h4 hl_a | omega) (by first | exact q_a63fdf625c h4 hu_a | omega)) (fun z5 h6 => ?_)
  refine En_Ps 2 (pc' := 12) (lv' := [(0, .ref 159), (1, .int a), (2, .int b)]) (st' := [.int ((z5 + b)), .ref 160]) rfl ?_
  refine En_top (addI rfl rfl (by first | exact q_9b568fec97 hl_b h6 h4 hl_a | omega) (by first | exact q_d5c943c79d hu_b h6 h4 hu_a | omega)) (fun z7 h8 => ?_)
  have h10 : (σ0 160)[(z7.toInt).toNat]? = some (Value.int c) := by rw [show (z7.toInt) = (4 * a.toInt + b.toInt + 10) by (first | exact q_a00f840b0a h8 h6 h4 | omega)]; exact h_c
  refine En_ialdK h10 rfl rfl tgz_160 (by decide +kernel) hσ0 (by first | exact q_c171156e7d h8 hl_b h6 h4 hl_a | omega) (lnI (by decide +kernel : LN _ = 226) (by first | exact q_a2e5118616 h8 hu_b h6 h4 hu_a | omega)) ?_
  exact En_ret (v := some (Value.int c)) rfl rfl rfl ⟨hσ0, hF0, c, rfl, ⟨by first | exact q_c803b490ef hl_c | omega, by first | exact q_1608b91b28 hu_c | omega, by first | exact q_1bb76abeaf | omega, by first | exact q_857069189f | omega⟩⟩
/-- DoorSchoolModel.of(II)I -/
abbrev P_290c (σ0 : SG) (a : Int32) (b : Int32) (c : Int32) : PO := fun v σ => WT σ ∧ Fr [] σ0 σ ∧ ∃ ret : Int32, v = some (Value.int ret) ∧ -ret.toInt ≤ 0 ∧ ret.toInt - 12 ≤ 0 ∧ ret.toInt - c.toInt ≤ 0 ∧ -ret.toInt + c.toInt ≤ 0
set_option maxRecDepth 10000 in
set_option maxHeartbeats 4000000 in
theorem c_290c (σ0 : SG) (hσ0 : WT σ0) (a : Int32) (b : Int32) (hl_a : 0 ≤ a.toInt) (hu_a : a.toInt ≤ 3) (hl_b : 2 ≤ b.toInt) (hu_b : b.toInt ≤ 2) (c : Int32) (h_c : (σ0 160)[(4 * a.toInt + b.toInt + 10).toNat]? = some (Value.int c)) : En 0 0 none mr_290 (P_290c σ0 a b c) 0 [(0, .ref 159), (1, .int a), (2, .int b)] [] σ0 := by
  have hF0 : Fr [] σ0 σ0 := Fr_rfl
  obtain ⟨hl_c, hu_c⟩ := WT_int hσ0 (g := 36) tgz_160 (by decide +kernel) (l := 0) (u := 12) (FTrow 36 12 4 4 (by decide +kernel) (by (first | exact q_21a2ae1e7f hl_b hl_a | omega)) (by (first | exact q_10ccb48d5c hu_b hu_a | omega)) (by omega)) h_c
  refine En_Ps 1 (pc' := 1) (lv' := [(0, .ref 159), (1, .int a), (2, .int b)]) (st' := [.ref 159]) rfl ?_
  refine En_getU (j := 1) (u := 160) (g' := 36) (q := 0) rfl rfl rfl tgz_159 (by decide +kernel) hσ0 (by decide +kernel) un_36_160 (fun h1 => ?_)
  refine En_Ps 4 (pc' := 9) (lv' := [(0, .ref 159), (1, .int a), (2, .int b)]) (st' := [.int ((((Int32.ofInt 4)) * a)), .int (((Int8.ofInt 10).toInt32)), .ref 160]) rfl ?_
  refine En_top (mulI (by decide : (Int32.ofInt 4).toInt = 4) rfl (Z := 4 * a.toInt) (by first | exact q_8696eb12a7 | omega) (by first | exact q_be45967ac2 hl_a | omega) (by first | exact q_395a9d924c hu_a | omega)) (fun z3 h4 => ?_)
  refine En_Ps 1 (pc' := 10) (lv' := [(0, .ref 159), (1, .int a), (2, .int b)]) (st' := [.int (((((Int8.ofInt 10).toInt32)) + z3)), .ref 160]) rfl ?_
  refine En_top (addI (by decide : ((Int8.ofInt 10).toInt32).toInt = 10) rfl (by first | exact q_7bfa00123f h4 hl_a | omega) (by first | exact q_a63fdf625c h4 hu_a | omega)) (fun z5 h6 => ?_)
  refine En_Ps 2 (pc' := 12) (lv' := [(0, .ref 159), (1, .int a), (2, .int b)]) (st' := [.int ((z5 + b)), .ref 160]) rfl ?_
  refine En_top (addI rfl rfl (by first | exact q_ef817ac353 hl_b h6 h4 hl_a | omega) (by first | exact q_40a73e70cb hu_b h6 h4 hu_a | omega)) (fun z7 h8 => ?_)
  have h10 : (σ0 160)[(z7.toInt).toNat]? = some (Value.int c) := by rw [show (z7.toInt) = (4 * a.toInt + b.toInt + 10) by (first | exact q_a00f840b0a h8 h6 h4 | omega)]; exact h_c
  refine En_ialdK h10 rfl rfl tgz_160 (by decide +kernel) hσ0 (by first | exact q_16a2a14341 h8 hl_b h6 h4 hl_a | omega) (lnI (by decide +kernel : LN _ = 226) (by first | exact q_8a76eee028 h8 hu_b h6 h4 hu_a | omega)) ?_
  exact En_ret (v := some (Value.int c)) rfl rfl rfl ⟨hσ0, hF0, c, rfl, ⟨by first | exact q_c803b490ef hl_c | omega, by first | exact q_16c941e15c hu_c | omega, by first | exact q_1bb76abeaf | omega, by first | exact q_857069189f | omega⟩⟩
/-- DoorSchoolModel.of(II)I -/
abbrev P_290d (σ0 : SG) (a : Int32) (b : Int32) (c : Int32) : PO := fun v σ => WT σ ∧ Fr [] σ0 σ ∧ ∃ ret : Int32, v = some (Value.int ret) ∧ -ret.toInt - 1 ≤ 0 ∧ ret.toInt - 3 ≤ 0 ∧ ret.toInt - c.toInt ≤ 0 ∧ -ret.toInt + c.toInt ≤ 0
set_option maxRecDepth 10000 in
set_option maxHeartbeats 4000000 in
theorem c_290d (σ0 : SG) (hσ0 : WT σ0) (a : Int32) (b : Int32) (hl_a : 0 ≤ a.toInt) (hu_a : a.toInt ≤ 3) (hl_b : 3 ≤ b.toInt) (hu_b : b.toInt ≤ 3) (c : Int32) (h_c : (σ0 160)[(4 * a.toInt + b.toInt + 10).toNat]? = some (Value.int c)) : En 0 0 none mr_290 (P_290d σ0 a b c) 0 [(0, .ref 159), (1, .int a), (2, .int b)] [] σ0 := by
  have hF0 : Fr [] σ0 σ0 := Fr_rfl
  obtain ⟨hl_c, hu_c⟩ := WT_int hσ0 (g := 36) tgz_160 (by decide +kernel) (l := (-1)) (u := 3) (FTrow 36 13 4 4 (by decide +kernel) (by (first | exact q_c1b25378ce hl_b hl_a | omega)) (by (first | exact q_73c1f66031 hu_b hu_a | omega)) (by omega)) h_c
  refine En_Ps 1 (pc' := 1) (lv' := [(0, .ref 159), (1, .int a), (2, .int b)]) (st' := [.ref 159]) rfl ?_
  refine En_getU (j := 1) (u := 160) (g' := 36) (q := 0) rfl rfl rfl tgz_159 (by decide +kernel) hσ0 (by decide +kernel) un_36_160 (fun h1 => ?_)
  refine En_Ps 4 (pc' := 9) (lv' := [(0, .ref 159), (1, .int a), (2, .int b)]) (st' := [.int ((((Int32.ofInt 4)) * a)), .int (((Int8.ofInt 10).toInt32)), .ref 160]) rfl ?_
  refine En_top (mulI (by decide : (Int32.ofInt 4).toInt = 4) rfl (Z := 4 * a.toInt) (by first | exact q_8696eb12a7 | omega) (by first | exact q_be45967ac2 hl_a | omega) (by first | exact q_395a9d924c hu_a | omega)) (fun z3 h4 => ?_)
  refine En_Ps 1 (pc' := 10) (lv' := [(0, .ref 159), (1, .int a), (2, .int b)]) (st' := [.int (((((Int8.ofInt 10).toInt32)) + z3)), .ref 160]) rfl ?_
  refine En_top (addI (by decide : ((Int8.ofInt 10).toInt32).toInt = 10) rfl (by first | exact q_7bfa00123f h4 hl_a | omega) (by first | exact q_a63fdf625c h4 hu_a | omega)) (fun z5 h6 => ?_)
  refine En_Ps 2 (pc' := 12) (lv' := [(0, .ref 159), (1, .int a), (2, .int b)]) (st' := [.int ((z5 + b)), .ref 160]) rfl ?_
  refine En_top (addI rfl rfl (by first | exact q_28aa76c899 hl_b h6 h4 hl_a | omega) (by first | exact q_055c074749 hu_b h6 h4 hu_a | omega)) (fun z7 h8 => ?_)
  have h10 : (σ0 160)[(z7.toInt).toNat]? = some (Value.int c) := by rw [show (z7.toInt) = (4 * a.toInt + b.toInt + 10) by (first | exact q_a00f840b0a h8 h6 h4 | omega)]; exact h_c
  refine En_ialdK h10 rfl rfl tgz_160 (by decide +kernel) hσ0 (by first | exact q_934600e264 h8 hl_b h6 h4 hl_a | omega) (lnI (by decide +kernel : LN _ = 226) (by first | exact q_c525c41564 h8 hu_b h6 h4 hu_a | omega)) ?_
  exact En_ret (v := some (Value.int c)) rfl rfl rfl ⟨hσ0, hF0, c, rfl, ⟨by first | exact q_909eef6c0e hl_c | omega, by first | exact q_e9a8eec0c4 hu_c | omega, by first | exact q_1bb76abeaf | omega, by first | exact q_857069189f | omega⟩⟩
/-- DoorSchoolModel.of(II)I -/
abbrev P_290e (σ0 : SG) (a : Int32) (b : Int32) : PO := fun v σ => WT σ ∧ Fr [] σ0 σ ∧ ∃ ret : Int32, v = some (Value.int ret) ∧ -ret.toInt - 1 ≤ 0 ∧ ret.toInt - 50 ≤ 0
set_option maxRecDepth 10000 in
set_option maxHeartbeats 4000000 in
theorem c_290e (σ0 : SG) (hσ0 : WT σ0) (a : Int32) (b : Int32) (hl_a : 0 ≤ a.toInt) (hu_a : a.toInt ≤ 3) (hl_b : 0 ≤ b.toInt) (hu_b : b.toInt ≤ 3) : En 0 0 none mr_290 (P_290e σ0 a b) 0 [(0, .ref 159), (1, .int a), (2, .int b)] [] σ0 := by
  have hF0 : Fr [] σ0 σ0 := Fr_rfl
  refine En_Ps 1 (pc' := 1) (lv' := [(0, .ref 159), (1, .int a), (2, .int b)]) (st' := [.ref 159]) rfl ?_
  refine En_getU (j := 1) (u := 160) (g' := 36) (q := 0) rfl rfl rfl tgz_159 (by decide +kernel) hσ0 (by decide +kernel) un_36_160 (fun h1 => ?_)
  refine En_Ps 4 (pc' := 9) (lv' := [(0, .ref 159), (1, .int a), (2, .int b)]) (st' := [.int ((((Int32.ofInt 4)) * a)), .int (((Int8.ofInt 10).toInt32)), .ref 160]) rfl ?_
  refine En_top (mulI (by decide : (Int32.ofInt 4).toInt = 4) rfl (Z := 4 * a.toInt) (by first | exact q_8696eb12a7 | omega) (by first | exact q_be45967ac2 hl_a | omega) (by first | exact q_395a9d924c hu_a | omega)) (fun z3 h4 => ?_)
  refine En_Ps 1 (pc' := 10) (lv' := [(0, .ref 159), (1, .int a), (2, .int b)]) (st' := [.int (((((Int8.ofInt 10).toInt32)) + z3)), .ref 160]) rfl ?_
  refine En_top (addI (by decide : ((Int8.ofInt 10).toInt32).toInt = 10) rfl (by first | exact q_7bfa00123f h4 hl_a | omega) (by first | exact q_a63fdf625c h4 hu_a | omega)) (fun z5 h6 => ?_)
  refine En_Ps 2 (pc' := 12) (lv' := [(0, .ref 159), (1, .int a), (2, .int b)]) (st' := [.int ((z5 + b)), .ref 160]) rfl ?_
  refine En_top (addI rfl rfl (by first | exact q_ea89b7ca88 hl_b h6 h4 hl_a | omega) (by first | exact q_055c074749 hu_b h6 h4 hu_a | omega)) (fun z7 h8 => ?_)
  rcases (show z7.toInt = 10 ∨ z7.toInt = 11 ∨ z7.toInt = 12 ∨ z7.toInt = 13 ∨ z7.toInt = 14 ∨ z7.toInt = 15 ∨ z7.toInt = 16 ∨ z7.toInt = 17 ∨ z7.toInt = 18 ∨ z7.toInt = 19 ∨ z7.toInt = 20 ∨ z7.toInt = 21 ∨ z7.toInt = 22 ∨ z7.toInt = 23 ∨ z7.toInt = 24 ∨ z7.toInt = 25 by (first | exact q_aecaf9868b h8 h6 h4 hl_b hl_a hu_b hu_a | omega)) with h9 | h9 | h9 | h9 | h9 | h9 | h9 | h9 | h9 | h9 | h9 | h9 | h9 | h9 | h9 | h9
  · refine En_iald (l := 0) (u := 2) rfl h9 tgz_160 (by decide +kernel) hσ0 (by decide) (lnI (by decide +kernel : LN _ = 226) (by decide)) (by decide +kernel) (fun z11 h10 h12 h13 => ?_)
    exact En_ret (v := some (Value.int z11)) rfl rfl rfl ⟨hσ0, hF0, z11, rfl, ⟨by first | exact q_565e7b05df h12 | omega, by first | exact q_ab791a917f h13 | omega⟩⟩
  · refine En_iald (l := 0) (u := 50) rfl h9 tgz_160 (by decide +kernel) hσ0 (by decide) (lnI (by decide +kernel : LN _ = 226) (by decide)) (by decide +kernel) (fun z15 h14 h16 h17 => ?_)
    exact En_ret (v := some (Value.int z15)) rfl rfl rfl ⟨hσ0, hF0, z15, rfl, ⟨by first | exact q_565e7b05df h16 | omega, by first | exact q_1608b91b28 h17 | omega⟩⟩
  · refine En_iald (l := 0) (u := 12) rfl h9 tgz_160 (by decide +kernel) hσ0 (by decide) (lnI (by decide +kernel : LN _ = 226) (by decide)) (by decide +kernel) (fun z19 h18 h20 h21 => ?_)
    exact En_ret (v := some (Value.int z19)) rfl rfl rfl ⟨hσ0, hF0, z19, rfl, ⟨by first | exact q_565e7b05df h20 | omega, by first | exact q_d8dab71124 h21 | omega⟩⟩
  · refine En_iald (l := (-1)) (u := 3) rfl h9 tgz_160 (by decide +kernel) hσ0 (by decide) (lnI (by decide +kernel : LN _ = 226) (by decide)) (by decide +kernel) (fun z23 h22 h24 h25 => ?_)
    exact En_ret (v := some (Value.int z23)) rfl rfl rfl ⟨hσ0, hF0, z23, rfl, ⟨by first | exact q_909eef6c0e h24 | omega, by first | exact q_dc79e997ce h25 | omega⟩⟩
  · refine En_iald (l := 0) (u := 2) rfl h9 tgz_160 (by decide +kernel) hσ0 (by decide) (lnI (by decide +kernel : LN _ = 226) (by decide)) (by decide +kernel) (fun z27 h26 h28 h29 => ?_)
    exact En_ret (v := some (Value.int z27)) rfl rfl rfl ⟨hσ0, hF0, z27, rfl, ⟨by first | exact q_565e7b05df h28 | omega, by first | exact q_ab791a917f h29 | omega⟩⟩
  · refine En_iald (l := 0) (u := 50) rfl h9 tgz_160 (by decide +kernel) hσ0 (by decide) (lnI (by decide +kernel : LN _ = 226) (by decide)) (by decide +kernel) (fun z31 h30 h32 h33 => ?_)
    exact En_ret (v := some (Value.int z31)) rfl rfl rfl ⟨hσ0, hF0, z31, rfl, ⟨by first | exact q_565e7b05df h32 | omega, by first | exact q_1608b91b28 h33 | omega⟩⟩
  · refine En_iald (l := 0) (u := 12) rfl h9 tgz_160 (by decide +kernel) hσ0 (by decide) (lnI (by decide +kernel : LN _ = 226) (by decide)) (by decide +kernel) (fun z35 h34 h36 h37 => ?_)
    exact En_ret (v := some (Value.int z35)) rfl rfl rfl ⟨hσ0, hF0, z35, rfl, ⟨by first | exact q_565e7b05df h36 | omega, by first | exact q_d8dab71124 h37 | omega⟩⟩
  · refine En_iald (l := (-1)) (u := 3) rfl h9 tgz_160 (by decide +kernel) hσ0 (by decide) (lnI (by decide +kernel : LN _ = 226) (by decide)) (by decide +kernel) (fun z39 h38 h40 h41 => ?_)
    exact En_ret (v := some (Value.int z39)) rfl rfl rfl ⟨hσ0, hF0, z39, rfl, ⟨by first | exact q_909eef6c0e h40 | omega, by first | exact q_dc79e997ce h41 | omega⟩⟩
  · refine En_iald (l := 0) (u := 2) rfl h9 tgz_160 (by decide +kernel) hσ0 (by decide) (lnI (by decide +kernel : LN _ = 226) (by decide)) (by decide +kernel) (fun z43 h42 h44 h45 => ?_)
    exact En_ret (v := some (Value.int z43)) rfl rfl rfl ⟨hσ0, hF0, z43, rfl, ⟨by first | exact q_565e7b05df h44 | omega, by first | exact q_ab791a917f h45 | omega⟩⟩
  · refine En_iald (l := 0) (u := 50) rfl h9 tgz_160 (by decide +kernel) hσ0 (by decide) (lnI (by decide +kernel : LN _ = 226) (by decide)) (by decide +kernel) (fun z47 h46 h48 h49 => ?_)
    exact En_ret (v := some (Value.int z47)) rfl rfl rfl ⟨hσ0, hF0, z47, rfl, ⟨by first | exact q_565e7b05df h48 | omega, by first | exact q_1608b91b28 h49 | omega⟩⟩
  · refine En_iald (l := 0) (u := 12) rfl h9 tgz_160 (by decide +kernel) hσ0 (by decide) (lnI (by decide +kernel : LN _ = 226) (by decide)) (by decide +kernel) (fun z51 h50 h52 h53 => ?_)
    exact En_ret (v := some (Value.int z51)) rfl rfl rfl ⟨hσ0, hF0, z51, rfl, ⟨by first | exact q_565e7b05df h52 | omega, by first | exact q_d8dab71124 h53 | omega⟩⟩
  · refine En_iald (l := (-1)) (u := 3) rfl h9 tgz_160 (by decide +kernel) hσ0 (by decide) (lnI (by decide +kernel : LN _ = 226) (by decide)) (by decide +kernel) (fun z55 h54 h56 h57 => ?_)
    exact En_ret (v := some (Value.int z55)) rfl rfl rfl ⟨hσ0, hF0, z55, rfl, ⟨by first | exact q_909eef6c0e h56 | omega, by first | exact q_dc79e997ce h57 | omega⟩⟩
  · refine En_iald (l := 0) (u := 2) rfl h9 tgz_160 (by decide +kernel) hσ0 (by decide) (lnI (by decide +kernel : LN _ = 226) (by decide)) (by decide +kernel) (fun z59 h58 h60 h61 => ?_)
    exact En_ret (v := some (Value.int z59)) rfl rfl rfl ⟨hσ0, hF0, z59, rfl, ⟨by first | exact q_565e7b05df h60 | omega, by first | exact q_ab791a917f h61 | omega⟩⟩
  · refine En_iald (l := 0) (u := 50) rfl h9 tgz_160 (by decide +kernel) hσ0 (by decide) (lnI (by decide +kernel : LN _ = 226) (by decide)) (by decide +kernel) (fun z63 h62 h64 h65 => ?_)
    exact En_ret (v := some (Value.int z63)) rfl rfl rfl ⟨hσ0, hF0, z63, rfl, ⟨by first | exact q_565e7b05df h64 | omega, by first | exact q_1608b91b28 h65 | omega⟩⟩
  · refine En_iald (l := 0) (u := 12) rfl h9 tgz_160 (by decide +kernel) hσ0 (by decide) (lnI (by decide +kernel : LN _ = 226) (by decide)) (by decide +kernel) (fun z67 h66 h68 h69 => ?_)
    exact En_ret (v := some (Value.int z67)) rfl rfl rfl ⟨hσ0, hF0, z67, rfl, ⟨by first | exact q_565e7b05df h68 | omega, by first | exact q_d8dab71124 h69 | omega⟩⟩
  · refine En_iald (l := (-1)) (u := 3) rfl h9 tgz_160 (by decide +kernel) hσ0 (by decide) (lnI (by decide +kernel : LN _ = 226) (by decide)) (by decide +kernel) (fun z71 h70 h72 h73 => ?_)
    exact En_ret (v := some (Value.int z71)) rfl rfl rfl ⟨hσ0, hF0, z71, rfl, ⟨by first | exact q_909eef6c0e h72 | omega, by first | exact q_dc79e997ce h73 | omega⟩⟩
/-- DoorSchoolModel.real(I)I -/
abbrev P_305 (σ0 : SG) (a : Int32) : PO := fun v σ => WT σ ∧ Fr [] σ0 σ ∧ ∃ ret : Int32, v = some (Value.int ret) ∧ -ret.toInt ≤ 0 ∧ ret.toInt - 3 ≤ 0
set_option maxRecDepth 10000 in
set_option maxHeartbeats 4000000 in
theorem c_305 (σ0 : SG) (hσ0 : WT σ0) (a : Int32) (hl_a : 0 ≤ a.toInt) (hu_a : a.toInt ≤ 3) : En 1 22 none mr_305 (P_305 σ0 a) 0 [(0, .ref 159), (1, .int a)] [] σ0 := by
  have hF0 : Fr [] σ0 σ0 := Fr_rfl
  refine En_Ps 3 (pc' := 3) (lv' := [(0, .ref 159), (1, .int a)]) (st' := [.int ((Int32.ofInt 3)), .int a, .ref 159]) rfl ?_
  have := (by decide : ((Int32.ofInt 3)).toInt = 3)
  obtain ⟨z1, h2, h3, h4⟩ := WT_peekJ (J := (4 * a.toInt + ((Int32.ofInt 3)).toInt + 10)) (l := (-1)) (u := 3) hσ0 tgz_160 (by decide +kernel) (by (first | exact q_f1d5518f63 this hl_a | omega)) (lnI (by decide +kernel : LN _ = 226) (by (first | exact q_cde5b164e7 this hu_a | omega))) (FTrow 36 13 4 4 (by decide +kernel) (by (first | exact q_ec4f5af3d7 this hl_a | omega)) (by (first | exact q_bf572a56ac this hu_a | omega)) (by omega))
  have := (by decide : ((Int32.ofInt 3)).toInt = 3)
  refine En_callV rfl rfl rfl rfl rfl rfl rfl rfl tgz_159 (by decide +kernel) rfl (c_290d σ0 hσ0 a ((Int32.ofInt 3)) (geI rfl (by first | exact q_58e6e51dcc hl_a | omega)) (leI rfl (by first | exact q_da5e9b976f hu_a | omega)) (geI (by decide : (Int32.ofInt 3).toInt = 3) (by decide)) (leI (by decide : (Int32.ofInt 3).toInt = 3) (by decide)) z1 h2) (by decide) (by decide) (fun v6 σ7 h5 => ?_)
  obtain ⟨h8, h9, z11, rfl, h10⟩ := h5
  have h12 := Fr_trans hF0 h9 (by decide +kernel)
  refine En_Ps 1 (pc' := 7) (lv' := [(0, .ref 159), (1, .int a)]) (st' := [.int ((Int32.ofInt (-1))), .int z11]) rfl ?_
  refine En_icNe _ rfl (by decide : (Int32.ofInt (-1)).toInt = -1) rfl (fun h13 => ?_) (fun h13 => ?_)
  · refine En_Ps 3 (pc' := 17) (lv' := [(0, .ref 159), (1, .int a)]) (st' := [.int ((Int32.ofInt 3)), .int a, .ref 159]) rfl ?_
    have := (by decide : ((Int32.ofInt 3)).toInt = 3)
    have := (by decide : ((Int32.ofInt 3)).toInt = 3)
    refine En_callV rfl rfl rfl rfl rfl rfl rfl rfl tgz_159 (by decide +kernel) rfl (c_290d σ7 h8 a ((Int32.ofInt 3)) (geI rfl (by first | exact q_58e6e51dcc hl_a | omega)) (leI rfl (by first | exact q_da5e9b976f hu_a | omega)) (geI (by decide : (Int32.ofInt 3).toInt = 3) (by decide)) (leI (by decide : (Int32.ofInt 3).toInt = 3) (by decide)) z1 ((h9 _ _ (inWa tgz_160 (by decide +kernel))).trans h2)) (by decide) (by decide) (fun v15 σ16 h14 => ?_)
    obtain ⟨h17, h18, z20, rfl, h19⟩ := h14
    have h21 := Fr_trans h12 h18 (by decide +kernel)
    exact En_ret (v := some (Value.int z20)) rfl rfl rfl ⟨h17, h21, z20, rfl, ⟨by first | exact q_f02febf18c h19.2.2.2 h10.2.2.1 h13 h10.1 | omega, by first | exact q_c733b715bf h19.2.1 | omega⟩⟩
  · refine En_Ps 2 (pc' := 20) (lv' := [(0, .ref 159), (1, .int a)]) (st' := [.int a]) rfl ?_
    exact En_ret (v := some (Value.int a)) rfl rfl rfl ⟨h8, h12, a, rfl, ⟨by first | exact q_c803b490ef hl_a | omega, by first | exact q_e9a8eec0c4 hu_a | omega⟩⟩
/-- DoorSchoolModel.lessonAt(II)I -/
abbrev P_281 (σ0 : SG) (a : Int32) (b : Int32) : PO := fun v σ => WT σ ∧ Fr [] σ0 σ ∧ ∃ ret : Int32, v = some (Value.int ret) ∧ -ret.toInt + 26 ≤ 0 ∧ ret.toInt - 122 ≤ 0 ∧ ret.toInt - 24 * a.toInt - 2 * b.toInt - 26 ≤ 0 ∧ -ret.toInt + 24 * a.toInt + 2 * b.toInt + 26 ≤ 0
set_option maxRecDepth 10000 in
set_option maxHeartbeats 4000000 in
theorem c_281 (σ0 : SG) (hσ0 : WT σ0) (a : Int32) (b : Int32) (hl_a : 0 ≤ a.toInt) (hu_a : a.toInt ≤ 3) (hl_b : 0 ≤ b.toInt) (hu_b : b.toInt ≤ 12) : En 0 0 none mr_281 (P_281 σ0 a b) 0 [(0, .int a), (1, .int b)] [] σ0 := by
  have hF0 : Fr [] σ0 σ0 := Fr_rfl
  refine En_Ps 5 (pc' := 7) (lv' := [(0, .int a), (1, .int b)]) (st' := [.int (((((Int8.ofInt 12).toInt32)) * a)), .int ((Int32.ofInt 2)), .int (((Int8.ofInt 26).toInt32))]) rfl ?_
  refine En_top (mulI (by decide : ((Int8.ofInt 12).toInt32).toInt = 12) rfl (Z := 12 * a.toInt) (by first | exact q_ba2a5608ac | omega) (by first | exact q_54b361fe3d hl_a | omega) (by first | exact q_fafd50b3af hu_a | omega)) (fun z1 h2 => ?_)
  refine En_Ps 2 (pc' := 9) (lv' := [(0, .int a), (1, .int b)]) (st' := [.int ((z1 + b)), .int ((Int32.ofInt 2)), .int (((Int8.ofInt 26).toInt32))]) rfl ?_
  refine En_top (addI rfl rfl (by first | exact q_e8137a3c40 hl_b h2 hl_a | omega) (by first | exact q_8178de0393 hu_b h2 hu_a | omega)) (fun z3 h4 => ?_)
  refine En_Ps 1 (pc' := 10) (lv' := [(0, .int a), (1, .int b)]) (st' := [.int ((((Int32.ofInt 2)) * z3)), .int (((Int8.ofInt 26).toInt32))]) rfl ?_
  refine En_top (mulI (by decide : (Int32.ofInt 2).toInt = 2) rfl (Z := 2 * z3.toInt) (by first | exact q_9c4c04fc55 | omega) (by first | exact q_fb4e4bdf5e h4 hl_b h2 hl_a | omega) (by first | exact q_90d72da34d h4 hu_b h2 hu_a | omega)) (fun z5 h6 => ?_)
  refine En_Ps 1 (pc' := 11) (lv' := [(0, .int a), (1, .int b)]) (st' := [.int (((((Int8.ofInt 26).toInt32)) + z5))]) rfl ?_
  refine En_top (addI (by decide : ((Int8.ofInt 26).toInt32).toInt = 26) rfl (by first | exact q_82831e15f0 h6 h4 hl_b h2 hl_a | omega) (by first | exact q_b8cee736bd h6 h4 hu_b h2 hu_a | omega)) (fun z7 h8 => ?_)
  exact En_ret (v := some (Value.int z7)) rfl rfl rfl ⟨hσ0, hF0, z7, rfl, ⟨by first | exact q_5b16acef8e h8 h6 h4 hl_b h2 hl_a | omega, by first | exact q_1581d3cc17 h8 h6 h4 hu_b h2 hu_a | omega, by first | exact q_4de21aa159 h2 h4 h6 h8 | omega, by first | exact q_c372496058 h2 h4 h6 h8 | omega⟩⟩
/-- DoorSchoolModel.layLessons(I)V -/
abbrev P_271 (σ0 : SG) (a : Int32) : PO := fun v σ => WT σ ∧ Fr [(35, 21), (45, 0), (46, 0)] σ0 σ ∧ ∃ m1 : Int32, (σ 159)[21]? = some (Value.int m1) ∧ v = none ∧ -m1.toInt ≤ 0 ∧ m1.toInt - 13 ≤ 0
set_option maxRecDepth 10000 in
set_option maxHeartbeats 4000000 in
theorem c_271 (σ0 : SG) (hσ0 : WT σ0) (a : Int32) (hl_a : 0 ≤ a.toInt) (hu_a : a.toInt ≤ 3) : En 1 22 none mr_271 (P_271 σ0 a) 0 [(0, .ref 159), (1, .int a)] [] σ0 := by
  have hF0 : Fr [(35, 21), (45, 0), (46, 0)] σ0 σ0 := Fr_rfl
  refine En_Ps 2 (pc' := 2) (lv' := [(0, .ref 159), (1, .int a)]) (st' := [.int ((Int32.ofInt 0)), .ref 159]) rfl ?_
  refine En_put (j := 21) rfl rfl rfl tgz_159 (by decide +kernel) rfl (vI (l := 0) (u := 17) (by decide +kernel) (by decide : (Int32.ofInt 0).toInt = 0) (by decide) (by decide)) hσ0 hF0 (by decide +kernel) (fun σ1 h2 h3 h4 h5 => ?_)
  refine En_Ps 2 (pc' := 7) (lv' := [(2, .int ((Int32.ofInt 0))), (0, .ref 159), (1, .int a)]) (st' := []) rfl ?_
  have key7 : ∀ (n7 : Nat) (σ8 : SG) (y6 : Int32) (y7 : Int32), WT σ8 → Fr [(35, 21), (45, 0), (46, 0)] σ0 σ8 → (σ8 159)[21]? = some (Value.int y7) → 0 ≤ y6.toInt → y6.toInt ≤ 13 → 0 ≤ y7.toInt → y7.toInt ≤ 13 → y6.toInt - y7.toInt ≤ 0 → -y6.toInt + y7.toInt ≤ 0 → -y6.toInt + 13 < (n7 : Int) → En 1 22 none mr_271 (P_271 σ0 a) 7 [(0, .ref 159), (1, .int a), (2, .int y6)] [] σ8 := by
    intro n7
    induction n7 with
    | zero =>
      intro σ8 y6 y7 h9 h10 h11 h12 h13 h14 h15 h16 h17 h18
      first | exact (q_5583ec5aac h18 h13).elim | (exfalso; omega)
    | succ n7 ih7 =>
      intro σ8 y6 y7 h9 h10 h11 h12 h13 h14 h15 h16 h17 h18
      refine En_Ps 4 (pc' := 11) (lv' := [(0, .ref 159), (1, .int a), (2, .int y6)]) (st' := [.int ((Int32.ofInt 2)), .int a, .ref 159, .int y6]) rfl ?_
      have := (by decide : ((Int32.ofInt 2)).toInt = 2)
      obtain ⟨z19, h20, h21, h22⟩ := WT_peekJ (J := (4 * a.toInt + ((Int32.ofInt 2)).toInt + 10)) (l := 0) (u := 12) h9 tgz_160 (by decide +kernel) (by (first | exact q_0761fef2f2 this hl_a | omega)) (lnI (by decide +kernel : LN _ = 226) (by (first | exact q_d1089ad428 this hu_a | omega))) (FTrow 36 12 4 4 (by decide +kernel) (by (first | exact q_f2d287688d this hl_a | omega)) (by (first | exact q_0fdbec91b1 this hu_a | omega)) (by omega))
      have := (by decide : ((Int32.ofInt 2)).toInt = 2)
      refine En_callV rfl rfl rfl rfl rfl rfl rfl rfl tgz_159 (by decide +kernel) rfl (c_290c σ8 h9 a ((Int32.ofInt 2)) (geI rfl (by first | exact q_58e6e51dcc hl_a | omega)) (leI rfl (by first | exact q_da5e9b976f hu_a | omega)) (geI (by decide : (Int32.ofInt 2).toInt = 2) (by decide)) (leI (by decide : (Int32.ofInt 2).toInt = 2) (by decide)) z19 h20) (by decide) (by decide) (fun v24 σ25 h23 => ?_)
      obtain ⟨h26, h27, z29, rfl, h28⟩ := h23
      have h30 := Fr_trans h10 h27 (by decide +kernel)
      refine En_icGe _ rfl rfl rfl (fun h31 => ?_) (fun h31 => ?_)
      · exact En_ret (v := none) rfl rfl rfl ⟨h26, h30, y7, ((h27 _ _ (inW tgz_159 (by decide +kernel))).trans h11), rfl, ⟨by first | exact q_c803b490ef h14 | omega, by first | exact q_5fe2809411 h15 | omega⟩⟩
      · refine En_Ps 2 (pc' := 19) (lv' := [(0, .ref 159), (1, .int a), (2, .int y6)]) (st' := [.ref 159, .ref 159]) rfl ?_
        refine En_getU (j := 1) (u := 160) (g' := 36) (q := 0) rfl rfl rfl tgz_159 (by decide +kernel) h26 (by decide +kernel) un_36_160 (fun h32 => ?_)
        refine En_Ps 2 (pc' := 24) (lv' := [(0, .ref 159), (1, .int a), (2, .int y6)]) (st' := [.int y6, .int a, .ref 160, .ref 159]) rfl ?_
        refine En_callS rfl rfl rfl rfl rfl rfl rfl rfl rfl (c_281 σ25 h26 a y6 (geI rfl (by first | exact q_58e6e51dcc hl_a | omega)) (leI rfl (by first | exact q_da5e9b976f hu_a | omega)) (geI rfl (by first | exact q_58e6e51dcc h12 | omega)) (leI rfl (by first | exact q_d923c6da86 h31 h28.2.1 | omega))) (by decide) (by decide) (fun v35 σ36 h34 => ?_)
        obtain ⟨h37, h38, z40, rfl, h39⟩ := h34
        have h41 := Fr_trans h30 h38 (by decide +kernel)
        refine En_iald (l := 0) (u := 15) rfl rfl tgz_160 (by decide +kernel) h37 (by first | exact q_2c9de765f8 h39.1 | omega) (lnI (by decide +kernel : LN _ = 226) (by first | exact q_0616d82733 h39.2.1 | omega)) (FTrow 36 26 2 48 (by decide +kernel) (by first | exact q_cfcbae6494 h39.1 | omega) (by first | exact q_c04962bf42 h39.2.2.1 hu_a h31 h28.2.1 | omega) (by first | exact q_bfc7928b1f h39.2.2.1 h39.2.2.2 | omega)) (fun z43 h42 h44 h45 => ?_)
        refine En_Ps 1 (pc' := 29) (lv' := [(0, .ref 159), (1, .int a), (2, .int y6)]) (st' := [.ref 159, .int z43, .ref 159]) rfl ?_
        refine En_getK (j := 1) ((h38 _ _ (inW tgz_159 (by decide +kernel))).trans h32) rfl rfl rfl tgz_159 (by decide +kernel) ?_
        refine En_Ps 2 (pc' := 34) (lv' := [(0, .ref 159), (1, .int a), (2, .int y6)]) (st' := [.int y6, .int a, .ref 160, .int z43, .ref 159]) rfl ?_
        refine En_callS rfl rfl rfl rfl rfl rfl rfl rfl rfl (c_281 σ36 h37 a y6 (geI rfl (by first | exact q_58e6e51dcc hl_a | omega)) (leI rfl (by first | exact q_da5e9b976f hu_a | omega)) (geI rfl (by first | exact q_58e6e51dcc h12 | omega)) (leI rfl (by first | exact q_d923c6da86 h31 h28.2.1 | omega))) (by decide) (by decide) (fun v47 σ48 h46 => ?_)
        obtain ⟨h49, h50, z52, rfl, h51⟩ := h46
        have h53 := Fr_trans h41 h50 (by decide +kernel)
        refine En_Ps 2 (pc' := 39) (lv' := [(0, .ref 159), (1, .int a), (2, .int y6)]) (st' := [.int ((z52 + ((Int32.ofInt 1)))), .ref 160, .int z43, .ref 159]) rfl ?_
        refine En_top (addI rfl (by decide : (Int32.ofInt 1).toInt = 1) (by first | exact q_c40141e2b1 h51.1 | omega) (by first | exact q_919014a1f8 h51.2.1 | omega)) (fun z54 h55 => ?_)
        refine En_iald (l := 0) (u := 1) rfl rfl tgz_160 (by decide +kernel) h49 (by first | exact q_f9ae7b6bc1 h55 h51.1 | omega) (lnI (by decide +kernel : LN _ = 226) (by first | exact q_4c6d633468 h55 h51.2.1 | omega)) (FTrow 36 27 2 48 (by decide +kernel) (by first | exact q_af8e3f94d3 h55 h51.1 | omega) (by first | exact q_6cc87f4aa1 h55 h51.2.2.1 hu_a h31 h28.2.1 | omega) (by first | exact q_493b8125c1 h51.2.2.1 h55 h51.2.2.2 | omega)) (fun z57 h56 h58 h59 => ?_)
        refine En_callV rfl rfl rfl rfl rfl rfl rfl rfl tgz_159 (by decide +kernel) rfl (c_188 σ48 h49 z43 z57 (geI rfl (by first | exact q_58e6e51dcc h44 | omega)) (leI rfl (by first | exact q_5a4d8a7e08 h45 | omega)) (geI rfl (by first | exact q_58e6e51dcc h58 | omega)) (leI rfl (by first | exact q_9d0c30f9c5 h59 | omega)) y7 ((h50 _ _ (inW tgz_159 (by decide +kernel))).trans ((h38 _ _ (inW tgz_159 (by decide +kernel))).trans ((h27 _ _ (inW tgz_159 (by decide +kernel))).trans h11))) (by first | exact q_d46f366cdb h15 | omega)) (by decide) (by decide) (fun v61 σ62 h60 => ?_)
        obtain ⟨h63, h64, z66, h67, rfl, h65⟩ := h60
        have h68 := Fr_trans h53 h64 (by decide +kernel)
        refine En_Ps 1 (pc' := 46) (lv' := [(2, .int ((y6 + Int32.ofInt 1))), (0, .ref 159), (1, .int a)]) (st' := []) rfl ?_
        refine En_lv1 (addI rfl (by decide : (Int32.ofInt 1).toInt = 1) (by first | exact q_465ab79ac1 h12 | omega) (by first | exact q_d22f73d43b h13 | omega)) (fun z69 h70 => ?_)
        refine En_Ps 1 (pc' := 7) (lv' := [(2, .int z69), (0, .ref 159), (1, .int a)]) (st' := []) rfl ?_
        refine En_lv (lv := [(0, .ref 159), (1, .int a), (2, .int z69)]) ⟨rfl, rfl, rfl, trivial⟩ ?_
        exact ih7 σ62 z69 z66 h63 h68 h67 (by first | exact q_35104ce9d3 h70 h12 | omega) (by first | exact q_54f15c7756 h70 h31 h28.2.1 | omega) (by first | exact q_996aa4c518 h65.1 | omega) (by first | exact q_d1ae77b671 h65.2.2.2.1 h17 h31 h28.2.1 | omega) (by first | exact q_1bf6efff14 h65.2.2.1 h70 h16 | omega) (by first | exact q_1101def2bb h65.2.2.2.1 h70 h17 | omega) (by first | exact q_20fedeb4b2 h70 h18 | omega)
  have := (by decide : (Int32.ofInt 0).toInt = 0)
  have := (by decide : (Int32.ofInt 0).toInt = 0)
  refine En_lv (lv := [(0, .ref 159), (1, .int a), (2, .int ((Int32.ofInt 0)))]) ⟨rfl, rfl, rfl, trivial⟩ ?_
  exact key7 (Int.toNat (13) + 1) σ1 ((Int32.ofInt 0)) ((Int32.ofInt 0)) h2 h3 h4 (by decide) (by decide) (by decide) (by decide) (by (first | exact q_1bb76abeaf | omega)) (by (first | exact q_857069189f | omega)) (by first | exact toN_lt _ | omega)
/-- DoorSchoolModel.isAsTold(I)Z -/
abbrev P_252 (σ0 : SG) (a : Int32) : PO := fun v σ => WT σ ∧ Fr [] σ0 σ ∧ ∃ ret : Int32, v = some (Value.int ret) ∧ -ret.toInt ≤ 0 ∧ ret.toInt - 1 ≤ 0
set_option maxRecDepth 10000 in
set_option maxHeartbeats 4000000 in
theorem c_252 (σ0 : SG) (hσ0 : WT σ0) (a : Int32) : En 1 21 none mr_252 (P_252 σ0 a) 0 [(0, .ref 159), (1, .int a)] [] σ0 := by
  have hF0 : Fr [] σ0 σ0 := Fr_rfl
  refine En_Ps 2 (pc' := 2) (lv' := [(2, .int ((Int32.ofInt 0))), (0, .ref 159), (1, .int a)]) (st' := []) rfl ?_
  have key2 : ∀ (n2 : Nat) (σ2 : SG) (y1 : Int32), WT σ2 → Fr [] σ0 σ2 → 0 ≤ y1.toInt → y1.toInt ≤ 50 → -y1.toInt + 50 < (n2 : Int) → En 1 21 none mr_252 (P_252 σ0 a) 2 [(0, .ref 159), (1, .int a), (2, .int y1)] [] σ2 := by
    intro n2
    induction n2 with
    | zero =>
      intro σ2 y1 h3 h4 h5 h6 h7
      first | exact (q_0f6934dca7 h7 h6).elim | (exfalso; omega)
    | succ n2 ih2 =>
      intro σ2 y1 h3 h4 h5 h6 h7
      refine En_Ps 2 (pc' := 4) (lv' := [(0, .ref 159), (1, .int a), (2, .int y1)]) (st' := [.ref 159, .int y1]) rfl ?_
      refine En_getI (j := 21) (l := 0) (u := 17) rfl rfl rfl tgz_159 (by decide +kernel) h3 (by decide +kernel) (fun z9 h8 h10 h11 => ?_)
      refine En_icGe _ rfl rfl rfl (fun h12 => ?_) (fun h12 => ?_)
      · refine En_Ps 1 (pc' := 38) (lv' := [(0, .ref 159), (1, .int a), (2, .int y1)]) (st' := [.int ((Int32.ofInt 1))]) rfl ?_
        refine En_top (by decide : (Int32.ofInt 1).toInt = 1) (fun z13 h14 => ?_)
        exact En_ret (v := some (Value.int z13)) rfl rfl (retZ rfl rfl (by first | exact q_2b07c97645 h14 | omega) (by first | exact q_d9e7cbb253 h14 | omega)) ⟨h3, h4, z13, rfl, ⟨by first | exact q_ad3eee31ca h14 | omega, by first | exact q_81cf297dc4 h14 | omega⟩⟩
      · refine En_Ps 2 (pc' := 12) (lv' := [(0, .ref 159), (1, .int a), (2, .int y1)]) (st' := [.ref 159, .int a]) rfl ?_
        refine En_getU (j := 19) (u := 169) (g' := 45) (q := 0) rfl rfl rfl tgz_159 (by decide +kernel) h3 (by decide +kernel) un_45_169 (fun h15 => ?_)
        refine En_Ps 1 (pc' := 16) (lv' := [(0, .ref 159), (1, .int a), (2, .int y1)]) (st' := [.int y1, .ref 169, .int a]) rfl ?_
        refine En_iald (l := 0) (u := 15) rfl rfl tgz_169 (by decide +kernel) h3 (by first | exact q_58e6e51dcc h5 | omega) (lnI (by decide +kernel : LN _ = 17) (by first | exact q_3c0e2e8016 h12 h11 | omega)) (FTsgl (by decide +kernel)) (fun z18 h17 h19 h20 => ?_)
        refine En_callS rfl rfl rfl rfl rfl rfl rfl rfl rfl (c_202b σ2 h3 a z18) (by decide) (by decide) (fun v22 σ23 h21 => ?_)
        obtain ⟨h24, h25, z27, rfl, h26⟩ := h21
        have h28 := Fr_trans h4 h25 (by decide +kernel)
        refine En_Ps 1 (pc' := 21) (lv' := [(0, .ref 159), (1, .int a), (2, .int y1)]) (st' := [.ref 159, .int z27]) rfl ?_
        refine En_getU (j := 20) (u := 170) (g' := 46) (q := 0) rfl rfl rfl tgz_159 (by decide +kernel) h24 (by decide +kernel) un_46_170 (fun h29 => ?_)
        refine En_Ps 1 (pc' := 25) (lv' := [(0, .ref 159), (1, .int a), (2, .int y1)]) (st' := [.int y1, .ref 170, .int z27]) rfl ?_
        refine En_iald (l := 0) (u := 1) rfl rfl tgz_170 (by decide +kernel) h24 (by first | exact q_58e6e51dcc h5 | omega) (lnI (by decide +kernel : LN _ = 17) (by first | exact q_3c0e2e8016 h12 h11 | omega)) (FTsgl (by decide +kernel)) (fun z32 h31 h33 h34 => ?_)
        refine En_icEq _ rfl rfl rfl (fun h35 => ?_) (fun h35 => ?_)
        · refine En_Ps 1 (pc' := 34) (lv' := [(2, .int ((y1 + Int32.ofInt 1))), (0, .ref 159), (1, .int a)]) (st' := []) rfl ?_
          refine En_lv1 (addI rfl (by decide : (Int32.ofInt 1).toInt = 1) (by first | exact q_465ab79ac1 h5 | omega) (by first | exact q_c4feee4d2e h6 | omega)) (fun z36 h37 => ?_)
          refine En_Ps 1 (pc' := 2) (lv' := [(2, .int z36), (0, .ref 159), (1, .int a)]) (st' := []) rfl ?_
          refine En_lv (lv := [(0, .ref 159), (1, .int a), (2, .int z36)]) ⟨rfl, rfl, rfl, trivial⟩ ?_
          exact ih2 σ23 z36 h24 h28 (by first | exact q_35104ce9d3 h37 h5 | omega) (by first | exact q_e18cd89a20 h37 h12 h11 | omega) (by first | exact q_fc5bfd9d02 h37 h7 | omega)
        · refine En_Ps 1 (pc' := 30) (lv' := [(0, .ref 159), (1, .int a), (2, .int y1)]) (st' := [.int ((Int32.ofInt 0))]) rfl ?_
          refine En_top (by decide : (Int32.ofInt 0).toInt = 0) (fun z38 h39 => ?_)
          exact En_ret (v := some (Value.int z38)) rfl rfl (retZ rfl rfl (by first | exact q_55451d0a83 h39 | omega) (by first | exact q_87849c3859 h39 | omega)) ⟨h24, h28, z38, rfl, ⟨by first | exact q_097a37c2ae h39 | omega, by first | exact q_e269517bee h39 | omega⟩⟩
  have := (by decide : (Int32.ofInt 0).toInt = 0)
  refine En_lv (lv := [(0, .ref 159), (1, .int a), (2, .int ((Int32.ofInt 0)))]) ⟨rfl, rfl, rfl, trivial⟩ ?_
  exact key2 (Int.toNat (50) + 1) σ0 ((Int32.ofInt 0)) hσ0 hF0 (by decide) (by decide) (by first | exact toN_lt _ | omega)
/-- DoorSchoolModel.firstRule()I -/
abbrev P_229 (σ0 : SG) : PO := fun v σ => WT σ ∧ Fr [] σ0 σ ∧ ∃ ret : Int32, v = some (Value.int ret) ∧ -ret.toInt - 1 ≤ 0 ∧ ret.toInt - 80 ≤ 0
set_option maxRecDepth 10000 in
set_option maxHeartbeats 4000000 in
theorem c_229 (σ0 : SG) (hσ0 : WT σ0) : En 2 43 none mr_229 (P_229 σ0) 0 [(0, .ref 159)] [] σ0 := by
  have hF0 : Fr [] σ0 σ0 := Fr_rfl
  refine En_Ps 2 (pc' := 2) (lv' := [(1, .int ((Int32.ofInt 0))), (0, .ref 159)]) (st' := []) rfl ?_
  have key2 : ∀ (n2 : Nat) (σ2 : SG) (y1 : Int32), WT σ2 → Fr [] σ0 σ2 → 0 ≤ y1.toInt → y1.toInt ≤ 81 → -y1.toInt + 81 < (n2 : Int) → En 2 43 none mr_229 (P_229 σ0) 2 [(0, .ref 159), (1, .int y1)] [] σ2 := by
    intro n2
    induction n2 with
    | zero =>
      intro σ2 y1 h3 h4 h5 h6 h7
      first | exact (q_ffef14d449 h7 h6).elim | (exfalso; omega)
    | succ n2 ih2 =>
      intro σ2 y1 h3 h4 h5 h6 h7
      refine En_Ps 2 (pc' := 4) (lv' := [(0, .ref 159), (1, .int y1)]) (st' := [.ref 159, .int y1]) rfl ?_
      refine En_getI (j := 18) (l := 0) (u := 81) rfl rfl rfl tgz_159 (by decide +kernel) h3 (by decide +kernel) (fun z9 h8 h10 h11 => ?_)
      refine En_icGe _ rfl rfl rfl (fun h12 => ?_) (fun h12 => ?_)
      · refine En_Ps 1 (pc' := 32) (lv' := [(0, .ref 159), (1, .int y1)]) (st' := [.int ((Int32.ofInt (-1)))]) rfl ?_
        refine En_top (by decide : (Int32.ofInt (-1)).toInt = -1) (fun z13 h14 => ?_)
        exact En_ret (v := some (Value.int z13)) rfl rfl rfl ⟨h3, h4, z13, rfl, ⟨by first | exact q_6ba54b61e9 h14 | omega, by first | exact q_ed1bd306dd h14 | omega⟩⟩
      · refine En_Ps 2 (pc' := 12) (lv' := [(0, .ref 159), (1, .int y1)]) (st' := [.ref 159, .ref 159]) rfl ?_
        refine En_getU (j := 17) (u := 168) (g' := 44) (q := 0) rfl rfl rfl tgz_159 (by decide +kernel) h3 (by decide +kernel) un_44_168 (fun h15 => ?_)
        refine En_Ps 1 (pc' := 16) (lv' := [(0, .ref 159), (1, .int y1)]) (st' := [.int y1, .ref 168, .ref 159]) rfl ?_
        refine En_iald (l := (-2147483648)) (u := 2147483647) rfl rfl tgz_168 (by decide +kernel) h3 (by first | exact q_58e6e51dcc h5 | omega) (lnI (by decide +kernel : LN _ = 81) (by first | exact q_a0e855914a h12 h11 | omega)) (FTsgl (by decide +kernel)) (fun z18 h17 h19 h20 => ?_)
        refine En_callV rfl rfl rfl rfl rfl rfl rfl rfl tgz_159 (by decide +kernel) rfl (c_252 σ2 h3 z18) (by decide) (by decide) (fun v22 σ23 h21 => ?_)
        obtain ⟨h24, h25, z27, rfl, h26⟩ := h21
        have h28 := Fr_trans h4 h25 (by decide +kernel)
        refine En_iEq _ rfl rfl (fun h29 => ?_) (fun h29 => ?_)
        · refine En_Ps 1 (pc' := 28) (lv' := [(1, .int ((y1 + Int32.ofInt 1))), (0, .ref 159)]) (st' := []) rfl ?_
          refine En_lv1 (addI rfl (by decide : (Int32.ofInt 1).toInt = 1) (by first | exact q_465ab79ac1 h5 | omega) (by first | exact q_d778ff18c8 h6 | omega)) (fun z30 h31 => ?_)
          refine En_Ps 1 (pc' := 2) (lv' := [(1, .int z30), (0, .ref 159)]) (st' := []) rfl ?_
          refine En_lv (lv := [(0, .ref 159), (1, .int z30)]) ⟨rfl, rfl, trivial⟩ ?_
          exact ih2 σ23 z30 h24 h28 (by first | exact q_35104ce9d3 h31 h5 | omega) (by first | exact q_798b104d48 h31 h12 h11 | omega) (by first | exact q_4ff790945b h31 h7 | omega)
        · refine En_Ps 1 (pc' := 24) (lv' := [(0, .ref 159), (1, .int y1)]) (st' := [.int y1]) rfl ?_
          exact En_ret (v := some (Value.int y1)) rfl rfl rfl ⟨h24, h28, y1, rfl, ⟨by first | exact q_565e7b05df h5 | omega, by first | exact q_6b56ae27a7 h12 h11 | omega⟩⟩
  have := (by decide : (Int32.ofInt 0).toInt = 0)
  refine En_lv (lv := [(0, .ref 159), (1, .int ((Int32.ofInt 0)))]) ⟨rfl, rfl, trivial⟩ ?_
  exact key2 (Int.toNat (81) + 1) σ0 ((Int32.ofInt 0)) hσ0 hF0 (by decide) (by decide) (by first | exact toN_lt _ | omega)
/-- DoorSchoolModel.latestOf(I)I -/
abbrev P_270 (σ0 : SG) (a : Int32) (m : Int32) : PO := fun v σ => WT σ ∧ Fr [] σ0 σ ∧ ∃ ret : Int32, v = some (Value.int ret) ∧ -ret.toInt - 1 ≤ 0 ∧ ret.toInt - 16 ≤ 0 ∧ ret.toInt - m.toInt + 1 ≤ 0
set_option maxRecDepth 10000 in
set_option maxHeartbeats 4000000 in
theorem c_270 (σ0 : SG) (hσ0 : WT σ0) (a : Int32) (m : Int32) (h_m : (σ0 159)[21]? = some (Value.int m)) : En 0 0 none mr_270 (P_270 σ0 a m) 0 [(0, .ref 159), (1, .int a)] [] σ0 := by
  obtain ⟨hl_m, hu_m⟩ := WT_int hσ0 (g := 35) (by decide +kernel) (by decide +kernel) (l := 0) (u := 17) (by decide +kernel) h_m
  have hF0 : Fr [] σ0 σ0 := Fr_rfl
  refine En_Ps 1 (pc' := 1) (lv' := [(0, .ref 159), (1, .int a)]) (st' := [.ref 159]) rfl ?_
  refine En_getK (j := 21) h_m rfl rfl rfl tgz_159 (by decide +kernel) ?_
  refine En_Ps 2 (pc' := 6) (lv' := [(0, .ref 159), (1, .int a)]) (st' := [.int ((m - ((Int32.ofInt 1))))]) rfl ?_
  refine En_top (subI rfl (by decide : (Int32.ofInt 1).toInt = 1) (by first | exact q_93f9478bef hl_m | omega) (by first | exact q_05c194ef54 hu_m | omega)) (fun z1 h2 => ?_)
  refine En_Ps 1 (pc' := 7) (lv' := [(2, .int z1), (0, .ref 159), (1, .int a)]) (st' := []) rfl ?_
  have key7 : ∀ (n7 : Nat) (σ4 : SG) (y3 : Int32), WT σ4 → Fr [] σ0 σ4 → (σ4 159)[21]? = some (Value.int m) → (-1) ≤ y3.toInt → y3.toInt ≤ 16 → y3.toInt - m.toInt + 1 ≤ 0 → y3.toInt + 1 < (n7 : Int) → En 0 0 none mr_270 (P_270 σ0 a m) 7 [(0, .ref 159), (1, .int a), (2, .int y3)] [] σ4 := by
    intro n7
    induction n7 with
    | zero =>
      intro σ4 y3 h5 h6 h7 h8 h9 h10 h11
      first | exact (q_d30ca37d8c h8 h11).elim | (exfalso; omega)
    | succ n7 ih7 =>
      intro σ4 y3 h5 h6 h7 h8 h9 h10 h11
      refine En_Ps 1 (pc' := 8) (lv' := [(0, .ref 159), (1, .int a), (2, .int y3)]) (st' := [.int y3]) rfl ?_
      refine En_iLt _ rfl rfl (fun h12 => ?_) (fun h12 => ?_)
      · refine En_Ps 1 (pc' := 30) (lv' := [(0, .ref 159), (1, .int a), (2, .int y3)]) (st' := [.int ((Int32.ofInt (-1)))]) rfl ?_
        refine En_top (by decide : (Int32.ofInt (-1)).toInt = -1) (fun z13 h14 => ?_)
        exact En_ret (v := some (Value.int z13)) rfl rfl rfl ⟨h5, h6, z13, rfl, ⟨by first | exact q_6ba54b61e9 h14 | omega, by first | exact q_0fdbae2b22 h14 | omega, by first | exact q_3ce96d76a4 hl_m h14 | omega⟩⟩
      · refine En_Ps 1 (pc' := 12) (lv' := [(0, .ref 159), (1, .int a), (2, .int y3)]) (st' := [.ref 159]) rfl ?_
        refine En_getU (j := 19) (u := 169) (g' := 45) (q := 0) rfl rfl rfl tgz_159 (by decide +kernel) h5 (by decide +kernel) un_45_169 (fun h15 => ?_)
        refine En_Ps 1 (pc' := 16) (lv' := [(0, .ref 159), (1, .int a), (2, .int y3)]) (st' := [.int y3, .ref 169]) rfl ?_
        refine En_iald (l := 0) (u := 15) rfl rfl tgz_169 (by decide +kernel) h5 (by first | exact q_58e6e51dcc h12 | omega) (lnI (by decide +kernel : LN _ = 17) (by first | exact q_3c94711a6f h9 | omega)) (FTsgl (by decide +kernel)) (fun z18 h17 h19 h20 => ?_)
        refine En_Ps 1 (pc' := 18) (lv' := [(0, .ref 159), (1, .int a), (2, .int y3)]) (st' := [.int a, .int z18]) rfl ?_
        refine En_icNe _ rfl rfl rfl (fun h21 => ?_) (fun h21 => ?_)
        · refine En_Ps 1 (pc' := 26) (lv' := [(2, .int ((y3 + Int32.ofInt (-1)))), (0, .ref 159), (1, .int a)]) (st' := []) rfl ?_
          refine En_lv1 (addI rfl (by decide : (Int32.ofInt (-1)).toInt = -1) (by first | exact q_069e58d060 h12 | omega) (by first | exact q_18d94ff330 h9 | omega)) (fun z22 h23 => ?_)
          refine En_Ps 1 (pc' := 7) (lv' := [(2, .int z22), (0, .ref 159), (1, .int a)]) (st' := []) rfl ?_
          refine En_lv (lv := [(0, .ref 159), (1, .int a), (2, .int z22)]) ⟨rfl, rfl, rfl, trivial⟩ ?_
          exact ih7 σ4 z22 h5 h6 h7 (by first | exact q_1dc8c15c2b h23 h12 | omega) (by first | exact q_6ba80c26a7 h23 h9 | omega) (by first | exact q_ad24c9502e h10 h23 | omega) (by first | exact q_03fcbe2dc3 h23 h11 | omega)
        · refine En_Ps 1 (pc' := 22) (lv' := [(0, .ref 159), (1, .int a), (2, .int y3)]) (st' := [.int y3]) rfl ?_
          exact En_ret (v := some (Value.int y3)) rfl rfl rfl ⟨h5, h6, y3, rfl, ⟨by first | exact q_565e7b05df h12 | omega, by first | exact q_774c92aa9b h9 | omega, by first | exact q_ef157b5a0e h10 | omega⟩⟩
  refine En_lv (lv := [(0, .ref 159), (1, .int a), (2, .int z1)]) ⟨rfl, rfl, rfl, trivial⟩ ?_
  exact key7 (Int.toNat (z1.toInt + 1) + 1) σ0 z1 hσ0 hF0 h_m (by first | exact q_e2c277696c h2 hl_m | omega) (by first | exact q_6a76617d8e h2 hu_m | omega) (by first | exact q_8e6f8e4fd9 h2 | omega) (by first | exact toN_lt _ | omega)
/-- DoorSchoolModel.nearestTo(I)I -/
abbrev P_285 (σ0 : SG) (a : Int32) (m : Int32) : PO := fun v σ => WT σ ∧ Fr [] σ0 σ ∧ ∃ ret : Int32, v = some (Value.int ret) ∧ -ret.toInt - 1 ≤ 0 ∧ ret.toInt - 16 ≤ 0 ∧ ret.toInt - m.toInt + 1 ≤ 0
set_option maxRecDepth 10000 in
set_option maxHeartbeats 4000000 in
theorem c_285 (σ0 : SG) (hσ0 : WT σ0) (a : Int32) (m : Int32) (h_m : (σ0 159)[21]? = some (Value.int m)) : En 1 22 none mr_285 (P_285 σ0 a m) 0 [(0, .ref 159), (1, .int a)] [] σ0 := by
  obtain ⟨hl_m, hu_m⟩ := WT_int hσ0 (g := 35) (by decide +kernel) (by decide +kernel) (l := 0) (u := 17) (by decide +kernel) h_m
  have hF0 : Fr [] σ0 σ0 := Fr_rfl
  refine En_Ps 4 (pc' := 4) (lv' := [(3, .int ((Int32.ofInt 0))), (2, .int ((Int32.ofInt (-1)))), (0, .ref 159), (1, .int a)]) (st' := []) rfl ?_
  have key4 : ∀ (n4 : Nat) (σ3 : SG) (y1 : Int32) (y2 : Int32), WT σ3 → Fr [] σ0 σ3 → (σ3 159)[21]? = some (Value.int m) → (-1) ≤ y1.toInt → y1.toInt ≤ 16 → 0 ≤ y2.toInt → y2.toInt ≤ 17 → y2.toInt - m.toInt ≤ 0 → y1.toInt - y2.toInt + 1 ≤ 0 → m.toInt - y2.toInt < (n4 : Int) → En 1 22 none mr_285 (P_285 σ0 a m) 4 [(0, .ref 159), (1, .int a), (2, .int y1), (3, .int y2)] [] σ3 := by
    intro n4
    induction n4 with
    | zero =>
      intro σ3 y1 y2 h4 h5 h6 h7 h8 h9 h10 h11 h12 h13
      first | exact (q_14257feae7 h11 h13).elim | (exfalso; omega)
    | succ n4 ih4 =>
      intro σ3 y1 y2 h4 h5 h6 h7 h8 h9 h10 h11 h12 h13
      refine En_Ps 2 (pc' := 6) (lv' := [(0, .ref 159), (1, .int a), (2, .int y1), (3, .int y2)]) (st' := [.ref 159, .int y2]) rfl ?_
      refine En_getK (j := 21) h6 rfl rfl rfl tgz_159 (by decide +kernel) ?_
      refine En_icGe _ rfl rfl rfl (fun h14 => ?_) (fun h14 => ?_)
      · refine En_Ps 1 (pc' := 51) (lv' := [(0, .ref 159), (1, .int a), (2, .int y1), (3, .int y2)]) (st' := [.int y1]) rfl ?_
        exact En_ret (v := some (Value.int y1)) rfl rfl rfl ⟨h4, h5, y1, rfl, ⟨by first | exact q_909eef6c0e h7 | omega, by first | exact q_774c92aa9b h8 | omega, by first | exact q_985cb060c6 h11 h12 | omega⟩⟩
      · refine En_Ps 2 (pc' := 14) (lv' := [(0, .ref 159), (1, .int a), (2, .int y1), (3, .int y2)]) (st' := [.int ((Int32.ofInt (-1))), .int y1]) rfl ?_
        refine En_icEq _ rfl (by decide : (Int32.ofInt (-1)).toInt = -1) rfl (fun h15 => ?_) (fun h15 => ?_)
        · refine En_Ps 3 (pc' := 47) (lv' := [(3, .int ((y2 + Int32.ofInt 1))), (2, .int y2), (0, .ref 159), (1, .int a)]) (st' := []) rfl ?_
          refine En_lv1 (addI rfl (by decide : (Int32.ofInt 1).toInt = 1) (by first | exact q_465ab79ac1 h9 | omega) (by first | exact q_8fddffa1e7 h10 | omega)) (fun z16 h17 => ?_)
          refine En_Ps 1 (pc' := 4) (lv' := [(3, .int z16), (2, .int y2), (0, .ref 159), (1, .int a)]) (st' := []) rfl ?_
          refine En_lv (lv := [(0, .ref 159), (1, .int a), (2, .int y2), (3, .int z16)]) ⟨rfl, rfl, rfl, rfl, trivial⟩ ?_
          exact ih4 σ3 y2 z16 h4 h5 h6 (by first | exact q_5b439548fc h9 | omega) (by first | exact q_9db15d274e h14 hu_m | omega) (by first | exact q_35104ce9d3 h17 h9 | omega) (by first | exact q_7686b24621 h17 h14 hu_m | omega) (by first | exact q_ae2dbf4292 h14 h17 | omega) (by first | exact q_2fedec469a h17 | omega) (by first | exact q_8d03a5a7cb h17 h13 | omega)
        · refine En_Ps 1 (pc' := 18) (lv' := [(0, .ref 159), (1, .int a), (2, .int y1), (3, .int y2)]) (st' := [.ref 159]) rfl ?_
          refine En_getU (j := 19) (u := 169) (g' := 45) (q := 0) rfl rfl rfl tgz_159 (by decide +kernel) h4 (by decide +kernel) un_45_169 (fun h18 => ?_)
          refine En_Ps 1 (pc' := 22) (lv' := [(0, .ref 159), (1, .int a), (2, .int y1), (3, .int y2)]) (st' := [.int y2, .ref 169]) rfl ?_
          refine En_iald (l := 0) (u := 15) rfl rfl tgz_169 (by decide +kernel) h4 (by first | exact q_58e6e51dcc h9 | omega) (lnI (by decide +kernel : LN _ = 17) (by first | exact q_3c0e2e8016 h14 hu_m | omega)) (FTsgl (by decide +kernel)) (fun z21 h20 h22 h23 => ?_)
          refine En_Ps 2 (pc' := 25) (lv' := [(0, .ref 159), (1, .int a), (2, .int y1), (3, .int y2)]) (st' := [.int ((z21 ^^^ a))]) rfl ?_
          refine En_hav (fun z24 => ?_)
          refine En_callS rfl rfl rfl rfl rfl rfl rfl rfl rfl (c_203b σ3 h4 z24) (by decide) (by decide) (fun v26 σ27 h25 => ?_)
          obtain ⟨h28, h29, z31, rfl, h30⟩ := h25
          have h32 := Fr_trans h5 h29 (by decide +kernel)
          refine En_Ps 1 (pc' := 29) (lv' := [(0, .ref 159), (1, .int a), (2, .int y1), (3, .int y2)]) (st' := [.ref 159, .int z31]) rfl ?_
          refine En_getK (j := 19) ((h29 _ _ (inW tgz_159 (by decide +kernel))).trans h18) rfl rfl rfl tgz_159 (by decide +kernel) ?_
          refine En_Ps 1 (pc' := 33) (lv' := [(0, .ref 159), (1, .int a), (2, .int y1), (3, .int y2)]) (st' := [.int y1, .ref 169, .int z31]) rfl ?_
          refine En_iald (l := 0) (u := 15) rfl rfl tgz_169 (by decide +kernel) h28 (by first | exact q_eab05c2344 h15 h7 | omega) (lnI (by decide +kernel : LN _ = 17) (by first | exact q_3c94711a6f h8 | omega)) (FTsgl (by decide +kernel)) (fun z34 h33 h35 h36 => ?_)
          refine En_Ps 2 (pc' := 36) (lv' := [(0, .ref 159), (1, .int a), (2, .int y1), (3, .int y2)]) (st' := [.int ((z34 ^^^ a)), .int z31]) rfl ?_
          refine En_hav (fun z37 => ?_)
          refine En_callS rfl rfl rfl rfl rfl rfl rfl rfl rfl (c_203b σ27 h28 z37) (by decide) (by decide) (fun v39 σ40 h38 => ?_)
          obtain ⟨h41, h42, z44, rfl, h43⟩ := h38
          have h45 := Fr_trans h32 h42 (by decide +kernel)
          refine En_icGe _ rfl rfl rfl (fun h46 => ?_) (fun h46 => ?_)
          · refine En_Ps 1 (pc' := 47) (lv' := [(3, .int ((y2 + Int32.ofInt 1))), (0, .ref 159), (1, .int a), (2, .int y1)]) (st' := []) rfl ?_
            refine En_lv1 (addI rfl (by decide : (Int32.ofInt 1).toInt = 1) (by first | exact q_465ab79ac1 h9 | omega) (by first | exact q_8fddffa1e7 h10 | omega)) (fun z47 h48 => ?_)
            refine En_Ps 1 (pc' := 4) (lv' := [(3, .int z47), (0, .ref 159), (1, .int a), (2, .int y1)]) (st' := []) rfl ?_
            refine En_lv (lv := [(0, .ref 159), (1, .int a), (2, .int y1), (3, .int z47)]) ⟨rfl, rfl, rfl, rfl, trivial⟩ ?_
            exact ih4 σ40 y1 z47 h41 h45 ((h42 _ _ (inW tgz_159 (by decide +kernel))).trans ((h29 _ _ (inW tgz_159 (by decide +kernel))).trans h6)) (by first | exact q_8d1c67ec40 h15 h7 | omega) (by first | exact q_60616f21a7 h8 | omega) (by first | exact q_35104ce9d3 h48 h9 | omega) (by first | exact q_7686b24621 h48 h14 hu_m | omega) (by first | exact q_ae2dbf4292 h14 h48 | omega) (by first | exact q_6591527e3e h12 h48 | omega) (by first | exact q_8d03a5a7cb h48 h13 | omega)
          · refine En_Ps 3 (pc' := 47) (lv' := [(3, .int ((y2 + Int32.ofInt 1))), (2, .int y2), (0, .ref 159), (1, .int a)]) (st' := []) rfl ?_
            refine En_lv1 (addI rfl (by decide : (Int32.ofInt 1).toInt = 1) (by first | exact q_465ab79ac1 h9 | omega) (by first | exact q_8fddffa1e7 h10 | omega)) (fun z49 h50 => ?_)
            refine En_Ps 1 (pc' := 4) (lv' := [(3, .int z49), (2, .int y2), (0, .ref 159), (1, .int a)]) (st' := []) rfl ?_
            refine En_lv (lv := [(0, .ref 159), (1, .int a), (2, .int y2), (3, .int z49)]) ⟨rfl, rfl, rfl, rfl, trivial⟩ ?_
            exact ih4 σ40 y2 z49 h41 h45 ((h42 _ _ (inW tgz_159 (by decide +kernel))).trans ((h29 _ _ (inW tgz_159 (by decide +kernel))).trans h6)) (by first | exact q_5b439548fc h9 | omega) (by first | exact q_9db15d274e h14 hu_m | omega) (by first | exact q_35104ce9d3 h50 h9 | omega) (by first | exact q_7686b24621 h50 h14 hu_m | omega) (by first | exact q_ae2dbf4292 h14 h50 | omega) (by first | exact q_2fedec469a h50 | omega) (by first | exact q_8d03a5a7cb h50 h13 | omega)
  have := (by decide : (Int32.ofInt (-1)).toInt = -1)
  have := (by decide : (Int32.ofInt 0).toInt = 0)
  refine En_lv (lv := [(0, .ref 159), (1, .int a), (2, .int ((Int32.ofInt (-1)))), (3, .int ((Int32.ofInt 0)))]) ⟨rfl, rfl, rfl, rfl, trivial⟩ ?_
  exact key4 (Int.toNat (m.toInt) + 1) σ0 ((Int32.ofInt (-1))) ((Int32.ofInt 0)) hσ0 hF0 h_m (by decide) (by decide) (by decide) (by decide) (by (first | exact q_d69f448e8e this hl_m | omega)) (by (first | exact q_2e3352c2b4 this (by decide) | omega)) (by first | exact toN_lt _ | omega)
/-- DoorSchoolModel.byLesson(II)I -/
abbrev P_204 (σ0 : SG) (a : Int32) (b : Int32) (m : Int32) : PO := fun v σ => WT σ ∧ Fr [] σ0 σ ∧ ∃ ret : Int32, v = some (Value.int ret) ∧ -ret.toInt - 1 ≤ 0 ∧ ret.toInt - 16 ≤ 0 ∧ ret.toInt - m.toInt + 1 ≤ 0
set_option maxRecDepth 10000 in
set_option maxHeartbeats 4000000 in
theorem c_204 (σ0 : SG) (hσ0 : WT σ0) (a : Int32) (b : Int32) (m : Int32) (h_m : (σ0 159)[21]? = some (Value.int m)) : En 2 45 none mr_204 (P_204 σ0 a b m) 0 [(0, .ref 159), (1, .int a), (2, .int b)] [] σ0 := by
  obtain ⟨hl_m, hu_m⟩ := WT_int hσ0 (g := 35) (by decide +kernel) (by decide +kernel) (l := 0) (u := 17) (by decide +kernel) h_m
  have hF0 : Fr [] σ0 σ0 := Fr_rfl
  refine En_Ps 1 (pc' := 1) (lv' := [(0, .ref 159), (1, .int a), (2, .int b)]) (st' := [.int a]) rfl ?_
  refine En_iNe _ rfl rfl (fun h1 => ?_) (fun h1 => ?_)
  · refine En_Ps 2 (pc' := 14) (lv' := [(0, .ref 159), (1, .int a), (2, .int b)]) (st' := [.int ((Int32.ofInt 2)), .int a]) rfl ?_
    refine En_icNe _ rfl (by decide : (Int32.ofInt 2).toInt = 2) rfl (fun h2 => ?_) (fun h2 => ?_)
    · refine En_Ps 1 (pc' := 26) (lv' := [(0, .ref 159), (1, .int a), (2, .int b)]) (st' := [.int ((Int32.ofInt (-1)))]) rfl ?_
      refine En_top (by decide : (Int32.ofInt (-1)).toInt = -1) (fun z3 h4 => ?_)
      exact En_ret (v := some (Value.int z3)) rfl rfl rfl ⟨hσ0, hF0, z3, rfl, ⟨by first | exact q_6ba54b61e9 h4 | omega, by first | exact q_0fdbae2b22 h4 | omega, by first | exact q_3ce96d76a4 hl_m h4 | omega⟩⟩
    · refine En_Ps 2 (pc' := 19) (lv' := [(0, .ref 159), (1, .int a), (2, .int b)]) (st' := [.int b, .ref 159]) rfl ?_
      refine En_callV rfl rfl rfl rfl rfl rfl rfl rfl tgz_159 (by decide +kernel) rfl (c_285 σ0 hσ0 b m h_m) (by decide) (by decide) (fun v6 σ7 h5 => ?_)
      obtain ⟨h8, h9, z11, rfl, h10⟩ := h5
      have h12 := Fr_trans hF0 h9 (by decide +kernel)
      refine En_Ps 1 (pc' := 26) (lv' := [(0, .ref 159), (1, .int a), (2, .int b)]) (st' := [.int z11]) rfl ?_
      exact En_ret (v := some (Value.int z11)) rfl rfl rfl ⟨h8, h12, z11, rfl, ⟨by first | exact q_98e1bded96 h10.1 | omega, by first | exact q_0e990c4066 h10.2.1 | omega, by first | exact q_ef157b5a0e h10.2.2 | omega⟩⟩
  · refine En_Ps 2 (pc' := 6) (lv' := [(0, .ref 159), (1, .int a), (2, .int b)]) (st' := [.int b, .ref 159]) rfl ?_
    refine En_callV rfl rfl rfl rfl rfl rfl rfl rfl tgz_159 (by decide +kernel) rfl (c_270 σ0 hσ0 b m h_m) (by decide) (by decide) (fun v14 σ15 h13 => ?_)
    obtain ⟨h16, h17, z19, rfl, h18⟩ := h13
    have h20 := Fr_trans hF0 h17 (by decide +kernel)
    refine En_Ps 1 (pc' := 26) (lv' := [(0, .ref 159), (1, .int a), (2, .int b)]) (st' := [.int z19]) rfl ?_
    exact En_ret (v := some (Value.int z19)) rfl rfl rfl ⟨h16, h20, z19, rfl, ⟨by first | exact q_98e1bded96 h18.1 | omega, by first | exact q_0e990c4066 h18.2.1 | omega, by first | exact q_ef157b5a0e h18.2.2 | omega⟩⟩
end
