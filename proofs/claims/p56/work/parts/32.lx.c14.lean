/-- DoorSchool.why(II)I -/
abbrev P_183 (σ0 : SG) (a : Int32) (b : Int32) (p : Nat) (sg : Int32) : PO := fun v σ => WT σ ∧ Fr [] σ0 σ ∧ ∃ ret : Int32, v = some (.int ret) ∧ -ret.toInt - 2 ≤ 0 ∧ ret.toInt - 12 ≤ 0
set_option maxRecDepth 10000 in
set_option maxHeartbeats 4000000 in
theorem c_183 (σ0 : SG) (hσ0 : WT σ0) (a : Int32) (b : Int32) (p : Nat) (hp : TG p = 18) (h_p : (σ0 0)[9]? = some (.ref p)) (sg : Int32) (h_sg : (σ0 p)[1]? = some (.int sg)) (hp0 : -sg.toInt ≤ 0) : En 2 45 none mr_183 (P_183 σ0 a b p sg) 0 [(0, .ref 0), (1, .int a), (2, .int b)] [] σ0 := by
  obtain ⟨hl_sg, hu_sg⟩ := WT_int hσ0 (g := 18) hp (by decide +kernel) (l := (-1)) (u := 4) (by decide +kernel) h_sg
  have hF0 : Fr [] σ0 σ0 := Fr_rfl
  refine En_Ps 1 (pc' := 1) (lv' := [(0, .ref 0), (1, .int a), (2, .int b)]) (st' := [.ref 0]) rfl ?_
  refine En_getK (j := 9) h_p rfl rfl rfl tgz_0 (by decide +kernel) ?_
  refine En_Ps 1 (pc' := 5) (lv' := [(0, .ref 0), (1, .int a), (2, .int b)]) (st' := [.int a, .ref p]) rfl ?_
  refine En_callV rfl rfl rfl rfl rfl rfl rfl rfl hp (by decide +kernel) rfl (c_47 σ0 hσ0 p hp a) (by decide) (by decide) (fun v2 σ3 h1 => ?_)
  obtain ⟨h4, h5, z7, rfl, h6⟩ := h1
  have h8 := Fr_trans hF0 h5 (by decide +kernel)
  refine En_iEq _ rfl rfl (fun h9 => ?_) (fun h9 => ?_)
  · refine En_Ps 1 (pc' := 24) (lv' := [(0, .ref 0), (1, .int a), (2, .int b)]) (st' := [.int (((Int8.ofInt (-2)).toInt32))]) rfl ?_
    refine En_top (by decide : ((Int8.ofInt (-2)).toInt32).toInt = -2) (fun z10 h11 => ?_)
    exact En_ret (v := some (.int z10)) rfl rfl rfl ⟨h4, h8, z10, rfl, ⟨by first | exact q_f35c5d346c h11 | omega, by first | exact q_5a5c18c2ab h11 | omega⟩⟩
  · refine En_Ps 1 (pc' := 12) (lv' := [(0, .ref 0), (1, .int a), (2, .int b)]) (st' := [.ref 0]) rfl ?_
    refine En_getK (j := 9) ((h5 _ _ (inW tgz_0 (by decide +kernel))).trans h_p) rfl rfl rfl tgz_0 (by decide +kernel) ?_
    refine En_Ps 1 (pc' := 16) (lv' := [(0, .ref 0), (1, .int a), (2, .int b)]) (st' := [.int b, .ref p]) rfl ?_
    refine En_callV rfl rfl rfl rfl rfl rfl rfl rfl hp (by decide +kernel) rfl (c_49 σ3 h4 p hp b sg ((h5 _ _ (inW hp (by decide +kernel))).trans h_sg) (by first | exact q_a555021d16 hp0 | omega)) (by decide) (by decide) (fun v13 σ14 h12 => ?_)
    obtain ⟨h15, h16, z18, rfl, h17⟩ := h12
    have h19 := Fr_trans h8 h16 (by decide +kernel)
    refine En_iNe _ rfl rfl (fun h20 => ?_) (fun h20 => ?_)
    · refine En_Ps 1 (pc' := 26) (lv' := [(0, .ref 0), (1, .int a), (2, .int b)]) (st' := [.ref 0]) rfl ?_
      refine En_getK (j := 9) ((h16 _ _ (inW tgz_0 (by decide +kernel))).trans ((h5 _ _ (inW tgz_0 (by decide +kernel))).trans h_p)) rfl rfl rfl tgz_0 (by decide +kernel) ?_
      refine En_Ps 1 (pc' := 30) (lv' := [(0, .ref 0), (1, .int a), (2, .int b)]) (st' := [.int a, .ref p]) rfl ?_
      refine En_callV rfl rfl rfl rfl rfl rfl rfl rfl hp (by decide +kernel) rfl (c_52 σ14 h15 p hp a (geI rfl (by omega)) (leI rfl (by omega))) (by decide) (by decide) (fun v22 σ23 h21 => ?_)
      obtain ⟨h24, h25, a27, ha27, rfl, h26⟩ := h21
      have h28 := Fr_trans h19 h25 (by decide +kernel)
      refine En_Ps 2 (pc' := 35) (lv' := [(3, .ref a27), (0, .ref 0), (1, .int a), (2, .int b)]) (st' := [.ref a27]) rfl ?_
      refine En_getI (j := 1) (l := 0) (u := 2) rfl rfl rfl ha27 (by decide +kernel) h24 (by decide +kernel) (fun z30 h29 h31 h32 => ?_)
      rcases (show z30.toInt = 0 ∨ z30.toInt = 2 ∨ z30.toInt = 1 by omega) with h33 | h33 | h33
      · refine En_lsw (t := 64) (n := 0) rfl h33 rfl (by decide +kernel) ?_
        refine En_Ps 1 (pc' := 65) (lv' := [(3, .ref a27), (0, .ref 0), (1, .int a), (2, .int b)]) (st' := [.ref a27]) rfl ?_
        refine En_getR (j := 0) (g' := 20) (u := 0) rfl rfl rfl ha27 (by decide +kernel) h24 (by decide +kernel) (fun a35 h34 ha35 => ?_)
        refine En_Ps 1 (pc' := 69) (lv' := [(3, .ref a27), (0, .ref 0), (1, .int a), (2, .int b)]) (st' := [.int b, .ref a35]) rfl ?_
        refine En_callV rfl rfl rfl rfl rfl rfl rfl rfl ha35 (by decide +kernel) rfl (c_36 σ23 h24 a35 ha35 b) (by decide) (by decide) (fun v37 σ38 h36 => ?_)
        obtain ⟨h39, h40, z42, rfl, h41⟩ := h36
        have h43 := Fr_trans h28 h40 (by decide +kernel)
        exact En_ret (v := some (.int z42)) rfl rfl rfl ⟨h39, h43, z42, rfl, ⟨by first | exact q_108dc72d76 h41.1 | omega, by first | exact q_1d71e39f5f h41.2 | omega⟩⟩
      · refine En_lsw (t := 73) (n := 2) rfl h33 rfl (by decide +kernel) ?_
        refine En_Ps 1 (pc' := 74) (lv' := [(3, .ref a27), (0, .ref 0), (1, .int a), (2, .int b)]) (st' := [.ref a27]) rfl ?_
        refine En_getR (j := 0) (g' := 20) (u := 0) rfl rfl rfl ha27 (by decide +kernel) h24 (by decide +kernel) (fun a45 h44 ha45 => ?_)
        refine En_Ps 1 (pc' := 78) (lv' := [(3, .ref a27), (0, .ref 0), (1, .int a), (2, .int b)]) (st' := [.int b, .ref a45]) rfl ?_
        refine En_callV rfl rfl rfl rfl rfl rfl rfl rfl ha45 (by decide +kernel) rfl (c_37 σ23 h24 a45 ha45 b) (by decide) (by decide) (fun v47 σ48 h46 => ?_)
        obtain ⟨h49, h50, z52, rfl, h51⟩ := h46
        have h53 := Fr_trans h28 h50 (by decide +kernel)
        exact En_ret (v := some (.int z52)) rfl rfl rfl ⟨h49, h53, z52, rfl, ⟨by first | exact q_108dc72d76 h51.1 | omega, by first | exact q_1d71e39f5f h51.2 | omega⟩⟩
      · refine En_lsw (t := 82) (n := 1) rfl h33 rfl (by decide +kernel) ?_
        refine En_Ps 1 (pc' := 83) (lv' := [(3, .ref a27), (0, .ref 0), (1, .int a), (2, .int b)]) (st' := [.int ((Int32.ofInt (-1)))]) rfl ?_
        refine En_top (by decide : (Int32.ofInt (-1)).toInt = -1) (fun z54 h55 => ?_)
        exact En_ret (v := some (.int z54)) rfl rfl rfl ⟨h24, h28, z54, rfl, ⟨by first | exact q_e1de8c7867 h55 | omega, by first | exact q_af8bea0708 h55 | omega⟩⟩
    · refine En_Ps 1 (pc' := 24) (lv' := [(0, .ref 0), (1, .int a), (2, .int b)]) (st' := [.int (((Int8.ofInt (-2)).toInt32))]) rfl ?_
      refine En_top (by decide : ((Int8.ofInt (-2)).toInt32).toInt = -2) (fun z56 h57 => ?_)
      exact En_ret (v := some (.int z56)) rfl rfl rfl ⟨h15, h19, z56, rfl, ⟨by first | exact q_f35c5d346c h57 | omega, by first | exact q_5a5c18c2ab h57 | omega⟩⟩
/-- DoorSchool.write(IIJ)I -/
abbrev P_185 (σ0 : SG) (a : Int32) (b : Int32) (c : Int64) (p : Nat) (sg : Int32) : PO := fun v σ => WT σ ∧ Fr [(34, 0)] σ0 σ ∧ ∃ ret : Int32, v = some (.int ret) ∧ -ret.toInt - 7 ≤ 0 ∧ ret.toInt ≤ 0
set_option maxRecDepth 10000 in
set_option maxHeartbeats 4000000 in
theorem c_185 (σ0 : SG) (hσ0 : WT σ0) (a : Int32) (b : Int32) (c : Int64) (p : Nat) (hp : TG p = 18) (h_p : (σ0 0)[9]? = some (.ref p)) (sg : Int32) (h_sg : (σ0 p)[1]? = some (.int sg)) (hp0 : -sg.toInt ≤ 0) : En 1 24 none mr_185 (P_185 σ0 a b c p sg) 0 [(0, .ref 0), (1, .int a), (2, .int b), (3, .long c)] [] σ0 := by
  obtain ⟨hl_sg, hu_sg⟩ := WT_int hσ0 (g := 18) hp (by decide +kernel) (l := (-1)) (u := 4) (by decide +kernel) h_sg
  have hF0 : Fr [(34, 0)] σ0 σ0 := Fr_rfl
  refine En_Ps 1 (pc' := 1) (lv' := [(0, .ref 0), (1, .int a), (2, .int b), (3, .long c)]) (st' := [.int a]) rfl ?_
  refine En_callS rfl rfl rfl rfl rfl rfl rfl rfl rfl (c_147 σ0 hσ0 a) (by decide) (by decide) (fun v2 σ3 h1 => ?_)
  obtain ⟨h4, h5, z7, rfl, h6⟩ := h1
  have h8 := Fr_trans hF0 h5 (by decide +kernel)
  refine En_iNe _ rfl rfl (fun h9 => ?_) (fun h9 => ?_)
  · refine En_Ps 1 (pc' := 11) (lv' := [(0, .ref 0), (1, .int a), (2, .int b), (3, .long c)]) (st' := [.ref 0]) rfl ?_
    refine En_getU (j := 6) (u := 150) (g' := 32) (q := 0) rfl rfl rfl tgz_0 (by decide +kernel) h4 (by decide +kernel) (by decide +kernel) (fun h10 => ?_)
    refine En_Ps 1 (pc' := 15) (lv' := [(0, .ref 0), (1, .int a), (2, .int b), (3, .long c)]) (st' := [.int a, .ref 150]) rfl ?_
    refine En_aald (g' := 33) (u := 0) rfl rfl tgz_150 (by decide +kernel) h4 (by omega) (lnI (by decide +kernel : LN _ = 4) (by omega)) (FTsgl (by decide +kernel)) (fun a13 h12 ha13 => ?_)
    refine En_Ps 2 (pc' := 20) (lv' := [(5, .ref a13), (0, .ref 0), (1, .int a), (2, .int b), (3, .long c)]) (st' := [.ref a13]) rfl ?_
    refine En_getI (j := 1) (l := 0) (u := 1) rfl rfl rfl ha13 (by decide +kernel) h4 (by decide +kernel) (fun z15 h14 h16 h17 => ?_)
    refine En_iNe _ rfl rfl (fun h18 => ?_) (fun h18 => ?_)
    · refine En_Ps 1 (pc' := 30) (lv' := [(5, .ref a13), (0, .ref 0), (1, .int a), (2, .int b), (3, .long c)]) (st' := [.int b]) rfl ?_
      refine En_iLt _ rfl rfl (fun h19 => ?_) (fun h19 => ?_)
      · refine En_Ps 1 (pc' := 44) (lv' := [(5, .ref a13), (0, .ref 0), (1, .int a), (2, .int b), (3, .long c)]) (st' := [.int (((Int8.ofInt (-7)).toInt32))]) rfl ?_
        refine En_top (by decide : ((Int8.ofInt (-7)).toInt32).toInt = -7) (fun z20 h21 => ?_)
        exact En_ret (v := some (.int z20)) rfl rfl rfl ⟨h4, h8, z20, rfl, ⟨by first | exact q_5f0d62c7c2 h21 | omega, by first | exact q_d916b56ab6 h21 | omega⟩⟩
      · refine En_Ps 2 (pc' := 36) (lv' := [(5, .ref a13), (0, .ref 0), (1, .int a), (2, .int b), (3, .long c)]) (st' := [.ref a13, .int b]) rfl ?_
        refine En_getI (j := 3) (l := 0) (u := 60) rfl rfl rfl ha13 (by decide +kernel) h4 (by decide +kernel) (fun z23 h22 h24 h25 => ?_)
        refine En_icLt _ rfl rfl rfl (fun h26 => ?_) (fun h26 => ?_)
        · refine En_Ps 3 (pc' := 49) (lv' := [(5, .ref a13), (0, .ref 0), (1, .int a), (2, .int b), (3, .long c)]) (st' := [.long c, .int b, .ref a13]) rfl ?_
          refine En_callV rfl rfl rfl rfl rfl rfl rfl rfl ha13 (by decide +kernel) rfl (c_88 σ3 h4 a13 ha13 b c (geI rfl (by first | exact q_58e6e51dcc h19 | omega)) (leI rfl (by first | exact q_a0748cdabb h26 h25 | omega))) (by decide) (by decide) (fun v28 σ29 h27 => ?_)
          obtain ⟨h30, h31, rfl, h32⟩ := h27
          have h33 := Fr_trans h8 h31 (by decide +kernel)
          refine En_Ps 1 (pc' := 53) (lv' := [(5, .ref a13), (0, .ref 0), (1, .int a), (2, .int b), (3, .long c)]) (st' := [.int ((Int32.ofInt 0))]) rfl ?_
          refine En_top (by decide : (Int32.ofInt 0).toInt = 0) (fun z34 h35 => ?_)
          exact En_ret (v := some (.int z34)) rfl rfl rfl ⟨h30, h33, z34, rfl, ⟨by first | exact q_6d44640201 h35 | omega, by first | exact q_c5d285f1b9 h35 | omega⟩⟩
        · refine En_Ps 1 (pc' := 44) (lv' := [(5, .ref a13), (0, .ref 0), (1, .int a), (2, .int b), (3, .long c)]) (st' := [.int (((Int8.ofInt (-7)).toInt32))]) rfl ?_
          refine En_top (by decide : ((Int8.ofInt (-7)).toInt32).toInt = -7) (fun z36 h37 => ?_)
          exact En_ret (v := some (.int z36)) rfl rfl rfl ⟨h4, h8, z36, rfl, ⟨by first | exact q_5f0d62c7c2 h37 | omega, by first | exact q_d916b56ab6 h37 | omega⟩⟩
    · refine En_Ps 1 (pc' := 28) (lv' := [(5, .ref a13), (0, .ref 0), (1, .int a), (2, .int b), (3, .long c)]) (st' := [.int (((Int8.ofInt (-6)).toInt32))]) rfl ?_
      refine En_top (by decide : ((Int8.ofInt (-6)).toInt32).toInt = -6) (fun z38 h39 => ?_)
      exact En_ret (v := some (.int z38)) rfl rfl rfl ⟨h4, h8, z38, rfl, ⟨by first | exact q_4b9e07ab0d h39 | omega, by first | exact q_9bcb887de1 h39 | omega⟩⟩
  · refine En_Ps 1 (pc' := 9) (lv' := [(0, .ref 0), (1, .int a), (2, .int b), (3, .long c)]) (st' := [.int (((Int8.ofInt (-2)).toInt32))]) rfl ?_
    refine En_top (by decide : ((Int8.ofInt (-2)).toInt32).toInt = -2) (fun z40 h41 => ?_)
    exact En_ret (v := some (.int z40)) rfl rfl rfl ⟨h4, h8, z40, rfl, ⟨by first | exact q_070af0ac3b h41 | omega, by first | exact q_bbb39ffa1e h41 | omega⟩⟩
/-- DoorSchool.wrong(I)I -/
abbrev P_186 (σ0 : SG) (a : Int32) (p : Nat) (sg : Int32) : PO := fun v σ => WT σ ∧ Fr [] σ0 σ ∧ ∃ ret : Int32, v = some (.int ret) ∧ -ret.toInt - 2 ≤ 0 ∧ ret.toInt - 12 ≤ 0
set_option maxRecDepth 10000 in
set_option maxHeartbeats 4000000 in
theorem c_186 (σ0 : SG) (hσ0 : WT σ0) (a : Int32) (p : Nat) (hp : TG p = 18) (h_p : (σ0 0)[9]? = some (.ref p)) (sg : Int32) (h_sg : (σ0 p)[1]? = some (.int sg)) (hp0 : -sg.toInt ≤ 0) : En 4 92 none mr_186 (P_186 σ0 a p sg) 0 [(0, .ref 0), (1, .int a)] [] σ0 := by
  obtain ⟨hl_sg, hu_sg⟩ := WT_int hσ0 (g := 18) hp (by decide +kernel) (l := (-1)) (u := 4) (by decide +kernel) h_sg
  have hF0 : Fr [] σ0 σ0 := Fr_rfl
  refine En_Ps 1 (pc' := 1) (lv' := [(0, .ref 0), (1, .int a)]) (st' := [.ref 0]) rfl ?_
  refine En_getK (j := 9) h_p rfl rfl rfl tgz_0 (by decide +kernel) ?_
  refine En_Ps 1 (pc' := 5) (lv' := [(0, .ref 0), (1, .int a)]) (st' := [.int a, .ref p]) rfl ?_
  refine En_callV rfl rfl rfl rfl rfl rfl rfl rfl hp (by decide +kernel) rfl (c_47 σ0 hσ0 p hp a) (by decide) (by decide) (fun v2 σ3 h1 => ?_)
  obtain ⟨h4, h5, z7, rfl, h6⟩ := h1
  have h8 := Fr_trans hF0 h5 (by decide +kernel)
  refine En_iEq _ rfl rfl (fun h9 => ?_) (fun h9 => ?_)
  · refine En_Ps 1 (pc' := 31) (lv' := [(0, .ref 0), (1, .int a)]) (st' := [.int (((Int8.ofInt (-2)).toInt32))]) rfl ?_
    refine En_top (by decide : ((Int8.ofInt (-2)).toInt32).toInt = -2) (fun z10 h11 => ?_)
    exact En_ret (v := some (.int z10)) rfl rfl rfl ⟨h4, h8, z10, rfl, ⟨by first | exact q_f35c5d346c h11 | omega, by first | exact q_5a5c18c2ab h11 | omega⟩⟩
  · refine En_Ps 1 (pc' := 12) (lv' := [(0, .ref 0), (1, .int a)]) (st' := [.ref 0]) rfl ?_
    refine En_getK (j := 9) ((h5 _ _ (inW tgz_0 (by decide +kernel))).trans h_p) rfl rfl rfl tgz_0 (by decide +kernel) ?_
    refine En_getR (j := 5) (g' := 20) (u := 0) rfl rfl rfl hp (by decide +kernel) h4 (by decide +kernel) (fun a13 h12 ha13 => ?_)
    refine En_Ps 2 (pc' := 20) (lv' := [(0, .ref 0), (1, .int a)]) (st' := [.int a, .ref 0, .ref a13]) rfl ?_
    refine En_callV rfl rfl rfl rfl rfl rfl rfl rfl tgz_0 (by decide +kernel) rfl (c_114 σ3 h4 a (geI rfl (by omega)) (leI rfl (by omega)) p hp ((h5 _ _ (inW tgz_0 (by decide +kernel))).trans h_p) sg ((h5 _ _ (inW hp (by decide +kernel))).trans h_sg) (by first | exact q_a555021d16 hp0 | omega)) (by decide) (by decide) (fun v15 σ16 h14 => ?_)
    obtain ⟨h17, h18, z20, rfl, h19⟩ := h14
    have h21 := Fr_trans h8 h18 (by decide +kernel)
    refine En_callV rfl rfl rfl rfl rfl rfl rfl rfl ha13 (by decide +kernel) rfl (c_34 σ16 h17 a13 ha13 z20) (by decide) (by decide) (fun v23 σ24 h22 => ?_)
    obtain ⟨h25, h26, z28, rfl, h27⟩ := h22
    have h29 := Fr_trans h21 h26 (by decide +kernel)
    refine En_Ps 1 (pc' := 31) (lv' := [(0, .ref 0), (1, .int a)]) (st' := [.int z28]) rfl ?_
    exact En_ret (v := some (.int z28)) rfl rfl rfl ⟨h25, h29, z28, rfl, ⟨by first | exact q_108dc72d76 h27.1 | omega, by first | exact q_1d71e39f5f h27.2 | omega⟩⟩
/-- DoorSchool.years(IIII)I -/
abbrev P_187 (σ0 : SG) (a : Int32) (b : Int32) (c : Int32) (d : Int32) (p : Nat) (sg : Int32) : PO := fun v σ => WT σ ∧ Fr [] σ0 σ ∧ ∃ ret : Int32, v = some (.int ret) ∧ -ret.toInt - 2 ≤ 0 ∧ ret.toInt - 20 ≤ 0
set_option maxRecDepth 10000 in
set_option maxHeartbeats 4000000 in
theorem c_187 (σ0 : SG) (hσ0 : WT σ0) (a : Int32) (b : Int32) (c : Int32) (d : Int32) (p : Nat) (hp : TG p = 18) (h_p : (σ0 0)[9]? = some (.ref p)) (sg : Int32) (h_sg : (σ0 p)[1]? = some (.int sg)) (hp0 : -sg.toInt ≤ 0) : En 5 118 none mr_187 (P_187 σ0 a b c d p sg) 0 [(0, .ref 0), (1, .int a), (2, .int b), (3, .int c), (4, .int d)] [] σ0 := by
  obtain ⟨hl_sg, hu_sg⟩ := WT_int hσ0 (g := 18) hp (by decide +kernel) (l := (-1)) (u := 4) (by decide +kernel) h_sg
  have hF0 : Fr [] σ0 σ0 := Fr_rfl
  refine En_Ps 1 (pc' := 1) (lv' := [(0, .ref 0), (1, .int a), (2, .int b), (3, .int c), (4, .int d)]) (st' := [.int a]) rfl ?_
  refine En_callS rfl rfl rfl rfl rfl rfl rfl rfl rfl (c_146 σ0 hσ0 a) (by decide) (by decide) (fun v2 σ3 h1 => ?_)
  obtain ⟨h4, h5, z7, rfl, h6⟩ := h1
  have h8 := Fr_trans hF0 h5 (by decide +kernel)
  refine En_iEq _ rfl rfl (fun h9 => ?_) (fun h9 => ?_)
  · refine En_Ps 1 (pc' := 31) (lv' := [(0, .ref 0), (1, .int a), (2, .int b), (3, .int c), (4, .int d)]) (st' := [.int (((Int8.ofInt (-2)).toInt32))]) rfl ?_
    refine En_top (by decide : ((Int8.ofInt (-2)).toInt32).toInt = -2) (fun z10 h11 => ?_)
    exact En_ret (v := some (.int z10)) rfl rfl rfl ⟨h4, h8, z10, rfl, ⟨by first | exact q_f35c5d346c h11 | omega, by first | exact q_1be818c737 h11 | omega⟩⟩
  · refine En_Ps 2 (pc' := 9) (lv' := [(0, .ref 0), (1, .int a), (2, .int b), (3, .int c), (4, .int d)]) (st' := [.int ((Int32.ofInt 1)), .int b]) rfl ?_
    refine En_icLt _ rfl (by decide : (Int32.ofInt 1).toInt = 1) rfl (fun h12 => ?_) (fun h12 => ?_)
    · refine En_Ps 1 (pc' := 31) (lv' := [(0, .ref 0), (1, .int a), (2, .int b), (3, .int c), (4, .int d)]) (st' := [.int (((Int8.ofInt (-2)).toInt32))]) rfl ?_
      refine En_top (by decide : ((Int8.ofInt (-2)).toInt32).toInt = -2) (fun z13 h14 => ?_)
      exact En_ret (v := some (.int z13)) rfl rfl rfl ⟨h4, h8, z13, rfl, ⟨by first | exact q_f35c5d346c h14 | omega, by first | exact q_1be818c737 h14 | omega⟩⟩
    · refine En_Ps 2 (pc' := 15) (lv' := [(0, .ref 0), (1, .int a), (2, .int b), (3, .int c), (4, .int d)]) (st' := [.int (((Int8.ofInt 20).toInt32)), .int b]) rfl ?_
      refine En_icGt _ rfl (by decide : ((Int8.ofInt 20).toInt32).toInt = 20) rfl (fun h15 => ?_) (fun h15 => ?_)
      · refine En_Ps 1 (pc' := 31) (lv' := [(0, .ref 0), (1, .int a), (2, .int b), (3, .int c), (4, .int d)]) (st' := [.int (((Int8.ofInt (-2)).toInt32))]) rfl ?_
        refine En_top (by decide : ((Int8.ofInt (-2)).toInt32).toInt = -2) (fun z16 h17 => ?_)
        exact En_ret (v := some (.int z16)) rfl rfl rfl ⟨h4, h8, z16, rfl, ⟨by first | exact q_f35c5d346c h17 | omega, by first | exact q_1be818c737 h17 | omega⟩⟩
      · refine En_Ps 1 (pc' := 19) (lv' := [(0, .ref 0), (1, .int a), (2, .int b), (3, .int c), (4, .int d)]) (st' := [.ref 0]) rfl ?_
        refine En_getK (j := 9) ((h5 _ _ (inW tgz_0 (by decide +kernel))).trans h_p) rfl rfl rfl tgz_0 (by decide +kernel) ?_
        refine En_Ps 1 (pc' := 23) (lv' := [(0, .ref 0), (1, .int a), (2, .int b), (3, .int c), (4, .int d)]) (st' := [.int c, .ref p]) rfl ?_
        refine En_callV rfl rfl rfl rfl rfl rfl rfl rfl hp (by decide +kernel) rfl (c_47 σ3 h4 p hp c) (by decide) (by decide) (fun v19 σ20 h18 => ?_)
        obtain ⟨h21, h22, z24, rfl, h23⟩ := h18
        have h25 := Fr_trans h8 h22 (by decide +kernel)
        refine En_iNe _ rfl rfl (fun h26 => ?_) (fun h26 => ?_)
        · refine En_Ps 4 (pc' := 38) (lv' := [(6, .int ((Int32.ofInt 0))), (5, .int ((Int32.ofInt 0))), (0, .ref 0), (1, .int a), (2, .int b), (3, .int c), (4, .int d)]) (st' := []) rfl ?_
          have key38 : ∀ (n38 : Nat) (σ29 : SG) (y27 : Int32) (y28 : Int32), WT σ29 → Fr [] σ0 σ29 → (σ29 0)[9]? = some (.ref p) → (σ29 p)[1]? = some (.int sg) → 0 ≤ y27.toInt → y27.toInt ≤ 20 → 0 ≤ y28.toInt → y28.toInt ≤ 20 → y28.toInt - b.toInt ≤ 0 → y27.toInt - y28.toInt ≤ 0 → b.toInt - y28.toInt < (n38 : Int) → En 5 118 none mr_187 (P_187 σ0 a b c d p sg) 38 [(0, .ref 0), (1, .int a), (2, .int b), (3, .int c), (4, .int d), (5, .int y27), (6, .int y28)] [] σ29 := by
            intro n38
            induction n38 with
            | zero =>
              intro σ29 y27 y28 h30 h31 h32 h33 h34 h35 h36 h37 h38 h39 h40
              first | exact (q_14257feae7 h38 h40).elim | (exfalso; omega)
            | succ n38 ih38 =>
              intro σ29 y27 y28 h30 h31 h32 h33 h34 h35 h36 h37 h38 h39 h40
              refine En_Ps 2 (pc' := 41) (lv' := [(0, .ref 0), (1, .int a), (2, .int b), (3, .int c), (4, .int d), (5, .int y27), (6, .int y28)]) (st' := [.int b, .int y28]) rfl ?_
              refine En_icGe _ rfl rfl rfl (fun h41 => ?_) (fun h41 => ?_)
              · refine En_Ps 1 (pc' := 73) (lv' := [(0, .ref 0), (1, .int a), (2, .int b), (3, .int c), (4, .int d), (5, .int y27), (6, .int y28)]) (st' := [.int y27]) rfl ?_
                exact En_ret (v := some (.int y27)) rfl rfl rfl ⟨h30, h31, y27, rfl, ⟨by first | exact q_ea7f0ffdb1 h34 | omega, by first | exact q_dfa22fc04d h35 | omega⟩⟩
              · refine En_Ps 5 (pc' := 50) (lv' := [(0, .ref 0), (1, .int a), (2, .int b), (3, .int c), (4, .int d), (5, .int y27), (6, .int y28)]) (st' := [.int ((a + y28)), .ref 0, .ref 0]) rfl ?_
                refine En_top (addI rfl rfl (by omega) (by omega)) (fun z42 h43 => ?_)
                refine En_Ps 1 (pc' := 51) (lv' := [(0, .ref 0), (1, .int a), (2, .int b), (3, .int c), (4, .int d), (5, .int y27), (6, .int y28)]) (st' := [.int c, .int z42, .ref 0, .ref 0]) rfl ?_
                refine En_callV rfl rfl rfl rfl rfl rfl rfl rfl tgz_0 (by decide +kernel) rfl (c_115 σ29 h30 z42 c (geI rfl (by omega)) (leI rfl (by omega)) (geI rfl (by omega)) (leI rfl (by omega)) p hp h32 sg h33 (by first | exact q_a555021d16 hp0 | omega)) (by decide) (by decide) (fun v45 σ46 h44 => ?_)
                obtain ⟨h47, h48, z50, rfl, h49⟩ := h44
                have h51 := Fr_trans h31 h48 (by decide +kernel)
                refine En_callV rfl rfl rfl rfl rfl rfl rfl rfl tgz_0 (by decide +kernel) rfl (c_156 σ46 h47 z50 p hp ((h48 _ _ (inW tgz_0 (by decide +kernel))).trans h32) sg ((h48 _ _ (inW hp (by decide +kernel))).trans h33) (by first | exact q_a555021d16 hp0 | omega)) (by decide) (by decide) (fun v53 σ54 h52 => ?_)
                obtain ⟨h55, h56, z58, rfl, h57⟩ := h52
                have h59 := Fr_trans h51 h56 (by decide +kernel)
                refine En_Ps 1 (pc' := 59) (lv' := [(0, .ref 0), (1, .int a), (2, .int b), (3, .int c), (4, .int d), (5, .int y27), (6, .int y28)]) (st' := [.int d, .int z58]) rfl ?_
                refine En_icLt _ rfl rfl rfl (fun h60 => ?_) (fun h60 => ?_)
                · refine En_Ps 1 (pc' := 68) (lv' := [(6, .int ((y28 + Int32.ofInt 1))), (0, .ref 0), (1, .int a), (2, .int b), (3, .int c), (4, .int d), (5, .int y27)]) (st' := []) rfl ?_
                  refine En_lv1 (addI rfl (by decide : (Int32.ofInt 1).toInt = 1) (by first | exact q_465ab79ac1 h36 | omega) (by first | exact q_ac83b3f23b h37 | omega)) (fun z61 h62 => ?_)
                  refine En_Ps 1 (pc' := 38) (lv' := [(6, .int z61), (0, .ref 0), (1, .int a), (2, .int b), (3, .int c), (4, .int d), (5, .int y27)]) (st' := []) rfl ?_
                  refine En_lv (lv := [(0, .ref 0), (1, .int a), (2, .int b), (3, .int c), (4, .int d), (5, .int y27), (6, .int z61)]) ⟨rfl, rfl, rfl, rfl, rfl, rfl, rfl, trivial⟩ ?_
                  exact ih38 σ54 y27 z61 h55 h59 ((h56 _ _ (inW tgz_0 (by decide +kernel))).trans ((h48 _ _ (inW tgz_0 (by decide +kernel))).trans h32)) ((h56 _ _ (inW hp (by decide +kernel))).trans ((h48 _ _ (inW hp (by decide +kernel))).trans h33)) (by first | exact q_58e6e51dcc h34 | omega) (by first | exact q_079ab43be6 h35 | omega) (by first | exact q_35104ce9d3 h62 h36 | omega) (by first | exact q_da74ed08cc h62 h41 h15 | omega) (by first | exact q_ae2dbf4292 h41 h62 | omega) (by first | exact q_3a5e225620 h39 h62 | omega) (by first | exact q_8d03a5a7cb h62 h40 | omega)
                · refine En_Ps 1 (pc' := 65) (lv' := [(5, .int ((y27 + Int32.ofInt 1))), (0, .ref 0), (1, .int a), (2, .int b), (3, .int c), (4, .int d), (6, .int y28)]) (st' := []) rfl ?_
                  refine En_lv1 (addI rfl (by decide : (Int32.ofInt 1).toInt = 1) (by first | exact q_465ab79ac1 h34 | omega) (by first | exact q_ac83b3f23b h35 | omega)) (fun z63 h64 => ?_)
                  refine En_Ps 1 (pc' := 68) (lv' := [(6, .int ((y28 + Int32.ofInt 1))), (5, .int z63), (0, .ref 0), (1, .int a), (2, .int b), (3, .int c), (4, .int d)]) (st' := []) rfl ?_
                  refine En_lv1 (addI rfl (by decide : (Int32.ofInt 1).toInt = 1) (by first | exact q_465ab79ac1 h36 | omega) (by first | exact q_ac83b3f23b h37 | omega)) (fun z65 h66 => ?_)
                  refine En_Ps 1 (pc' := 38) (lv' := [(6, .int z65), (5, .int z63), (0, .ref 0), (1, .int a), (2, .int b), (3, .int c), (4, .int d)]) (st' := []) rfl ?_
                  refine En_lv (lv := [(0, .ref 0), (1, .int a), (2, .int b), (3, .int c), (4, .int d), (5, .int z63), (6, .int z65)]) ⟨rfl, rfl, rfl, rfl, rfl, rfl, rfl, trivial⟩ ?_
                  exact ih38 σ54 z63 z65 h55 h59 ((h56 _ _ (inW tgz_0 (by decide +kernel))).trans ((h48 _ _ (inW tgz_0 (by decide +kernel))).trans h32)) ((h56 _ _ (inW hp (by decide +kernel))).trans ((h48 _ _ (inW hp (by decide +kernel))).trans h33)) (by first | exact q_35104ce9d3 h64 h34 | omega) (by first | exact q_26603d7e57 h64 h39 h41 h15 | omega) (by first | exact q_35104ce9d3 h66 h36 | omega) (by first | exact q_da74ed08cc h66 h41 h15 | omega) (by first | exact q_ae2dbf4292 h41 h66 | omega) (by first | exact q_1ff421e7a2 h64 h66 h39 | omega) (by first | exact q_8d03a5a7cb h66 h40 | omega)
          have := (by decide : (Int32.ofInt 0).toInt = 0)
          have := (by decide : (Int32.ofInt 0).toInt = 0)
          refine En_lv (lv := [(0, .ref 0), (1, .int a), (2, .int b), (3, .int c), (4, .int d), (5, .int ((Int32.ofInt 0))), (6, .int ((Int32.ofInt 0)))]) ⟨rfl, rfl, rfl, rfl, rfl, rfl, rfl, trivial⟩ ?_
          exact key38 (Int.toNat (b.toInt) + 1) σ20 ((Int32.ofInt 0)) ((Int32.ofInt 0)) h21 h25 ((h22 _ _ (inW tgz_0 (by decide +kernel))).trans ((h5 _ _ (inW tgz_0 (by decide +kernel))).trans h_p)) ((h22 _ _ (inW hp (by decide +kernel))).trans ((h5 _ _ (inW hp (by decide +kernel))).trans h_sg)) (by decide) (by decide) (by decide) (by decide) (by omega) (by omega) (by first | exact toN_lt _ | omega)
        · refine En_Ps 1 (pc' := 31) (lv' := [(0, .ref 0), (1, .int a), (2, .int b), (3, .int c), (4, .int d)]) (st' := [.int (((Int8.ofInt (-2)).toInt32))]) rfl ?_
          refine En_top (by decide : ((Int8.ofInt (-2)).toInt32).toInt = -2) (fun z67 h68 => ?_)
          exact En_ret (v := some (.int z67)) rfl rfl rfl ⟨h21, h25, z67, rfl, ⟨by first | exact q_f35c5d346c h68 | omega, by first | exact q_1be818c737 h68 | omega⟩⟩

