/-! 32.lx.c14 -/
section
/-- DoorSchool.why(II)I -/
abbrev P_183 (σ0 : SG) (a : Int32) (b : Int32) (p : Nat) (sg : Int32) : PO := fun v σ => WT σ ∧ Fr [] σ0 σ ∧ ∃ ret : Int32, v = some (Value.int ret) ∧ -ret.toInt - 2 ≤ 0 ∧ ret.toInt - 12 ≤ 0
set_option maxRecDepth 10000 in
set_option maxHeartbeats 4000000 in
theorem c_183 (σ0 : SG) (hσ0 : WT σ0) (a : Int32) (b : Int32) (p : Nat) (hp : TG p = 18) (h_p : (σ0 0)[9]? = some (Value.ref p)) (sg : Int32) (h_sg : (σ0 p)[1]? = some (Value.int sg)) (hp0 : -sg.toInt ≤ 0) : En 2 45 none mr_183 (P_183 σ0 a b p sg) 0 [(0, .ref 0), (1, .int a), (2, .int b)] [] σ0 := by
  obtain ⟨hl_sg, hu_sg⟩ := WT_int hσ0 (g := 18) hp (by decide +kernel) (l := (-1)) (u := 4) (by decide +kernel) h_sg
  have hF0 : Fr [] σ0 σ0 := Fr_rfl
  refine En_Ps 1 (pc' := 1) (lv' := [(0, .ref 0), (1, .int a), (2, .int b)]) (st' := [.ref 0]) rfl ?_
  refine En_getK (j := 9) h_p rfl rfl rfl tgz_0 (by decide +kernel) ?_
  refine En_Ps 1 (pc' := 5) (lv' := [(0, .ref 0), (1, .int a), (2, .int b)]) (st' := [.int a, .ref p]) rfl ?_
  refine En_callV rfl rfl rfl rfl rfl rfl rfl rfl hp (by decide +kernel) rfl (c_47 σ0 hσ0 p hp a) (by decide) (by decide) (fun v2 σ3 h1 => ?_)
  obtain ⟨h4, h5, z7, rfl, h6⟩ := h1
  have h8 := Fr_trans hF0 h5 (by decide +kernel)
  refine En_iEq _ rfl rfl (fun h9 => ?_) (fun h9 => ?_)
  · refine En_Ps 1 (pc' := 24) (lv' := [(0, .ref 0), (1, .int a), (2, .int b)]) (st' := [.int (((Int8.ofInt (-2)).toInt32))]) rfl ?_
    refine En_top (by decide : ((Int8.ofInt (-2)).toInt32).toInt = -2) (fun z10 h11 => ?_)
    exact En_ret (v := some (Value.int z10)) rfl rfl rfl ⟨h4, h8, z10, rfl, ⟨by first | exact q_f35c5d346c h11 | omega, by first | exact q_5a5c18c2ab h11 | omega⟩⟩
  · refine En_Ps 1 (pc' := 12) (lv' := [(0, .ref 0), (1, .int a), (2, .int b)]) (st' := [.ref 0]) rfl ?_
    refine En_getK (j := 9) ((h5 _ _ (inW tgz_0 (by decide +kernel))).trans h_p) rfl rfl rfl tgz_0 (by decide +kernel) ?_
    refine En_Ps 1 (pc' := 16) (lv' := [(0, .ref 0), (1, .int a), (2, .int b)]) (st' := [.int b, .ref p]) rfl ?_
    refine En_callV rfl rfl rfl rfl rfl rfl rfl rfl hp (by decide +kernel) rfl (c_49 σ3 h4 p hp b sg ((h5 _ _ (inW hp (by decide +kernel))).trans h_sg) (by first | exact q_a555021d16 hp0 | omega)) (by decide) (by decide) (fun v13 σ14 h12 => ?_)
    obtain ⟨h15, h16, z18, rfl, h17⟩ := h12
    have h19 := Fr_trans h8 h16 (by decide +kernel)
    refine En_iNe _ rfl rfl (fun h20 => ?_) (fun h20 => ?_)
    · refine En_Ps 1 (pc' := 26) (lv' := [(0, .ref 0), (1, .int a), (2, .int b)]) (st' := [.ref 0]) rfl ?_
      refine En_getK (j := 9) ((h16 _ _ (inW tgz_0 (by decide +kernel))).trans ((h5 _ _ (inW tgz_0 (by decide +kernel))).trans h_p)) rfl rfl rfl tgz_0 (by decide +kernel) ?_
      refine En_Ps 1 (pc' := 30) (lv' := [(0, .ref 0), (1, .int a), (2, .int b)]) (st' := [.int a, .ref p]) rfl ?_
      refine En_callV rfl rfl rfl rfl rfl rfl rfl rfl hp (by decide +kernel) rfl (c_52 σ14 h15 p hp a (geI rfl (by omega)) (leI rfl (by omega))) (by decide) (by decide) (fun v22 σ23 h21 => ?_)
      obtain ⟨h24, h25, a27, ha27, rfl, h26⟩ := h21
      have h28 := Fr_trans h19 h25 (by decide +kernel)
      refine En_Ps 2 (pc' := 35) (lv' := [(3, .ref a27), (0, .ref 0), (1, .int a), (2, .int b)]) (st' := [.ref a27]) rfl ?_
      refine En_getI (j := 1) (l := 0) (u := 2) rfl rfl rfl ha27 (by decide +kernel) h24 (by decide +kernel) (fun z30 h29 h31 h32 => ?_)
      rcases (show z30.toInt = 0 ∨ z30.toInt = 2 ∨ z30.toInt = 1 by omega) with h33 | h33 | h33
      · refine En_lsw (t := 64) (n := 0) rfl h33 rfl (by decide +kernel) ?_
        refine En_Ps 1 (pc' := 65) (lv' := [(3, .ref a27), (0, .ref 0), (1, .int a), (2, .int b)]) (st' := [.ref a27]) rfl ?_
        refine En_getR (j := 0) (g' := 20) (u := 0) rfl rfl rfl ha27 (by decide +kernel) h24 (by decide +kernel) (fun a35 h34 ha35 => ?_)
        refine En_Ps 1 (pc' := 69) (lv' := [(3, .ref a27), (0, .ref 0), (1, .int a), (2, .int b)]) (st' := [.int b, .ref a35]) rfl ?_
        refine En_callV rfl rfl rfl rfl rfl rfl rfl rfl ha35 (by decide +kernel) rfl (c_36 σ23 h24 a35 ha35 b) (by decide) (by decide) (fun v37 σ38 h36 => ?_)
        obtain ⟨h39, h40, z42, rfl, h41⟩ := h36
        have h43 := Fr_trans h28 h40 (by decide +kernel)
        exact En_ret (v := some (Value.int z42)) rfl rfl rfl ⟨h39, h43, z42, rfl, ⟨by first | exact q_108dc72d76 h41.1 | omega, by first | exact q_1d71e39f5f h41.2 | omega⟩⟩
      · refine En_lsw (t := 73) (n := 2) rfl h33 rfl (by decide +kernel) ?_
        refine En_Ps 1 (pc' := 74) (lv' := [(3, .ref a27), (0, .ref 0), (1, .int a), (2, .int b)]) (st' := [.ref a27]) rfl ?_
        refine En_getR (j := 0) (g' := 20) (u := 0) rfl rfl rfl ha27 (by decide +kernel) h24 (by decide +kernel) (fun a45 h44 ha45 => ?_)
        refine En_Ps 1 (pc' := 78) (lv' := [(3, .ref a27), (0, .ref 0), (1, .int a), (2, .int b)]) (st' := [.int b, .ref a45]) rfl ?_
        refine En_callV rfl rfl rfl rfl rfl rfl rfl rfl ha45 (by decide +kernel) rfl (c_37 σ23 h24 a45 ha45 b) (by decide) (by decide) (fun v47 σ48 h46 => ?_)
        obtain ⟨h49, h50, z52, rfl, h51⟩ := h46
        have h53 := Fr_trans h28 h50 (by decide +kernel)
        exact En_ret (v := some (Value.int z52)) rfl rfl rfl ⟨h49, h53, z52, rfl, ⟨by first | exact q_108dc72d76 h51.1 | omega, by first | exact q_1d71e39f5f h51.2 | omega⟩⟩
      · refine En_lsw (t := 82) (n := 1) rfl h33 rfl (by decide +kernel) ?_
        refine En_Ps 1 (pc' := 83) (lv' := [(3, .ref a27), (0, .ref 0), (1, .int a), (2, .int b)]) (st' := [.int ((Int32.ofInt (-1)))]) rfl ?_
        refine En_top (by decide : (Int32.ofInt (-1)).toInt = -1) (fun z54 h55 => ?_)
        exact En_ret (v := some (Value.int z54)) rfl rfl rfl ⟨h24, h28, z54, rfl, ⟨by first | exact q_e1de8c7867 h55 | omega, by first | exact q_af8bea0708 h55 | omega⟩⟩
    · refine En_Ps 1 (pc' := 24) (lv' := [(0, .ref 0), (1, .int a), (2, .int b)]) (st' := [.int (((Int8.ofInt (-2)).toInt32))]) rfl ?_
      refine En_top (by decide : ((Int8.ofInt (-2)).toInt32).toInt = -2) (fun z56 h57 => ?_)
      exact En_ret (v := some (Value.int z56)) rfl rfl rfl ⟨h15, h19, z56, rfl, ⟨by first | exact q_f35c5d346c h57 | omega, by first | exact q_5a5c18c2ab h57 | omega⟩⟩
/-- DoorSchool.write(IIJ)I -/
abbrev P_185 (σ0 : SG) (a : Int32) (b : Int32) (c : Int64) (p : Nat) (sg : Int32) : PO := fun v σ => WT σ ∧ Fr [(34, 0)] σ0 σ ∧ ∃ ret : Int32, v = some (Value.int ret) ∧ -ret.toInt - 7 ≤ 0 ∧ ret.toInt ≤ 0
set_option maxRecDepth 10000 in
set_option maxHeartbeats 4000000 in
theorem c_185 (σ0 : SG) (hσ0 : WT σ0) (a : Int32) (b : Int32) (c : Int64) (p : Nat) (hp : TG p = 18) (h_p : (σ0 0)[9]? = some (Value.ref p)) (sg : Int32) (h_sg : (σ0 p)[1]? = some (Value.int sg)) (hp0 : -sg.toInt ≤ 0) : En 1 24 none mr_185 (P_185 σ0 a b c p sg) 0 [(0, .ref 0), (1, .int a), (2, .int b), (3, .long c)] [] σ0 := by
  obtain ⟨hl_sg, hu_sg⟩ := WT_int hσ0 (g := 18) hp (by decide +kernel) (l := (-1)) (u := 4) (by decide +kernel) h_sg
  have hF0 : Fr [(34, 0)] σ0 σ0 := Fr_rfl
  refine En_Ps 1 (pc' := 1) (lv' := [(0, .ref 0), (1, .int a), (2, .int b), (3, .long c)]) (st' := [.int a]) rfl ?_
  refine En_callS rfl rfl rfl rfl rfl rfl rfl rfl rfl (c_147 σ0 hσ0 a) (by decide) (by decide) (fun v2 σ3 h1 => ?_)
  obtain ⟨h4, h5, z7, rfl, h6⟩ := h1
  have h8 := Fr_trans hF0 h5 (by decide +kernel)
  refine En_iNe _ rfl rfl (fun h9 => ?_) (fun h9 => ?_)
  · refine En_Ps 1 (pc' := 11) (lv' := [(0, .ref 0), (1, .int a), (2, .int b), (3, .long c)]) (st' := [.ref 0]) rfl ?_
    refine En_getU (j := 6) (u := 150) (g' := 32) (q := 0) rfl rfl rfl tgz_0 (by decide +kernel) h4 (by decide +kernel) un_32_150 (fun h10 => ?_)
    refine En_Ps 1 (pc' := 15) (lv' := [(0, .ref 0), (1, .int a), (2, .int b), (3, .long c)]) (st' := [.int a, .ref 150]) rfl ?_
    refine En_aald (g' := 33) (u := 0) rfl rfl tgz_150 (by decide +kernel) h4 (by omega) (lnI (by decide +kernel : LN _ = 4) (by omega)) (FTsgl (by decide +kernel)) (fun a13 h12 ha13 => ?_)
    refine En_Ps 2 (pc' := 20) (lv' := [(5, .ref a13), (0, .ref 0), (1, .int a), (2, .int b), (3, .long c)]) (st' := [.ref a13]) rfl ?_
    refine En_getI (j := 1) (l := 0) (u := 1) rfl rfl rfl ha13 (by decide +kernel) h4 (by decide +kernel) (fun z15 h14 h16 h17 => ?_)
    refine En_iNe _ rfl rfl (fun h18 => ?_) (fun h18 => ?_)
    · refine En_Ps 1 (pc' := 30) (lv' := [(5, .ref a13), (0, .ref 0), (1, .int a), (2, .int b), (3, .long c)]) (st' := [.int b]) rfl ?_
      refine En_iLt _ rfl rfl (fun h19 => ?_) (fun h19 => ?_)
      · refine En_Ps 1 (pc' := 44) (lv' := [(5, .ref a13), (0, .ref 0), (1, .int a), (2, .int b), (3, .long c)]) (st' := [.int (((Int8.ofInt (-7)).toInt32))]) rfl ?_
        refine En_top (by decide : ((Int8.ofInt (-7)).toInt32).toInt = -7) (fun z20 h21 => ?_)
        exact En_ret (v := some (Value.int z20)) rfl rfl rfl ⟨h4, h8, z20, rfl, ⟨by first | exact q_5f0d62c7c2 h21 | omega, by first | exact q_d916b56ab6 h21 | omega⟩⟩
      · refine En_Ps 2 (pc' := 36) (lv' := [(5, .ref a13), (0, .ref 0), (1, .int a), (2, .int b), (3, .long c)]) (st' := [.ref a13, .int b]) rfl ?_
        refine En_getI (j := 3) (l := 0) (u := 60) rfl rfl rfl ha13 (by decide +kernel) h4 (by decide +kernel) (fun z23 h22 h24 h25 => ?_)
        refine En_icLt _ rfl rfl rfl (fun h26 => ?_) (fun h26 => ?_)
        · refine En_Ps 3 (pc' := 49) (lv' := [(5, .ref a13), (0, .ref 0), (1, .int a), (2, .int b), (3, .long c)]) (st' := [.long c, .int b, .ref a13]) rfl ?_
          refine En_callV rfl rfl rfl rfl rfl rfl rfl rfl ha13 (by decide +kernel) rfl (c_88 σ3 h4 a13 ha13 b c (geI rfl (by first | exact q_58e6e51dcc h19 | omega)) (leI rfl (by first | exact q_a0748cdabb h26 h25 | omega))) (by decide) (by decide) (fun v28 σ29 h27 => ?_)
          obtain ⟨h30, h31, rfl, h32⟩ := h27
          have h33 := Fr_trans h8 h31 (by decide +kernel)
          refine En_Ps 1 (pc' := 53) (lv' := [(5, .ref a13), (0, .ref 0), (1, .int a), (2, .int b), (3, .long c)]) (st' := [.int ((Int32.ofInt 0))]) rfl ?_
          refine En_top (by decide : (Int32.ofInt 0).toInt = 0) (fun z34 h35 => ?_)
          exact En_ret (v := some (Value.int z34)) rfl rfl rfl ⟨h30, h33, z34, rfl, ⟨by first | exact q_6d44640201 h35 | omega, by first | exact q_c5d285f1b9 h35 | omega⟩⟩
        · refine En_Ps 1 (pc' := 44) (lv' := [(5, .ref a13), (0, .ref 0), (1, .int a), (2, .int b), (3, .long c)]) (st' := [.int (((Int8.ofInt (-7)).toInt32))]) rfl ?_
          refine En_top (by decide : ((Int8.ofInt (-7)).toInt32).toInt = -7) (fun z36 h37 => ?_)
          exact En_ret (v := some (Value.int z36)) rfl rfl rfl ⟨h4, h8, z36, rfl, ⟨by first | exact q_5f0d62c7c2 h37 | omega, by first | exact q_d916b56ab6 h37 | omega⟩⟩
    · refine En_Ps 1 (pc' := 28) (lv' := [(5, .ref a13), (0, .ref 0), (1, .int a), (2, .int b), (3, .long c)]) (st' := [.int (((Int8.ofInt (-6)).toInt32))]) rfl ?_
      refine En_top (by decide : ((Int8.ofInt (-6)).toInt32).toInt = -6) (fun z38 h39 => ?_)
      exact En_ret (v := some (Value.int z38)) rfl rfl rfl ⟨h4, h8, z38, rfl, ⟨by first | exact q_4b9e07ab0d h39 | omega, by first | exact q_9bcb887de1 h39 | omega⟩⟩
  · refine En_Ps 1 (pc' := 9) (lv' := [(0, .ref 0), (1, .int a), (2, .int b), (3, .long c)]) (st' := [.int (((Int8.ofInt (-2)).toInt32))]) rfl ?_
    refine En_top (by decide : ((Int8.ofInt (-2)).toInt32).toInt = -2) (fun z40 h41 => ?_)
    exact En_ret (v := some (Value.int z40)) rfl rfl rfl ⟨h4, h8, z40, rfl, ⟨by first | exact q_070af0ac3b h41 | omega, by first | exact q_bbb39ffa1e h41 | omega⟩⟩
/-- DoorSchool.wrong(I)I -/
abbrev P_186 (σ0 : SG) (a : Int32) (p : Nat) (sg : Int32) : PO := fun v σ => WT σ ∧ Fr [] σ0 σ ∧ ∃ ret : Int32, v = some (Value.int ret) ∧ -ret.toInt - 2 ≤ 0 ∧ ret.toInt - 12 ≤ 0
set_option maxRecDepth 10000 in
set_option maxHeartbeats 4000000 in
theorem c_186 (σ0 : SG) (hσ0 : WT σ0) (a : Int32) (p : Nat) (hp : TG p = 18) (h_p : (σ0 0)[9]? = some (Value.ref p)) (sg : Int32) (h_sg : (σ0 p)[1]? = some (Value.int sg)) (hp0 : -sg.toInt ≤ 0) : En 4 92 none mr_186 (P_186 σ0 a p sg) 0 [(0, .ref 0), (1, .int a)] [] σ0 := by
  obtain ⟨hl_sg, hu_sg⟩ := WT_int hσ0 (g := 18) hp (by decide +kernel) (l := (-1)) (u := 4) (by decide +kernel) h_sg
  have hF0 : Fr [] σ0 σ0 := Fr_rfl
  refine En_Ps 1 (pc' := 1) (lv' := [(0, .ref 0), (1, .int a)]) (st' := [.ref 0]) rfl ?_
  refine En_getK (j := 9) h_p rfl rfl rfl tgz_0 (by decide +kernel) ?_
  refine En_Ps 1 (pc' := 5) (lv' := [(0, .ref 0), (1, .int a)]) (st' := [.int a, .ref p]) rfl ?_
  refine En_callV rfl rfl rfl rfl rfl rfl rfl rfl hp (by decide +kernel) rfl (c_47 σ0 hσ0 p hp a) (by decide) (by decide) (fun v2 σ3 h1 => ?_)
  obtain ⟨h4, h5, z7, rfl, h6⟩ := h1
  have h8 := Fr_trans hF0 h5 (by decide +kernel)
  refine En_iEq _ rfl rfl (fun h9 => ?_) (fun h9 => ?_)
  · refine En_Ps 1 (pc' := 31) (lv' := [(0, .ref 0), (1, .int a)]) (st' := [.int (((Int8.ofInt (-2)).toInt32))]) rfl ?_
    refine En_top (by decide : ((Int8.ofInt (-2)).toInt32).toInt = -2) (fun z10 h11 => ?_)
    exact En_ret (v := some (Value.int z10)) rfl rfl rfl ⟨h4, h8, z10, rfl, ⟨by first | exact q_f35c5d346c h11 | omega, by first | exact q_5a5c18c2ab h11 | omega⟩⟩
  · refine En_Ps 1 (pc' := 12) (lv' := [(0, .ref 0), (1, .int a)]) (st' := [.ref 0]) rfl ?_
    refine En_getK (j := 9) ((h5 _ _ (inW tgz_0 (by decide +kernel))).trans h_p) rfl rfl rfl tgz_0 (by decide +kernel) ?_
    refine En_getR (j := 5) (g' := 20) (u := 0) rfl rfl rfl hp (by decide +kernel) h4 (by decide +kernel) (fun a13 h12 ha13 => ?_)
    refine En_Ps 2 (pc' := 20) (lv' := [(0, .ref 0), (1, .int a)]) (st' := [.int a, .ref 0, .ref a13]) rfl ?_
    refine En_callV rfl rfl rfl rfl rfl rfl rfl rfl tgz_0 (by decide +kernel) rfl (c_114 σ3 h4 a (geI rfl (by omega)) (leI rfl (by omega)) p hp ((h5 _ _ (inW tgz_0 (by decide +kernel))).trans h_p) sg ((h5 _ _ (inW hp (by decide +kernel))).trans h_sg) (by first | exact q_a555021d16 hp0 | omega)) (by decide) (by decide) (fun v15 σ16 h14 => ?_)
    obtain ⟨h17, h18, z20, rfl, h19⟩ := h14
    have h21 := Fr_trans h8 h18 (by decide +kernel)
    refine En_callV rfl rfl rfl rfl rfl rfl rfl rfl ha13 (by decide +kernel) rfl (c_34 σ16 h17 a13 ha13 z20) (by decide) (by decide) (fun v23 σ24 h22 => ?_)
    obtain ⟨h25, h26, z28, rfl, h27⟩ := h22
    have h29 := Fr_trans h21 h26 (by decide +kernel)
    refine En_Ps 1 (pc' := 31) (lv' := [(0, .ref 0), (1, .int a)]) (st' := [.int z28]) rfl ?_
    exact En_ret (v := some (Value.int z28)) rfl rfl rfl ⟨h25, h29, z28, rfl, ⟨by first | exact q_108dc72d76 h27.1 | omega, by first | exact q_1d71e39f5f h27.2 | omega⟩⟩
/-- DoorSchool.years(IIII)I -/
abbrev P_187 (σ0 : SG) (a : Int32) (b : Int32) (c : Int32) (d : Int32) (p : Nat) (sg : Int32) : PO := fun v σ => WT σ ∧ Fr [] σ0 σ ∧ ∃ ret : Int32, v = some (Value.int ret) ∧ -ret.toInt - 2 ≤ 0 ∧ ret.toInt - 20 ≤ 0
set_option maxRecDepth 10000 in
set_option maxHeartbeats 4000000 in
theorem c_187 (σ0 : SG) (hσ0 : WT σ0) (a : Int32) (b : Int32) (c : Int32) (d : Int32) (p : Nat) (hp : TG p = 18) (h_p : (σ0 0)[9]? = some (Value.ref p)) (sg : Int32) (h_sg : (σ0 p)[1]? = some (Value.int sg)) (hp0 : -sg.toInt ≤ 0) : En 5 118 none mr_187 (P_187 σ0 a b c d p sg) 0 [(0, .ref 0), (1, .int a), (2, .int b), (3, .int c), (4, .int d)] [] σ0 := by
  obtain ⟨hl_sg, hu_sg⟩ := WT_int hσ0 (g := 18) hp (by decide +kernel) (l := (-1)) (u := 4) (by decide +kernel) h_sg
  have hF0 : Fr [] σ0 σ0 := Fr_rfl
  refine En_Ps 1 (pc' := 1) (lv' := [(0, .ref 0), (1, .int a), (2, .int b), (3, .int c), (4, .int d)]) (st' := [.int a]) rfl ?_
  refine En_callS rfl rfl rfl rfl rfl rfl rfl rfl rfl (c_146 σ0 hσ0 a) (by decide) (by decide) (fun v2 σ3 h1 => ?_)
  obtain ⟨h4, h5, z7, rfl, h6⟩ := h1
  have h8 := Fr_trans hF0 h5 (by decide +kernel)
  refine En_iEq _ rfl rfl (fun h9 => ?_) (fun h9 => ?_)
  · refine En_Ps 1 (pc' := 31) (lv' := [(0, .ref 0), (1, .int a), (2, .int b), (3, .int c), (4, .int d)]) (st' := [.int (((Int8.ofInt (-2)).toInt32))]) rfl ?_
    refine En_top (by decide : ((Int8.ofInt (-2)).toInt32).toInt = -2) (fun z10 h11 => ?_)
    exact En_ret (v := some (Value.int z10)) rfl rfl rfl ⟨h4, h8, z10, rfl, ⟨by first | exact q_f35c5d346c h11 | omega, by first | exact q_1be818c737 h11 | omega⟩⟩
  · refine En_Ps 2 (pc' := 9) (lv' := [(0, .ref 0), (1, .int a), (2, .int b), (3, .int c), (4, .int d)]) (st' := [.int ((Int32.ofInt 1)), .int b]) rfl ?_
    refine En_icLt _ rfl (by decide : (Int32.ofInt 1).toInt = 1) rfl (fun h12 => ?_) (fun h12 => ?_)
    · refine En_Ps 1 (pc' := 31) (lv' := [(0, .ref 0), (1, .int a), (2, .int b), (3, .int c), (4, .int d)]) (st' := [.int (((Int8.ofInt (-2)).toInt32))]) rfl ?_
      refine En_top (by decide : ((Int8.ofInt (-2)).toInt32).toInt = -2) (fun z13 h14 => ?_)
      exact En_ret (v := some (Value.int z13)) rfl rfl rfl ⟨h4, h8, z13, rfl, ⟨by first | exact q_f35c5d346c h14 | omega, by first | exact q_1be818c737 h14 | omega⟩⟩
    · refine En_Ps 2 (pc' := 15) (lv' := [(0, .ref 0), (1, .int a), (2, .int b), (3, .int c), (4, .int d)]) (st' := [.int (((Int8.ofInt 20).toInt32)), .int b]) rfl ?_
      refine En_icGt _ rfl (by decide : ((Int8.ofInt 20).toInt32).toInt = 20) rfl (fun h15 => ?_) (fun h15 => ?_)
      · refine En_Ps 1 (pc' := 31) (lv' := [(0, .ref 0), (1, .int a), (2, .int b), (3, .int c), (4, .int d)]) (st' := [.int (((Int8.ofInt (-2)).toInt32))]) rfl ?_
        refine En_top (by decide : ((Int8.ofInt (-2)).toInt32).toInt = -2) (fun z16 h17 => ?_)
        exact En_ret (v := some (Value.int z16)) rfl rfl rfl ⟨h4, h8, z16, rfl, ⟨by first | exact q_f35c5d346c h17 | omega, by first | exact q_1be818c737 h17 | omega⟩⟩
      · refine En_Ps 1 (pc' := 19) (lv' := [(0, .ref 0), (1, .int a), (2, .int b), (3, .int c), (4, .int d)]) (st' := [.ref 0]) rfl ?_
        refine En_getK (j := 9) ((h5 _ _ (inW tgz_0 (by decide +kernel))).trans h_p) rfl rfl rfl tgz_0 (by decide +kernel) ?_
        refine En_Ps 1 (pc' := 23) (lv' := [(0, .ref 0), (1, .int a), (2, .int b), (3, .int c), (4, .int d)]) (st' := [.int c, .ref p]) rfl ?_
        refine En_callV rfl rfl rfl rfl rfl rfl rfl rfl hp (by decide +kernel) rfl (c_47 σ3 h4 p hp c) (by decide) (by decide) (fun v19 σ20 h18 => ?_)
        obtain ⟨h21, h22, z24, rfl, h23⟩ := h18
        have h25 := Fr_trans h8 h22 (by decide +kernel)
        refine En_iNe _ rfl rfl (fun h26 => ?_) (fun h26 => ?_)
        · refine En_Ps 4 (pc' := 38) (lv' := [(6, .int ((Int32.ofInt 0))), (5, .int ((Int32.ofInt 0))), (0, .ref 0), (1, .int a), (2, .int b), (3, .int c), (4, .int d)]) (st' := []) rfl ?_
          have key38 : ∀ (n38 : Nat) (σ29 : SG) (y27 : Int32) (y28 : Int32), WT σ29 → Fr [] σ0 σ29 → (σ29 0)[9]? = some (Value.ref p) → (σ29 p)[1]? = some (Value.int sg) → 0 ≤ y27.toInt → y27.toInt ≤ 20 → 0 ≤ y28.toInt → y28.toInt ≤ 20 → y28.toInt - b.toInt ≤ 0 → y27.toInt - y28.toInt ≤ 0 → b.toInt - y28.toInt < (n38 : Int) → En 5 118 none mr_187 (P_187 σ0 a b c d p sg) 38 [(0, .ref 0), (1, .int a), (2, .int b), (3, .int c), (4, .int d), (5, .int y27), (6, .int y28)] [] σ29 := by
            intro n38
            induction n38 with
            | zero =>
              intro σ29 y27 y28 h30 h31 h32 h33 h34 h35 h36 h37 h38 h39 h40
              first | exact (q_14257feae7 h38 h40).elim | (exfalso; omega)
            | succ n38 ih38 =>
              intro σ29 y27 y28 h30 h31 h32 h33 h34 h35 h36 h37 h38 h39 h40
              refine En_Ps 2 (pc' := 41) (lv' := [(0, .ref 0), (1, .int a), (2, .int b), (3, .int c), (4, .int d), (5, .int y27), (6, .int y28)]) (st' := [.int b, .int y28]) rfl ?_
              refine En_icGe _ rfl rfl rfl (fun h41 => ?_) (fun h41 => ?_)
              · refine En_Ps 1 (pc' := 73) (lv' := [(0, .ref 0), (1, .int a), (2, .int b), (3, .int c), (4, .int d), (5, .int y27), (6, .int y28)]) (st' := [.int y27]) rfl ?_
                exact En_ret (v := some (Value.int y27)) rfl rfl rfl ⟨h30, h31, y27, rfl, ⟨by first | exact q_ea7f0ffdb1 h34 | omega, by first | exact q_dfa22fc04d h35 | omega⟩⟩
              · refine En_Ps 5 (pc' := 50) (lv' := [(0, .ref 0), (1, .int a), (2, .int b), (3, .int c), (4, .int d), (5, .int y27), (6, .int y28)]) (st' := [.int ((a + y28)), .ref 0, .ref 0]) rfl ?_
                refine En_top (addI rfl rfl (by omega) (by omega)) (fun z42 h43 => ?_)
                refine En_Ps 1 (pc' := 51) (lv' := [(0, .ref 0), (1, .int a), (2, .int b), (3, .int c), (4, .int d), (5, .int y27), (6, .int y28)]) (st' := [.int c, .int z42, .ref 0, .ref 0]) rfl ?_
                refine En_callV rfl rfl rfl rfl rfl rfl rfl rfl tgz_0 (by decide +kernel) rfl (c_115 σ29 h30 z42 c (geI rfl (by omega)) (leI rfl (by omega)) (geI rfl (by omega)) (leI rfl (by omega)) p hp h32 sg h33 (by first | exact q_a555021d16 hp0 | omega)) (by decide) (by decide) (fun v45 σ46 h44 => ?_)
                obtain ⟨h47, h48, z50, rfl, h49⟩ := h44
                have h51 := Fr_trans h31 h48 (by decide +kernel)
                refine En_callV rfl rfl rfl rfl rfl rfl rfl rfl tgz_0 (by decide +kernel) rfl (c_156 σ46 h47 z50 p hp ((h48 _ _ (inW tgz_0 (by decide +kernel))).trans h32) sg ((h48 _ _ (inW hp (by decide +kernel))).trans h33) (by first | exact q_a555021d16 hp0 | omega)) (by decide) (by decide) (fun v53 σ54 h52 => ?_)
                obtain ⟨h55, h56, z58, rfl, h57⟩ := h52
                have h59 := Fr_trans h51 h56 (by decide +kernel)
                refine En_Ps 1 (pc' := 59) (lv' := [(0, .ref 0), (1, .int a), (2, .int b), (3, .int c), (4, .int d), (5, .int y27), (6, .int y28)]) (st' := [.int d, .int z58]) rfl ?_
                refine En_icLt _ rfl rfl rfl (fun h60 => ?_) (fun h60 => ?_)
                · refine En_Ps 1 (pc' := 68) (lv' := [(6, .int ((y28 + Int32.ofInt 1))), (0, .ref 0), (1, .int a), (2, .int b), (3, .int c), (4, .int d), (5, .int y27)]) (st' := []) rfl ?_
                  refine En_lv1 (addI rfl (by decide : (Int32.ofInt 1).toInt = 1) (by first | exact q_465ab79ac1 h36 | omega) (by first | exact q_ac83b3f23b h37 | omega)) (fun z61 h62 => ?_)
                  refine En_Ps 1 (pc' := 38) (lv' := [(6, .int z61), (0, .ref 0), (1, .int a), (2, .int b), (3, .int c), (4, .int d), (5, .int y27)]) (st' := []) rfl ?_
                  refine En_lv (lv := [(0, .ref 0), (1, .int a), (2, .int b), (3, .int c), (4, .int d), (5, .int y27), (6, .int z61)]) ⟨rfl, rfl, rfl, rfl, rfl, rfl, rfl, trivial⟩ ?_
                  exact ih38 σ54 y27 z61 h55 h59 ((h56 _ _ (inW tgz_0 (by decide +kernel))).trans ((h48 _ _ (inW tgz_0 (by decide +kernel))).trans h32)) ((h56 _ _ (inW hp (by decide +kernel))).trans ((h48 _ _ (inW hp (by decide +kernel))).trans h33)) (by first | exact q_58e6e51dcc h34 | omega) (by first | exact q_079ab43be6 h35 | omega) (by first | exact q_35104ce9d3 h62 h36 | omega) (by first | exact q_da74ed08cc h62 h41 h15 | omega) (by first | exact q_ae2dbf4292 h41 h62 | omega) (by first | exact q_3a5e225620 h39 h62 | omega) (by first | exact q_8d03a5a7cb h62 h40 | omega)
                · refine En_Ps 1 (pc' := 65) (lv' := [(5, .int ((y27 + Int32.ofInt 1))), (0, .ref 0), (1, .int a), (2, .int b), (3, .int c), (4, .int d), (6, .int y28)]) (st' := []) rfl ?_
                  refine En_lv1 (addI rfl (by decide : (Int32.ofInt 1).toInt = 1) (by first | exact q_465ab79ac1 h34 | omega) (by first | exact q_ac83b3f23b h35 | omega)) (fun z63 h64 => ?_)
                  refine En_Ps 1 (pc' := 68) (lv' := [(6, .int ((y28 + Int32.ofInt 1))), (5, .int z63), (0, .ref 0), (1, .int a), (2, .int b), (3, .int c), (4, .int d)]) (st' := []) rfl ?_
                  refine En_lv1 (addI rfl (by decide : (Int32.ofInt 1).toInt = 1) (by first | exact q_465ab79ac1 h36 | omega) (by first | exact q_ac83b3f23b h37 | omega)) (fun z65 h66 => ?_)
                  refine En_Ps 1 (pc' := 38) (lv' := [(6, .int z65), (5, .int z63), (0, .ref 0), (1, .int a), (2, .int b), (3, .int c), (4, .int d)]) (st' := []) rfl ?_
                  refine En_lv (lv := [(0, .ref 0), (1, .int a), (2, .int b), (3, .int c), (4, .int d), (5, .int z63), (6, .int z65)]) ⟨rfl, rfl, rfl, rfl, rfl, rfl, rfl, trivial⟩ ?_
                  exact ih38 σ54 z63 z65 h55 h59 ((h56 _ _ (inW tgz_0 (by decide +kernel))).trans ((h48 _ _ (inW tgz_0 (by decide +kernel))).trans h32)) ((h56 _ _ (inW hp (by decide +kernel))).trans ((h48 _ _ (inW hp (by decide +kernel))).trans h33)) (by first | exact q_35104ce9d3 h64 h34 | omega) (by first | exact q_26603d7e57 h64 h39 h41 h15 | omega) (by first | exact q_35104ce9d3 h66 h36 | omega) (by first | exact q_da74ed08cc h66 h41 h15 | omega) (by first | exact q_ae2dbf4292 h41 h66 | omega) (by first | exact q_1ff421e7a2 h64 h66 h39 | omega) (by first | exact q_8d03a5a7cb h66 h40 | omega)
          have := (by decide : (Int32.ofInt 0).toInt = 0)
          have := (by decide : (Int32.ofInt 0).toInt = 0)
          refine En_lv (lv := [(0, .ref 0), (1, .int a), (2, .int b), (3, .int c), (4, .int d), (5, .int ((Int32.ofInt 0))), (6, .int ((Int32.ofInt 0)))]) ⟨rfl, rfl, rfl, rfl, rfl, rfl, rfl, trivial⟩ ?_
          exact key38 (Int.toNat (b.toInt) + 1) σ20 ((Int32.ofInt 0)) ((Int32.ofInt 0)) h21 h25 ((h22 _ _ (inW tgz_0 (by decide +kernel))).trans ((h5 _ _ (inW tgz_0 (by decide +kernel))).trans h_p)) ((h22 _ _ (inW hp (by decide +kernel))).trans ((h5 _ _ (inW hp (by decide +kernel))).trans h_sg)) (by decide) (by decide) (by decide) (by decide) (by omega) (by omega) (by first | exact toN_lt _ | omega)
        · refine En_Ps 1 (pc' := 31) (lv' := [(0, .ref 0), (1, .int a), (2, .int b), (3, .int c), (4, .int d)]) (st' := [.int (((Int8.ofInt (-2)).toInt32))]) rfl ?_
          refine En_top (by decide : ((Int8.ofInt (-2)).toInt32).toInt = -2) (fun z67 h68 => ?_)
          exact En_ret (v := some (Value.int z67)) rfl rfl rfl ⟨h21, h25, z67, rfl, ⟨by first | exact q_f35c5d346c h68 | omega, by first | exact q_1be818c737 h68 | omega⟩⟩
end
/-! 32.ly.m00 -/
section
/-- DoorSchoolModel.add(II)V -/
abbrev P_188 (σ0 : SG) (a : Int32) (b : Int32) (m : Int32) : PO := fun v σ => WT σ ∧ Fr [(35, 21), (45, 0), (46, 0)] σ0 σ ∧ ∃ m1 : Int32, (σ 159)[21]? = some (Value.int m1) ∧ v = none ∧ -m1.toInt + 1 ≤ 0 ∧ m1.toInt - 17 ≤ 0 ∧ -m1.toInt + m.toInt + 1 ≤ 0 ∧ m1.toInt - m.toInt - 1 ≤ 0 ∧ m1.toInt - m.toInt - 1 ≤ 0 ∧ -m1.toInt + m.toInt + 1 ≤ 0
set_option maxRecDepth 10000 in
set_option maxHeartbeats 4000000 in
theorem c_188 (σ0 : SG) (hσ0 : WT σ0) (a : Int32) (b : Int32) (hl_a : 0 ≤ a.toInt) (hu_a : a.toInt ≤ 15) (hl_b : 0 ≤ b.toInt) (hu_b : b.toInt ≤ 1) (m : Int32) (h_m : (σ0 159)[21]? = some (Value.int m)) (hp0 : m.toInt - 16 ≤ 0) : En 0 0 none mr_188 (P_188 σ0 a b m) 0 [(0, .ref 159), (1, .int a), (2, .int b)] [] σ0 := by
  obtain ⟨hl_m, hu_m⟩ := WT_int hσ0 (g := 35) (by decide +kernel) (by decide +kernel) (l := 0) (u := 17) (by decide +kernel) h_m
  have hF0 : Fr [(35, 21), (45, 0), (46, 0)] σ0 σ0 := Fr_rfl
  refine En_Ps 1 (pc' := 1) (lv' := [(0, .ref 159), (1, .int a), (2, .int b)]) (st' := [.ref 159]) rfl ?_
  refine En_getU (j := 19) (u := 169) (g' := 45) (q := 0) rfl rfl rfl tgz_159 (by decide +kernel) hσ0 (by decide +kernel) un_45_169 (fun h1 => ?_)
  refine En_Ps 1 (pc' := 5) (lv' := [(0, .ref 159), (1, .int a), (2, .int b)]) (st' := [.ref 159, .ref 169]) rfl ?_
  refine En_getK (j := 21) h_m rfl rfl rfl tgz_159 (by decide +kernel) ?_
  refine En_Ps 1 (pc' := 9) (lv' := [(0, .ref 159), (1, .int a), (2, .int b)]) (st' := [.int a, .int m, .ref 169]) rfl ?_
  refine En_iast (l := 0) (u := 15) rfl rfl tgz_169 (by decide +kernel) (by first | exact q_58e6e51dcc hl_m | omega) (lnI (by decide +kernel : LN _ = 17) (by first | exact q_587b0aad9f hp0 | omega)) (FTsgl (by decide +kernel)) (rngI rfl (by first | exact q_58e6e51dcc hl_a | omega) (by first | exact q_5a4d8a7e08 hu_a | omega)) hσ0 hF0 (by decide +kernel) (fun σ3 h4 h5 h6 h7 => ?_)
  refine En_Ps 1 (pc' := 11) (lv' := [(0, .ref 159), (1, .int a), (2, .int b)]) (st' := [.ref 159]) rfl ?_
  refine En_getU (j := 20) (u := 170) (g' := 46) (q := 0) rfl rfl rfl tgz_159 (by decide +kernel) h4 (by decide +kernel) un_46_170 (fun h8 => ?_)
  refine En_Ps 1 (pc' := 15) (lv' := [(0, .ref 159), (1, .int a), (2, .int b)]) (st' := [.ref 159, .ref 170]) rfl ?_
  refine En_getK (j := 21) ((h7 _ _ (Or.inl (neTG tgz_159 tgz_169 (by decide)))).trans h_m) rfl rfl rfl tgz_159 (by decide +kernel) ?_
  refine En_Ps 1 (pc' := 19) (lv' := [(0, .ref 159), (1, .int a), (2, .int b)]) (st' := [.int b, .int m, .ref 170]) rfl ?_
  refine En_iast (l := 0) (u := 1) rfl rfl tgz_170 (by decide +kernel) (by first | exact q_58e6e51dcc hl_m | omega) (lnI (by decide +kernel : LN _ = 17) (by first | exact q_587b0aad9f hp0 | omega)) (FTsgl (by decide +kernel)) (rngI rfl (by first | exact q_58e6e51dcc hl_b | omega) (by first | exact q_9d0c30f9c5 hu_b | omega)) h4 h5 (by decide +kernel) (fun σ10 h11 h12 h13 h14 => ?_)
  refine En_Ps 2 (pc' := 22) (lv' := [(0, .ref 159), (1, .int a), (2, .int b)]) (st' := [.ref 159, .ref 159]) rfl ?_
  refine En_getK (j := 21) ((h14 _ _ (Or.inl (neTG tgz_159 tgz_170 (by decide)))).trans ((h7 _ _ (Or.inl (neTG tgz_159 tgz_169 (by decide)))).trans h_m)) rfl rfl rfl tgz_159 (by decide +kernel) ?_
  refine En_Ps 2 (pc' := 27) (lv' := [(0, .ref 159), (1, .int a), (2, .int b)]) (st' := [.int ((m + ((Int32.ofInt 1)))), .ref 159]) rfl ?_
  refine En_top (addI rfl (by decide : (Int32.ofInt 1).toInt = 1) (by first | exact q_465ab79ac1 hl_m | omega) (by first | exact q_f47f9b2586 hp0 | omega)) (fun z15 h16 => ?_)
  refine En_put (j := 21) rfl rfl rfl tgz_159 (by decide +kernel) rfl (vI (l := 0) (u := 17) (by decide +kernel) rfl (by first | exact q_35104ce9d3 h16 hl_m | omega) (by first | exact q_2809db51dd h16 hp0 | omega)) h11 h12 (by decide +kernel) (fun σ17 h18 h19 h20 h21 => ?_)
  exact En_ret (v := none) rfl rfl rfl ⟨h18, h19, z15, h20, rfl, ⟨by first | exact q_eeff886842 h16 hl_m | omega, by first | exact q_ccd2290ce9 h16 hp0 | omega, by first | exact q_0f0670fdd6 h16 | omega, by first | exact q_9a409ce733 h16 | omega, by first | exact q_9a409ce733 h16 | omega, by first | exact q_0f0670fdd6 h16 | omega⟩⟩
/-- DoorSchoolModel.in(JJJ)Z -/
abbrev P_249 (σ0 : SG) (a : Int64) (b : Int64) (c : Int64) : PO := fun v σ => WT σ ∧ Fr [] σ0 σ ∧ ∃ ret : Int32, v = some (Value.int ret) ∧ -ret.toInt ≤ 0 ∧ ret.toInt - 1 ≤ 0 ∧ (-ret.toInt + 1 ≤ 0 → b.toInt - a.toInt ≤ 0 ∧ a.toInt - c.toInt ≤ 0) ∧ (b.toInt - a.toInt ≤ 0 ∧ a.toInt - c.toInt ≤ 0 → -ret.toInt + 1 ≤ 0)
set_option maxRecDepth 10000 in
set_option maxHeartbeats 4000000 in
theorem c_249 (σ0 : SG) (hσ0 : WT σ0) (a : Int64) (b : Int64) (c : Int64) : En 0 0 none mr_249 (P_249 σ0 a b c) 0 [(0, .long a), (2, .long b), (4, .long c)] [] σ0 := by
  have hF0 : Fr [] σ0 σ0 := Fr_rfl
  refine En_Ps 3 (pc' := 3) (lv' := [(0, .long a), (2, .long b), (4, .long c)]) (st' := [.int (lg_cmp a b)]) rfl ?_
  refine En_lgLt _ rfl rfl rfl (fun h1 => ?_) (fun h1 => ?_)
  · refine En_Ps 1 (pc' := 18) (lv' := [(0, .long a), (2, .long b), (4, .long c)]) (st' := [.int ((Int32.ofInt 0))]) rfl ?_
    refine En_top (by decide : (Int32.ofInt 0).toInt = 0) (fun z2 h3 => ?_)
    exact En_ret (v := some (Value.int z2)) rfl rfl (retZ rfl rfl (by first | exact q_55451d0a83 h3 | omega) (by first | exact q_87849c3859 h3 | omega)) ⟨hσ0, hF0, z2, rfl, ⟨by first | exact q_097a37c2ae h3 | omega, by first | exact q_e269517bee h3 | omega, fun _ => by omega, fun _ => by omega⟩⟩
  · refine En_Ps 3 (pc' := 10) (lv' := [(0, .long a), (2, .long b), (4, .long c)]) (st' := [.int (lg_cmp a c)]) rfl ?_
    refine En_lgGt _ rfl rfl rfl (fun h4 => ?_) (fun h4 => ?_)
    · refine En_Ps 1 (pc' := 18) (lv' := [(0, .long a), (2, .long b), (4, .long c)]) (st' := [.int ((Int32.ofInt 0))]) rfl ?_
      refine En_top (by decide : (Int32.ofInt 0).toInt = 0) (fun z5 h6 => ?_)
      exact En_ret (v := some (Value.int z5)) rfl rfl (retZ rfl rfl (by first | exact q_55451d0a83 h6 | omega) (by first | exact q_87849c3859 h6 | omega)) ⟨hσ0, hF0, z5, rfl, ⟨by first | exact q_097a37c2ae h6 | omega, by first | exact q_e269517bee h6 | omega, fun _ => by omega, fun _ => by omega⟩⟩
    · refine En_Ps 2 (pc' := 18) (lv' := [(0, .long a), (2, .long b), (4, .long c)]) (st' := [.int ((Int32.ofInt 1))]) rfl ?_
      refine En_top (by decide : (Int32.ofInt 1).toInt = 1) (fun z7 h8 => ?_)
      exact En_ret (v := some (Value.int z7)) rfl rfl (retZ rfl rfl (by first | exact q_2b07c97645 h8 | omega) (by first | exact q_d9e7cbb253 h8 | omega)) ⟨hσ0, hF0, z7, rfl, ⟨by first | exact q_ad3eee31ca h8 | omega, by first | exact q_81cf297dc4 h8 | omega, fun _ => by (first | exact q_e7f5657886 h1 h4 | omega), fun _ => by (first | exact q_a439be255a h8 | omega)⟩⟩
/-- bit of a small set -/
abbrev P_202a (σ0 : SG) (a : Int32) (b : Int32) : PO := fun v σ => WT σ ∧ Fr [] σ0 σ ∧ ∃ ret : Int32, v = some (Value.int ret) ∧ -ret.toInt ≤ 0 ∧ ret.toInt - 1 ≤ 0 ∧ ret.toInt = bI a.toInt b.toInt
set_option maxRecDepth 10000 in
set_option maxHeartbeats 4000000 in
theorem c_202a (σ0 : SG) (hσ0 : WT σ0) (a : Int32) (b : Int32) (hl_a : 0 ≤ a.toInt) (hu_a : a.toInt ≤ 63) (hl_b : 0 ≤ b.toInt) (hu_b : b.toInt ≤ 7) : En 0 0 none mr_202 (P_202a σ0 a b) 0 [(0, .int a), (1, .int b)] [] σ0 := by
  refine En_Ps 5 (pc' := 5) (lv' := [(0, .int a), (1, .int b)]) (st' := [.int ((a >>> (b &&& 31)) &&& (Int32.ofInt 1))]) rfl ?_
  refine En_nam (fun z hz => ?_)
  have hb := bit_small hz hl_a hu_a hl_b hu_b
  have hr := bI_rng a.toInt b.toInt
  exact En_ret (v := some (Value.int z)) rfl rfl rfl ⟨hσ0, Fr_rfl, z, rfl, (by (first | exact q_eb255b5a83 hb hr.1 hr.2 | omega))⟩
/-- DoorSchoolModel.bit(II)I -/
abbrev P_202b (σ0 : SG) (a : Int32) (b : Int32) : PO := fun v σ => WT σ ∧ Fr [] σ0 σ ∧ ∃ ret : Int32, v = some (Value.int ret) ∧ -ret.toInt ≤ 0 ∧ ret.toInt - 1 ≤ 0
set_option maxRecDepth 10000 in
set_option maxHeartbeats 4000000 in
theorem c_202b (σ0 : SG) (hσ0 : WT σ0) (a : Int32) (b : Int32) : En 0 0 none mr_202 (P_202b σ0 a b) 0 [(0, .int a), (1, .int b)] [] σ0 := by
  have hF0 : Fr [] σ0 σ0 := Fr_rfl
  refine En_Ps 3 (pc' := 3) (lv' := [(0, .int a), (1, .int b)]) (st' := [.int ((a >>> (b &&& 31)))]) rfl ?_
  refine En_hav (fun z1 => ?_)
  refine En_Ps 2 (pc' := 5) (lv' := [(0, .int a), (1, .int b)]) (st' := [.int ((z1 &&& ((Int32.ofInt 1))))]) rfl ?_
  refine En_rng (l := 0) (u := 1) (andR_rng (by decide : (Int32.ofInt 1).toInt = 1) (by decide)) (fun z2 h3 h4 => ?_)
  exact En_ret (v := some (Value.int z2)) rfl rfl rfl ⟨hσ0, hF0, z2, rfl, ⟨by first | exact q_c803b490ef h3 | omega, by first | exact q_a83e15e6ad h4 | omega⟩⟩
/-- DoorSchoolModel.takesOf(I)I -/
abbrev P_319 (σ0 : SG) (a : Int32) : PO := fun v σ => WT σ ∧ Fr [] σ0 σ ∧ ∃ ret : Int32, v = some (Value.int ret) ∧ -ret.toInt ≤ 0 ∧ ret.toInt - 9 ≤ 0 ∧ ret.toInt = ci σ0 160 (154 + 2 * a.toInt)
set_option maxRecDepth 10000 in
set_option maxHeartbeats 4000000 in
theorem c_319 (σ0 : SG) (hσ0 : WT σ0) (a : Int32) (hl_a : 0 ≤ a.toInt) (hu_a : a.toInt ≤ 5) : En 0 0 none mr_319 (P_319 σ0 a) 0 [(0, .ref 159), (1, .int a)] [] σ0 := by
  have hF0 : Fr [] σ0 σ0 := Fr_rfl
  refine En_Ps 1 (pc' := 1) (lv' := [(0, .ref 159), (1, .int a)]) (st' := [.ref 159]) rfl ?_
  refine En_getU (j := 1) (u := 160) (g' := 36) (q := 0) rfl rfl rfl tgz_159 (by decide +kernel) hσ0 (by decide +kernel) un_36_160 (fun h1 => ?_)
  refine En_Ps 4 (pc' := 10) (lv' := [(0, .ref 159), (1, .int a)]) (st' := [.int ((((Int32.ofInt 2)) * a)), .int (((Int16.ofInt 154).toInt32)), .ref 160]) rfl ?_
  refine En_top (mulI (by decide : (Int32.ofInt 2).toInt = 2) rfl (Z := 2 * a.toInt) (by first | exact q_9c4c04fc55 | omega) (by first | exact q_1f719a6719 hl_a | omega) (by first | exact q_6084c30cbd hu_a | omega)) (fun z3 h4 => ?_)
  refine En_Ps 1 (pc' := 11) (lv' := [(0, .ref 159), (1, .int a)]) (st' := [.int (((((Int16.ofInt 154).toInt32)) + z3)), .ref 160]) rfl ?_
  refine En_top (addI (by decide : ((Int16.ofInt 154).toInt32).toInt = 154) rfl (by first | exact q_35d2865be9 h4 hl_a | omega) (by first | exact q_37b8e4bcc4 h4 hu_a | omega)) (fun z5 h6 => ?_)
  refine En_iald (l := 0) (u := 9) rfl rfl tgz_160 (by decide +kernel) hσ0 (by first | exact q_ccc63f2e7e h6 h4 hl_a | omega) (lnI (by decide +kernel : LN _ = 226) (by first | exact q_916e3ddc0c h6 h4 hu_a | omega)) (FTrow 36 154 2 6 (by decide +kernel) (by first | exact q_4f183090a0 h6 h4 hl_a | omega) (by first | exact q_a2deeb3a09 h6 h4 hu_a | omega) (by first | exact q_1f9eb023d9 h4 h6 | omega)) (fun z8 h7 h9 h10 => ?_)
  exact En_ret (v := some (Value.int z8)) rfl rfl rfl ⟨hσ0, hF0, z8, rfl, ⟨by (first | exact q_c803b490ef h9 | omega), by (first | exact q_5a84bfe790 h10 | omega), (ci_at h7 (by (first | exact q_8c21c8d38e h6 h4 | omega))).symm⟩⟩
/-- DoorSchoolModel.overOf(I)I -/
abbrev P_294 (σ0 : SG) (a : Int32) : PO := fun v σ => WT σ ∧ Fr [] σ0 σ ∧ ∃ ret : Int32, v = some (Value.int ret) ∧ -ret.toInt ≤ 0 ∧ ret.toInt - 120 ≤ 0 ∧ ret.toInt = ci σ0 173 a.toInt + ci σ0 160 (154 + 2 * a.toInt)
set_option maxRecDepth 10000 in
set_option maxHeartbeats 4000000 in
theorem c_294 (σ0 : SG) (hσ0 : WT σ0) (a : Int32) (hl_a : 0 ≤ a.toInt) (hu_a : a.toInt ≤ 5) : En 1 21 none mr_294 (P_294 σ0 a) 0 [(0, .ref 159), (1, .int a)] [] σ0 := by
  have hF0 : Fr [] σ0 σ0 := Fr_rfl
  refine En_Ps 1 (pc' := 1) (lv' := [(0, .ref 159), (1, .int a)]) (st' := [.ref 159]) rfl ?_
  refine En_getU (j := 27) (u := 173) (g' := 49) (q := 0) rfl rfl rfl tgz_159 (by decide +kernel) hσ0 (by decide +kernel) un_49_173 (fun h1 => ?_)
  refine En_Ps 1 (pc' := 5) (lv' := [(0, .ref 159), (1, .int a)]) (st' := [.int a, .ref 173]) rfl ?_
  refine En_iald (l := 0) (u := 111) rfl rfl tgz_173 (by decide +kernel) hσ0 (by first | exact q_58e6e51dcc hl_a | omega) (lnI (by decide +kernel : LN _ = 6) (by first | exact q_f6226e27c9 hu_a | omega)) (FTsgl (by decide +kernel)) (fun z4 h3 h5 h6 => ?_)
  refine En_Ps 2 (pc' := 8) (lv' := [(0, .ref 159), (1, .int a)]) (st' := [.int a, .ref 159, .int z4]) rfl ?_
  refine En_callV rfl rfl rfl rfl rfl rfl rfl rfl tgz_159 (by decide +kernel) rfl (c_319 σ0 hσ0 a (geI rfl (by first | exact q_58e6e51dcc hl_a | omega)) (leI rfl (by first | exact q_d9092b5ca1 hu_a | omega))) (by decide) (by decide) (fun v8 σ9 h7 => ?_)
  obtain ⟨h10, h11, z13, rfl, h12⟩ := h7
  have h14 := h12.2.2
  obtain rfl : σ0 = σ9 := Fr_nil h11
  refine En_Ps 1 (pc' := 12) (lv' := [(0, .ref 159), (1, .int a)]) (st' := [.int ((z4 + z13))]) rfl ?_
  refine En_top (addI rfl rfl (by first | exact q_eb9502dde8 h5 h12.1 | omega) (by first | exact q_59dac5040b h6 h12.2.1 | omega)) (fun z15 h16 => ?_)
  exact En_ret (v := some (Value.int z15)) rfl rfl rfl ⟨hσ0, hF0, z15, rfl, ⟨by (first | exact q_5ff162ce1d h16 h12.1 h5 | omega), by (first | exact q_01caf30339 h16 h12.2.1 h6 | omega), (by have e1 := ci_at h3 (rfl : a.toInt = a.toInt); (first | exact q_86bb4ff81c e1 h16 h14 | omega))⟩⟩
/-- DoorSchoolModel.afterAll(II)I -/
abbrev P_190 (σ0 : SG) (a : Int32) (b : Int32) : PO := fun v σ => WT σ ∧ Fr [] σ0 σ ∧ ∃ ret : Int32, v = some (Value.int ret) ∧ -ret.toInt - 1 ≤ 0 ∧ ret.toInt - 127 ≤ 0 ∧ AFTs σ0 a.toInt b.toInt ret.toInt
set_option maxRecDepth 10000 in
set_option maxHeartbeats 4000000 in
theorem c_190 (σ0 : SG) (hσ0 : WT σ0) (a : Int32) (b : Int32) (hl_a : 0 ≤ a.toInt) (hu_a : a.toInt ≤ 5) (hl_b : 0 ≤ b.toInt) (hu_b : b.toInt ≤ 63) : En 2 42 none mr_190 (P_190 σ0 a b) 0 [(0, .ref 159), (1, .int a), (2, .int b)] [] σ0 := by
  have hF0 : Fr [] σ0 σ0 := Fr_rfl
  refine En_Ps 4 (pc' := 5) (lv' := [(4, .int ((Int32.ofInt 0))), (3, .int ((Int32.ofInt 0))), (0, .ref 159), (1, .int a), (2, .int b)]) (st' := []) rfl ?_
  have key5 : ∀ (n5 : Nat) (y1 : Int32) (y2 : Int32), 0 ≤ y1.toInt → y1.toInt ≤ 127 → 0 ≤ y2.toInt → y2.toInt ≤ 5 → y2.toInt - a.toInt ≤ 0 → a.toInt - y2.toInt < (n5 : Int) → AFL σ0 a.toInt b.toInt y2.toInt y1.toInt → En 2 42 none mr_190 (P_190 σ0 a b) 5 [(0, .ref 159), (1, .int a), (2, .int b), (3, .int y1), (4, .int y2)] [] σ0 := by
    intro n5
    induction n5 with
    | zero =>
      intro y1 y2 h6 h7 h8 h9 h10 h11 h12
      first | exact (q_14257feae7 h10 h11).elim | (exfalso; omega)
    | succ n5 ih5 =>
      intro y1 y2 h6 h7 h8 h9 h10 h11 h12
      refine En_Ps 2 (pc' := 8) (lv' := [(0, .ref 159), (1, .int a), (2, .int b), (3, .int y1), (4, .int y2)]) (st' := [.int a, .int y2]) rfl ?_
      refine En_icGe _ rfl rfl rfl (fun h13 => ?_) (fun h13 => ?_)
      · refine En_Ps 1 (pc' := 65) (lv' := [(0, .ref 159), (1, .int a), (2, .int b), (3, .int y1), (4, .int y2)]) (st' := [.int y1]) rfl ?_
        exact En_ret (v := some (Value.int y1)) rfl rfl rfl ⟨hσ0, hF0, y1, rfl, ⟨by (first | exact q_565e7b05df h6 | omega), by (first | exact q_2b355a900d h7 | omega), AFT_yes h12 (by (first | exact q_58e6e51dcc h6 | omega)) (by (first | exact q_932907fca0 h13 h10 | omega))⟩⟩
      · refine En_Ps 1 (pc' := 12) (lv' := [(0, .ref 159), (1, .int a), (2, .int b), (3, .int y1), (4, .int y2)]) (st' := [.ref 159]) rfl ?_
        refine En_getU (j := 1) (u := 160) (g' := 36) (q := 0) rfl rfl rfl tgz_159 (by decide +kernel) hσ0 (by decide +kernel) un_36_160 (fun h14 => ?_)
        refine En_Ps 4 (pc' := 21) (lv' := [(0, .ref 159), (1, .int a), (2, .int b), (3, .int y1), (4, .int y2)]) (st' := [.int ((((Int32.ofInt 2)) * a)), .int (((Int16.ofInt 154).toInt32)), .ref 160]) rfl ?_
        refine En_top (mulI (by decide : (Int32.ofInt 2).toInt = 2) rfl (Z := 2 * a.toInt) (by first | exact q_9c4c04fc55 | omega) (by first | exact q_1f719a6719 hl_a | omega) (by first | exact q_6084c30cbd hu_a | omega)) (fun z16 h17 => ?_)
        refine En_Ps 1 (pc' := 22) (lv' := [(0, .ref 159), (1, .int a), (2, .int b), (3, .int y1), (4, .int y2)]) (st' := [.int (((((Int16.ofInt 154).toInt32)) + z16)), .ref 160]) rfl ?_
        refine En_top (addI (by decide : ((Int16.ofInt 154).toInt32).toInt = 154) rfl (by first | exact q_2a493b5167 h17 h13 h8 | omega) (by first | exact q_37b8e4bcc4 h17 hu_a | omega)) (fun z18 h19 => ?_)
        refine En_Ps 2 (pc' := 24) (lv' := [(0, .ref 159), (1, .int a), (2, .int b), (3, .int y1), (4, .int y2)]) (st' := [.int ((z18 + ((Int32.ofInt 1)))), .ref 160]) rfl ?_
        refine En_top (addI rfl (by decide : (Int32.ofInt 1).toInt = 1) (by first | exact q_e805c90172 h19 h17 h13 h8 | omega) (by first | exact q_ec28dd8106 h19 h17 hu_a | omega)) (fun z20 h21 => ?_)
        refine En_iald (l := 0) (u := 63) rfl rfl tgz_160 (by decide +kernel) hσ0 (by first | exact q_36622a292a h21 h19 h17 h13 h8 | omega) (lnI (by decide +kernel : LN _ = 226) (by first | exact q_9650422e8f h21 h19 h17 hu_a | omega)) (FTrow 36 157 2 5 (by decide +kernel) (by first | exact q_fb66f228a0 h21 h19 h17 h13 h8 | omega) (by first | exact q_756310faf7 h21 h19 h17 hu_a | omega) (by first | exact q_951b0f7e1b h17 h19 h21 | omega)) (fun z23 h22 h24 h25 => ?_)
        refine En_Ps 1 (pc' := 27) (lv' := [(0, .ref 159), (1, .int a), (2, .int b), (3, .int y1), (4, .int y2)]) (st' := [.int y2, .int z23]) rfl ?_
        refine En_callS rfl rfl rfl rfl rfl rfl rfl rfl rfl (c_202a σ0 hσ0 z23 y2 (geI rfl (by first | exact q_58e6e51dcc h24 | omega)) (leI rfl (by first | exact q_8bf848900a h25 | omega)) (geI rfl (by first | exact q_58e6e51dcc h8 | omega)) (leI rfl (by first | exact q_c4fbf921fa h9 | omega))) (by decide) (by decide) (fun v27 σ28 h26 => ?_)
        obtain ⟨h29, h30, z32, rfl, h31⟩ := h26
        have h33 := h31.2.2
        obtain rfl : σ0 = σ28 := Fr_nil h30
        refine En_iNe _ rfl rfl (fun h34 => ?_) (fun h34 => ?_)
        · refine En_Ps 2 (pc' := 39) (lv' := [(0, .ref 159), (1, .int a), (2, .int b), (3, .int y1), (4, .int y2)]) (st' := [.int y2, .int b]) rfl ?_
          refine En_callS rfl rfl rfl rfl rfl rfl rfl rfl rfl (c_202a σ0 hσ0 b y2 (geI rfl (by first | exact q_58e6e51dcc hl_b | omega)) (leI rfl (by first | exact q_8bf848900a hu_b | omega)) (geI rfl (by first | exact q_58e6e51dcc h8 | omega)) (leI rfl (by first | exact q_c4fbf921fa h9 | omega))) (by decide) (by decide) (fun v36 σ37 h35 => ?_)
          obtain ⟨h38, h39, z41, rfl, h40⟩ := h35
          have h42 := h40.2.2
          obtain rfl : σ0 = σ37 := Fr_nil h39
          refine En_iNe _ rfl rfl (fun h43 => ?_) (fun h43 => ?_)
          · refine En_Ps 3 (pc' := 51) (lv' := [(0, .ref 159), (1, .int a), (2, .int b), (3, .int y1), (4, .int y2)]) (st' := [.int y2, .ref 159, .int y1]) rfl ?_
            refine En_callV rfl rfl rfl rfl rfl rfl rfl rfl tgz_159 (by decide +kernel) rfl (c_294 σ0 hσ0 y2 (geI rfl (by first | exact q_58e6e51dcc h8 | omega)) (leI rfl (by first | exact q_d9092b5ca1 h9 | omega))) (by decide) (by decide) (fun v45 σ46 h44 => ?_)
            obtain ⟨h47, h48, z50, rfl, h49⟩ := h44
            have h51 := h49.2.2
            obtain rfl : σ0 = σ46 := Fr_nil h48
            refine En_callS rfl rfl rfl rfl rfl rfl rfl rfl rfl (c_10 σ0 hσ0 y1 z50) (by decide) (by decide) (fun v53 σ54 h52 => ?_)
            obtain ⟨h55, h56, z58, rfl, h57⟩ := h52
            obtain rfl : σ0 = σ54 := Fr_nil h56
            refine En_Ps 2 (pc' := 61) (lv' := [(4, .int ((y2 + Int32.ofInt 1))), (3, .int z58), (0, .ref 159), (1, .int a), (2, .int b)]) (st' := []) rfl ?_
            refine En_lv1 (addI rfl (by decide : (Int32.ofInt 1).toInt = 1) (by first | exact q_465ab79ac1 h8 | omega) (by first | exact q_aeda34609f h9 | omega)) (fun z59 h60 => ?_)
            refine En_Ps 1 (pc' := 5) (lv' := [(4, .int z59), (3, .int z58), (0, .ref 159), (1, .int a), (2, .int b)]) (st' := []) rfl ?_
            refine En_lv (lv := [(0, .ref 159), (1, .int a), (2, .int b), (3, .int z58), (4, .int z59)]) ⟨rfl, rfl, rfl, rfl, rfl, trivial⟩ ?_
            exact ih5 z58 z59 (by first | exact q_f062bc8aa8 h57.1 h6 | omega) (by (first | exact q_50d5666327 h57.2.2.2 h57.2.2.1 h7 h49.2.1 | omega)) (by first | exact q_35104ce9d3 h60 h8 | omega) (by first | exact q_b880857b86 h60 h13 hu_a | omega) (by first | exact q_ae2dbf4292 h13 h60 | omega) (by first | exact q_8d03a5a7cb h60 h11 | omega) (AFL_y hσ0 h12 h22 (by (first | exact q_19ee015df8 h21 h19 h17 | omega)) h33 (by (first | exact q_c82a63b4aa h34 h31.1 | omega)) h42 (by (first | exact q_c82a63b4aa h43 h40.1 | omega)) h51 (by (first | exact q_2f9e8475ec h57.1 | omega)) (by (first | exact q_2f9e8475ec h57.2.1 | omega)) (by (first | exact q_0ff0506318 h57.2.2.2 h57.2.2.1 h57.1 h57.2.1 | omega)) (by (first | exact q_58e6e51dcc h6 | omega)) (by (first | exact q_58e6e51dcc hl_a | omega)) (by (first | exact q_d9092b5ca1 hu_a | omega)) (by (first | exact q_58e6e51dcc h8 | omega)) (by (first | exact q_d9092b5ca1 h9 | omega)) (by (first | exact q_ba1b2c713b h60 | omega)))
          · refine En_Ps 1 (pc' := 46) (lv' := [(0, .ref 159), (1, .int a), (2, .int b), (3, .int y1), (4, .int y2)]) (st' := [.int ((Int32.ofInt (-1)))]) rfl ?_
            refine En_top (by decide : (Int32.ofInt (-1)).toInt = -1) (fun z61 h62 => ?_)
            exact En_ret (v := some (Value.int z61)) rfl rfl rfl ⟨hσ0, hF0, z61, rfl, ⟨by (first | exact q_667e555013 h62 | omega), by (first | exact q_fe4757541d h62 | omega), AFT_no hσ0 h22 (by (first | exact q_19ee015df8 h21 h19 h17 | omega)) h33 (by (first | exact q_c82a63b4aa h34 h31.1 | omega)) h42 (by (first | exact q_d2dcd30e56 h43 | omega)) (by (first | exact q_58e6e51dcc hl_a | omega)) (by (first | exact q_d9092b5ca1 hu_a | omega)) (by (first | exact q_58e6e51dcc h8 | omega)) (by (first | exact q_114b7bcb5b h13 | omega)) (by (first | exact q_b9e5c7e4b8 h62 | omega))⟩⟩
        · refine En_Ps 2 (pc' := 61) (lv' := [(4, .int ((y2 + Int32.ofInt 1))), (0, .ref 159), (1, .int a), (2, .int b), (3, .int y1)]) (st' := []) rfl ?_
          refine En_lv1 (addI rfl (by decide : (Int32.ofInt 1).toInt = 1) (by first | exact q_465ab79ac1 h8 | omega) (by first | exact q_aeda34609f h9 | omega)) (fun z63 h64 => ?_)
          refine En_Ps 1 (pc' := 5) (lv' := [(4, .int z63), (0, .ref 159), (1, .int a), (2, .int b), (3, .int y1)]) (st' := []) rfl ?_
          refine En_lv (lv := [(0, .ref 159), (1, .int a), (2, .int b), (3, .int y1), (4, .int z63)]) ⟨rfl, rfl, rfl, rfl, rfl, trivial⟩ ?_
          exact ih5 y1 z63 (by first | exact q_58e6e51dcc h6 | omega) (by first | exact q_a18ee2e349 h7 | omega) (by first | exact q_35104ce9d3 h64 h8 | omega) (by first | exact q_b880857b86 h64 h13 hu_a | omega) (by first | exact q_ae2dbf4292 h13 h64 | omega) (by first | exact q_8d03a5a7cb h64 h11 | omega) (AFL_n hσ0 h12 h22 (by (first | exact q_19ee015df8 h21 h19 h17 | omega)) h33 (by (first | exact q_d2dcd30e56 h34 | omega)) (by (first | exact q_58e6e51dcc hl_a | omega)) (by (first | exact q_d9092b5ca1 hu_a | omega)) (by (first | exact q_58e6e51dcc h8 | omega)) (by (first | exact q_ba1b2c713b h64 | omega)))
  have := (by decide : (Int32.ofInt 0).toInt = 0)
  have := (by decide : (Int32.ofInt 0).toInt = 0)
  refine En_lv (lv := [(0, .ref 159), (1, .int a), (2, .int b), (3, .int ((Int32.ofInt 0))), (4, .int ((Int32.ofInt 0)))]) ⟨rfl, rfl, rfl, rfl, rfl, trivial⟩ ?_
  exact key5 (Int.toNat (a.toInt) + 1) ((Int32.ofInt 0)) ((Int32.ofInt 0)) (by decide) (by decide) (by decide) (by decide) (by (first | exact q_d69f448e8e (by decide) hl_a | omega)) (by first | exact toN_lt _ | omega) (AFL_0 (by decide) (by decide))
/-- DoorSchoolModel.isDoor(I)Z -/
abbrev P_254 (σ0 : SG) (a : Int32) (nd : Int32) : PO := fun v σ => WT σ ∧ Fr [] σ0 σ ∧ ∃ ret : Int32, v = some (Value.int ret) ∧ -ret.toInt ≤ 0 ∧ ret.toInt - 1 ≤ 0 ∧ (-ret.toInt + 1 ≤ 0 → -a.toInt ≤ 0 ∧ a.toInt - nd.toInt + 1 ≤ 0) ∧ (-a.toInt ≤ 0 ∧ a.toInt - nd.toInt + 1 ≤ 0 → -ret.toInt + 1 ≤ 0) ∧ (ret.toInt - 1 ≤ 0 ∧ -ret.toInt + 1 ≤ 0 → -a.toInt ≤ 0 ∧ a.toInt - 3 ≤ 0)
set_option maxRecDepth 10000 in
set_option maxHeartbeats 4000000 in
theorem c_254 (σ0 : SG) (hσ0 : WT σ0) (a : Int32) (nd : Int32) (h_nd : (σ0 160)[(2 : Int).toNat]? = some (Value.int nd)) : En 1 25 none mr_254 (P_254 σ0 a nd) 0 [(0, .ref 159), (1, .int a)] [] σ0 := by
  obtain ⟨hl_nd, hu_nd⟩ := WT_int hσ0 (g := 36) (by decide +kernel) (by decide +kernel) (l := 0) (u := 4) (by decide +kernel) h_nd
  have hF0 : Fr [] σ0 σ0 := Fr_rfl
  refine En_Ps 4 (pc' := 4) (lv' := [(0, .ref 159), (1, .int a)]) (st' := [.ref 159, .long ((Int64.ofNat 0)), .long a.toInt64]) rfl ?_
  refine En_getU (j := 1) (u := 160) (g' := 36) (q := 0) rfl rfl rfl tgz_159 (by decide +kernel) hσ0 (by decide +kernel) un_36_160 (fun h1 => ?_)
  refine En_Ps 1 (pc' := 8) (lv' := [(0, .ref 159), (1, .int a)]) (st' := [.int ((Int32.ofInt 2)), .ref 160, .long ((Int64.ofNat 0)), .long a.toInt64]) rfl ?_
  refine En_ialdK h_nd rfl (by decide : (Int32.ofInt 2).toInt = 2) tgz_160 (by decide +kernel) hσ0 (by decide) (lnI (by decide +kernel : LN _ = 226) (by decide)) ?_
  refine En_Ps 2 (pc' := 11) (lv' := [(0, .ref 159), (1, .int a)]) (st' := [.int ((nd - ((Int32.ofInt 1)))), .long ((Int64.ofNat 0)), .long a.toInt64]) rfl ?_
  refine En_top (subI rfl (by decide : (Int32.ofInt 1).toInt = 1) (by first | exact q_93f9478bef hl_nd | omega) (by first | exact q_cc3cee8591 hu_nd | omega)) (fun z4 h5 => ?_)
  refine En_Ps 1 (pc' := 12) (lv' := [(0, .ref 159), (1, .int a)]) (st' := [.long z4.toInt64, .long ((Int64.ofNat 0)), .long a.toInt64]) rfl ?_
  have : a.toInt64.toInt = a.toInt := (i2lI rfl)
  have := (by decide : ((Int64.ofNat 0)).toInt = 0)
  have : z4.toInt64.toInt = z4.toInt := (i2lI rfl)
  refine En_callS rfl rfl rfl rfl rfl rfl rfl rfl rfl (c_249 σ0 hσ0 a.toInt64 ((Int64.ofNat 0)) z4.toInt64) (by decide) (by decide) (fun v7 σ8 h6 => ?_)
  obtain ⟨h9, h10, z12, rfl, h11⟩ := h6
  have h13 := Fr_trans hF0 h10 (by decide +kernel)
  exact En_ret (v := some (Value.int z12)) rfl rfl (retZ rfl rfl (by first | exact q_ef1e8e38bf h11.1 | omega) (by first | exact q_733c8bfbae h11.2.1 | omega)) ⟨h9, h13, z12, rfl, ⟨by first | exact q_a555021d16 h11.1 | omega, by first | exact q_ad5b726bf8 h11.2.1 | omega, fun _ => by omega, fun _ => by omega, fun _ => by omega⟩⟩
/-- DoorSchoolModel.isSchool()Z -/
abbrev P_264 (σ0 : SG) (sc : Int32) : PO := fun v σ => WT σ ∧ Fr [] σ0 σ ∧ ∃ ret : Int32, v = some (Value.int ret) ∧ -ret.toInt ≤ 0 ∧ ret.toInt - 1 ≤ 0 ∧ (-ret.toInt + 1 ≤ 0 → -sc.toInt + 1 ≤ 0) ∧ (ret.toInt ≤ 0 → sc.toInt ≤ 0)
set_option maxRecDepth 10000 in
set_option maxHeartbeats 4000000 in
theorem c_264 (σ0 : SG) (hσ0 : WT σ0) (sc : Int32) (h_sc : (σ0 160)[(7 : Int).toNat]? = some (Value.int sc)) : En 0 0 none mr_264 (P_264 σ0 sc) 0 [(0, .ref 159)] [] σ0 := by
  obtain ⟨hl_sc, hu_sc⟩ := WT_int hσ0 (g := 36) (by decide +kernel) (by decide +kernel) (l := 0) (u := 1600) (by decide +kernel) h_sc
  have hF0 : Fr [] σ0 σ0 := Fr_rfl
  refine En_Ps 1 (pc' := 1) (lv' := [(0, .ref 159)]) (st' := [.ref 159]) rfl ?_
  refine En_getU (j := 1) (u := 160) (g' := 36) (q := 0) rfl rfl rfl tgz_159 (by decide +kernel) hσ0 (by decide +kernel) un_36_160 (fun h1 => ?_)
  refine En_Ps 1 (pc' := 6) (lv' := [(0, .ref 159)]) (st' := [.int (((Int8.ofInt 7).toInt32)), .ref 160]) rfl ?_
  refine En_ialdK h_sc rfl (by decide : ((Int8.ofInt 7).toInt32).toInt = 7) tgz_160 (by decide +kernel) hσ0 (by decide) (lnI (by decide +kernel : LN _ = 226) (by decide)) ?_
  refine En_iLe _ rfl rfl (fun h4 => ?_) (fun h4 => ?_)
  · refine En_Ps 1 (pc' := 15) (lv' := [(0, .ref 159)]) (st' := [.int ((Int32.ofInt 0))]) rfl ?_
    refine En_top (by decide : (Int32.ofInt 0).toInt = 0) (fun z5 h6 => ?_)
    exact En_ret (v := some (Value.int z5)) rfl rfl (retZ rfl rfl (by first | exact q_55451d0a83 h6 | omega) (by first | exact q_87849c3859 h6 | omega)) ⟨hσ0, hF0, z5, rfl, ⟨by first | exact q_097a37c2ae h6 | omega, by first | exact q_e269517bee h6 | omega, fun _ => by omega, fun _ => by (first | exact q_35a72a35ef h4 | omega)⟩⟩
  · refine En_Ps 2 (pc' := 15) (lv' := [(0, .ref 159)]) (st' := [.int ((Int32.ofInt 1))]) rfl ?_
    refine En_top (by decide : (Int32.ofInt 1).toInt = 1) (fun z7 h8 => ?_)
    exact En_ret (v := some (Value.int z7)) rfl rfl (retZ rfl rfl (by first | exact q_2b07c97645 h8 | omega) (by first | exact q_d9e7cbb253 h8 | omega)) ⟨hσ0, hF0, z7, rfl, ⟨by first | exact q_ad3eee31ca h8 | omega, by first | exact q_81cf297dc4 h8 | omega, fun _ => by (first | exact q_f23a0149bf h4 | omega), fun _ => by omega⟩⟩
/-- DoorSchoolModel.knocks()I -/
abbrev P_269 (σ0 : SG) (s : Int32) (sc : Int32) : PO := fun v σ => WT σ ∧ Fr [] σ0 σ ∧ ∃ ret : Int32, v = some (Value.int ret) ∧ -ret.toInt ≤ 0 ∧ ret.toInt - 16 ≤ 0 ∧ ret.toInt = kI sc.toInt s.toInt
set_option maxRecDepth 10000 in
set_option maxHeartbeats 4000000 in
theorem c_269 (σ0 : SG) (hσ0 : WT σ0) (s : Int32) (h_s : (σ0 160)[(0 : Int).toNat]? = some (Value.int s)) (sc : Int32) (h_sc : (σ0 160)[(7 : Int).toNat]? = some (Value.int sc)) : En 1 20 none mr_269 (P_269 σ0 s sc) 0 [(0, .ref 159)] [] σ0 := by
  obtain ⟨hl_s, hu_s⟩ := WT_int hσ0 (g := 36) (by decide +kernel) (by decide +kernel) (l := 0) (u := 4) (by decide +kernel) h_s
  obtain ⟨hl_sc, hu_sc⟩ := WT_int hσ0 (g := 36) (by decide +kernel) (by decide +kernel) (l := 0) (u := 1600) (by decide +kernel) h_sc
  have hF0 : Fr [] σ0 σ0 := Fr_rfl
  have := kI_val sc.toInt s.toInt
  refine En_Ps 1 (pc' := 1) (lv' := [(0, .ref 159)]) (st' := [.ref 159]) rfl ?_
  refine En_callV rfl rfl rfl rfl rfl rfl rfl rfl tgz_159 (by decide +kernel) rfl (c_264 σ0 hσ0 sc h_sc) (by decide) (by decide) (fun v2 σ3 h1 => ?_)
  obtain ⟨h4, h5, z7, rfl, h6⟩ := h1
  have h8 := Fr_trans hF0 h5 (by decide +kernel)
  refine En_iEq _ rfl rfl (fun h9 => ?_) (fun h9 => ?_)
  · refine En_Ps 1 (pc' := 19) (lv' := [(0, .ref 159)]) (st' := [.int ((Int32.ofInt 0))]) rfl ?_
    refine En_top (by decide : (Int32.ofInt 0).toInt = 0) (fun z10 h11 => ?_)
    exact En_ret (v := some (Value.int z10)) rfl rfl rfl ⟨h4, h8, z10, rfl, (by (first | exact q_e8513144b6 h11 this.1 h6.2.2.2 h9 | omega))⟩
  · refine En_Ps 2 (pc' := 9) (lv' := [(0, .ref 159)]) (st' := [.ref 159, .int ((Int32.ofInt 1))]) rfl ?_
    refine En_getU (j := 1) (u := 160) (g' := 36) (q := 0) rfl rfl rfl tgz_159 (by decide +kernel) h4 (by decide +kernel) un_36_160 (fun h12 => ?_)
    refine En_Ps 1 (pc' := 13) (lv' := [(0, .ref 159)]) (st' := [.int ((Int32.ofInt 0)), .ref 160, .int ((Int32.ofInt 1))]) rfl ?_
    refine En_ialdK ((h5 _ _ (inWa tgz_160 (by decide +kernel))).trans h_s) rfl (by decide : (Int32.ofInt 0).toInt = 0) tgz_160 (by decide +kernel) h4 (by decide) (lnI (by decide +kernel : LN _ = 226) (by decide)) ?_
    refine En_Ps 1 (pc' := 15) (lv' := [(0, .ref 159)]) (st' := [.int ((((Int32.ofInt 1)) <<< (s &&& 31)))]) rfl ?_
    refine En_nam (fun z15 h16 => ?_)
    have h17 := shl1_v (y := s) rfl (by (first | exact q_58e6e51dcc hl_s | omega)) (by (first | exact q_c82ed93a8c hu_s | omega))
    rw [← h16] at h17
    have h18 := shl1_p (y := s) 4 rfl (by (first | exact q_58e6e51dcc hl_s | omega)) (by (first | exact q_584a054cc0 hu_s | omega)) (by decide)
    rw [← h16] at h18
    refine En_Ps 1 (pc' := 19) (lv' := [(0, .ref 159)]) (st' := [.int z15]) rfl ?_
    exact En_ret (v := some (Value.int z15)) rfl rfl rfl ⟨h4, h8, z15, rfl, (by omega)⟩
/-- DoorSchoolModel.bits(I)I of a small set -/
abbrev P_203a (σ0 : SG) (a : Int32) : PO := fun v σ => WT σ ∧ Fr [] σ0 σ ∧ ∃ ret : Int32, v = some (Value.int ret) ∧ -ret.toInt ≤ 0 ∧ ret.toInt - 4 ≤ 0 ∧ ret.toInt = bcI a.toInt
set_option maxRecDepth 10000 in
set_option maxHeartbeats 4000000 in
theorem c_203a (σ0 : SG) (hσ0 : WT σ0) (a : Int32) (hl_a : 0 ≤ a.toInt) (hu_a : a.toInt ≤ 15) : En 0 0 none mr_203 (P_203a σ0 a) 0 [(0, .int a)] [] σ0 := by
  have hF0 : Fr [] σ0 σ0 := Fr_rfl
  refine En_Ps 29 (pc' := 35) (lv' := [(2, .int ((((a - (((a.toUInt32 >>> ((Int32.ofInt 1).toUInt32 &&& Int32.toUInt32 31)).toInt32) &&& (1431655765 : Int32))) &&& (858993459 : Int32)) + ((((a - (((a.toUInt32 >>> ((Int32.ofInt 1).toUInt32 &&& Int32.toUInt32 31)).toInt32) &&& (1431655765 : Int32))).toUInt32 >>> ((Int32.ofInt 2).toUInt32 &&& Int32.toUInt32 31)).toInt32) &&& (858993459 : Int32))))), (1, .int ((a - (((a.toUInt32 >>> ((Int32.ofInt 1).toUInt32 &&& Int32.toUInt32 31)).toInt32) &&& (1431655765 : Int32))))), (0, .int a)]) (st' := [.int (((((((((a - (((a.toUInt32 >>> ((Int32.ofInt 1).toUInt32 &&& Int32.toUInt32 31)).toInt32) &&& (1431655765 : Int32))) &&& (858993459 : Int32)) + ((((a - (((a.toUInt32 >>> ((Int32.ofInt 1).toUInt32 &&& Int32.toUInt32 31)).toInt32) &&& (1431655765 : Int32))).toUInt32 >>> ((Int32.ofInt 2).toUInt32 &&& Int32.toUInt32 31)).toInt32) &&& (858993459 : Int32))) + (((((a - (((a.toUInt32 >>> ((Int32.ofInt 1).toUInt32 &&& Int32.toUInt32 31)).toInt32) &&& (1431655765 : Int32))) &&& (858993459 : Int32)) + ((((a - (((a.toUInt32 >>> ((Int32.ofInt 1).toUInt32 &&& Int32.toUInt32 31)).toInt32) &&& (1431655765 : Int32))).toUInt32 >>> ((Int32.ofInt 2).toUInt32 &&& Int32.toUInt32 31)).toInt32) &&& (858993459 : Int32))).toUInt32 >>> ((Int32.ofInt 4).toUInt32 &&& Int32.toUInt32 31)).toInt32)) &&& (252645135 : Int32)) * (16843009 : Int32)).toUInt32 >>> (((Int8.ofInt 24).toInt32).toUInt32 &&& Int32.toUInt32 31)).toInt32))]) rfl ?_
  refine En_nam (fun z hz => ?_)
  have hb := bits_small (fun x => ((((((((x - (((x.toUInt32 >>> ((Int32.ofInt 1).toUInt32 &&& Int32.toUInt32 31)).toInt32) &&& (1431655765 : Int32))) &&& (858993459 : Int32)) + ((((x - (((x.toUInt32 >>> ((Int32.ofInt 1).toUInt32 &&& Int32.toUInt32 31)).toInt32) &&& (1431655765 : Int32))).toUInt32 >>> ((Int32.ofInt 2).toUInt32 &&& Int32.toUInt32 31)).toInt32) &&& (858993459 : Int32))) + (((((x - (((x.toUInt32 >>> ((Int32.ofInt 1).toUInt32 &&& Int32.toUInt32 31)).toInt32) &&& (1431655765 : Int32))) &&& (858993459 : Int32)) + ((((x - (((x.toUInt32 >>> ((Int32.ofInt 1).toUInt32 &&& Int32.toUInt32 31)).toInt32) &&& (1431655765 : Int32))).toUInt32 >>> ((Int32.ofInt 2).toUInt32 &&& Int32.toUInt32 31)).toInt32) &&& (858993459 : Int32))).toUInt32 >>> ((Int32.ofInt 4).toUInt32 &&& Int32.toUInt32 31)).toInt32)) &&& (252645135 : Int32)) * (16843009 : Int32)).toUInt32 >>> (((Int8.ofInt 24).toInt32).toUInt32 &&& Int32.toUInt32 31)).toInt32)) hz (by decide +kernel) hl_a hu_a
  have hr := bcI_rng a.toInt
  exact En_ret (v := some (Value.int z)) rfl rfl rfl ⟨hσ0, hF0, z, rfl, (by (first | exact q_ce10a64c12 hb hr.1 hr.2 | omega))⟩
/-- DoorSchoolModel.bits(I)I -/
abbrev P_203b (σ0 : SG) (a : Int32) : PO := fun v σ => WT σ ∧ Fr [] σ0 σ ∧ ∃ ret : Int32, v = some (Value.int ret) ∧ True
set_option maxRecDepth 10000 in
set_option maxHeartbeats 4000000 in
theorem c_203b (σ0 : SG) (hσ0 : WT σ0) (a : Int32) : En 0 0 none mr_203 (P_203b σ0 a) 0 [(0, .int a)] [] σ0 := by
  have hF0 : Fr [] σ0 σ0 := Fr_rfl
  refine En_Ps 4 (pc' := 4) (lv' := [(0, .int a)]) (st' := [.int (((a.toUInt32 >>> (((Int32.ofInt 1)).toUInt32 &&& Int32.toUInt32 31)).toInt32)), .int a]) rfl ?_
  refine En_hav (fun z1 => ?_)
  refine En_Ps 2 (pc' := 7) (lv' := [(0, .int a)]) (st' := [.int ((z1 &&& ((1431655765 : Int32)))), .int a]) rfl ?_
  refine En_rng (l := 0) (u := 1431655765) (andR_rng (by decide : (1431655765 : Int32).toInt = 1431655765) (by decide)) (fun z2 h3 h4 => ?_)
  refine En_Ps 1 (pc' := 8) (lv' := [(0, .int a)]) (st' := [.int ((a - z2))]) rfl ?_
  refine En_hav (fun z5 => ?_)
  refine En_Ps 4 (pc' := 13) (lv' := [(1, .int z5), (0, .int a)]) (st' := [.int ((z5 &&& ((858993459 : Int32))))]) rfl ?_
  refine En_rng (l := 0) (u := 858993459) (andR_rng (by decide : (858993459 : Int32).toInt = 858993459) (by decide)) (fun z6 h7 h8 => ?_)
  refine En_Ps 3 (pc' := 16) (lv' := [(1, .int z5), (0, .int a)]) (st' := [.int (((z5.toUInt32 >>> (((Int32.ofInt 2)).toUInt32 &&& Int32.toUInt32 31)).toInt32)), .int z6]) rfl ?_
  refine En_hav (fun z9 => ?_)
  refine En_Ps 2 (pc' := 19) (lv' := [(1, .int z5), (0, .int a)]) (st' := [.int ((z9 &&& ((858993459 : Int32)))), .int z6]) rfl ?_
  refine En_rng (l := 0) (u := 858993459) (andR_rng (by decide : (858993459 : Int32).toInt = 858993459) (by decide)) (fun z10 h11 h12 => ?_)
  refine En_Ps 1 (pc' := 20) (lv' := [(1, .int z5), (0, .int a)]) (st' := [.int ((z6 + z10))]) rfl ?_
  refine En_top (addI rfl rfl (by first | exact q_3bb374bebc h7 h11 | omega) (by first | exact q_ce39e5e0e0 h8 h12 | omega)) (fun z13 h14 => ?_)
  refine En_Ps 5 (pc' := 25) (lv' := [(2, .int z13), (1, .int z5), (0, .int a)]) (st' := [.int (((z13.toUInt32 >>> (((Int32.ofInt 4)).toUInt32 &&& Int32.toUInt32 31)).toInt32)), .int z13]) rfl ?_
  refine En_hav (fun z15 => ?_)
  refine En_Ps 1 (pc' := 26) (lv' := [(2, .int z13), (1, .int z5), (0, .int a)]) (st' := [.int ((z13 + z15))]) rfl ?_
  refine En_hav (fun z16 => ?_)
  refine En_Ps 2 (pc' := 29) (lv' := [(2, .int z13), (1, .int z5), (0, .int a)]) (st' := [.int ((z16 &&& ((252645135 : Int32))))]) rfl ?_
  refine En_rng (l := 0) (u := 252645135) (andR_rng (by decide : (252645135 : Int32).toInt = 252645135) (by decide)) (fun z17 h18 h19 => ?_)
  refine En_Ps 2 (pc' := 32) (lv' := [(2, .int z13), (1, .int z5), (0, .int a)]) (st' := [.int ((z17 * ((16843009 : Int32))))]) rfl ?_
  refine En_hav (fun z20 => ?_)
  refine En_Ps 2 (pc' := 35) (lv' := [(2, .int z13), (1, .int z5), (0, .int a)]) (st' := [.int (((z20.toUInt32 >>> ((((Int8.ofInt 24).toInt32)).toUInt32 &&& Int32.toUInt32 31)).toInt32))]) rfl ?_
  refine En_hav (fun z21 => ?_)
  exact En_ret (v := some (Value.int z21)) rfl rfl rfl ⟨hσ0, hF0, z21, rfl, trivial⟩
end
/-! 32.ly.m01 -/
section
/-- DoorSchoolModel.deedsOf(II)I -/
abbrev P_212 (σ0 : SG) (a : Int32) (b : Int32) : PO := fun v σ => WT σ ∧ Fr [] σ0 σ ∧ ∃ ret : Int32, v = some (Value.int ret) ∧ -ret.toInt ≤ 0 ∧ ret.toInt - 65535 ≤ 0
set_option maxRecDepth 10000 in
set_option maxHeartbeats 4000000 in
theorem c_212 (σ0 : SG) (hσ0 : WT σ0) (a : Int32) (b : Int32) : En 2 40 none mr_212 (P_212 σ0 a b) 0 [(0, .ref 159), (1, .int a), (2, .int b)] [] σ0 := by
  have hF0 : Fr [] σ0 σ0 := Fr_rfl
  refine En_Ps 4 (pc' := 5) (lv' := [(4, .int ((Int32.ofInt 0))), (3, .int ((Int32.ofInt 0))), (0, .ref 159), (1, .int a), (2, .int b)]) (st' := []) rfl ?_
  have key5 : ∀ (n5 : Nat) (σ3 : SG) (y1 : Int32) (y2 : Int32), WT σ3 → Fr [] σ0 σ3 → 0 ≤ y1.toInt → y1.toInt ≤ 65535 → 0 ≤ y2.toInt → y2.toInt ≤ 16 → -y2.toInt + 16 < (n5 : Int) → En 2 40 none mr_212 (P_212 σ0 a b) 5 [(0, .ref 159), (1, .int a), (2, .int b), (3, .int y1), (4, .int y2)] [] σ3 := by
    intro n5
    induction n5 with
    | zero =>
      intro σ3 y1 y2 h4 h5 h6 h7 h8 h9 h10
      first | exact (q_511f6d33ac h10 h9).elim | (exfalso; omega)
    | succ n5 ih5 =>
      intro σ3 y1 y2 h4 h5 h6 h7 h8 h9 h10
      refine En_Ps 2 (pc' := 8) (lv' := [(0, .ref 159), (1, .int a), (2, .int b), (3, .int y1), (4, .int y2)]) (st' := [.ref 159, .int y2]) rfl ?_
      obtain ⟨z12, h11, h13, h14⟩ := WT_peekI h4 tgz_160 (by decide +kernel : FT 36 (0 : Int).toNat = (0, 0, 4)) (by decide +kernel)
      obtain ⟨z16, h15, h17, h18⟩ := WT_peekI h4 tgz_160 (by decide +kernel : FT 36 (7 : Int).toNat = (0, 0, 1600)) (by decide +kernel)
      refine En_callV rfl rfl rfl rfl rfl rfl rfl rfl tgz_159 (by decide +kernel) rfl (c_269 σ3 h4 z12 h11 z16 h15) (by decide) (by decide) (fun v20 σ21 h19 => ?_)
      obtain ⟨h22, h23, z25, rfl, h24⟩ := h19
      have h26 := h24.2.2
      have h27 := Fr_trans h5 h23 (by decide +kernel)
      refine En_icGe _ rfl rfl rfl (fun h28 => ?_) (fun h28 => ?_)
      · refine En_Ps 1 (pc' := 40) (lv' := [(0, .ref 159), (1, .int a), (2, .int b), (3, .int y1), (4, .int y2)]) (st' := [.int y1]) rfl ?_
        exact En_ret (v := some (Value.int y1)) rfl rfl rfl ⟨h22, h27, y1, rfl, ⟨by first | exact q_c803b490ef h6 | omega, by first | exact q_e7edf0f95a h7 | omega⟩⟩
      · refine En_Ps 4 (pc' := 19) (lv' := [(0, .ref 159), (1, .int a), (2, .int b), (3, .int y1), (4, .int y2)]) (st' := [.int ((y2 &&& a)), .int y1]) rfl ?_
        refine En_rng (l := 0) (u := 15) (andx_rng rfl (by (first | exact q_58e6e51dcc h8 | omega)) (by (first | exact q_c15b485600 h28 h24.2.1 | omega))) (fun z29 h30 h31 => ?_)
        refine En_Ps 1 (pc' := 20) (lv' := [(0, .ref 159), (1, .int a), (2, .int b), (3, .int y1), (4, .int y2)]) (st' := [.int b, .int z29, .int y1]) rfl ?_
        refine En_icNe _ rfl rfl rfl (fun h32 => ?_) (fun h32 => ?_)
        · refine En_Ps 2 (pc' := 32) (lv' := [(0, .ref 159), (1, .int a), (2, .int b), (3, .int y1), (4, .int y2)]) (st' := [.int ((y1 ||| ((Int32.ofInt 0))))]) rfl ?_
          refine En_rng (l := 0) (u := 65535) (or_rng 16 rfl (by decide : (Int32.ofInt 0).toInt = 0) (by (first | exact q_58e6e51dcc h6 | omega)) (by omega) (by (first | decide | omega)) (by omega) (by decide)) (fun z33 h34 h35 => ?_)
          refine En_Ps 2 (pc' := 36) (lv' := [(4, .int ((y2 + Int32.ofInt 1))), (3, .int z33), (0, .ref 159), (1, .int a), (2, .int b)]) (st' := []) rfl ?_
          refine En_lv1 (addI rfl (by decide : (Int32.ofInt 1).toInt = 1) (by first | exact q_465ab79ac1 h8 | omega) (by first | exact q_f3f8e04381 h9 | omega)) (fun z36 h37 => ?_)
          refine En_Ps 1 (pc' := 5) (lv' := [(4, .int z36), (3, .int z33), (0, .ref 159), (1, .int a), (2, .int b)]) (st' := []) rfl ?_
          refine En_lv (lv := [(0, .ref 159), (1, .int a), (2, .int b), (3, .int z33), (4, .int z36)]) ⟨rfl, rfl, rfl, rfl, rfl, trivial⟩ ?_
          exact ih5 σ21 z33 z36 h22 h27 (by first | exact q_58e6e51dcc h34 | omega) (by first | exact q_36eb0a70bf h35 | omega) (by first | exact q_35104ce9d3 h37 h8 | omega) (by first | exact q_34dc714687 h37 h28 h24.2.1 | omega) (by first | exact q_c5d740bdff h37 h10 | omega)
        · refine En_Ps 3 (pc' := 27) (lv' := [(0, .ref 159), (1, .int a), (2, .int b), (3, .int y1), (4, .int y2)]) (st' := [.int ((((Int32.ofInt 1)) <<< (y2 &&& 31))), .int y1]) rfl ?_
          refine En_rng (shl1_p 15 rfl (by (first | exact q_58e6e51dcc h8 | omega)) (by (first | exact q_e19f9506e1 h28 h24.2.1 | omega)) (by decide)) (fun z38 h39 h40 => ?_)
          refine En_Ps 2 (pc' := 32) (lv' := [(0, .ref 159), (1, .int a), (2, .int b), (3, .int y1), (4, .int y2)]) (st' := [.int ((y1 ||| z38))]) rfl ?_
          refine En_rng (l := 0) (u := 65535) (or_rng 16 rfl rfl (by (first | exact q_58e6e51dcc h6 | omega)) (by omega) (by (first | exact q_337a85e294 h39 | omega)) (by omega) (by decide)) (fun z41 h42 h43 => ?_)
          refine En_Ps 2 (pc' := 36) (lv' := [(4, .int ((y2 + Int32.ofInt 1))), (3, .int z41), (0, .ref 159), (1, .int a), (2, .int b)]) (st' := []) rfl ?_
          refine En_lv1 (addI rfl (by decide : (Int32.ofInt 1).toInt = 1) (by first | exact q_465ab79ac1 h8 | omega) (by first | exact q_f3f8e04381 h9 | omega)) (fun z44 h45 => ?_)
          refine En_Ps 1 (pc' := 5) (lv' := [(4, .int z44), (3, .int z41), (0, .ref 159), (1, .int a), (2, .int b)]) (st' := []) rfl ?_
          refine En_lv (lv := [(0, .ref 159), (1, .int a), (2, .int b), (3, .int z41), (4, .int z44)]) ⟨rfl, rfl, rfl, rfl, rfl, trivial⟩ ?_
          exact ih5 σ21 z41 z44 h22 h27 (by first | exact q_58e6e51dcc h42 | omega) (by first | exact q_36eb0a70bf h43 | omega) (by first | exact q_35104ce9d3 h45 h8 | omega) (by first | exact q_34dc714687 h45 h28 h24.2.1 | omega) (by first | exact q_c5d740bdff h45 h10 | omega)
  have := (by decide : (Int32.ofInt 0).toInt = 0)
  have := (by decide : (Int32.ofInt 0).toInt = 0)
  refine En_lv (lv := [(0, .ref 159), (1, .int a), (2, .int b), (3, .int ((Int32.ofInt 0))), (4, .int ((Int32.ofInt 0)))]) ⟨rfl, rfl, rfl, rfl, rfl, trivial⟩ ?_
  exact key5 (Int.toNat (16) + 1) σ0 ((Int32.ofInt 0)) ((Int32.ofInt 0)) hσ0 hF0 (by decide) (by decide) (by decide) (by decide) (by first | exact toN_lt _ | omega)
/-- DoorSchoolModel.layRules()V -/
abbrev P_272 (σ0 : SG) (s : Int32) (sc : Int32) : PO := fun v σ => WT σ ∧ Fr [(35, 18), (42, 0), (43, 0), (44, 0)] σ0 σ ∧ v = none ∧ True
set_option maxRecDepth 10000 in
set_option maxHeartbeats 4000000 in
theorem c_272 (σ0 : SG) (hσ0 : WT σ0) (s : Int32) (h_s : (σ0 160)[(0 : Int).toNat]? = some (Value.int s)) (sc : Int32) (h_sc : (σ0 160)[(7 : Int).toNat]? = some (Value.int sc)) : En 3 64 none mr_272 (P_272 σ0 s sc) 0 [(0, .ref 159)] [] σ0 := by
  obtain ⟨hl_s, hu_s⟩ := WT_int hσ0 (g := 36) (by decide +kernel) (by decide +kernel) (l := 0) (u := 4) (by decide +kernel) h_s
  obtain ⟨hl_sc, hu_sc⟩ := WT_int hσ0 (g := 36) (by decide +kernel) (by decide +kernel) (l := 0) (u := 1600) (by decide +kernel) h_sc
  have hF0 : Fr [(35, 18), (42, 0), (43, 0), (44, 0)] σ0 σ0 := Fr_rfl
  refine En_Ps 2 (pc' := 2) (lv' := [(0, .ref 159)]) (st' := [.int ((Int32.ofInt 0)), .ref 159]) rfl ?_
  refine En_put (j := 18) rfl rfl rfl tgz_159 (by decide +kernel) rfl (vI (l := 0) (u := 81) (by decide +kernel) (by decide : (Int32.ofInt 0).toInt = 0) (by decide) (by decide)) hσ0 hF0 (by decide +kernel) (fun σ1 h2 h3 h4 h5 => ?_)
  refine En_Ps 2 (pc' := 7) (lv' := [(1, .int ((Int32.ofInt 0))), (0, .ref 159)]) (st' := []) rfl ?_
  have key7 : ∀ (n7 : Nat) (σ8 : SG) (y6 : Int32) (y7 : Int32), WT σ8 → Fr [(35, 18), (42, 0), (43, 0), (44, 0)] σ0 σ8 → (σ8 160)[(0 : Int).toNat]? = some (Value.int s) → (σ8 160)[(7 : Int).toNat]? = some (Value.int sc) → (σ8 159)[18]? = some (Value.int y7) → 0 ≤ y6.toInt → y6.toInt ≤ 5 → 0 ≤ y7.toInt → y7.toInt ≤ 81 → -y6.toInt + 5 < (n7 : Int) → RN (kI sc.toInt s.toInt) (y6.toInt) 0 (y7.toInt) → En 3 64 none mr_272 (P_272 σ0 s sc) 7 [(0, .ref 159), (1, .int y6)] [] σ8 := by
    intro n7
    induction n7 with
    | zero =>
      intro σ8 y6 y7 h9 h10 h11 h12 h13 h14 h15 h16 h17 h18 h19
      first | exact (q_94ef5d5129 h18 h15).elim | (exfalso; omega)
    | succ n7 ih7 =>
      intro σ8 y6 y7 h9 h10 h11 h12 h13 h14 h15 h16 h17 h18 h19
      refine En_Ps 2 (pc' := 9) (lv' := [(0, .ref 159), (1, .int y6)]) (st' := [.ref 159, .int y6]) rfl ?_
      refine En_getU (j := 1) (u := 160) (g' := 36) (q := 0) rfl rfl rfl tgz_159 (by decide +kernel) h9 (by decide +kernel) un_36_160 (fun h20 => ?_)
      refine En_Ps 1 (pc' := 13) (lv' := [(0, .ref 159), (1, .int y6)]) (st' := [.int ((Int32.ofInt 0)), .ref 160, .int y6]) rfl ?_
      refine En_ialdK h11 rfl (by decide : (Int32.ofInt 0).toInt = 0) tgz_160 (by decide +kernel) h9 (by decide) (lnI (by decide +kernel : LN _ = 226) (by decide)) ?_
      refine En_icGt _ rfl rfl rfl (fun h23 => ?_) (fun h23 => ?_)
      · exact En_ret (v := none) rfl rfl rfl ⟨h9, h10, rfl, trivial⟩
      · refine En_Ps 2 (pc' := 19) (lv' := [(2, .int ((Int32.ofInt 0))), (0, .ref 159), (1, .int y6)]) (st' := []) rfl ?_
        have key19 : ∀ (n19 : Nat) (σ26 : SG) (y24 : Int32) (y25 : Int32), WT σ26 → Fr [(35, 18), (42, 0), (43, 0), (44, 0)] σ0 σ26 → (σ26 160)[(0 : Int).toNat]? = some (Value.int s) → (σ26 160)[(7 : Int).toNat]? = some (Value.int sc) → (σ26 159)[1]? = some (Value.ref 160) → (σ26 159)[18]? = some (Value.int y25) → 0 ≤ y24.toInt → y24.toInt ≤ 16 → 0 ≤ y25.toInt → y25.toInt ≤ 81 → -y24.toInt + 16 < (n19 : Int) → RN (kI sc.toInt s.toInt) (y6.toInt) (y24.toInt) (y25.toInt) → En 3 64 none mr_272 (P_272 σ0 s sc) 19 [(0, .ref 159), (1, .int y6), (2, .int y24)] [] σ26 := by
          intro n19
          induction n19 with
          | zero =>
            intro σ26 y24 y25 h27 h28 h29 h30 h31 h32 h33 h34 h35 h36 h37 h38
            first | exact (q_511f6d33ac h37 h34).elim | (exfalso; omega)
          | succ n19 ih19 =>
            intro σ26 y24 y25 h27 h28 h29 h30 h31 h32 h33 h34 h35 h36 h37 h38
            refine En_Ps 2 (pc' := 21) (lv' := [(0, .ref 159), (1, .int y6), (2, .int y24)]) (st' := [.ref 159, .int y24]) rfl ?_
            refine En_callV rfl rfl rfl rfl rfl rfl rfl rfl tgz_159 (by decide +kernel) rfl (c_269 σ26 h27 s h29 sc h30) (by decide) (by decide) (fun v40 σ41 h39 => ?_)
            obtain ⟨h42, h43, z45, rfl, h44⟩ := h39
            have h46 := h44.2.2
            have h47 := Fr_trans h28 h43 (by decide +kernel)
            refine En_icGe _ rfl rfl rfl (fun h48 => ?_) (fun h48 => ?_)
            · refine En_Ps 1 (pc' := 116) (lv' := [(1, .int ((y6 + Int32.ofInt 1))), (0, .ref 159), (2, .int y24)]) (st' := []) rfl ?_
              refine En_lv1 (addI rfl (by decide : (Int32.ofInt 1).toInt = 1) (by first | exact q_465ab79ac1 h14 | omega) (by first | exact q_aeda34609f h15 | omega)) (fun z49 h50 => ?_)
              refine En_Ps 1 (pc' := 7) (lv' := [(1, .int z49), (0, .ref 159), (2, .int y24)]) (st' := []) rfl ?_
              refine En_lv (lv := [(0, .ref 159), (1, .int z49)]) ⟨rfl, rfl, trivial⟩ ?_
              exact ih7 σ41 z49 y25 h42 h47 ((h43 _ _ (inWa tgz_160 (by decide +kernel))).trans h29) ((h43 _ _ (inWa tgz_160 (by decide +kernel))).trans h30) ((h43 _ _ (inW tgz_159 (by decide +kernel))).trans h32) (by first | exact q_35104ce9d3 h50 h14 | omega) (by first | exact q_45f670d5d5 h50 h23 hu_s | omega) (by first | exact q_58e6e51dcc h35 | omega) (by first | exact q_938d18a0b8 h36 | omega) (by first | exact q_4f8c136792 h50 h18 | omega) (by first | exact RN_eq h38 (by omega) (by omega) (by (first | exact q_61ddd2b576 | omega)) | exact RN_skip h38 (by omega) (by omega) (by omega) (by omega) (by omega) | exact RN_x h38 (by omega) (by omega) (by omega) (by omega) | exact RN_n h38 (by omega) (by omega) (by omega) (by omega) (by omega) | exact RV_in h38 (by omega) (by omega) (by omega) (by omega) (by omega) (by omega) | exact RV_put h38 (by omega) (by omega) (by omega) (by omega) (by omega) (by omega) | exact RV_not h38 (by omega) (by omega) (by omega) (by omega) (by omega) (by omega))
            · refine En_Ps 1 (pc' := 28) (lv' := [(0, .ref 159), (1, .int y6), (2, .int y24)]) (st' := [.int y24]) rfl ?_
              refine En_callS rfl rfl rfl rfl rfl rfl rfl rfl rfl (c_203a σ41 h42 y24 (geI rfl (by first | exact q_58e6e51dcc h33 | omega)) (leI rfl (by first | exact q_c15b485600 h48 h44.2.1 | omega))) (by decide) (by decide) (fun v52 σ53 h51 => ?_)
              obtain ⟨h54, h55, z57, rfl, h56⟩ := h51
              have h58 := h56.2.2
              have h59 := Fr_trans h47 h55 (by decide +kernel)
              refine En_Ps 1 (pc' := 32) (lv' := [(0, .ref 159), (1, .int y6), (2, .int y24)]) (st' := [.int y6, .int z57]) rfl ?_
              refine En_icEq _ rfl rfl rfl (fun h60 => ?_) (fun h60 => ?_)
              · refine En_Ps 2 (pc' := 40) (lv' := [(3, .int ((Int32.ofInt 0))), (0, .ref 159), (1, .int y6), (2, .int y24)]) (st' := []) rfl ?_
                have key40 : ∀ (n40 : Nat) (σ63 : SG) (y61 : Int32) (y62 : Int32), WT σ63 → Fr [(35, 18), (42, 0), (43, 0), (44, 0)] σ0 σ63 → (σ63 160)[(0 : Int).toNat]? = some (Value.int s) → (σ63 160)[(7 : Int).toNat]? = some (Value.int sc) → (σ63 159)[1]? = some (Value.ref 160) → (σ63 159)[18]? = some (Value.int y62) → 0 ≤ y61.toInt → y61.toInt ≤ 16 → 0 ≤ y62.toInt → y62.toInt ≤ 81 → -y61.toInt + 16 < (n40 : Int) → RV (kI sc.toInt s.toInt) (y6.toInt) (y24.toInt) (y61.toInt) (y62.toInt) → En 3 64 none mr_272 (P_272 σ0 s sc) 40 [(0, .ref 159), (1, .int y6), (2, .int y24), (3, .int y61)] [] σ63 := by
                  intro n40
                  induction n40 with
                  | zero =>
                    intro σ63 y61 y62 h64 h65 h66 h67 h68 h69 h70 h71 h72 h73 h74 h75
                    first | exact (q_511f6d33ac h74 h71).elim | (exfalso; omega)
                  | succ n40 ih40 =>
                    intro σ63 y61 y62 h64 h65 h66 h67 h68 h69 h70 h71 h72 h73 h74 h75
                    refine En_Ps 2 (pc' := 42) (lv' := [(0, .ref 159), (1, .int y6), (2, .int y24), (3, .int y61)]) (st' := [.int y24, .int y61]) rfl ?_
                    refine En_icGt _ rfl rfl rfl (fun h76 => ?_) (fun h76 => ?_)
                    · refine En_Ps 1 (pc' := 110) (lv' := [(2, .int ((y24 + Int32.ofInt 1))), (0, .ref 159), (1, .int y6), (3, .int y61)]) (st' := []) rfl ?_
                      refine En_lv1 (addI rfl (by decide : (Int32.ofInt 1).toInt = 1) (by first | exact q_465ab79ac1 h33 | omega) (by first | exact q_f3f8e04381 h34 | omega)) (fun z77 h78 => ?_)
                      refine En_Ps 1 (pc' := 19) (lv' := [(2, .int z77), (0, .ref 159), (1, .int y6), (3, .int y61)]) (st' := []) rfl ?_
                      refine En_lv (lv := [(0, .ref 159), (1, .int y6), (2, .int z77)]) ⟨rfl, rfl, rfl, trivial⟩ ?_
                      exact ih19 σ63 z77 y62 h64 h65 h66 h67 h68 h69 (by first | exact q_35104ce9d3 h78 h33 | omega) (by first | exact q_eba8fd3b5f h78 h76 h71 | omega) (by first | exact q_58e6e51dcc h72 | omega) (by first | exact q_938d18a0b8 h73 | omega) (by first | exact q_c5d740bdff h78 h37 | omega) (by first | exact RN_eq h75 (by omega) (by omega) (by omega) | exact RN_skip h75 (by omega) (by omega) (by omega) (by omega) (by omega) | exact RN_x h75 (by (first | exact q_114b7bcb5b h76 | omega)) (by (first | exact q_61ddd2b576 | omega)) (by (first | exact q_ba1b2c713b h78 | omega)) (by (first | exact q_61ddd2b576 | omega)) | exact RN_n h75 (by omega) (by omega) (by omega) (by omega) (by omega) | exact RV_in h75 (by omega) (by omega) (by omega) (by omega) (by omega) (by omega) | exact RV_put h75 (by omega) (by omega) (by omega) (by omega) (by omega) (by omega) | exact RV_not h75 (by omega) (by omega) (by omega) (by omega) (by omega) (by omega))
                    · refine En_Ps 4 (pc' := 49) (lv' := [(0, .ref 159), (1, .int y6), (2, .int y24), (3, .int y61)]) (st' := [.int ((y24 ^^^ ((Int32.ofInt (-1))))), .int y61]) rfl ?_
                      refine En_nam (fun z79 h80 => ?_)
                      refine En_Ps 1 (pc' := 50) (lv' := [(0, .ref 159), (1, .int y6), (2, .int y24), (3, .int y61)]) (st' := [.int ((y61 &&& z79))]) rfl ?_
                      refine En_nam (fun z81 h82 => ?_)
                      obtain ⟨h83, h84⟩ := andn_rng h82 rfl (by (first | exact q_58e6e51dcc h70 | omega)) (by (first | exact q_44d807139a h76 h48 h44.2.1 | omega) : _ ≤ (15 : Int))
                      refine En_iEq _ rfl rfl (fun h85 => ?_) (fun h85 => ?_)
                      · obtain ⟨h86, h87⟩ := andn_zero h82 h80 h85 rfl rfl (by (first | exact q_58e6e51dcc h33 | omega))
                        have := sub_sb h82 h80 rfl rfl (by (first | exact q_58e6e51dcc h86 | omega)) (by (first | exact q_44d807139a h87 h48 h44.2.1 | omega)) (by (first | exact q_58e6e51dcc h33 | omega)) (by (first | exact q_c15b485600 h48 h44.2.1 | omega))
                        have h88 := RV_le h75 (by (first | exact q_7b14c78c18 h87 | omega))
                        refine En_Ps 1 (pc' := 57) (lv' := [(0, .ref 159), (1, .int y6), (2, .int y24), (3, .int y61)]) (st' := [.ref 159]) rfl ?_
                        refine En_getU (j := 15) (u := 166) (g' := 42) (q := 0) rfl rfl rfl tgz_159 (by decide +kernel) h64 (by decide +kernel) un_42_166 (fun h89 => ?_)
                        refine En_Ps 1 (pc' := 61) (lv' := [(0, .ref 159), (1, .int y6), (2, .int y24), (3, .int y61)]) (st' := [.ref 159, .ref 166]) rfl ?_
                        refine En_getK (j := 18) h69 rfl rfl rfl tgz_159 (by decide +kernel) ?_
                        refine En_Ps 1 (pc' := 65) (lv' := [(0, .ref 159), (1, .int y6), (2, .int y24), (3, .int y61)]) (st' := [.int y24, .int y62, .ref 166]) rfl ?_
                        refine En_iast (l := 0) (u := 15) rfl rfl tgz_166 (by decide +kernel) (by first | exact q_58e6e51dcc h72 | omega) (lnI (by decide +kernel : LN _ = 81) (by (first | exact q_4361698ff4 h88.1 | omega))) (FTsgl (by decide +kernel)) (rngI rfl (by first | exact q_58e6e51dcc h33 | omega) (by first | exact q_c15b485600 h48 h44.2.1 | omega)) h64 h65 (by decide +kernel) (fun σ91 h92 h93 h94 h95 => ?_)
                        refine En_Ps 1 (pc' := 67) (lv' := [(0, .ref 159), (1, .int y6), (2, .int y24), (3, .int y61)]) (st' := [.ref 159]) rfl ?_
                        refine En_getU (j := 16) (u := 167) (g' := 43) (q := 0) rfl rfl rfl tgz_159 (by decide +kernel) h92 (by decide +kernel) un_43_167 (fun h96 => ?_)
                        refine En_Ps 1 (pc' := 71) (lv' := [(0, .ref 159), (1, .int y6), (2, .int y24), (3, .int y61)]) (st' := [.ref 159, .ref 167]) rfl ?_
                        refine En_getK (j := 18) ((h95 _ _ (Or.inl (neTG tgz_159 tgz_166 (by decide)))).trans h69) rfl rfl rfl tgz_159 (by decide +kernel) ?_
                        refine En_Ps 1 (pc' := 75) (lv' := [(0, .ref 159), (1, .int y6), (2, .int y24), (3, .int y61)]) (st' := [.int y61, .int y62, .ref 167]) rfl ?_
                        refine En_iast (l := 0) (u := 15) rfl rfl tgz_167 (by decide +kernel) (by first | exact q_58e6e51dcc h72 | omega) (lnI (by decide +kernel : LN _ = 81) (by (first | exact q_4361698ff4 h88.1 | omega))) (FTsgl (by decide +kernel)) (rngI rfl (by first | exact q_58e6e51dcc h70 | omega) (by first | exact q_44d807139a h76 h48 h44.2.1 | omega)) h92 h93 (by decide +kernel) (fun σ98 h99 h100 h101 h102 => ?_)
                        refine En_Ps 1 (pc' := 77) (lv' := [(0, .ref 159), (1, .int y6), (2, .int y24), (3, .int y61)]) (st' := [.ref 159]) rfl ?_
                        refine En_getU (j := 17) (u := 168) (g' := 44) (q := 0) rfl rfl rfl tgz_159 (by decide +kernel) h99 (by decide +kernel) un_44_168 (fun h103 => ?_)
                        refine En_Ps 1 (pc' := 81) (lv' := [(0, .ref 159), (1, .int y6), (2, .int y24), (3, .int y61)]) (st' := [.ref 159, .ref 168]) rfl ?_
                        refine En_getK (j := 18) ((h102 _ _ (Or.inl (neTG tgz_159 tgz_167 (by decide)))).trans ((h95 _ _ (Or.inl (neTG tgz_159 tgz_166 (by decide)))).trans h69)) rfl rfl rfl tgz_159 (by decide +kernel) ?_
                        refine En_Ps 3 (pc' := 87) (lv' := [(0, .ref 159), (1, .int y6), (2, .int y24), (3, .int y61)]) (st' := [.int y61, .int y24, .ref 159, .int y62, .ref 168]) rfl ?_
                        refine En_callV rfl rfl rfl rfl rfl rfl rfl rfl tgz_159 (by decide +kernel) rfl (c_212 σ98 h99 y24 y61) (by decide) (by decide) (fun v106 σ107 h105 => ?_)
                        obtain ⟨h108, h109, z111, rfl, h110⟩ := h105
                        have h112 := Fr_trans h100 h109 (by decide +kernel)
                        refine En_iast (l := (-2147483648)) (u := 2147483647) rfl rfl tgz_168 (by decide +kernel) (by first | exact q_58e6e51dcc h72 | omega) (lnI (by decide +kernel : LN _ = 81) (by (first | exact q_4361698ff4 h88.1 | omega))) (FTsgl (by decide +kernel)) (fullI _) h108 h112 (by decide +kernel) (fun σ113 h114 h115 h116 h117 => ?_)
                        refine En_Ps 2 (pc' := 93) (lv' := [(0, .ref 159), (1, .int y6), (2, .int y24), (3, .int y61)]) (st' := [.ref 159, .ref 159]) rfl ?_
                        refine En_getK (j := 18) ((h117 _ _ (Or.inl (neTG tgz_159 tgz_168 (by decide)))).trans ((h109 _ _ (inW tgz_159 (by decide +kernel))).trans ((h102 _ _ (Or.inl (neTG tgz_159 tgz_167 (by decide)))).trans ((h95 _ _ (Or.inl (neTG tgz_159 tgz_166 (by decide)))).trans h69)))) rfl rfl rfl tgz_159 (by decide +kernel) ?_
                        refine En_Ps 2 (pc' := 98) (lv' := [(0, .ref 159), (1, .int y6), (2, .int y24), (3, .int y61)]) (st' := [.int ((y62 + ((Int32.ofInt 1)))), .ref 159]) rfl ?_
                        refine En_top (addI rfl (by decide : (Int32.ofInt 1).toInt = 1) (by first | exact q_465ab79ac1 h72 | omega) (by first | exact q_d778ff18c8 h73 | omega)) (fun z118 h119 => ?_)
                        refine En_put (j := 18) rfl rfl rfl tgz_159 (by decide +kernel) rfl (vI (l := 0) (u := 81) (by decide +kernel) rfl (by first | exact q_35104ce9d3 h119 h72 | omega) (by (first | exact q_46b8d9d66b h119 h88.1 | omega))) h114 h115 (by decide +kernel) (fun σ120 h121 h122 h123 h124 => ?_)
                        refine En_Ps 1 (pc' := 104) (lv' := [(3, .int ((y61 + Int32.ofInt 1))), (0, .ref 159), (1, .int y6), (2, .int y24)]) (st' := []) rfl ?_
                        refine En_lv1 (addI rfl (by decide : (Int32.ofInt 1).toInt = 1) (by first | exact q_465ab79ac1 h70 | omega) (by first | exact q_f3f8e04381 h71 | omega)) (fun z125 h126 => ?_)
                        refine En_Ps 1 (pc' := 40) (lv' := [(3, .int z125), (0, .ref 159), (1, .int y6), (2, .int y24)]) (st' := []) rfl ?_
                        refine En_lv (lv := [(0, .ref 159), (1, .int y6), (2, .int y24), (3, .int z125)]) ⟨rfl, rfl, rfl, rfl, trivial⟩ ?_
                        exact ih40 σ120 z125 z118 h121 h122 ((h124 _ _ (Or.inl (neTG tgz_160 tgz_159 (by decide)))).trans ((h117 _ _ (Or.inl (neTG tgz_160 tgz_168 (by decide)))).trans ((h109 _ _ (inWa tgz_160 (by decide +kernel))).trans ((h102 _ _ (Or.inl (neTG tgz_160 tgz_167 (by decide)))).trans ((h95 _ _ (Or.inl (neTG tgz_160 tgz_166 (by decide)))).trans h66))))) ((h124 _ _ (Or.inl (neTG tgz_160 tgz_159 (by decide)))).trans ((h117 _ _ (Or.inl (neTG tgz_160 tgz_168 (by decide)))).trans ((h109 _ _ (inWa tgz_160 (by decide +kernel))).trans ((h102 _ _ (Or.inl (neTG tgz_160 tgz_167 (by decide)))).trans ((h95 _ _ (Or.inl (neTG tgz_160 tgz_166 (by decide)))).trans h67))))) ((h124 _ _ (Or.inr (by decide))).trans ((h117 _ _ (Or.inl (neTG tgz_159 tgz_168 (by decide)))).trans ((h109 _ _ (inW tgz_159 (by decide +kernel))).trans ((h102 _ _ (Or.inl (neTG tgz_159 tgz_167 (by decide)))).trans ((h95 _ _ (Or.inl (neTG tgz_159 tgz_166 (by decide)))).trans h68))))) h123 (by first | exact q_35104ce9d3 h126 h70 | omega) (by first | exact q_2cbd4aee36 h126 h76 h48 h44.2.1 | omega) (by first | exact q_35104ce9d3 h119 h72 | omega) (by (first | exact q_46b8d9d66b h119 h88.1 | omega)) (by first | exact q_c5d740bdff h126 h74 | omega) (by first | exact RN_eq h75 (by omega) (by omega) (by omega) | exact RN_skip h75 (by omega) (by omega) (by omega) (by omega) (by omega) | exact RN_x h75 (by omega) (by omega) (by omega) (by omega) | exact RN_n h75 (by omega) (by omega) (by omega) (by omega) (by omega) | exact RV_in h75 (by omega) (by omega) (by omega) (by omega) (by omega) (by omega) | exact RV_put h75 (by (first | exact q_7b14c78c18 h87 | omega)) (by (first | exact q_0fc2ad1196 this.1 h85 | omega)) (by (first | exact q_61ddd2b576 | omega)) (by (first | exact q_61ddd2b576 | omega)) (by (first | exact q_ba1b2c713b h126 | omega)) (by (first | exact q_ba1b2c713b h119 | omega)) | exact RV_not h75 (by omega) (by omega) (by omega) (by omega) (by omega) (by omega))
                      · have := sub_sb h82 h80 rfl rfl (by (first | exact q_58e6e51dcc h70 | omega)) (by (first | exact q_44d807139a h76 h48 h44.2.1 | omega)) (by (first | exact q_58e6e51dcc h33 | omega)) (by (first | exact q_c15b485600 h48 h44.2.1 | omega))
                        refine En_Ps 2 (pc' := 104) (lv' := [(3, .int ((y61 + Int32.ofInt 1))), (0, .ref 159), (1, .int y6), (2, .int y24)]) (st' := []) rfl ?_
                        refine En_lv1 (addI rfl (by decide : (Int32.ofInt 1).toInt = 1) (by first | exact q_465ab79ac1 h70 | omega) (by first | exact q_f3f8e04381 h71 | omega)) (fun z127 h128 => ?_)
                        refine En_Ps 1 (pc' := 40) (lv' := [(3, .int z127), (0, .ref 159), (1, .int y6), (2, .int y24)]) (st' := []) rfl ?_
                        refine En_lv (lv := [(0, .ref 159), (1, .int y6), (2, .int y24), (3, .int z127)]) ⟨rfl, rfl, rfl, rfl, trivial⟩ ?_
                        exact ih40 σ63 z127 y62 h64 h65 h66 h67 h68 h69 (by first | exact q_35104ce9d3 h128 h70 | omega) (by first | exact q_2cbd4aee36 h128 h76 h48 h44.2.1 | omega) (by first | exact q_58e6e51dcc h72 | omega) (by first | exact q_938d18a0b8 h73 | omega) (by first | exact q_c5d740bdff h128 h74 | omega) (by first | exact RN_eq h75 (by omega) (by omega) (by omega) | exact RN_skip h75 (by omega) (by omega) (by omega) (by omega) (by omega) | exact RN_x h75 (by omega) (by omega) (by omega) (by omega) | exact RN_n h75 (by omega) (by omega) (by omega) (by omega) (by omega) | exact RV_in h75 (by omega) (by omega) (by omega) (by omega) (by omega) (by omega) | exact RV_put h75 (by (first | exact q_7b14c78c18 h76 | omega)) (by omega) (by (first | exact q_61ddd2b576 | omega)) (by (first | exact q_61ddd2b576 | omega)) (by (first | exact q_ba1b2c713b h128 | omega)) (by omega) | exact RV_not h75 (by omega) (by omega) (by omega) (by omega) (by omega) (by omega))
                have := (by decide : (Int32.ofInt 0).toInt = 0)
                refine En_lv (lv := [(0, .ref 159), (1, .int y6), (2, .int y24), (3, .int ((Int32.ofInt 0)))]) ⟨rfl, rfl, rfl, rfl, trivial⟩ ?_
                exact key40 (Int.toNat (16) + 1) σ53 ((Int32.ofInt 0)) y25 h54 h59 ((h55 _ _ (inWa tgz_160 (by decide +kernel))).trans ((h43 _ _ (inWa tgz_160 (by decide +kernel))).trans h29)) ((h55 _ _ (inWa tgz_160 (by decide +kernel))).trans ((h43 _ _ (inWa tgz_160 (by decide +kernel))).trans h30)) ((h55 _ _ (inW tgz_159 (by decide +kernel))).trans ((h43 _ _ (inW tgz_159 (by decide +kernel))).trans h31)) ((h55 _ _ (inW tgz_159 (by decide +kernel))).trans ((h43 _ _ (inW tgz_159 (by decide +kernel))).trans h32)) (by decide) (by decide) (by first | exact q_58e6e51dcc h35 | omega) (by first | exact q_938d18a0b8 h36 | omega) (by first | exact toN_lt _ | omega) (by first | exact RN_eq h38 (by omega) (by omega) (by omega) | exact RN_skip h38 (by (first | exact q_ddb2b1de33 h48 h46 | omega)) (by omega) (by omega) (by omega) (by omega) | exact RN_x h38 (by omega) (by omega) (by omega) (by omega) | exact RN_n h38 (by omega) (by (first | exact q_d97751b118 h23 hu_s | omega)) (by omega) (by omega) (by omega) | exact RV_in h38 (by (first | exact q_ddb2b1de33 h48 h46 | omega)) (by (first | exact q_aeeede310e h60 h58 | omega)) (by (first | exact q_61ddd2b576 | omega)) (by (first | exact q_61ddd2b576 | omega)) (by (first | exact q_d2dcd30e56 this | omega)) (by (first | exact q_61ddd2b576 | omega)) | exact RV_put h38 (by omega) (by omega) (by omega) (by omega) (by omega) (by omega) | exact RV_not h38 (by omega) (by omega) (by omega) (by omega) (by omega) (by omega))
              · refine En_Ps 2 (pc' := 110) (lv' := [(2, .int ((y24 + Int32.ofInt 1))), (0, .ref 159), (1, .int y6)]) (st' := []) rfl ?_
                refine En_lv1 (addI rfl (by decide : (Int32.ofInt 1).toInt = 1) (by first | exact q_465ab79ac1 h33 | omega) (by first | exact q_f3f8e04381 h34 | omega)) (fun z129 h130 => ?_)
                refine En_Ps 1 (pc' := 19) (lv' := [(2, .int z129), (0, .ref 159), (1, .int y6)]) (st' := []) rfl ?_
                refine En_lv (lv := [(0, .ref 159), (1, .int y6), (2, .int z129)]) ⟨rfl, rfl, rfl, trivial⟩ ?_
                exact ih19 σ53 z129 y25 h54 h59 ((h55 _ _ (inWa tgz_160 (by decide +kernel))).trans ((h43 _ _ (inWa tgz_160 (by decide +kernel))).trans h29)) ((h55 _ _ (inWa tgz_160 (by decide +kernel))).trans ((h43 _ _ (inWa tgz_160 (by decide +kernel))).trans h30)) ((h55 _ _ (inW tgz_159 (by decide +kernel))).trans ((h43 _ _ (inW tgz_159 (by decide +kernel))).trans h31)) ((h55 _ _ (inW tgz_159 (by decide +kernel))).trans ((h43 _ _ (inW tgz_159 (by decide +kernel))).trans h32)) (by first | exact q_35104ce9d3 h130 h33 | omega) (by first | exact q_34dc714687 h130 h48 h44.2.1 | omega) (by first | exact q_58e6e51dcc h35 | omega) (by first | exact q_938d18a0b8 h36 | omega) (by first | exact q_c5d740bdff h130 h37 | omega) (by first | exact RN_eq h38 (by (first | exact q_61ddd2b576 | omega)) (by omega) (by (first | exact q_61ddd2b576 | omega)) | exact RN_skip h38 (by omega) (by omega) (by omega) (by omega) (by omega) | exact RN_x h38 (by omega) (by omega) (by omega) (by omega) | exact RN_n h38 (by omega) (by omega) (by omega) (by omega) (by omega) | exact RV_in h38 (by omega) (by omega) (by omega) (by omega) (by omega) (by omega) | exact RV_put h38 (by omega) (by omega) (by omega) (by omega) (by omega) (by omega) | exact RV_not h38 (by omega) (by omega) (by omega) (by omega) (by omega) (by omega))
        have := (by decide : (Int32.ofInt 0).toInt = 0)
        refine En_lv (lv := [(0, .ref 159), (1, .int y6), (2, .int ((Int32.ofInt 0)))]) ⟨rfl, rfl, rfl, trivial⟩ ?_
        exact key19 (Int.toNat (16) + 1) σ8 ((Int32.ofInt 0)) y7 h9 h10 h11 h12 h20 h13 (by decide) (by decide) (by first | exact q_58e6e51dcc h16 | omega) (by first | exact q_938d18a0b8 h17 | omega) (by first | exact toN_lt _ | omega) (by first | exact RN_eq h19 (by (first | exact q_61ddd2b576 | omega)) (by (first | exact q_d2dcd30e56 this | omega)) (by (first | exact q_61ddd2b576 | omega)) | exact RN_skip h19 (by omega) (by omega) (by omega) (by omega) (by omega) | exact RN_x h19 (by omega) (by omega) (by omega) (by omega) | exact RN_n h19 (by omega) (by omega) (by omega) (by omega) (by omega) | exact RV_in h19 (by omega) (by omega) (by omega) (by omega) (by omega) (by omega) | exact RV_put h19 (by omega) (by omega) (by omega) (by omega) (by omega) (by omega) | exact RV_not h19 (by omega) (by omega) (by omega) (by omega) (by omega) (by omega))
  have := (by decide : (Int32.ofInt 0).toInt = 0)
  have := (by decide : (Int32.ofInt 0).toInt = 0)
  refine En_lv (lv := [(0, .ref 159), (1, .int ((Int32.ofInt 0)))]) ⟨rfl, rfl, trivial⟩ ?_
  exact key7 (Int.toNat (5) + 1) σ1 ((Int32.ofInt 0)) ((Int32.ofInt 0)) h2 h3 ((h5 _ _ (Or.inl (neTG tgz_160 tgz_159 (by decide)))).trans h_s) ((h5 _ _ (Or.inl (neTG tgz_160 tgz_159 (by decide)))).trans h_sc) h4 (by decide) (by decide) (by decide) (by decide) (by first | exact toN_lt _ | omega) (by exact RN_0 (kI_rng _ (by (first | exact q_58e6e51dcc hl_s | omega)) (by (first | exact q_c82ed93a8c hu_s | omega))) (by (first | exact q_d2dcd30e56 (by decide) | omega)) (by (first | decide | omega)) (by (first | exact q_d2dcd30e56 (by decide) | omega)))
/-- DoorSchoolModel.of(II)I -/
abbrev P_290a (σ0 : SG) (a : Int32) (b : Int32) (c : Int32) : PO := fun v σ => WT σ ∧ Fr [] σ0 σ ∧ ∃ ret : Int32, v = some (Value.int ret) ∧ -ret.toInt ≤ 0 ∧ ret.toInt - 2 ≤ 0 ∧ ret.toInt - c.toInt ≤ 0 ∧ -ret.toInt + c.toInt ≤ 0
set_option maxRecDepth 10000 in
set_option maxHeartbeats 4000000 in
theorem c_290a (σ0 : SG) (hσ0 : WT σ0) (a : Int32) (b : Int32) (hl_a : 0 ≤ a.toInt) (hu_a : a.toInt ≤ 3) (hl_b : 0 ≤ b.toInt) (hu_b : b.toInt ≤ 0) (c : Int32) (h_c : (σ0 160)[(4 * a.toInt + b.toInt + 10).toNat]? = some (Value.int c)) : En 0 0 none mr_290 (P_290a σ0 a b c) 0 [(0, .ref 159), (1, .int a), (2, .int b)] [] σ0 := by
  have hF0 : Fr [] σ0 σ0 := Fr_rfl
  obtain ⟨hl_c, hu_c⟩ := WT_int hσ0 (g := 36) tgz_160 (by decide +kernel) (l := 0) (u := 2) (FTrow 36 10 4 4 (by decide +kernel) (by (first | exact q_bd29d30e82 hl_b hl_a | omega)) (by (first | exact q_932f5e6254 hu_b hu_a | omega)) (by omega)) h_c
  refine En_Ps 1 (pc' := 1) (lv' := [(0, .ref 159), (1, .int a), (2, .int b)]) (st' := [.ref 159]) rfl ?_
  refine En_getU (j := 1) (u := 160) (g' := 36) (q := 0) rfl rfl rfl tgz_159 (by decide +kernel) hσ0 (by decide +kernel) un_36_160 (fun h1 => ?_)
  refine En_Ps 4 (pc' := 9) (lv' := [(0, .ref 159), (1, .int a), (2, .int b)]) (st' := [.int ((((Int32.ofInt 4)) * a)), .int (((Int8.ofInt 10).toInt32)), .ref 160]) rfl ?_
  refine En_top (mulI (by decide : (Int32.ofInt 4).toInt = 4) rfl (Z := 4 * a.toInt) (by first | exact q_8696eb12a7 | omega) (by first | exact q_be45967ac2 hl_a | omega) (by first | exact q_395a9d924c hu_a | omega)) (fun z3 h4 => ?_)
  refine En_Ps 1 (pc' := 10) (lv' := [(0, .ref 159), (1, .int a), (2, .int b)]) (st' := [.int (((((Int8.ofInt 10).toInt32)) + z3)), .ref 160]) rfl ?_
  refine En_top (addI (by decide : ((Int8.ofInt 10).toInt32).toInt = 10) rfl (by first | exact q_7bfa00123f h4 hl_a | omega) (by first | exact q_a63fdf625c h4 hu_a | omega)) (fun z5 h6 => ?_)
  refine En_Ps 2 (pc' := 12) (lv' := [(0, .ref 159), (1, .int a), (2, .int b)]) (st' := [.int ((z5 + b)), .ref 160]) rfl ?_
  refine En_top (addI rfl rfl (by first | exact q_ea89b7ca88 hl_b h6 h4 hl_a | omega) (by first | exact q_889d81d609 hu_b h6 h4 hu_a | omega)) (fun z7 h8 => ?_)
  have h10 : (σ0 160)[(z7.toInt).toNat]? = some (Value.int c) := by rw [show (z7.toInt) = (4 * a.toInt + b.toInt + 10) by (first | exact q_a00f840b0a h8 h6 h4 | omega)]; exact h_c
  refine En_ialdK h10 rfl rfl tgz_160 (by decide +kernel) hσ0 (by first | exact q_0f25807f40 h8 hl_b h6 h4 hl_a | omega) (lnI (by decide +kernel : LN _ = 226) (by first | exact q_8ac9d8190d h8 hu_b h6 h4 hu_a | omega)) ?_
  exact En_ret (v := some (Value.int c)) rfl rfl rfl ⟨hσ0, hF0, c, rfl, ⟨by first | exact q_c803b490ef hl_c | omega, by first | exact q_316dab1512 hu_c | omega, by first | exact q_1bb76abeaf | omega, by first | exact q_857069189f | omega⟩⟩
/-- DoorSchoolModel.of(II)I -/
abbrev P_290b (σ0 : SG) (a : Int32) (b : Int32) (c : Int32) : PO := fun v σ => WT σ ∧ Fr [] σ0 σ ∧ ∃ ret : Int32, v = some (Value.int ret) ∧ -ret.toInt ≤ 0 ∧ ret.toInt - 50 ≤ 0 ∧ ret.toInt - c.toInt ≤ 0 ∧ -ret.toInt + c.toInt ≤ 0
set_option maxRecDepth 10000 in
set_option maxHeartbeats 4000000 in
theorem c_290b (σ0 : SG) (hσ0 : WT σ0) (a : Int32) (b : Int32) (hl_a : 0 ≤ a.toInt) (hu_a : a.toInt ≤ 3) (hl_b : 1 ≤ b.toInt) (hu_b : b.toInt ≤ 1) (c : Int32) (h_c : (σ0 160)[(4 * a.toInt + b.toInt + 10).toNat]? = some (Value.int c)) : En 0 0 none mr_290 (P_290b σ0 a b c) 0 [(0, .ref 159), (1, .int a), (2, .int b)] [] σ0 := by
  have hF0 : Fr [] σ0 σ0 := Fr_rfl
  obtain ⟨hl_c, hu_c⟩ := WT_int hσ0 (g := 36) tgz_160 (by decide +kernel) (l := 0) (u := 50) (FTrow 36 11 4 4 (by decide +kernel) (by (first | exact q_f6118c0c98 hl_b hl_a | omega)) (by (first | exact q_8ceafc02e8 hu_b hu_a | omega)) (by omega)) h_c
  refine En_Ps 1 (pc' := 1) (lv' := [(0, .ref 159), (1, .int a), (2, .int b)]) (st' := [.ref 159]) rfl ?_
  refine En_getU (j := 1) (u := 160) (g' := 36) (q := 0) rfl rfl rfl tgz_159 (by decide +kernel) hσ0 (by decide +kernel) un_36_160 (fun h1 => ?_)
  refine En_Ps 4 (pc' := 9) (lv' := [(0, .ref 159), (1, .int a), (2, .int b)]) (st' := [.int ((((Int32.ofInt 4)) * a)), .int (((Int8.ofInt 10).toInt32)), .ref 160]) rfl ?_
  refine En_top (mulI (by decide : (Int32.ofInt 4).toInt = 4) rfl (Z := 4 * a.toInt) (by first | exact q_8696eb12a7 | omega) (by first | exact q_be45967ac2 hl_a | omega) (by first | exact q_395a9d924c hu_a | omega)) (fun z3 h4 => ?_)
  refine En_Ps 1 (pc' := 10) (lv' := [(0, .ref 159), (1, .int a), (2, .int b)]) (st' := [.int (((((Int8.ofInt 10).toInt32)) + z3)), .ref 160]) rfl ?_
  refine En_top (addI (by decide : ((Int8.ofInt 10).toInt32).toInt = 10) rfl (by first | exact q_7bfa00123f h4 hl_a | omega) (by first | exact q_a63fdf625c h4 hu_a | omega)) (fun z5 h6 => ?_)
  refine En_Ps 2 (pc' := 12) (lv' := [(0, .ref 159), (1, .int a), (2, .int b)]) (st' := [.int ((z5 + b)), .ref 160]) rfl ?_
  refine En_top (addI rfl rfl (by first | exact q_9b568fec97 hl_b h6 h4 hl_a | omega) (by first | exact q_d5c943c79d hu_b h6 h4 hu_a | omega)) (fun z7 h8 => ?_)
  have h10 : (σ0 160)[(z7.toInt).toNat]? = some (Value.int c) := by rw [show (z7.toInt) = (4 * a.toInt + b.toInt + 10) by (first | exact q_a00f840b0a h8 h6 h4 | omega)]; exact h_c
  refine En_ialdK h10 rfl rfl tgz_160 (by decide +kernel) hσ0 (by first | exact q_c171156e7d h8 hl_b h6 h4 hl_a | omega) (lnI (by decide +kernel : LN _ = 226) (by first | exact q_a2e5118616 h8 hu_b h6 h4 hu_a | omega)) ?_
  exact En_ret (v := some (Value.int c)) rfl rfl rfl ⟨hσ0, hF0, c, rfl, ⟨by first | exact q_c803b490ef hl_c | omega, by first | exact q_1608b91b28 hu_c | omega, by first | exact q_1bb76abeaf | omega, by first | exact q_857069189f | omega⟩⟩
/-- DoorSchoolModel.of(II)I -/
abbrev P_290c (σ0 : SG) (a : Int32) (b : Int32) (c : Int32) : PO := fun v σ => WT σ ∧ Fr [] σ0 σ ∧ ∃ ret : Int32, v = some (Value.int ret) ∧ -ret.toInt ≤ 0 ∧ ret.toInt - 12 ≤ 0 ∧ ret.toInt - c.toInt ≤ 0 ∧ -ret.toInt + c.toInt ≤ 0
set_option maxRecDepth 10000 in
set_option maxHeartbeats 4000000 in
theorem c_290c (σ0 : SG) (hσ0 : WT σ0) (a : Int32) (b : Int32) (hl_a : 0 ≤ a.toInt) (hu_a : a.toInt ≤ 3) (hl_b : 2 ≤ b.toInt) (hu_b : b.toInt ≤ 2) (c : Int32) (h_c : (σ0 160)[(4 * a.toInt + b.toInt + 10).toNat]? = some (Value.int c)) : En 0 0 none mr_290 (P_290c σ0 a b c) 0 [(0, .ref 159), (1, .int a), (2, .int b)] [] σ0 := by
  have hF0 : Fr [] σ0 σ0 := Fr_rfl
  obtain ⟨hl_c, hu_c⟩ := WT_int hσ0 (g := 36) tgz_160 (by decide +kernel) (l := 0) (u := 12) (FTrow 36 12 4 4 (by decide +kernel) (by (first | exact q_21a2ae1e7f hl_b hl_a | omega)) (by (first | exact q_10ccb48d5c hu_b hu_a | omega)) (by omega)) h_c
  refine En_Ps 1 (pc' := 1) (lv' := [(0, .ref 159), (1, .int a), (2, .int b)]) (st' := [.ref 159]) rfl ?_
  refine En_getU (j := 1) (u := 160) (g' := 36) (q := 0) rfl rfl rfl tgz_159 (by decide +kernel) hσ0 (by decide +kernel) un_36_160 (fun h1 => ?_)
  refine En_Ps 4 (pc' := 9) (lv' := [(0, .ref 159), (1, .int a), (2, .int b)]) (st' := [.int ((((Int32.ofInt 4)) * a)), .int (((Int8.ofInt 10).toInt32)), .ref 160]) rfl ?_
  refine En_top (mulI (by decide : (Int32.ofInt 4).toInt = 4) rfl (Z := 4 * a.toInt) (by first | exact q_8696eb12a7 | omega) (by first | exact q_be45967ac2 hl_a | omega) (by first | exact q_395a9d924c hu_a | omega)) (fun z3 h4 => ?_)
  refine En_Ps 1 (pc' := 10) (lv' := [(0, .ref 159), (1, .int a), (2, .int b)]) (st' := [.int (((((Int8.ofInt 10).toInt32)) + z3)), .ref 160]) rfl ?_
  refine En_top (addI (by decide : ((Int8.ofInt 10).toInt32).toInt = 10) rfl (by first | exact q_7bfa00123f h4 hl_a | omega) (by first | exact q_a63fdf625c h4 hu_a | omega)) (fun z5 h6 => ?_)
  refine En_Ps 2 (pc' := 12) (lv' := [(0, .ref 159), (1, .int a), (2, .int b)]) (st' := [.int ((z5 + b)), .ref 160]) rfl ?_
  refine En_top (addI rfl rfl (by first | exact q_ef817ac353 hl_b h6 h4 hl_a | omega) (by first | exact q_40a73e70cb hu_b h6 h4 hu_a | omega)) (fun z7 h8 => ?_)
  have h10 : (σ0 160)[(z7.toInt).toNat]? = some (Value.int c) := by rw [show (z7.toInt) = (4 * a.toInt + b.toInt + 10) by (first | exact q_a00f840b0a h8 h6 h4 | omega)]; exact h_c
  refine En_ialdK h10 rfl rfl tgz_160 (by decide +kernel) hσ0 (by first | exact q_16a2a14341 h8 hl_b h6 h4 hl_a | omega) (lnI (by decide +kernel : LN _ = 226) (by first | exact q_8a76eee028 h8 hu_b h6 h4 hu_a | omega)) ?_
  exact En_ret (v := some (Value.int c)) rfl rfl rfl ⟨hσ0, hF0, c, rfl, ⟨by first | exact q_c803b490ef hl_c | omega, by first | exact q_16c941e15c hu_c | omega, by first | exact q_1bb76abeaf | omega, by first | exact q_857069189f | omega⟩⟩
/-- DoorSchoolModel.of(II)I -/
abbrev P_290d (σ0 : SG) (a : Int32) (b : Int32) (c : Int32) : PO := fun v σ => WT σ ∧ Fr [] σ0 σ ∧ ∃ ret : Int32, v = some (Value.int ret) ∧ -ret.toInt - 1 ≤ 0 ∧ ret.toInt - 3 ≤ 0 ∧ ret.toInt - c.toInt ≤ 0 ∧ -ret.toInt + c.toInt ≤ 0
set_option maxRecDepth 10000 in
set_option maxHeartbeats 4000000 in
theorem c_290d (σ0 : SG) (hσ0 : WT σ0) (a : Int32) (b : Int32) (hl_a : 0 ≤ a.toInt) (hu_a : a.toInt ≤ 3) (hl_b : 3 ≤ b.toInt) (hu_b : b.toInt ≤ 3) (c : Int32) (h_c : (σ0 160)[(4 * a.toInt + b.toInt + 10).toNat]? = some (Value.int c)) : En 0 0 none mr_290 (P_290d σ0 a b c) 0 [(0, .ref 159), (1, .int a), (2, .int b)] [] σ0 := by
  have hF0 : Fr [] σ0 σ0 := Fr_rfl
  obtain ⟨hl_c, hu_c⟩ := WT_int hσ0 (g := 36) tgz_160 (by decide +kernel) (l := (-1)) (u := 3) (FTrow 36 13 4 4 (by decide +kernel) (by (first | exact q_c1b25378ce hl_b hl_a | omega)) (by (first | exact q_73c1f66031 hu_b hu_a | omega)) (by omega)) h_c
  refine En_Ps 1 (pc' := 1) (lv' := [(0, .ref 159), (1, .int a), (2, .int b)]) (st' := [.ref 159]) rfl ?_
  refine En_getU (j := 1) (u := 160) (g' := 36) (q := 0) rfl rfl rfl tgz_159 (by decide +kernel) hσ0 (by decide +kernel) un_36_160 (fun h1 => ?_)
  refine En_Ps 4 (pc' := 9) (lv' := [(0, .ref 159), (1, .int a), (2, .int b)]) (st' := [.int ((((Int32.ofInt 4)) * a)), .int (((Int8.ofInt 10).toInt32)), .ref 160]) rfl ?_
  refine En_top (mulI (by decide : (Int32.ofInt 4).toInt = 4) rfl (Z := 4 * a.toInt) (by first | exact q_8696eb12a7 | omega) (by first | exact q_be45967ac2 hl_a | omega) (by first | exact q_395a9d924c hu_a | omega)) (fun z3 h4 => ?_)
  refine En_Ps 1 (pc' := 10) (lv' := [(0, .ref 159), (1, .int a), (2, .int b)]) (st' := [.int (((((Int8.ofInt 10).toInt32)) + z3)), .ref 160]) rfl ?_
  refine En_top (addI (by decide : ((Int8.ofInt 10).toInt32).toInt = 10) rfl (by first | exact q_7bfa00123f h4 hl_a | omega) (by first | exact q_a63fdf625c h4 hu_a | omega)) (fun z5 h6 => ?_)
  refine En_Ps 2 (pc' := 12) (lv' := [(0, .ref 159), (1, .int a), (2, .int b)]) (st' := [.int ((z5 + b)), .ref 160]) rfl ?_
  refine En_top (addI rfl rfl (by first | exact q_28aa76c899 hl_b h6 h4 hl_a | omega) (by first | exact q_055c074749 hu_b h6 h4 hu_a | omega)) (fun z7 h8 => ?_)
  have h10 : (σ0 160)[(z7.toInt).toNat]? = some (Value.int c) := by rw [show (z7.toInt) = (4 * a.toInt + b.toInt + 10) by (first | exact q_a00f840b0a h8 h6 h4 | omega)]; exact h_c
  refine En_ialdK h10 rfl rfl tgz_160 (by decide +kernel) hσ0 (by first | exact q_934600e264 h8 hl_b h6 h4 hl_a | omega) (lnI (by decide +kernel : LN _ = 226) (by first | exact q_c525c41564 h8 hu_b h6 h4 hu_a | omega)) ?_
  exact En_ret (v := some (Value.int c)) rfl rfl rfl ⟨hσ0, hF0, c, rfl, ⟨by first | exact q_909eef6c0e hl_c | omega, by first | exact q_e9a8eec0c4 hu_c | omega, by first | exact q_1bb76abeaf | omega, by first | exact q_857069189f | omega⟩⟩
/-- DoorSchoolModel.of(II)I -/
abbrev P_290e (σ0 : SG) (a : Int32) (b : Int32) : PO := fun v σ => WT σ ∧ Fr [] σ0 σ ∧ ∃ ret : Int32, v = some (Value.int ret) ∧ -ret.toInt - 1 ≤ 0 ∧ ret.toInt - 50 ≤ 0
set_option maxRecDepth 10000 in
set_option maxHeartbeats 4000000 in
theorem c_290e (σ0 : SG) (hσ0 : WT σ0) (a : Int32) (b : Int32) (hl_a : 0 ≤ a.toInt) (hu_a : a.toInt ≤ 3) (hl_b : 0 ≤ b.toInt) (hu_b : b.toInt ≤ 3) : En 0 0 none mr_290 (P_290e σ0 a b) 0 [(0, .ref 159), (1, .int a), (2, .int b)] [] σ0 := by
  have hF0 : Fr [] σ0 σ0 := Fr_rfl
  refine En_Ps 1 (pc' := 1) (lv' := [(0, .ref 159), (1, .int a), (2, .int b)]) (st' := [.ref 159]) rfl ?_
  refine En_getU (j := 1) (u := 160) (g' := 36) (q := 0) rfl rfl rfl tgz_159 (by decide +kernel) hσ0 (by decide +kernel) un_36_160 (fun h1 => ?_)
  refine En_Ps 4 (pc' := 9) (lv' := [(0, .ref 159), (1, .int a), (2, .int b)]) (st' := [.int ((((Int32.ofInt 4)) * a)), .int (((Int8.ofInt 10).toInt32)), .ref 160]) rfl ?_
  refine En_top (mulI (by decide : (Int32.ofInt 4).toInt = 4) rfl (Z := 4 * a.toInt) (by first | exact q_8696eb12a7 | omega) (by first | exact q_be45967ac2 hl_a | omega) (by first | exact q_395a9d924c hu_a | omega)) (fun z3 h4 => ?_)
  refine En_Ps 1 (pc' := 10) (lv' := [(0, .ref 159), (1, .int a), (2, .int b)]) (st' := [.int (((((Int8.ofInt 10).toInt32)) + z3)), .ref 160]) rfl ?_
  refine En_top (addI (by decide : ((Int8.ofInt 10).toInt32).toInt = 10) rfl (by first | exact q_7bfa00123f h4 hl_a | omega) (by first | exact q_a63fdf625c h4 hu_a | omega)) (fun z5 h6 => ?_)
  refine En_Ps 2 (pc' := 12) (lv' := [(0, .ref 159), (1, .int a), (2, .int b)]) (st' := [.int ((z5 + b)), .ref 160]) rfl ?_
  refine En_top (addI rfl rfl (by first | exact q_ea89b7ca88 hl_b h6 h4 hl_a | omega) (by first | exact q_055c074749 hu_b h6 h4 hu_a | omega)) (fun z7 h8 => ?_)
  rcases (show z7.toInt = 10 ∨ z7.toInt = 11 ∨ z7.toInt = 12 ∨ z7.toInt = 13 ∨ z7.toInt = 14 ∨ z7.toInt = 15 ∨ z7.toInt = 16 ∨ z7.toInt = 17 ∨ z7.toInt = 18 ∨ z7.toInt = 19 ∨ z7.toInt = 20 ∨ z7.toInt = 21 ∨ z7.toInt = 22 ∨ z7.toInt = 23 ∨ z7.toInt = 24 ∨ z7.toInt = 25 by (first | exact q_aecaf9868b h8 h6 h4 hl_b hl_a hu_b hu_a | omega)) with h9 | h9 | h9 | h9 | h9 | h9 | h9 | h9 | h9 | h9 | h9 | h9 | h9 | h9 | h9 | h9
  · refine En_iald (l := 0) (u := 2) rfl h9 tgz_160 (by decide +kernel) hσ0 (by decide) (lnI (by decide +kernel : LN _ = 226) (by decide)) (by decide +kernel) (fun z11 h10 h12 h13 => ?_)
    exact En_ret (v := some (Value.int z11)) rfl rfl rfl ⟨hσ0, hF0, z11, rfl, ⟨by first | exact q_565e7b05df h12 | omega, by first | exact q_ab791a917f h13 | omega⟩⟩
  · refine En_iald (l := 0) (u := 50) rfl h9 tgz_160 (by decide +kernel) hσ0 (by decide) (lnI (by decide +kernel : LN _ = 226) (by decide)) (by decide +kernel) (fun z15 h14 h16 h17 => ?_)
    exact En_ret (v := some (Value.int z15)) rfl rfl rfl ⟨hσ0, hF0, z15, rfl, ⟨by first | exact q_565e7b05df h16 | omega, by first | exact q_1608b91b28 h17 | omega⟩⟩
  · refine En_iald (l := 0) (u := 12) rfl h9 tgz_160 (by decide +kernel) hσ0 (by decide) (lnI (by decide +kernel : LN _ = 226) (by decide)) (by decide +kernel) (fun z19 h18 h20 h21 => ?_)
    exact En_ret (v := some (Value.int z19)) rfl rfl rfl ⟨hσ0, hF0, z19, rfl, ⟨by first | exact q_565e7b05df h20 | omega, by first | exact q_d8dab71124 h21 | omega⟩⟩
  · refine En_iald (l := (-1)) (u := 3) rfl h9 tgz_160 (by decide +kernel) hσ0 (by decide) (lnI (by decide +kernel : LN _ = 226) (by decide)) (by decide +kernel) (fun z23 h22 h24 h25 => ?_)
    exact En_ret (v := some (Value.int z23)) rfl rfl rfl ⟨hσ0, hF0, z23, rfl, ⟨by first | exact q_909eef6c0e h24 | omega, by first | exact q_dc79e997ce h25 | omega⟩⟩
  · refine En_iald (l := 0) (u := 2) rfl h9 tgz_160 (by decide +kernel) hσ0 (by decide) (lnI (by decide +kernel : LN _ = 226) (by decide)) (by decide +kernel) (fun z27 h26 h28 h29 => ?_)
    exact En_ret (v := some (Value.int z27)) rfl rfl rfl ⟨hσ0, hF0, z27, rfl, ⟨by first | exact q_565e7b05df h28 | omega, by first | exact q_ab791a917f h29 | omega⟩⟩
  · refine En_iald (l := 0) (u := 50) rfl h9 tgz_160 (by decide +kernel) hσ0 (by decide) (lnI (by decide +kernel : LN _ = 226) (by decide)) (by decide +kernel) (fun z31 h30 h32 h33 => ?_)
    exact En_ret (v := some (Value.int z31)) rfl rfl rfl ⟨hσ0, hF0, z31, rfl, ⟨by first | exact q_565e7b05df h32 | omega, by first | exact q_1608b91b28 h33 | omega⟩⟩
  · refine En_iald (l := 0) (u := 12) rfl h9 tgz_160 (by decide +kernel) hσ0 (by decide) (lnI (by decide +kernel : LN _ = 226) (by decide)) (by decide +kernel) (fun z35 h34 h36 h37 => ?_)
    exact En_ret (v := some (Value.int z35)) rfl rfl rfl ⟨hσ0, hF0, z35, rfl, ⟨by first | exact q_565e7b05df h36 | omega, by first | exact q_d8dab71124 h37 | omega⟩⟩
  · refine En_iald (l := (-1)) (u := 3) rfl h9 tgz_160 (by decide +kernel) hσ0 (by decide) (lnI (by decide +kernel : LN _ = 226) (by decide)) (by decide +kernel) (fun z39 h38 h40 h41 => ?_)
    exact En_ret (v := some (Value.int z39)) rfl rfl rfl ⟨hσ0, hF0, z39, rfl, ⟨by first | exact q_909eef6c0e h40 | omega, by first | exact q_dc79e997ce h41 | omega⟩⟩
  · refine En_iald (l := 0) (u := 2) rfl h9 tgz_160 (by decide +kernel) hσ0 (by decide) (lnI (by decide +kernel : LN _ = 226) (by decide)) (by decide +kernel) (fun z43 h42 h44 h45 => ?_)
    exact En_ret (v := some (Value.int z43)) rfl rfl rfl ⟨hσ0, hF0, z43, rfl, ⟨by first | exact q_565e7b05df h44 | omega, by first | exact q_ab791a917f h45 | omega⟩⟩
  · refine En_iald (l := 0) (u := 50) rfl h9 tgz_160 (by decide +kernel) hσ0 (by decide) (lnI (by decide +kernel : LN _ = 226) (by decide)) (by decide +kernel) (fun z47 h46 h48 h49 => ?_)
    exact En_ret (v := some (Value.int z47)) rfl rfl rfl ⟨hσ0, hF0, z47, rfl, ⟨by first | exact q_565e7b05df h48 | omega, by first | exact q_1608b91b28 h49 | omega⟩⟩
  · refine En_iald (l := 0) (u := 12) rfl h9 tgz_160 (by decide +kernel) hσ0 (by decide) (lnI (by decide +kernel : LN _ = 226) (by decide)) (by decide +kernel) (fun z51 h50 h52 h53 => ?_)
    exact En_ret (v := some (Value.int z51)) rfl rfl rfl ⟨hσ0, hF0, z51, rfl, ⟨by first | exact q_565e7b05df h52 | omega, by first | exact q_d8dab71124 h53 | omega⟩⟩
  · refine En_iald (l := (-1)) (u := 3) rfl h9 tgz_160 (by decide +kernel) hσ0 (by decide) (lnI (by decide +kernel : LN _ = 226) (by decide)) (by decide +kernel) (fun z55 h54 h56 h57 => ?_)
    exact En_ret (v := some (Value.int z55)) rfl rfl rfl ⟨hσ0, hF0, z55, rfl, ⟨by first | exact q_909eef6c0e h56 | omega, by first | exact q_dc79e997ce h57 | omega⟩⟩
  · refine En_iald (l := 0) (u := 2) rfl h9 tgz_160 (by decide +kernel) hσ0 (by decide) (lnI (by decide +kernel : LN _ = 226) (by decide)) (by decide +kernel) (fun z59 h58 h60 h61 => ?_)
    exact En_ret (v := some (Value.int z59)) rfl rfl rfl ⟨hσ0, hF0, z59, rfl, ⟨by first | exact q_565e7b05df h60 | omega, by first | exact q_ab791a917f h61 | omega⟩⟩
  · refine En_iald (l := 0) (u := 50) rfl h9 tgz_160 (by decide +kernel) hσ0 (by decide) (lnI (by decide +kernel : LN _ = 226) (by decide)) (by decide +kernel) (fun z63 h62 h64 h65 => ?_)
    exact En_ret (v := some (Value.int z63)) rfl rfl rfl ⟨hσ0, hF0, z63, rfl, ⟨by first | exact q_565e7b05df h64 | omega, by first | exact q_1608b91b28 h65 | omega⟩⟩
  · refine En_iald (l := 0) (u := 12) rfl h9 tgz_160 (by decide +kernel) hσ0 (by decide) (lnI (by decide +kernel : LN _ = 226) (by decide)) (by decide +kernel) (fun z67 h66 h68 h69 => ?_)
    exact En_ret (v := some (Value.int z67)) rfl rfl rfl ⟨hσ0, hF0, z67, rfl, ⟨by first | exact q_565e7b05df h68 | omega, by first | exact q_d8dab71124 h69 | omega⟩⟩
  · refine En_iald (l := (-1)) (u := 3) rfl h9 tgz_160 (by decide +kernel) hσ0 (by decide) (lnI (by decide +kernel : LN _ = 226) (by decide)) (by decide +kernel) (fun z71 h70 h72 h73 => ?_)
    exact En_ret (v := some (Value.int z71)) rfl rfl rfl ⟨hσ0, hF0, z71, rfl, ⟨by first | exact q_909eef6c0e h72 | omega, by first | exact q_dc79e997ce h73 | omega⟩⟩
/-- DoorSchoolModel.real(I)I -/
abbrev P_305 (σ0 : SG) (a : Int32) : PO := fun v σ => WT σ ∧ Fr [] σ0 σ ∧ ∃ ret : Int32, v = some (Value.int ret) ∧ -ret.toInt ≤ 0 ∧ ret.toInt - 3 ≤ 0
set_option maxRecDepth 10000 in
set_option maxHeartbeats 4000000 in
theorem c_305 (σ0 : SG) (hσ0 : WT σ0) (a : Int32) (hl_a : 0 ≤ a.toInt) (hu_a : a.toInt ≤ 3) : En 1 22 none mr_305 (P_305 σ0 a) 0 [(0, .ref 159), (1, .int a)] [] σ0 := by
  have hF0 : Fr [] σ0 σ0 := Fr_rfl
  refine En_Ps 3 (pc' := 3) (lv' := [(0, .ref 159), (1, .int a)]) (st' := [.int ((Int32.ofInt 3)), .int a, .ref 159]) rfl ?_
  have := (by decide : ((Int32.ofInt 3)).toInt = 3)
  obtain ⟨z1, h2, h3, h4⟩ := WT_peekJ (J := (4 * a.toInt + ((Int32.ofInt 3)).toInt + 10)) (l := (-1)) (u := 3) hσ0 tgz_160 (by decide +kernel) (by (first | exact q_f1d5518f63 this hl_a | omega)) (lnI (by decide +kernel : LN _ = 226) (by (first | exact q_cde5b164e7 this hu_a | omega))) (FTrow 36 13 4 4 (by decide +kernel) (by (first | exact q_ec4f5af3d7 this hl_a | omega)) (by (first | exact q_bf572a56ac this hu_a | omega)) (by omega))
  have := (by decide : ((Int32.ofInt 3)).toInt = 3)
  refine En_callV rfl rfl rfl rfl rfl rfl rfl rfl tgz_159 (by decide +kernel) rfl (c_290d σ0 hσ0 a ((Int32.ofInt 3)) (geI rfl (by first | exact q_58e6e51dcc hl_a | omega)) (leI rfl (by first | exact q_da5e9b976f hu_a | omega)) (geI (by decide : (Int32.ofInt 3).toInt = 3) (by decide)) (leI (by decide : (Int32.ofInt 3).toInt = 3) (by decide)) z1 h2) (by decide) (by decide) (fun v6 σ7 h5 => ?_)
  obtain ⟨h8, h9, z11, rfl, h10⟩ := h5
  have h12 := Fr_trans hF0 h9 (by decide +kernel)
  refine En_Ps 1 (pc' := 7) (lv' := [(0, .ref 159), (1, .int a)]) (st' := [.int ((Int32.ofInt (-1))), .int z11]) rfl ?_
  refine En_icNe _ rfl (by decide : (Int32.ofInt (-1)).toInt = -1) rfl (fun h13 => ?_) (fun h13 => ?_)
  · refine En_Ps 3 (pc' := 17) (lv' := [(0, .ref 159), (1, .int a)]) (st' := [.int ((Int32.ofInt 3)), .int a, .ref 159]) rfl ?_
    have := (by decide : ((Int32.ofInt 3)).toInt = 3)
    have := (by decide : ((Int32.ofInt 3)).toInt = 3)
    refine En_callV rfl rfl rfl rfl rfl rfl rfl rfl tgz_159 (by decide +kernel) rfl (c_290d σ7 h8 a ((Int32.ofInt 3)) (geI rfl (by first | exact q_58e6e51dcc hl_a | omega)) (leI rfl (by first | exact q_da5e9b976f hu_a | omega)) (geI (by decide : (Int32.ofInt 3).toInt = 3) (by decide)) (leI (by decide : (Int32.ofInt 3).toInt = 3) (by decide)) z1 ((h9 _ _ (inWa tgz_160 (by decide +kernel))).trans h2)) (by decide) (by decide) (fun v15 σ16 h14 => ?_)
    obtain ⟨h17, h18, z20, rfl, h19⟩ := h14
    have h21 := Fr_trans h12 h18 (by decide +kernel)
    exact En_ret (v := some (Value.int z20)) rfl rfl rfl ⟨h17, h21, z20, rfl, ⟨by first | exact q_f02febf18c h19.2.2.2 h10.2.2.1 h13 h10.1 | omega, by first | exact q_c733b715bf h19.2.1 | omega⟩⟩
  · refine En_Ps 2 (pc' := 20) (lv' := [(0, .ref 159), (1, .int a)]) (st' := [.int a]) rfl ?_
    exact En_ret (v := some (Value.int a)) rfl rfl rfl ⟨h8, h12, a, rfl, ⟨by first | exact q_c803b490ef hl_a | omega, by first | exact q_e9a8eec0c4 hu_a | omega⟩⟩
/-- DoorSchoolModel.lessonAt(II)I -/
abbrev P_281 (σ0 : SG) (a : Int32) (b : Int32) : PO := fun v σ => WT σ ∧ Fr [] σ0 σ ∧ ∃ ret : Int32, v = some (Value.int ret) ∧ -ret.toInt + 26 ≤ 0 ∧ ret.toInt - 122 ≤ 0 ∧ ret.toInt - 24 * a.toInt - 2 * b.toInt - 26 ≤ 0 ∧ -ret.toInt + 24 * a.toInt + 2 * b.toInt + 26 ≤ 0
set_option maxRecDepth 10000 in
set_option maxHeartbeats 4000000 in
theorem c_281 (σ0 : SG) (hσ0 : WT σ0) (a : Int32) (b : Int32) (hl_a : 0 ≤ a.toInt) (hu_a : a.toInt ≤ 3) (hl_b : 0 ≤ b.toInt) (hu_b : b.toInt ≤ 12) : En 0 0 none mr_281 (P_281 σ0 a b) 0 [(0, .int a), (1, .int b)] [] σ0 := by
  have hF0 : Fr [] σ0 σ0 := Fr_rfl
  refine En_Ps 5 (pc' := 7) (lv' := [(0, .int a), (1, .int b)]) (st' := [.int (((((Int8.ofInt 12).toInt32)) * a)), .int ((Int32.ofInt 2)), .int (((Int8.ofInt 26).toInt32))]) rfl ?_
  refine En_top (mulI (by decide : ((Int8.ofInt 12).toInt32).toInt = 12) rfl (Z := 12 * a.toInt) (by first | exact q_ba2a5608ac | omega) (by first | exact q_54b361fe3d hl_a | omega) (by first | exact q_fafd50b3af hu_a | omega)) (fun z1 h2 => ?_)
  refine En_Ps 2 (pc' := 9) (lv' := [(0, .int a), (1, .int b)]) (st' := [.int ((z1 + b)), .int ((Int32.ofInt 2)), .int (((Int8.ofInt 26).toInt32))]) rfl ?_
  refine En_top (addI rfl rfl (by first | exact q_e8137a3c40 hl_b h2 hl_a | omega) (by first | exact q_8178de0393 hu_b h2 hu_a | omega)) (fun z3 h4 => ?_)
  refine En_Ps 1 (pc' := 10) (lv' := [(0, .int a), (1, .int b)]) (st' := [.int ((((Int32.ofInt 2)) * z3)), .int (((Int8.ofInt 26).toInt32))]) rfl ?_
  refine En_top (mulI (by decide : (Int32.ofInt 2).toInt = 2) rfl (Z := 2 * z3.toInt) (by first | exact q_9c4c04fc55 | omega) (by first | exact q_fb4e4bdf5e h4 hl_b h2 hl_a | omega) (by first | exact q_90d72da34d h4 hu_b h2 hu_a | omega)) (fun z5 h6 => ?_)
  refine En_Ps 1 (pc' := 11) (lv' := [(0, .int a), (1, .int b)]) (st' := [.int (((((Int8.ofInt 26).toInt32)) + z5))]) rfl ?_
  refine En_top (addI (by decide : ((Int8.ofInt 26).toInt32).toInt = 26) rfl (by first | exact q_82831e15f0 h6 h4 hl_b h2 hl_a | omega) (by first | exact q_b8cee736bd h6 h4 hu_b h2 hu_a | omega)) (fun z7 h8 => ?_)
  exact En_ret (v := some (Value.int z7)) rfl rfl rfl ⟨hσ0, hF0, z7, rfl, ⟨by first | exact q_5b16acef8e h8 h6 h4 hl_b h2 hl_a | omega, by first | exact q_1581d3cc17 h8 h6 h4 hu_b h2 hu_a | omega, by first | exact q_4de21aa159 h2 h4 h6 h8 | omega, by first | exact q_c372496058 h2 h4 h6 h8 | omega⟩⟩
/-- DoorSchoolModel.layLessons(I)V -/
abbrev P_271 (σ0 : SG) (a : Int32) : PO := fun v σ => WT σ ∧ Fr [(35, 21), (45, 0), (46, 0)] σ0 σ ∧ ∃ m1 : Int32, (σ 159)[21]? = some (Value.int m1) ∧ v = none ∧ -m1.toInt ≤ 0 ∧ m1.toInt - 13 ≤ 0
set_option maxRecDepth 10000 in
set_option maxHeartbeats 4000000 in
theorem c_271 (σ0 : SG) (hσ0 : WT σ0) (a : Int32) (hl_a : 0 ≤ a.toInt) (hu_a : a.toInt ≤ 3) : En 1 22 none mr_271 (P_271 σ0 a) 0 [(0, .ref 159), (1, .int a)] [] σ0 := by
  have hF0 : Fr [(35, 21), (45, 0), (46, 0)] σ0 σ0 := Fr_rfl
  refine En_Ps 2 (pc' := 2) (lv' := [(0, .ref 159), (1, .int a)]) (st' := [.int ((Int32.ofInt 0)), .ref 159]) rfl ?_
  refine En_put (j := 21) rfl rfl rfl tgz_159 (by decide +kernel) rfl (vI (l := 0) (u := 17) (by decide +kernel) (by decide : (Int32.ofInt 0).toInt = 0) (by decide) (by decide)) hσ0 hF0 (by decide +kernel) (fun σ1 h2 h3 h4 h5 => ?_)
  refine En_Ps 2 (pc' := 7) (lv' := [(2, .int ((Int32.ofInt 0))), (0, .ref 159), (1, .int a)]) (st' := []) rfl ?_
  have key7 : ∀ (n7 : Nat) (σ8 : SG) (y6 : Int32) (y7 : Int32), WT σ8 → Fr [(35, 21), (45, 0), (46, 0)] σ0 σ8 → (σ8 159)[21]? = some (Value.int y7) → 0 ≤ y6.toInt → y6.toInt ≤ 13 → 0 ≤ y7.toInt → y7.toInt ≤ 13 → y6.toInt - y7.toInt ≤ 0 → -y6.toInt + y7.toInt ≤ 0 → -y6.toInt + 13 < (n7 : Int) → En 1 22 none mr_271 (P_271 σ0 a) 7 [(0, .ref 159), (1, .int a), (2, .int y6)] [] σ8 := by
    intro n7
    induction n7 with
    | zero =>
      intro σ8 y6 y7 h9 h10 h11 h12 h13 h14 h15 h16 h17 h18
      first | exact (q_5583ec5aac h18 h13).elim | (exfalso; omega)
    | succ n7 ih7 =>
      intro σ8 y6 y7 h9 h10 h11 h12 h13 h14 h15 h16 h17 h18
      refine En_Ps 4 (pc' := 11) (lv' := [(0, .ref 159), (1, .int a), (2, .int y6)]) (st' := [.int ((Int32.ofInt 2)), .int a, .ref 159, .int y6]) rfl ?_
      have := (by decide : ((Int32.ofInt 2)).toInt = 2)
      obtain ⟨z19, h20, h21, h22⟩ := WT_peekJ (J := (4 * a.toInt + ((Int32.ofInt 2)).toInt + 10)) (l := 0) (u := 12) h9 tgz_160 (by decide +kernel) (by (first | exact q_0761fef2f2 this hl_a | omega)) (lnI (by decide +kernel : LN _ = 226) (by (first | exact q_d1089ad428 this hu_a | omega))) (FTrow 36 12 4 4 (by decide +kernel) (by (first | exact q_f2d287688d this hl_a | omega)) (by (first | exact q_0fdbec91b1 this hu_a | omega)) (by omega))
      have := (by decide : ((Int32.ofInt 2)).toInt = 2)
      refine En_callV rfl rfl rfl rfl rfl rfl rfl rfl tgz_159 (by decide +kernel) rfl (c_290c σ8 h9 a ((Int32.ofInt 2)) (geI rfl (by first | exact q_58e6e51dcc hl_a | omega)) (leI rfl (by first | exact q_da5e9b976f hu_a | omega)) (geI (by decide : (Int32.ofInt 2).toInt = 2) (by decide)) (leI (by decide : (Int32.ofInt 2).toInt = 2) (by decide)) z19 h20) (by decide) (by decide) (fun v24 σ25 h23 => ?_)
      obtain ⟨h26, h27, z29, rfl, h28⟩ := h23
      have h30 := Fr_trans h10 h27 (by decide +kernel)
      refine En_icGe _ rfl rfl rfl (fun h31 => ?_) (fun h31 => ?_)
      · exact En_ret (v := none) rfl rfl rfl ⟨h26, h30, y7, ((h27 _ _ (inW tgz_159 (by decide +kernel))).trans h11), rfl, ⟨by first | exact q_c803b490ef h14 | omega, by first | exact q_5fe2809411 h15 | omega⟩⟩
      · refine En_Ps 2 (pc' := 19) (lv' := [(0, .ref 159), (1, .int a), (2, .int y6)]) (st' := [.ref 159, .ref 159]) rfl ?_
        refine En_getU (j := 1) (u := 160) (g' := 36) (q := 0) rfl rfl rfl tgz_159 (by decide +kernel) h26 (by decide +kernel) un_36_160 (fun h32 => ?_)
        refine En_Ps 2 (pc' := 24) (lv' := [(0, .ref 159), (1, .int a), (2, .int y6)]) (st' := [.int y6, .int a, .ref 160, .ref 159]) rfl ?_
        refine En_callS rfl rfl rfl rfl rfl rfl rfl rfl rfl (c_281 σ25 h26 a y6 (geI rfl (by first | exact q_58e6e51dcc hl_a | omega)) (leI rfl (by first | exact q_da5e9b976f hu_a | omega)) (geI rfl (by first | exact q_58e6e51dcc h12 | omega)) (leI rfl (by first | exact q_d923c6da86 h31 h28.2.1 | omega))) (by decide) (by decide) (fun v35 σ36 h34 => ?_)
        obtain ⟨h37, h38, z40, rfl, h39⟩ := h34
        have h41 := Fr_trans h30 h38 (by decide +kernel)
        refine En_iald (l := 0) (u := 15) rfl rfl tgz_160 (by decide +kernel) h37 (by first | exact q_2c9de765f8 h39.1 | omega) (lnI (by decide +kernel : LN _ = 226) (by first | exact q_0616d82733 h39.2.1 | omega)) (FTrow 36 26 2 48 (by decide +kernel) (by first | exact q_cfcbae6494 h39.1 | omega) (by first | exact q_c04962bf42 h39.2.2.1 hu_a h31 h28.2.1 | omega) (by first | exact q_bfc7928b1f h39.2.2.1 h39.2.2.2 | omega)) (fun z43 h42 h44 h45 => ?_)
        refine En_Ps 1 (pc' := 29) (lv' := [(0, .ref 159), (1, .int a), (2, .int y6)]) (st' := [.ref 159, .int z43, .ref 159]) rfl ?_
        refine En_getK (j := 1) ((h38 _ _ (inW tgz_159 (by decide +kernel))).trans h32) rfl rfl rfl tgz_159 (by decide +kernel) ?_
        refine En_Ps 2 (pc' := 34) (lv' := [(0, .ref 159), (1, .int a), (2, .int y6)]) (st' := [.int y6, .int a, .ref 160, .int z43, .ref 159]) rfl ?_
        refine En_callS rfl rfl rfl rfl rfl rfl rfl rfl rfl (c_281 σ36 h37 a y6 (geI rfl (by first | exact q_58e6e51dcc hl_a | omega)) (leI rfl (by first | exact q_da5e9b976f hu_a | omega)) (geI rfl (by first | exact q_58e6e51dcc h12 | omega)) (leI rfl (by first | exact q_d923c6da86 h31 h28.2.1 | omega))) (by decide) (by decide) (fun v47 σ48 h46 => ?_)
        obtain ⟨h49, h50, z52, rfl, h51⟩ := h46
        have h53 := Fr_trans h41 h50 (by decide +kernel)
        refine En_Ps 2 (pc' := 39) (lv' := [(0, .ref 159), (1, .int a), (2, .int y6)]) (st' := [.int ((z52 + ((Int32.ofInt 1)))), .ref 160, .int z43, .ref 159]) rfl ?_
        refine En_top (addI rfl (by decide : (Int32.ofInt 1).toInt = 1) (by first | exact q_c40141e2b1 h51.1 | omega) (by first | exact q_919014a1f8 h51.2.1 | omega)) (fun z54 h55 => ?_)
        refine En_iald (l := 0) (u := 1) rfl rfl tgz_160 (by decide +kernel) h49 (by first | exact q_f9ae7b6bc1 h55 h51.1 | omega) (lnI (by decide +kernel : LN _ = 226) (by first | exact q_4c6d633468 h55 h51.2.1 | omega)) (FTrow 36 27 2 48 (by decide +kernel) (by first | exact q_af8e3f94d3 h55 h51.1 | omega) (by first | exact q_6cc87f4aa1 h55 h51.2.2.1 hu_a h31 h28.2.1 | omega) (by first | exact q_493b8125c1 h51.2.2.1 h55 h51.2.2.2 | omega)) (fun z57 h56 h58 h59 => ?_)
        refine En_callV rfl rfl rfl rfl rfl rfl rfl rfl tgz_159 (by decide +kernel) rfl (c_188 σ48 h49 z43 z57 (geI rfl (by first | exact q_58e6e51dcc h44 | omega)) (leI rfl (by first | exact q_5a4d8a7e08 h45 | omega)) (geI rfl (by first | exact q_58e6e51dcc h58 | omega)) (leI rfl (by first | exact q_9d0c30f9c5 h59 | omega)) y7 ((h50 _ _ (inW tgz_159 (by decide +kernel))).trans ((h38 _ _ (inW tgz_159 (by decide +kernel))).trans ((h27 _ _ (inW tgz_159 (by decide +kernel))).trans h11))) (by first | exact q_d46f366cdb h15 | omega)) (by decide) (by decide) (fun v61 σ62 h60 => ?_)
        obtain ⟨h63, h64, z66, h67, rfl, h65⟩ := h60
        have h68 := Fr_trans h53 h64 (by decide +kernel)
        refine En_Ps 1 (pc' := 46) (lv' := [(2, .int ((y6 + Int32.ofInt 1))), (0, .ref 159), (1, .int a)]) (st' := []) rfl ?_
        refine En_lv1 (addI rfl (by decide : (Int32.ofInt 1).toInt = 1) (by first | exact q_465ab79ac1 h12 | omega) (by first | exact q_d22f73d43b h13 | omega)) (fun z69 h70 => ?_)
        refine En_Ps 1 (pc' := 7) (lv' := [(2, .int z69), (0, .ref 159), (1, .int a)]) (st' := []) rfl ?_
        refine En_lv (lv := [(0, .ref 159), (1, .int a), (2, .int z69)]) ⟨rfl, rfl, rfl, trivial⟩ ?_
        exact ih7 σ62 z69 z66 h63 h68 h67 (by first | exact q_35104ce9d3 h70 h12 | omega) (by first | exact q_54f15c7756 h70 h31 h28.2.1 | omega) (by first | exact q_996aa4c518 h65.1 | omega) (by first | exact q_d1ae77b671 h65.2.2.2.1 h17 h31 h28.2.1 | omega) (by first | exact q_1bf6efff14 h65.2.2.1 h70 h16 | omega) (by first | exact q_1101def2bb h65.2.2.2.1 h70 h17 | omega) (by first | exact q_20fedeb4b2 h70 h18 | omega)
  have := (by decide : (Int32.ofInt 0).toInt = 0)
  have := (by decide : (Int32.ofInt 0).toInt = 0)
  refine En_lv (lv := [(0, .ref 159), (1, .int a), (2, .int ((Int32.ofInt 0)))]) ⟨rfl, rfl, rfl, trivial⟩ ?_
  exact key7 (Int.toNat (13) + 1) σ1 ((Int32.ofInt 0)) ((Int32.ofInt 0)) h2 h3 h4 (by decide) (by decide) (by decide) (by decide) (by (first | exact q_1bb76abeaf | omega)) (by (first | exact q_857069189f | omega)) (by first | exact toN_lt _ | omega)
/-- DoorSchoolModel.isAsTold(I)Z -/
abbrev P_252 (σ0 : SG) (a : Int32) : PO := fun v σ => WT σ ∧ Fr [] σ0 σ ∧ ∃ ret : Int32, v = some (Value.int ret) ∧ -ret.toInt ≤ 0 ∧ ret.toInt - 1 ≤ 0
set_option maxRecDepth 10000 in
set_option maxHeartbeats 4000000 in
theorem c_252 (σ0 : SG) (hσ0 : WT σ0) (a : Int32) : En 1 21 none mr_252 (P_252 σ0 a) 0 [(0, .ref 159), (1, .int a)] [] σ0 := by
  have hF0 : Fr [] σ0 σ0 := Fr_rfl
  refine En_Ps 2 (pc' := 2) (lv' := [(2, .int ((Int32.ofInt 0))), (0, .ref 159), (1, .int a)]) (st' := []) rfl ?_
  have key2 : ∀ (n2 : Nat) (σ2 : SG) (y1 : Int32), WT σ2 → Fr [] σ0 σ2 → 0 ≤ y1.toInt → y1.toInt ≤ 50 → -y1.toInt + 50 < (n2 : Int) → En 1 21 none mr_252 (P_252 σ0 a) 2 [(0, .ref 159), (1, .int a), (2, .int y1)] [] σ2 := by
    intro n2
    induction n2 with
    | zero =>
      intro σ2 y1 h3 h4 h5 h6 h7
      first | exact (q_0f6934dca7 h7 h6).elim | (exfalso; omega)
    | succ n2 ih2 =>
      intro σ2 y1 h3 h4 h5 h6 h7
      refine En_Ps 2 (pc' := 4) (lv' := [(0, .ref 159), (1, .int a), (2, .int y1)]) (st' := [.ref 159, .int y1]) rfl ?_
      refine En_getI (j := 21) (l := 0) (u := 17) rfl rfl rfl tgz_159 (by decide +kernel) h3 (by decide +kernel) (fun z9 h8 h10 h11 => ?_)
      refine En_icGe _ rfl rfl rfl (fun h12 => ?_) (fun h12 => ?_)
      · refine En_Ps 1 (pc' := 38) (lv' := [(0, .ref 159), (1, .int a), (2, .int y1)]) (st' := [.int ((Int32.ofInt 1))]) rfl ?_
        refine En_top (by decide : (Int32.ofInt 1).toInt = 1) (fun z13 h14 => ?_)
        exact En_ret (v := some (Value.int z13)) rfl rfl (retZ rfl rfl (by first | exact q_2b07c97645 h14 | omega) (by first | exact q_d9e7cbb253 h14 | omega)) ⟨h3, h4, z13, rfl, ⟨by first | exact q_ad3eee31ca h14 | omega, by first | exact q_81cf297dc4 h14 | omega⟩⟩
      · refine En_Ps 2 (pc' := 12) (lv' := [(0, .ref 159), (1, .int a), (2, .int y1)]) (st' := [.ref 159, .int a]) rfl ?_
        refine En_getU (j := 19) (u := 169) (g' := 45) (q := 0) rfl rfl rfl tgz_159 (by decide +kernel) h3 (by decide +kernel) un_45_169 (fun h15 => ?_)
        refine En_Ps 1 (pc' := 16) (lv' := [(0, .ref 159), (1, .int a), (2, .int y1)]) (st' := [.int y1, .ref 169, .int a]) rfl ?_
        refine En_iald (l := 0) (u := 15) rfl rfl tgz_169 (by decide +kernel) h3 (by first | exact q_58e6e51dcc h5 | omega) (lnI (by decide +kernel : LN _ = 17) (by first | exact q_3c0e2e8016 h12 h11 | omega)) (FTsgl (by decide +kernel)) (fun z18 h17 h19 h20 => ?_)
        refine En_callS rfl rfl rfl rfl rfl rfl rfl rfl rfl (c_202b σ2 h3 a z18) (by decide) (by decide) (fun v22 σ23 h21 => ?_)
        obtain ⟨h24, h25, z27, rfl, h26⟩ := h21
        have h28 := Fr_trans h4 h25 (by decide +kernel)
        refine En_Ps 1 (pc' := 21) (lv' := [(0, .ref 159), (1, .int a), (2, .int y1)]) (st' := [.ref 159, .int z27]) rfl ?_
        refine En_getU (j := 20) (u := 170) (g' := 46) (q := 0) rfl rfl rfl tgz_159 (by decide +kernel) h24 (by decide +kernel) un_46_170 (fun h29 => ?_)
        refine En_Ps 1 (pc' := 25) (lv' := [(0, .ref 159), (1, .int a), (2, .int y1)]) (st' := [.int y1, .ref 170, .int z27]) rfl ?_
        refine En_iald (l := 0) (u := 1) rfl rfl tgz_170 (by decide +kernel) h24 (by first | exact q_58e6e51dcc h5 | omega) (lnI (by decide +kernel : LN _ = 17) (by first | exact q_3c0e2e8016 h12 h11 | omega)) (FTsgl (by decide +kernel)) (fun z32 h31 h33 h34 => ?_)
        refine En_icEq _ rfl rfl rfl (fun h35 => ?_) (fun h35 => ?_)
        · refine En_Ps 1 (pc' := 34) (lv' := [(2, .int ((y1 + Int32.ofInt 1))), (0, .ref 159), (1, .int a)]) (st' := []) rfl ?_
          refine En_lv1 (addI rfl (by decide : (Int32.ofInt 1).toInt = 1) (by first | exact q_465ab79ac1 h5 | omega) (by first | exact q_c4feee4d2e h6 | omega)) (fun z36 h37 => ?_)
          refine En_Ps 1 (pc' := 2) (lv' := [(2, .int z36), (0, .ref 159), (1, .int a)]) (st' := []) rfl ?_
          refine En_lv (lv := [(0, .ref 159), (1, .int a), (2, .int z36)]) ⟨rfl, rfl, rfl, trivial⟩ ?_
          exact ih2 σ23 z36 h24 h28 (by first | exact q_35104ce9d3 h37 h5 | omega) (by first | exact q_e18cd89a20 h37 h12 h11 | omega) (by first | exact q_fc5bfd9d02 h37 h7 | omega)
        · refine En_Ps 1 (pc' := 30) (lv' := [(0, .ref 159), (1, .int a), (2, .int y1)]) (st' := [.int ((Int32.ofInt 0))]) rfl ?_
          refine En_top (by decide : (Int32.ofInt 0).toInt = 0) (fun z38 h39 => ?_)
          exact En_ret (v := some (Value.int z38)) rfl rfl (retZ rfl rfl (by first | exact q_55451d0a83 h39 | omega) (by first | exact q_87849c3859 h39 | omega)) ⟨h24, h28, z38, rfl, ⟨by first | exact q_097a37c2ae h39 | omega, by first | exact q_e269517bee h39 | omega⟩⟩
  have := (by decide : (Int32.ofInt 0).toInt = 0)
  refine En_lv (lv := [(0, .ref 159), (1, .int a), (2, .int ((Int32.ofInt 0)))]) ⟨rfl, rfl, rfl, trivial⟩ ?_
  exact key2 (Int.toNat (50) + 1) σ0 ((Int32.ofInt 0)) hσ0 hF0 (by decide) (by decide) (by first | exact toN_lt _ | omega)
/-- DoorSchoolModel.firstRule()I -/
abbrev P_229 (σ0 : SG) : PO := fun v σ => WT σ ∧ Fr [] σ0 σ ∧ ∃ ret : Int32, v = some (Value.int ret) ∧ -ret.toInt - 1 ≤ 0 ∧ ret.toInt - 80 ≤ 0
set_option maxRecDepth 10000 in
set_option maxHeartbeats 4000000 in
theorem c_229 (σ0 : SG) (hσ0 : WT σ0) : En 2 43 none mr_229 (P_229 σ0) 0 [(0, .ref 159)] [] σ0 := by
  have hF0 : Fr [] σ0 σ0 := Fr_rfl
  refine En_Ps 2 (pc' := 2) (lv' := [(1, .int ((Int32.ofInt 0))), (0, .ref 159)]) (st' := []) rfl ?_
  have key2 : ∀ (n2 : Nat) (σ2 : SG) (y1 : Int32), WT σ2 → Fr [] σ0 σ2 → 0 ≤ y1.toInt → y1.toInt ≤ 81 → -y1.toInt + 81 < (n2 : Int) → En 2 43 none mr_229 (P_229 σ0) 2 [(0, .ref 159), (1, .int y1)] [] σ2 := by
    intro n2
    induction n2 with
    | zero =>
      intro σ2 y1 h3 h4 h5 h6 h7
      first | exact (q_ffef14d449 h7 h6).elim | (exfalso; omega)
    | succ n2 ih2 =>
      intro σ2 y1 h3 h4 h5 h6 h7
      refine En_Ps 2 (pc' := 4) (lv' := [(0, .ref 159), (1, .int y1)]) (st' := [.ref 159, .int y1]) rfl ?_
      refine En_getI (j := 18) (l := 0) (u := 81) rfl rfl rfl tgz_159 (by decide +kernel) h3 (by decide +kernel) (fun z9 h8 h10 h11 => ?_)
      refine En_icGe _ rfl rfl rfl (fun h12 => ?_) (fun h12 => ?_)
      · refine En_Ps 1 (pc' := 32) (lv' := [(0, .ref 159), (1, .int y1)]) (st' := [.int ((Int32.ofInt (-1)))]) rfl ?_
        refine En_top (by decide : (Int32.ofInt (-1)).toInt = -1) (fun z13 h14 => ?_)
        exact En_ret (v := some (Value.int z13)) rfl rfl rfl ⟨h3, h4, z13, rfl, ⟨by first | exact q_6ba54b61e9 h14 | omega, by first | exact q_ed1bd306dd h14 | omega⟩⟩
      · refine En_Ps 2 (pc' := 12) (lv' := [(0, .ref 159), (1, .int y1)]) (st' := [.ref 159, .ref 159]) rfl ?_
        refine En_getU (j := 17) (u := 168) (g' := 44) (q := 0) rfl rfl rfl tgz_159 (by decide +kernel) h3 (by decide +kernel) un_44_168 (fun h15 => ?_)
        refine En_Ps 1 (pc' := 16) (lv' := [(0, .ref 159), (1, .int y1)]) (st' := [.int y1, .ref 168, .ref 159]) rfl ?_
        refine En_iald (l := (-2147483648)) (u := 2147483647) rfl rfl tgz_168 (by decide +kernel) h3 (by first | exact q_58e6e51dcc h5 | omega) (lnI (by decide +kernel : LN _ = 81) (by first | exact q_a0e855914a h12 h11 | omega)) (FTsgl (by decide +kernel)) (fun z18 h17 h19 h20 => ?_)
        refine En_callV rfl rfl rfl rfl rfl rfl rfl rfl tgz_159 (by decide +kernel) rfl (c_252 σ2 h3 z18) (by decide) (by decide) (fun v22 σ23 h21 => ?_)
        obtain ⟨h24, h25, z27, rfl, h26⟩ := h21
        have h28 := Fr_trans h4 h25 (by decide +kernel)
        refine En_iEq _ rfl rfl (fun h29 => ?_) (fun h29 => ?_)
        · refine En_Ps 1 (pc' := 28) (lv' := [(1, .int ((y1 + Int32.ofInt 1))), (0, .ref 159)]) (st' := []) rfl ?_
          refine En_lv1 (addI rfl (by decide : (Int32.ofInt 1).toInt = 1) (by first | exact q_465ab79ac1 h5 | omega) (by first | exact q_d778ff18c8 h6 | omega)) (fun z30 h31 => ?_)
          refine En_Ps 1 (pc' := 2) (lv' := [(1, .int z30), (0, .ref 159)]) (st' := []) rfl ?_
          refine En_lv (lv := [(0, .ref 159), (1, .int z30)]) ⟨rfl, rfl, trivial⟩ ?_
          exact ih2 σ23 z30 h24 h28 (by first | exact q_35104ce9d3 h31 h5 | omega) (by first | exact q_798b104d48 h31 h12 h11 | omega) (by first | exact q_4ff790945b h31 h7 | omega)
        · refine En_Ps 1 (pc' := 24) (lv' := [(0, .ref 159), (1, .int y1)]) (st' := [.int y1]) rfl ?_
          exact En_ret (v := some (Value.int y1)) rfl rfl rfl ⟨h24, h28, y1, rfl, ⟨by first | exact q_565e7b05df h5 | omega, by first | exact q_6b56ae27a7 h12 h11 | omega⟩⟩
  have := (by decide : (Int32.ofInt 0).toInt = 0)
  refine En_lv (lv := [(0, .ref 159), (1, .int ((Int32.ofInt 0)))]) ⟨rfl, rfl, trivial⟩ ?_
  exact key2 (Int.toNat (81) + 1) σ0 ((Int32.ofInt 0)) hσ0 hF0 (by decide) (by decide) (by first | exact toN_lt _ | omega)
/-- DoorSchoolModel.latestOf(I)I -/
abbrev P_270 (σ0 : SG) (a : Int32) (m : Int32) : PO := fun v σ => WT σ ∧ Fr [] σ0 σ ∧ ∃ ret : Int32, v = some (Value.int ret) ∧ -ret.toInt - 1 ≤ 0 ∧ ret.toInt - 16 ≤ 0 ∧ ret.toInt - m.toInt + 1 ≤ 0
set_option maxRecDepth 10000 in
set_option maxHeartbeats 4000000 in
theorem c_270 (σ0 : SG) (hσ0 : WT σ0) (a : Int32) (m : Int32) (h_m : (σ0 159)[21]? = some (Value.int m)) : En 0 0 none mr_270 (P_270 σ0 a m) 0 [(0, .ref 159), (1, .int a)] [] σ0 := by
  obtain ⟨hl_m, hu_m⟩ := WT_int hσ0 (g := 35) (by decide +kernel) (by decide +kernel) (l := 0) (u := 17) (by decide +kernel) h_m
  have hF0 : Fr [] σ0 σ0 := Fr_rfl
  refine En_Ps 1 (pc' := 1) (lv' := [(0, .ref 159), (1, .int a)]) (st' := [.ref 159]) rfl ?_
  refine En_getK (j := 21) h_m rfl rfl rfl tgz_159 (by decide +kernel) ?_
  refine En_Ps 2 (pc' := 6) (lv' := [(0, .ref 159), (1, .int a)]) (st' := [.int ((m - ((Int32.ofInt 1))))]) rfl ?_
  refine En_top (subI rfl (by decide : (Int32.ofInt 1).toInt = 1) (by first | exact q_93f9478bef hl_m | omega) (by first | exact q_05c194ef54 hu_m | omega)) (fun z1 h2 => ?_)
  refine En_Ps 1 (pc' := 7) (lv' := [(2, .int z1), (0, .ref 159), (1, .int a)]) (st' := []) rfl ?_
  have key7 : ∀ (n7 : Nat) (σ4 : SG) (y3 : Int32), WT σ4 → Fr [] σ0 σ4 → (σ4 159)[21]? = some (Value.int m) → (-1) ≤ y3.toInt → y3.toInt ≤ 16 → y3.toInt - m.toInt + 1 ≤ 0 → y3.toInt + 1 < (n7 : Int) → En 0 0 none mr_270 (P_270 σ0 a m) 7 [(0, .ref 159), (1, .int a), (2, .int y3)] [] σ4 := by
    intro n7
    induction n7 with
    | zero =>
      intro σ4 y3 h5 h6 h7 h8 h9 h10 h11
      first | exact (q_d30ca37d8c h8 h11).elim | (exfalso; omega)
    | succ n7 ih7 =>
      intro σ4 y3 h5 h6 h7 h8 h9 h10 h11
      refine En_Ps 1 (pc' := 8) (lv' := [(0, .ref 159), (1, .int a), (2, .int y3)]) (st' := [.int y3]) rfl ?_
      refine En_iLt _ rfl rfl (fun h12 => ?_) (fun h12 => ?_)
      · refine En_Ps 1 (pc' := 30) (lv' := [(0, .ref 159), (1, .int a), (2, .int y3)]) (st' := [.int ((Int32.ofInt (-1)))]) rfl ?_
        refine En_top (by decide : (Int32.ofInt (-1)).toInt = -1) (fun z13 h14 => ?_)
        exact En_ret (v := some (Value.int z13)) rfl rfl rfl ⟨h5, h6, z13, rfl, ⟨by first | exact q_6ba54b61e9 h14 | omega, by first | exact q_0fdbae2b22 h14 | omega, by first | exact q_3ce96d76a4 hl_m h14 | omega⟩⟩
      · refine En_Ps 1 (pc' := 12) (lv' := [(0, .ref 159), (1, .int a), (2, .int y3)]) (st' := [.ref 159]) rfl ?_
        refine En_getU (j := 19) (u := 169) (g' := 45) (q := 0) rfl rfl rfl tgz_159 (by decide +kernel) h5 (by decide +kernel) un_45_169 (fun h15 => ?_)
        refine En_Ps 1 (pc' := 16) (lv' := [(0, .ref 159), (1, .int a), (2, .int y3)]) (st' := [.int y3, .ref 169]) rfl ?_
        refine En_iald (l := 0) (u := 15) rfl rfl tgz_169 (by decide +kernel) h5 (by first | exact q_58e6e51dcc h12 | omega) (lnI (by decide +kernel : LN _ = 17) (by first | exact q_3c94711a6f h9 | omega)) (FTsgl (by decide +kernel)) (fun z18 h17 h19 h20 => ?_)
        refine En_Ps 1 (pc' := 18) (lv' := [(0, .ref 159), (1, .int a), (2, .int y3)]) (st' := [.int a, .int z18]) rfl ?_
        refine En_icNe _ rfl rfl rfl (fun h21 => ?_) (fun h21 => ?_)
        · refine En_Ps 1 (pc' := 26) (lv' := [(2, .int ((y3 + Int32.ofInt (-1)))), (0, .ref 159), (1, .int a)]) (st' := []) rfl ?_
          refine En_lv1 (addI rfl (by decide : (Int32.ofInt (-1)).toInt = -1) (by first | exact q_069e58d060 h12 | omega) (by first | exact q_18d94ff330 h9 | omega)) (fun z22 h23 => ?_)
          refine En_Ps 1 (pc' := 7) (lv' := [(2, .int z22), (0, .ref 159), (1, .int a)]) (st' := []) rfl ?_
          refine En_lv (lv := [(0, .ref 159), (1, .int a), (2, .int z22)]) ⟨rfl, rfl, rfl, trivial⟩ ?_
          exact ih7 σ4 z22 h5 h6 h7 (by first | exact q_1dc8c15c2b h23 h12 | omega) (by first | exact q_6ba80c26a7 h23 h9 | omega) (by first | exact q_ad24c9502e h10 h23 | omega) (by first | exact q_03fcbe2dc3 h23 h11 | omega)
        · refine En_Ps 1 (pc' := 22) (lv' := [(0, .ref 159), (1, .int a), (2, .int y3)]) (st' := [.int y3]) rfl ?_
          exact En_ret (v := some (Value.int y3)) rfl rfl rfl ⟨h5, h6, y3, rfl, ⟨by first | exact q_565e7b05df h12 | omega, by first | exact q_774c92aa9b h9 | omega, by first | exact q_ef157b5a0e h10 | omega⟩⟩
  refine En_lv (lv := [(0, .ref 159), (1, .int a), (2, .int z1)]) ⟨rfl, rfl, rfl, trivial⟩ ?_
  exact key7 (Int.toNat (z1.toInt + 1) + 1) σ0 z1 hσ0 hF0 h_m (by first | exact q_e2c277696c h2 hl_m | omega) (by first | exact q_6a76617d8e h2 hu_m | omega) (by first | exact q_8e6f8e4fd9 h2 | omega) (by first | exact toN_lt _ | omega)
/-- DoorSchoolModel.nearestTo(I)I -/
abbrev P_285 (σ0 : SG) (a : Int32) (m : Int32) : PO := fun v σ => WT σ ∧ Fr [] σ0 σ ∧ ∃ ret : Int32, v = some (Value.int ret) ∧ -ret.toInt - 1 ≤ 0 ∧ ret.toInt - 16 ≤ 0 ∧ ret.toInt - m.toInt + 1 ≤ 0
set_option maxRecDepth 10000 in
set_option maxHeartbeats 4000000 in
theorem c_285 (σ0 : SG) (hσ0 : WT σ0) (a : Int32) (m : Int32) (h_m : (σ0 159)[21]? = some (Value.int m)) : En 1 22 none mr_285 (P_285 σ0 a m) 0 [(0, .ref 159), (1, .int a)] [] σ0 := by
  obtain ⟨hl_m, hu_m⟩ := WT_int hσ0 (g := 35) (by decide +kernel) (by decide +kernel) (l := 0) (u := 17) (by decide +kernel) h_m
  have hF0 : Fr [] σ0 σ0 := Fr_rfl
  refine En_Ps 4 (pc' := 4) (lv' := [(3, .int ((Int32.ofInt 0))), (2, .int ((Int32.ofInt (-1)))), (0, .ref 159), (1, .int a)]) (st' := []) rfl ?_
  have key4 : ∀ (n4 : Nat) (σ3 : SG) (y1 : Int32) (y2 : Int32), WT σ3 → Fr [] σ0 σ3 → (σ3 159)[21]? = some (Value.int m) → (-1) ≤ y1.toInt → y1.toInt ≤ 16 → 0 ≤ y2.toInt → y2.toInt ≤ 17 → y2.toInt - m.toInt ≤ 0 → y1.toInt - y2.toInt + 1 ≤ 0 → m.toInt - y2.toInt < (n4 : Int) → En 1 22 none mr_285 (P_285 σ0 a m) 4 [(0, .ref 159), (1, .int a), (2, .int y1), (3, .int y2)] [] σ3 := by
    intro n4
    induction n4 with
    | zero =>
      intro σ3 y1 y2 h4 h5 h6 h7 h8 h9 h10 h11 h12 h13
      first | exact (q_14257feae7 h11 h13).elim | (exfalso; omega)
    | succ n4 ih4 =>
      intro σ3 y1 y2 h4 h5 h6 h7 h8 h9 h10 h11 h12 h13
      refine En_Ps 2 (pc' := 6) (lv' := [(0, .ref 159), (1, .int a), (2, .int y1), (3, .int y2)]) (st' := [.ref 159, .int y2]) rfl ?_
      refine En_getK (j := 21) h6 rfl rfl rfl tgz_159 (by decide +kernel) ?_
      refine En_icGe _ rfl rfl rfl (fun h14 => ?_) (fun h14 => ?_)
      · refine En_Ps 1 (pc' := 51) (lv' := [(0, .ref 159), (1, .int a), (2, .int y1), (3, .int y2)]) (st' := [.int y1]) rfl ?_
        exact En_ret (v := some (Value.int y1)) rfl rfl rfl ⟨h4, h5, y1, rfl, ⟨by first | exact q_909eef6c0e h7 | omega, by first | exact q_774c92aa9b h8 | omega, by first | exact q_985cb060c6 h11 h12 | omega⟩⟩
      · refine En_Ps 2 (pc' := 14) (lv' := [(0, .ref 159), (1, .int a), (2, .int y1), (3, .int y2)]) (st' := [.int ((Int32.ofInt (-1))), .int y1]) rfl ?_
        refine En_icEq _ rfl (by decide : (Int32.ofInt (-1)).toInt = -1) rfl (fun h15 => ?_) (fun h15 => ?_)
        · refine En_Ps 3 (pc' := 47) (lv' := [(3, .int ((y2 + Int32.ofInt 1))), (2, .int y2), (0, .ref 159), (1, .int a)]) (st' := []) rfl ?_
          refine En_lv1 (addI rfl (by decide : (Int32.ofInt 1).toInt = 1) (by first | exact q_465ab79ac1 h9 | omega) (by first | exact q_8fddffa1e7 h10 | omega)) (fun z16 h17 => ?_)
          refine En_Ps 1 (pc' := 4) (lv' := [(3, .int z16), (2, .int y2), (0, .ref 159), (1, .int a)]) (st' := []) rfl ?_
          refine En_lv (lv := [(0, .ref 159), (1, .int a), (2, .int y2), (3, .int z16)]) ⟨rfl, rfl, rfl, rfl, trivial⟩ ?_
          exact ih4 σ3 y2 z16 h4 h5 h6 (by first | exact q_5b439548fc h9 | omega) (by first | exact q_9db15d274e h14 hu_m | omega) (by first | exact q_35104ce9d3 h17 h9 | omega) (by first | exact q_7686b24621 h17 h14 hu_m | omega) (by first | exact q_ae2dbf4292 h14 h17 | omega) (by first | exact q_2fedec469a h17 | omega) (by first | exact q_8d03a5a7cb h17 h13 | omega)
        · refine En_Ps 1 (pc' := 18) (lv' := [(0, .ref 159), (1, .int a), (2, .int y1), (3, .int y2)]) (st' := [.ref 159]) rfl ?_
          refine En_getU (j := 19) (u := 169) (g' := 45) (q := 0) rfl rfl rfl tgz_159 (by decide +kernel) h4 (by decide +kernel) un_45_169 (fun h18 => ?_)
          refine En_Ps 1 (pc' := 22) (lv' := [(0, .ref 159), (1, .int a), (2, .int y1), (3, .int y2)]) (st' := [.int y2, .ref 169]) rfl ?_
          refine En_iald (l := 0) (u := 15) rfl rfl tgz_169 (by decide +kernel) h4 (by first | exact q_58e6e51dcc h9 | omega) (lnI (by decide +kernel : LN _ = 17) (by first | exact q_3c0e2e8016 h14 hu_m | omega)) (FTsgl (by decide +kernel)) (fun z21 h20 h22 h23 => ?_)
          refine En_Ps 2 (pc' := 25) (lv' := [(0, .ref 159), (1, .int a), (2, .int y1), (3, .int y2)]) (st' := [.int ((z21 ^^^ a))]) rfl ?_
          refine En_hav (fun z24 => ?_)
          refine En_callS rfl rfl rfl rfl rfl rfl rfl rfl rfl (c_203b σ3 h4 z24) (by decide) (by decide) (fun v26 σ27 h25 => ?_)
          obtain ⟨h28, h29, z31, rfl, h30⟩ := h25
          have h32 := Fr_trans h5 h29 (by decide +kernel)
          refine En_Ps 1 (pc' := 29) (lv' := [(0, .ref 159), (1, .int a), (2, .int y1), (3, .int y2)]) (st' := [.ref 159, .int z31]) rfl ?_
          refine En_getK (j := 19) ((h29 _ _ (inW tgz_159 (by decide +kernel))).trans h18) rfl rfl rfl tgz_159 (by decide +kernel) ?_
          refine En_Ps 1 (pc' := 33) (lv' := [(0, .ref 159), (1, .int a), (2, .int y1), (3, .int y2)]) (st' := [.int y1, .ref 169, .int z31]) rfl ?_
          refine En_iald (l := 0) (u := 15) rfl rfl tgz_169 (by decide +kernel) h28 (by first | exact q_eab05c2344 h15 h7 | omega) (lnI (by decide +kernel : LN _ = 17) (by first | exact q_3c94711a6f h8 | omega)) (FTsgl (by decide +kernel)) (fun z34 h33 h35 h36 => ?_)
          refine En_Ps 2 (pc' := 36) (lv' := [(0, .ref 159), (1, .int a), (2, .int y1), (3, .int y2)]) (st' := [.int ((z34 ^^^ a)), .int z31]) rfl ?_
          refine En_hav (fun z37 => ?_)
          refine En_callS rfl rfl rfl rfl rfl rfl rfl rfl rfl (c_203b σ27 h28 z37) (by decide) (by decide) (fun v39 σ40 h38 => ?_)
          obtain ⟨h41, h42, z44, rfl, h43⟩ := h38
          have h45 := Fr_trans h32 h42 (by decide +kernel)
          refine En_icGe _ rfl rfl rfl (fun h46 => ?_) (fun h46 => ?_)
          · refine En_Ps 1 (pc' := 47) (lv' := [(3, .int ((y2 + Int32.ofInt 1))), (0, .ref 159), (1, .int a), (2, .int y1)]) (st' := []) rfl ?_
            refine En_lv1 (addI rfl (by decide : (Int32.ofInt 1).toInt = 1) (by first | exact q_465ab79ac1 h9 | omega) (by first | exact q_8fddffa1e7 h10 | omega)) (fun z47 h48 => ?_)
            refine En_Ps 1 (pc' := 4) (lv' := [(3, .int z47), (0, .ref 159), (1, .int a), (2, .int y1)]) (st' := []) rfl ?_
            refine En_lv (lv := [(0, .ref 159), (1, .int a), (2, .int y1), (3, .int z47)]) ⟨rfl, rfl, rfl, rfl, trivial⟩ ?_
            exact ih4 σ40 y1 z47 h41 h45 ((h42 _ _ (inW tgz_159 (by decide +kernel))).trans ((h29 _ _ (inW tgz_159 (by decide +kernel))).trans h6)) (by first | exact q_8d1c67ec40 h15 h7 | omega) (by first | exact q_60616f21a7 h8 | omega) (by first | exact q_35104ce9d3 h48 h9 | omega) (by first | exact q_7686b24621 h48 h14 hu_m | omega) (by first | exact q_ae2dbf4292 h14 h48 | omega) (by first | exact q_6591527e3e h12 h48 | omega) (by first | exact q_8d03a5a7cb h48 h13 | omega)
          · refine En_Ps 3 (pc' := 47) (lv' := [(3, .int ((y2 + Int32.ofInt 1))), (2, .int y2), (0, .ref 159), (1, .int a)]) (st' := []) rfl ?_
            refine En_lv1 (addI rfl (by decide : (Int32.ofInt 1).toInt = 1) (by first | exact q_465ab79ac1 h9 | omega) (by first | exact q_8fddffa1e7 h10 | omega)) (fun z49 h50 => ?_)
            refine En_Ps 1 (pc' := 4) (lv' := [(3, .int z49), (2, .int y2), (0, .ref 159), (1, .int a)]) (st' := []) rfl ?_
            refine En_lv (lv := [(0, .ref 159), (1, .int a), (2, .int y2), (3, .int z49)]) ⟨rfl, rfl, rfl, rfl, trivial⟩ ?_
            exact ih4 σ40 y2 z49 h41 h45 ((h42 _ _ (inW tgz_159 (by decide +kernel))).trans ((h29 _ _ (inW tgz_159 (by decide +kernel))).trans h6)) (by first | exact q_5b439548fc h9 | omega) (by first | exact q_9db15d274e h14 hu_m | omega) (by first | exact q_35104ce9d3 h50 h9 | omega) (by first | exact q_7686b24621 h50 h14 hu_m | omega) (by first | exact q_ae2dbf4292 h14 h50 | omega) (by first | exact q_2fedec469a h50 | omega) (by first | exact q_8d03a5a7cb h50 h13 | omega)
  have := (by decide : (Int32.ofInt (-1)).toInt = -1)
  have := (by decide : (Int32.ofInt 0).toInt = 0)
  refine En_lv (lv := [(0, .ref 159), (1, .int a), (2, .int ((Int32.ofInt (-1)))), (3, .int ((Int32.ofInt 0)))]) ⟨rfl, rfl, rfl, rfl, trivial⟩ ?_
  exact key4 (Int.toNat (m.toInt) + 1) σ0 ((Int32.ofInt (-1))) ((Int32.ofInt 0)) hσ0 hF0 h_m (by decide) (by decide) (by decide) (by decide) (by (first | exact q_d69f448e8e this hl_m | omega)) (by (first | exact q_2e3352c2b4 this (by decide) | omega)) (by first | exact toN_lt _ | omega)
/-- DoorSchoolModel.byLesson(II)I -/
abbrev P_204 (σ0 : SG) (a : Int32) (b : Int32) (m : Int32) : PO := fun v σ => WT σ ∧ Fr [] σ0 σ ∧ ∃ ret : Int32, v = some (Value.int ret) ∧ -ret.toInt - 1 ≤ 0 ∧ ret.toInt - 16 ≤ 0 ∧ ret.toInt - m.toInt + 1 ≤ 0
set_option maxRecDepth 10000 in
set_option maxHeartbeats 4000000 in
theorem c_204 (σ0 : SG) (hσ0 : WT σ0) (a : Int32) (b : Int32) (m : Int32) (h_m : (σ0 159)[21]? = some (Value.int m)) : En 2 45 none mr_204 (P_204 σ0 a b m) 0 [(0, .ref 159), (1, .int a), (2, .int b)] [] σ0 := by
  obtain ⟨hl_m, hu_m⟩ := WT_int hσ0 (g := 35) (by decide +kernel) (by decide +kernel) (l := 0) (u := 17) (by decide +kernel) h_m
  have hF0 : Fr [] σ0 σ0 := Fr_rfl
  refine En_Ps 1 (pc' := 1) (lv' := [(0, .ref 159), (1, .int a), (2, .int b)]) (st' := [.int a]) rfl ?_
  refine En_iNe _ rfl rfl (fun h1 => ?_) (fun h1 => ?_)
  · refine En_Ps 2 (pc' := 14) (lv' := [(0, .ref 159), (1, .int a), (2, .int b)]) (st' := [.int ((Int32.ofInt 2)), .int a]) rfl ?_
    refine En_icNe _ rfl (by decide : (Int32.ofInt 2).toInt = 2) rfl (fun h2 => ?_) (fun h2 => ?_)
    · refine En_Ps 1 (pc' := 26) (lv' := [(0, .ref 159), (1, .int a), (2, .int b)]) (st' := [.int ((Int32.ofInt (-1)))]) rfl ?_
      refine En_top (by decide : (Int32.ofInt (-1)).toInt = -1) (fun z3 h4 => ?_)
      exact En_ret (v := some (Value.int z3)) rfl rfl rfl ⟨hσ0, hF0, z3, rfl, ⟨by first | exact q_6ba54b61e9 h4 | omega, by first | exact q_0fdbae2b22 h4 | omega, by first | exact q_3ce96d76a4 hl_m h4 | omega⟩⟩
    · refine En_Ps 2 (pc' := 19) (lv' := [(0, .ref 159), (1, .int a), (2, .int b)]) (st' := [.int b, .ref 159]) rfl ?_
      refine En_callV rfl rfl rfl rfl rfl rfl rfl rfl tgz_159 (by decide +kernel) rfl (c_285 σ0 hσ0 b m h_m) (by decide) (by decide) (fun v6 σ7 h5 => ?_)
      obtain ⟨h8, h9, z11, rfl, h10⟩ := h5
      have h12 := Fr_trans hF0 h9 (by decide +kernel)
      refine En_Ps 1 (pc' := 26) (lv' := [(0, .ref 159), (1, .int a), (2, .int b)]) (st' := [.int z11]) rfl ?_
      exact En_ret (v := some (Value.int z11)) rfl rfl rfl ⟨h8, h12, z11, rfl, ⟨by first | exact q_98e1bded96 h10.1 | omega, by first | exact q_0e990c4066 h10.2.1 | omega, by first | exact q_ef157b5a0e h10.2.2 | omega⟩⟩
  · refine En_Ps 2 (pc' := 6) (lv' := [(0, .ref 159), (1, .int a), (2, .int b)]) (st' := [.int b, .ref 159]) rfl ?_
    refine En_callV rfl rfl rfl rfl rfl rfl rfl rfl tgz_159 (by decide +kernel) rfl (c_270 σ0 hσ0 b m h_m) (by decide) (by decide) (fun v14 σ15 h13 => ?_)
    obtain ⟨h16, h17, z19, rfl, h18⟩ := h13
    have h20 := Fr_trans hF0 h17 (by decide +kernel)
    refine En_Ps 1 (pc' := 26) (lv' := [(0, .ref 159), (1, .int a), (2, .int b)]) (st' := [.int z19]) rfl ?_
    exact En_ret (v := some (Value.int z19)) rfl rfl rfl ⟨h16, h20, z19, rfl, ⟨by first | exact q_98e1bded96 h18.1 | omega, by first | exact q_0e990c4066 h18.2.1 | omega, by first | exact q_ef157b5a0e h18.2.2 | omega⟩⟩
end
/-! 32.ly.m02 -/
section
/-- DoorSchoolModel.learns(I)I -/
abbrev P_274 (σ0 : SG) (a : Int32) : PO := fun v σ => WT σ ∧ Fr [] σ0 σ ∧ ∃ ret : Int32, v = some (Value.int ret) ∧ True
set_option maxRecDepth 10000 in
set_option maxHeartbeats 4000000 in
theorem c_274 (σ0 : SG) (hσ0 : WT σ0) (a : Int32) : En 3 67 none mr_274 (P_274 σ0 a) 0 [(0, .ref 159), (1, .int a)] [] σ0 := by
  have hF0 : Fr [] σ0 σ0 := Fr_rfl
  refine En_Ps 2 (pc' := 2) (lv' := [(0, .ref 159), (1, .int a)]) (st' := [.int ((Int32.ofInt 1)), .int a]) rfl ?_
  refine En_icNe _ rfl (by decide : (Int32.ofInt 1).toInt = 1) rfl (fun h1 => ?_) (fun h1 => ?_)
  · refine En_Ps 4 (pc' := 30) (lv' := [(3, .int ((Int32.ofInt 0))), (2, .int ((Int32.ofInt 0))), (0, .ref 159), (1, .int a)]) (st' := []) rfl ?_
    have key30 : ∀ (n30 : Nat) (σ4 : SG) (y2 : Int32) (y3 : Int32), WT σ4 → Fr [] σ0 σ4 → 0 ≤ y2.toInt → y2.toInt ≤ 65535 → 0 ≤ y3.toInt → y3.toInt ≤ 16 → -y3.toInt + 16 < (n30 : Int) → En 3 67 none mr_274 (P_274 σ0 a) 30 [(0, .ref 159), (1, .int a), (2, .int y2), (3, .int y3)] [] σ4 := by
      intro n30
      induction n30 with
      | zero =>
        intro σ4 y2 y3 h5 h6 h7 h8 h9 h10 h11
        first | exact (q_511f6d33ac h11 h10).elim | (exfalso; omega)
      | succ n30 ih30 =>
        intro σ4 y2 y3 h5 h6 h7 h8 h9 h10 h11
        refine En_Ps 2 (pc' := 32) (lv' := [(0, .ref 159), (1, .int a), (2, .int y2), (3, .int y3)]) (st' := [.ref 159, .int y3]) rfl ?_
        obtain ⟨z13, h12, h14, h15⟩ := WT_peekI h5 tgz_160 (by decide +kernel : FT 36 (0 : Int).toNat = (0, 0, 4)) (by decide +kernel)
        obtain ⟨z17, h16, h18, h19⟩ := WT_peekI h5 tgz_160 (by decide +kernel : FT 36 (7 : Int).toNat = (0, 0, 1600)) (by decide +kernel)
        refine En_callV rfl rfl rfl rfl rfl rfl rfl rfl tgz_159 (by decide +kernel) rfl (c_269 σ4 h5 z13 h12 z17 h16) (by decide) (by decide) (fun v21 σ22 h20 => ?_)
        obtain ⟨h23, h24, z26, rfl, h25⟩ := h20
        have h27 := h25.2.2
        have h28 := Fr_trans h6 h24 (by decide +kernel)
        refine En_icGe _ rfl rfl rfl (fun h29 => ?_) (fun h29 => ?_)
        · refine En_Ps 1 (pc' := 80) (lv' := [(0, .ref 159), (1, .int a), (2, .int y2), (3, .int y3)]) (st' := [.int y2]) rfl ?_
          exact En_ret (v := some (Value.int y2)) rfl rfl rfl ⟨h23, h28, y2, rfl, trivial⟩
        · refine En_Ps 3 (pc' := 41) (lv' := [(0, .ref 159), (1, .int a), (2, .int y2), (3, .int y3)]) (st' := [.int y3, .int a, .ref 159]) rfl ?_
          obtain ⟨z31, h30, h32, h33⟩ := WT_peekI h23 tgz_159 (by decide +kernel : FT 35 21 = (0, 0, 17)) (by decide +kernel)
          refine En_callV rfl rfl rfl rfl rfl rfl rfl rfl tgz_159 (by decide +kernel) rfl (c_204 σ22 h23 a y3 z31 h30) (by decide) (by decide) (fun v35 σ36 h34 => ?_)
          obtain ⟨h37, h38, z40, rfl, h39⟩ := h34
          have h41 := Fr_trans h28 h38 (by decide +kernel)
          refine En_Ps 4 (pc' := 50) (lv' := [(4, .int z40), (0, .ref 159), (1, .int a), (2, .int y2), (3, .int y3)]) (st' := [.int ((Int32.ofInt (-1))), .int z40, .int y2]) rfl ?_
          refine En_icEq _ rfl (by decide : (Int32.ofInt (-1)).toInt = -1) rfl (fun h42 => ?_) (fun h42 => ?_)
          · refine En_Ps 2 (pc' := 72) (lv' := [(4, .int z40), (0, .ref 159), (1, .int a), (2, .int y2), (3, .int y3)]) (st' := [.int ((y2 ||| ((Int32.ofInt 0))))]) rfl ?_
            refine En_rng (l := 0) (u := 65535) (or_rng 16 rfl (by decide : (Int32.ofInt 0).toInt = 0) (by (first | exact q_58e6e51dcc h7 | omega)) (by omega) (by (first | decide | omega)) (by omega) (by decide)) (fun z43 h44 h45 => ?_)
            refine En_Ps 2 (pc' := 76) (lv' := [(3, .int ((y3 + Int32.ofInt 1))), (2, .int z43), (4, .int z40), (0, .ref 159), (1, .int a)]) (st' := []) rfl ?_
            refine En_lv1 (addI rfl (by decide : (Int32.ofInt 1).toInt = 1) (by first | exact q_465ab79ac1 h9 | omega) (by first | exact q_f3f8e04381 h10 | omega)) (fun z46 h47 => ?_)
            refine En_Ps 1 (pc' := 30) (lv' := [(3, .int z46), (2, .int z43), (4, .int z40), (0, .ref 159), (1, .int a)]) (st' := []) rfl ?_
            refine En_lv (lv := [(0, .ref 159), (1, .int a), (2, .int z43), (3, .int z46)]) ⟨rfl, rfl, rfl, rfl, trivial⟩ ?_
            exact ih30 σ36 z43 z46 h37 h41 (by first | exact q_58e6e51dcc h44 | omega) (by first | exact q_36eb0a70bf h45 | omega) (by first | exact q_35104ce9d3 h47 h9 | omega) (by first | exact q_34dc714687 h47 h29 h25.2.1 | omega) (by first | exact q_c5d740bdff h47 h11 | omega)
          · refine En_Ps 1 (pc' := 54) (lv' := [(4, .int z40), (0, .ref 159), (1, .int a), (2, .int y2), (3, .int y3)]) (st' := [.ref 159, .int y2]) rfl ?_
            refine En_getU (j := 20) (u := 170) (g' := 46) (q := 0) rfl rfl rfl tgz_159 (by decide +kernel) h37 (by decide +kernel) un_46_170 (fun h48 => ?_)
            refine En_Ps 1 (pc' := 59) (lv' := [(4, .int z40), (0, .ref 159), (1, .int a), (2, .int y2), (3, .int y3)]) (st' := [.int z40, .ref 170, .int y2]) rfl ?_
            refine En_iald (l := 0) (u := 1) rfl rfl tgz_170 (by decide +kernel) h37 (by first | exact q_b1cade0df5 h42 h39.1 | omega) (lnI (by decide +kernel : LN _ = 17) (by first | exact q_587b0aad9f h39.2.1 | omega)) (FTsgl (by decide +kernel)) (fun z51 h50 h52 h53 => ?_)
            refine En_Ps 1 (pc' := 61) (lv' := [(4, .int z40), (0, .ref 159), (1, .int a), (2, .int y2), (3, .int y3)]) (st' := [.int ((Int32.ofInt 1)), .int z51, .int y2]) rfl ?_
            refine En_icNe _ rfl (by decide : (Int32.ofInt 1).toInt = 1) rfl (fun h54 => ?_) (fun h54 => ?_)
            · refine En_Ps 2 (pc' := 72) (lv' := [(4, .int z40), (0, .ref 159), (1, .int a), (2, .int y2), (3, .int y3)]) (st' := [.int ((y2 ||| ((Int32.ofInt 0))))]) rfl ?_
              refine En_rng (l := 0) (u := 65535) (or_rng 16 rfl (by decide : (Int32.ofInt 0).toInt = 0) (by (first | exact q_58e6e51dcc h7 | omega)) (by omega) (by (first | decide | omega)) (by omega) (by decide)) (fun z55 h56 h57 => ?_)
              refine En_Ps 2 (pc' := 76) (lv' := [(3, .int ((y3 + Int32.ofInt 1))), (2, .int z55), (4, .int z40), (0, .ref 159), (1, .int a)]) (st' := []) rfl ?_
              refine En_lv1 (addI rfl (by decide : (Int32.ofInt 1).toInt = 1) (by first | exact q_465ab79ac1 h9 | omega) (by first | exact q_f3f8e04381 h10 | omega)) (fun z58 h59 => ?_)
              refine En_Ps 1 (pc' := 30) (lv' := [(3, .int z58), (2, .int z55), (4, .int z40), (0, .ref 159), (1, .int a)]) (st' := []) rfl ?_
              refine En_lv (lv := [(0, .ref 159), (1, .int a), (2, .int z55), (3, .int z58)]) ⟨rfl, rfl, rfl, rfl, trivial⟩ ?_
              exact ih30 σ36 z55 z58 h37 h41 (by first | exact q_58e6e51dcc h56 | omega) (by first | exact q_36eb0a70bf h57 | omega) (by first | exact q_35104ce9d3 h59 h9 | omega) (by first | exact q_34dc714687 h59 h29 h25.2.1 | omega) (by first | exact q_c5d740bdff h59 h11 | omega)
            · refine En_Ps 3 (pc' := 67) (lv' := [(4, .int z40), (0, .ref 159), (1, .int a), (2, .int y2), (3, .int y3)]) (st' := [.int ((((Int32.ofInt 1)) <<< (y3 &&& 31))), .int y2]) rfl ?_
              refine En_rng (shl1_p 15 rfl (by (first | exact q_58e6e51dcc h9 | omega)) (by (first | exact q_e19f9506e1 h29 h25.2.1 | omega)) (by decide)) (fun z60 h61 h62 => ?_)
              refine En_Ps 2 (pc' := 72) (lv' := [(4, .int z40), (0, .ref 159), (1, .int a), (2, .int y2), (3, .int y3)]) (st' := [.int ((y2 ||| z60))]) rfl ?_
              refine En_rng (l := 0) (u := 65535) (or_rng 16 rfl rfl (by (first | exact q_58e6e51dcc h7 | omega)) (by omega) (by (first | exact q_337a85e294 h61 | omega)) (by omega) (by decide)) (fun z63 h64 h65 => ?_)
              refine En_Ps 2 (pc' := 76) (lv' := [(3, .int ((y3 + Int32.ofInt 1))), (2, .int z63), (4, .int z40), (0, .ref 159), (1, .int a)]) (st' := []) rfl ?_
              refine En_lv1 (addI rfl (by decide : (Int32.ofInt 1).toInt = 1) (by first | exact q_465ab79ac1 h9 | omega) (by first | exact q_f3f8e04381 h10 | omega)) (fun z66 h67 => ?_)
              refine En_Ps 1 (pc' := 30) (lv' := [(3, .int z66), (2, .int z63), (4, .int z40), (0, .ref 159), (1, .int a)]) (st' := []) rfl ?_
              refine En_lv (lv := [(0, .ref 159), (1, .int a), (2, .int z63), (3, .int z66)]) ⟨rfl, rfl, rfl, rfl, trivial⟩ ?_
              exact ih30 σ36 z63 z66 h37 h41 (by first | exact q_58e6e51dcc h64 | omega) (by first | exact q_36eb0a70bf h65 | omega) (by first | exact q_35104ce9d3 h67 h9 | omega) (by first | exact q_34dc714687 h67 h29 h25.2.1 | omega) (by first | exact q_c5d740bdff h67 h11 | omega)
    have := (by decide : (Int32.ofInt 0).toInt = 0)
    have := (by decide : (Int32.ofInt 0).toInt = 0)
    refine En_lv (lv := [(0, .ref 159), (1, .int a), (2, .int ((Int32.ofInt 0))), (3, .int ((Int32.ofInt 0)))]) ⟨rfl, rfl, rfl, rfl, trivial⟩ ?_
    exact key30 (Int.toNat (16) + 1) σ0 ((Int32.ofInt 0)) ((Int32.ofInt 0)) hσ0 hF0 (by decide) (by decide) (by decide) (by decide) (by first | exact toN_lt _ | omega)
  · refine En_Ps 1 (pc' := 6) (lv' := [(0, .ref 159), (1, .int a)]) (st' := [.ref 159]) rfl ?_
    refine En_callV rfl rfl rfl rfl rfl rfl rfl rfl tgz_159 (by decide +kernel) rfl (c_229 σ0 hσ0) (by decide) (by decide) (fun v69 σ70 h68 => ?_)
    obtain ⟨h71, h72, z74, rfl, h73⟩ := h68
    have h75 := Fr_trans hF0 h72 (by decide +kernel)
    refine En_Ps 3 (pc' := 12) (lv' := [(2, .int z74), (0, .ref 159), (1, .int a)]) (st' := [.int ((Int32.ofInt (-1))), .int z74]) rfl ?_
    refine En_icNe _ rfl (by decide : (Int32.ofInt (-1)).toInt = -1) rfl (fun h76 => ?_) (fun h76 => ?_)
    · refine En_Ps 1 (pc' := 20) (lv' := [(2, .int z74), (0, .ref 159), (1, .int a)]) (st' := [.ref 159]) rfl ?_
      refine En_getU (j := 17) (u := 168) (g' := 44) (q := 0) rfl rfl rfl tgz_159 (by decide +kernel) h71 (by decide +kernel) un_44_168 (fun h77 => ?_)
      refine En_Ps 1 (pc' := 24) (lv' := [(2, .int z74), (0, .ref 159), (1, .int a)]) (st' := [.int z74, .ref 168]) rfl ?_
      refine En_iald (l := (-2147483648)) (u := 2147483647) rfl rfl tgz_168 (by decide +kernel) h71 (by first | exact q_b1cade0df5 h76 h73.1 | omega) (lnI (by decide +kernel : LN _ = 81) (by first | exact q_3ac9ed8367 h73.2 | omega)) (FTsgl (by decide +kernel)) (fun z80 h79 h81 h82 => ?_)
      exact En_ret (v := some (Value.int z80)) rfl rfl rfl ⟨h71, h75, z80, rfl, trivial⟩
    · refine En_Ps 2 (pc' := 25) (lv' := [(2, .int z74), (0, .ref 159), (1, .int a)]) (st' := [.int ((Int32.ofInt 0))]) rfl ?_
      refine En_top (by decide : (Int32.ofInt 0).toInt = 0) (fun z83 h84 => ?_)
      exact En_ret (v := some (Value.int z83)) rfl rfl rfl ⟨h71, h75, z83, rfl, trivial⟩
/-- DoorSchoolModel.deedsOfDoor(I)I -/
abbrev P_213 (σ0 : SG) (a : Int32) : PO := fun v σ => WT σ ∧ Fr [(35, 18), (35, 21), (42, 0), (43, 0), (44, 0), (45, 0), (46, 0)] σ0 σ ∧ ∃ m1 : Int32, (σ 159)[21]? = some (Value.int m1) ∧ ∃ ret : Int32, v = some (Value.int ret) ∧ -m1.toInt ≤ 0 ∧ m1.toInt - 13 ≤ 0
set_option maxRecDepth 10000 in
set_option maxHeartbeats 4000000 in
theorem c_213 (σ0 : SG) (hσ0 : WT σ0) (a : Int32) (hl_a : 0 ≤ a.toInt) (hu_a : a.toInt ≤ 3) : En 4 91 none mr_213 (P_213 σ0 a) 0 [(0, .ref 159), (1, .int a)] [] σ0 := by
  have hF0 : Fr [(35, 18), (35, 21), (42, 0), (43, 0), (44, 0), (45, 0), (46, 0)] σ0 σ0 := Fr_rfl
  refine En_Ps 1 (pc' := 1) (lv' := [(0, .ref 159), (1, .int a)]) (st' := [.ref 159]) rfl ?_
  obtain ⟨z2, h1, h3, h4⟩ := WT_peekI hσ0 tgz_160 (by decide +kernel : FT 36 (0 : Int).toNat = (0, 0, 4)) (by decide +kernel)
  obtain ⟨z6, h5, h7, h8⟩ := WT_peekI hσ0 tgz_160 (by decide +kernel : FT 36 (7 : Int).toNat = (0, 0, 1600)) (by decide +kernel)
  refine En_callV rfl rfl rfl rfl rfl rfl rfl rfl tgz_159 (by decide +kernel) rfl (c_272 σ0 hσ0 z2 h1 z6 h5) (by decide) (by decide) (fun v10 σ11 h9 => ?_)
  obtain ⟨h12, h13, rfl, h14⟩ := h9
  have h15 := Fr_trans hF0 h13 (by decide +kernel)
  refine En_Ps 3 (pc' := 7) (lv' := [(0, .ref 159), (1, .int a)]) (st' := [.int a, .ref 159, .ref 159]) rfl ?_
  refine En_callV rfl rfl rfl rfl rfl rfl rfl rfl tgz_159 (by decide +kernel) rfl (c_305 σ11 h12 a (geI rfl (by first | exact q_58e6e51dcc hl_a | omega)) (leI rfl (by first | exact q_da5e9b976f hu_a | omega))) (by decide) (by decide) (fun v17 σ18 h16 => ?_)
  obtain ⟨h19, h20, z22, rfl, h21⟩ := h16
  have h23 := Fr_trans h15 h20 (by decide +kernel)
  refine En_callV rfl rfl rfl rfl rfl rfl rfl rfl tgz_159 (by decide +kernel) rfl (c_271 σ18 h19 z22 (geI rfl (by first | exact q_ef1e8e38bf h21.1 | omega)) (leI rfl (by first | exact q_87d9217d84 h21.2 | omega))) (by decide) (by decide) (fun v25 σ26 h24 => ?_)
  obtain ⟨h27, h28, z30, h31, rfl, h29⟩ := h24
  have h32 := Fr_trans h23 h28 (by decide +kernel)
  refine En_Ps 4 (pc' := 17) (lv' := [(0, .ref 159), (1, .int a)]) (st' := [.int a, .ref 159, .ref 159, .ref 159]) rfl ?_
  refine En_callV rfl rfl rfl rfl rfl rfl rfl rfl tgz_159 (by decide +kernel) rfl (c_305 σ26 h27 a (geI rfl (by first | exact q_58e6e51dcc hl_a | omega)) (leI rfl (by first | exact q_da5e9b976f hu_a | omega))) (by decide) (by decide) (fun v34 σ35 h33 => ?_)
  obtain ⟨h36, h37, z39, rfl, h38⟩ := h33
  have h40 := Fr_trans h32 h37 (by decide +kernel)
  refine En_Ps 1 (pc' := 21) (lv' := [(0, .ref 159), (1, .int a)]) (st' := [.int ((Int32.ofInt 0)), .int z39, .ref 159, .ref 159]) rfl ?_
  have := (by decide : ((Int32.ofInt 0)).toInt = 0)
  obtain ⟨z41, h42, h43, h44⟩ := WT_peekJ (J := (4 * z39.toInt + ((Int32.ofInt 0)).toInt + 10)) (l := 0) (u := 2) h36 tgz_160 (by decide +kernel) (by (first | exact q_05aceecfb5 this h38.1 | omega)) (lnI (by decide +kernel : LN _ = 226) (by (first | exact q_2ff3171a41 this h38.2 | omega))) (FTrow 36 10 4 4 (by decide +kernel) (by (first | exact q_f2c086bbb3 this h38.1 | omega)) (by (first | exact q_089c574161 this h38.2 | omega)) (by omega))
  have := (by decide : ((Int32.ofInt 0)).toInt = 0)
  refine En_callV rfl rfl rfl rfl rfl rfl rfl rfl tgz_159 (by decide +kernel) rfl (c_290a σ35 h36 z39 ((Int32.ofInt 0)) (geI rfl (by first | exact q_ef1e8e38bf h38.1 | omega)) (leI rfl (by first | exact q_87d9217d84 h38.2 | omega)) (geI (by decide : (Int32.ofInt 0).toInt = 0) (by decide)) (leI (by decide : (Int32.ofInt 0).toInt = 0) (by decide)) z41 h42) (by decide) (by decide) (fun v46 σ47 h45 => ?_)
  obtain ⟨h48, h49, z51, rfl, h50⟩ := h45
  have h52 := Fr_trans h40 h49 (by decide +kernel)
  refine En_callV rfl rfl rfl rfl rfl rfl rfl rfl tgz_159 (by decide +kernel) rfl (c_274 σ47 h48 z51) (by decide) (by decide) (fun v54 σ55 h53 => ?_)
  obtain ⟨h56, h57, z59, rfl, h58⟩ := h53
  have h60 := Fr_trans h52 h57 (by decide +kernel)
  exact En_ret (v := some (Value.int z59)) rfl rfl rfl ⟨h56, h60, z30, ((h57 _ _ (inW tgz_159 (by decide +kernel))).trans ((h49 _ _ (inW tgz_159 (by decide +kernel))).trans ((h37 _ _ (inW tgz_159 (by decide +kernel))).trans h31))), z59, rfl, ⟨by first | exact q_a555021d16 h29.1 | omega, by first | exact q_74b353401a h29.2 | omega⟩⟩
/-- DoorSchoolModel.alike(I)I -/
abbrev P_191 (σ0 : SG) (a : Int32) : PO := fun v σ => WT σ ∧ Fr [(35, 18), (35, 21), (42, 0), (43, 0), (44, 0), (45, 0), (46, 0)] σ0 σ ∧ ∃ ret : Int32, v = some (Value.int ret) ∧ -ret.toInt - 2 ≤ 0 ∧ ret.toInt - 15 ≤ 0
set_option maxRecDepth 10000 in
set_option maxHeartbeats 4000000 in
theorem c_191 (σ0 : SG) (hσ0 : WT σ0) (a : Int32) : En 5 112 none mr_191 (P_191 σ0 a) 0 [(0, .ref 159), (1, .int a)] [] σ0 := by
  have hF0 : Fr [(35, 18), (35, 21), (42, 0), (43, 0), (44, 0), (45, 0), (46, 0)] σ0 σ0 := Fr_rfl
  refine En_Ps 2 (pc' := 2) (lv' := [(0, .ref 159), (1, .int a)]) (st' := [.int a, .ref 159]) rfl ?_
  obtain ⟨z2, h1, h3, h4⟩ := WT_peekI hσ0 tgz_160 (by decide +kernel : FT 36 (2 : Int).toNat = (0, 0, 4)) (by decide +kernel)
  refine En_callV rfl rfl rfl rfl rfl rfl rfl rfl tgz_159 (by decide +kernel) rfl (c_254 σ0 hσ0 a z2 h1) (by decide) (by decide) (fun v6 σ7 h5 => ?_)
  obtain ⟨h8, h9, z11, rfl, h10⟩ := h5
  have h12 := Fr_trans hF0 h9 (by decide +kernel)
  refine En_iNe _ rfl rfl (fun h13 => ?_) (fun h13 => ?_)
  · refine En_Ps 2 (pc' := 13) (lv' := [(0, .ref 159), (1, .int a)]) (st' := [.int a, .ref 159]) rfl ?_
    refine En_callV rfl rfl rfl rfl rfl rfl rfl rfl tgz_159 (by decide +kernel) rfl (c_213 σ7 h8 a (geI rfl (by (first | exact q_bf8258001b h10.2.2.1 h13 h10.1 | omega))) (leI rfl (by (first | exact q_88b0c3c731 h10.2.2.1 h13 h10.1 h4 | omega)))) (by decide) (by decide) (fun v15 σ16 h14 => ?_)
    obtain ⟨h17, h18, z20, h21, z22, rfl, h19⟩ := h14
    have h23 := Fr_trans h12 h18 (by decide +kernel)
    refine En_Ps 5 (pc' := 22) (lv' := [(4, .int ((Int32.ofInt 0))), (3, .int ((Int32.ofInt 0))), (2, .int z22), (0, .ref 159), (1, .int a)]) (st' := []) rfl ?_
    have key22 : ∀ (n22 : Nat) (σ27 : SG) (y24 : Int32) (y25 : Int32) (y26 : Int32), WT σ27 → Fr [(35, 18), (35, 21), (42, 0), (43, 0), (44, 0), (45, 0), (46, 0)] σ0 σ27 → (σ27 160)[(2 : Int).toNat]? = some (Value.int z2) → (σ27 159)[21]? = some (Value.int y26) → 0 ≤ y24.toInt → y24.toInt ≤ 15 → 0 ≤ y25.toInt → y25.toInt ≤ 4 → 0 ≤ y26.toInt → y26.toInt ≤ 13 → y25.toInt - z2.toInt ≤ 0 → z2.toInt - y25.toInt < (n22 : Int) → En 5 112 none mr_191 (P_191 σ0 a) 22 [(0, .ref 159), (1, .int a), (2, .int z22), (3, .int y24), (4, .int y25)] [] σ27 := by
      intro n22
      induction n22 with
      | zero =>
        intro σ27 y24 y25 y26 h28 h29 h30 h31 h32 h33 h34 h35 h36 h37 h38 h39
        first | exact (q_14257feae7 h38 h39).elim | (exfalso; omega)
      | succ n22 ih22 =>
        intro σ27 y24 y25 y26 h28 h29 h30 h31 h32 h33 h34 h35 h36 h37 h38 h39
        refine En_Ps 2 (pc' := 25) (lv' := [(0, .ref 159), (1, .int a), (2, .int z22), (3, .int y24), (4, .int y25)]) (st' := [.ref 159, .int y25]) rfl ?_
        refine En_getU (j := 1) (u := 160) (g' := 36) (q := 0) rfl rfl rfl tgz_159 (by decide +kernel) h28 (by decide +kernel) un_36_160 (fun h40 => ?_)
        refine En_Ps 1 (pc' := 29) (lv' := [(0, .ref 159), (1, .int a), (2, .int z22), (3, .int y24), (4, .int y25)]) (st' := [.int ((Int32.ofInt 2)), .ref 160, .int y25]) rfl ?_
        refine En_ialdK h30 rfl (by decide : (Int32.ofInt 2).toInt = 2) tgz_160 (by decide +kernel) h28 (by decide) (lnI (by decide +kernel : LN _ = 226) (by decide)) ?_
        refine En_icGe _ rfl rfl rfl (fun h43 => ?_) (fun h43 => ?_)
        · refine En_Ps 1 (pc' := 67) (lv' := [(0, .ref 159), (1, .int a), (2, .int z22), (3, .int y24), (4, .int y25)]) (st' := [.int y24]) rfl ?_
          exact En_ret (v := some (Value.int y24)) rfl rfl rfl ⟨h28, h29, y24, rfl, ⟨by first | exact q_ea7f0ffdb1 h32 | omega, by first | exact q_867a9ac627 h33 | omega⟩⟩
        · refine En_Ps 3 (pc' := 37) (lv' := [(0, .ref 159), (1, .int a), (2, .int z22), (3, .int y24), (4, .int y25)]) (st' := [.int a, .int y25, .int y24]) rfl ?_
          refine En_icEq _ rfl rfl rfl (fun h44 => ?_) (fun h44 => ?_)
          · refine En_Ps 2 (pc' := 59) (lv' := [(0, .ref 159), (1, .int a), (2, .int z22), (3, .int y24), (4, .int y25)]) (st' := [.int ((y24 ||| ((Int32.ofInt 0))))]) rfl ?_
            refine En_rng (l := 0) (u := 15) (or_rng 4 rfl (by decide : (Int32.ofInt 0).toInt = 0) (by (first | exact q_58e6e51dcc h32 | omega)) (by omega) (by (first | decide | omega)) (by omega) (by decide)) (fun z45 h46 h47 => ?_)
            refine En_Ps 2 (pc' := 63) (lv' := [(4, .int ((y25 + Int32.ofInt 1))), (3, .int z45), (0, .ref 159), (1, .int a), (2, .int z22)]) (st' := []) rfl ?_
            refine En_lv1 (addI rfl (by decide : (Int32.ofInt 1).toInt = 1) (by first | exact q_465ab79ac1 h34 | omega) (by first | exact q_f7282962fd h35 | omega)) (fun z48 h49 => ?_)
            refine En_Ps 1 (pc' := 22) (lv' := [(4, .int z48), (3, .int z45), (0, .ref 159), (1, .int a), (2, .int z22)]) (st' := []) rfl ?_
            refine En_lv (lv := [(0, .ref 159), (1, .int a), (2, .int z22), (3, .int z45), (4, .int z48)]) ⟨rfl, rfl, rfl, rfl, rfl, trivial⟩ ?_
            exact ih22 σ27 z45 z48 y26 h28 h29 h30 h31 (by first | exact q_58e6e51dcc h46 | omega) (by first | exact q_5a4d8a7e08 h47 | omega) (by first | exact q_35104ce9d3 h49 h34 | omega) (by first | exact q_de42116b63 h49 h43 h4 | omega) (by first | exact q_58e6e51dcc h36 | omega) (by first | exact q_7991346fe8 h37 | omega) (by first | exact q_ae2dbf4292 h43 h49 | omega) (by first | exact q_8d03a5a7cb h49 h39 | omega)
          · refine En_Ps 2 (pc' := 43) (lv' := [(0, .ref 159), (1, .int a), (2, .int z22), (3, .int y24), (4, .int y25)]) (st' := [.int y25, .ref 159, .int y24]) rfl ?_
            refine En_callV rfl rfl rfl rfl rfl rfl rfl rfl tgz_159 (by decide +kernel) rfl (c_213 σ27 h28 y25 (geI rfl (by first | exact q_58e6e51dcc h34 | omega)) (leI rfl (by first | exact q_5ab2e90ecc h43 h4 | omega))) (by decide) (by decide) (fun v51 σ52 h50 => ?_)
            obtain ⟨h53, h54, z56, h57, z58, rfl, h55⟩ := h50
            have h59 := Fr_trans h29 h54 (by decide +kernel)
            refine En_Ps 1 (pc' := 47) (lv' := [(0, .ref 159), (1, .int a), (2, .int z22), (3, .int y24), (4, .int y25)]) (st' := [.int z22, .int z58, .int y24]) rfl ?_
            refine En_icNe _ rfl rfl rfl (fun h60 => ?_) (fun h60 => ?_)
            · refine En_Ps 2 (pc' := 59) (lv' := [(0, .ref 159), (1, .int a), (2, .int z22), (3, .int y24), (4, .int y25)]) (st' := [.int ((y24 ||| ((Int32.ofInt 0))))]) rfl ?_
              refine En_rng (l := 0) (u := 15) (or_rng 4 rfl (by decide : (Int32.ofInt 0).toInt = 0) (by (first | exact q_58e6e51dcc h32 | omega)) (by omega) (by (first | decide | omega)) (by omega) (by decide)) (fun z61 h62 h63 => ?_)
              refine En_Ps 2 (pc' := 63) (lv' := [(4, .int ((y25 + Int32.ofInt 1))), (3, .int z61), (0, .ref 159), (1, .int a), (2, .int z22)]) (st' := []) rfl ?_
              refine En_lv1 (addI rfl (by decide : (Int32.ofInt 1).toInt = 1) (by first | exact q_465ab79ac1 h34 | omega) (by first | exact q_f7282962fd h35 | omega)) (fun z64 h65 => ?_)
              refine En_Ps 1 (pc' := 22) (lv' := [(4, .int z64), (3, .int z61), (0, .ref 159), (1, .int a), (2, .int z22)]) (st' := []) rfl ?_
              refine En_lv (lv := [(0, .ref 159), (1, .int a), (2, .int z22), (3, .int z61), (4, .int z64)]) ⟨rfl, rfl, rfl, rfl, rfl, trivial⟩ ?_
              exact ih22 σ52 z61 z64 z56 h53 h59 ((h54 _ _ (inWa tgz_160 (by decide +kernel))).trans h30) h57 (by first | exact q_58e6e51dcc h62 | omega) (by first | exact q_5a4d8a7e08 h63 | omega) (by first | exact q_35104ce9d3 h65 h34 | omega) (by first | exact q_de42116b63 h65 h43 h4 | omega) (by first | exact q_ef1e8e38bf h55.1 | omega) (by first | exact q_41996583c2 h55.2 | omega) (by first | exact q_ae2dbf4292 h43 h65 | omega) (by first | exact q_8d03a5a7cb h65 h39 | omega)
            · refine En_Ps 3 (pc' := 54) (lv' := [(0, .ref 159), (1, .int a), (2, .int z22), (3, .int y24), (4, .int y25)]) (st' := [.int ((((Int32.ofInt 1)) <<< (y25 &&& 31))), .int y24]) rfl ?_
              refine En_rng (shl1_p 3 rfl (by (first | exact q_58e6e51dcc h34 | omega)) (by (first | exact q_4f3c14e175 h43 h4 | omega)) (by decide)) (fun z66 h67 h68 => ?_)
              refine En_Ps 2 (pc' := 59) (lv' := [(0, .ref 159), (1, .int a), (2, .int z22), (3, .int y24), (4, .int y25)]) (st' := [.int ((y24 ||| z66))]) rfl ?_
              refine En_rng (l := 0) (u := 15) (or_rng 4 rfl rfl (by (first | exact q_58e6e51dcc h32 | omega)) (by omega) (by (first | exact q_337a85e294 h67 | omega)) (by omega) (by decide)) (fun z69 h70 h71 => ?_)
              refine En_Ps 2 (pc' := 63) (lv' := [(4, .int ((y25 + Int32.ofInt 1))), (3, .int z69), (0, .ref 159), (1, .int a), (2, .int z22)]) (st' := []) rfl ?_
              refine En_lv1 (addI rfl (by decide : (Int32.ofInt 1).toInt = 1) (by first | exact q_465ab79ac1 h34 | omega) (by first | exact q_f7282962fd h35 | omega)) (fun z72 h73 => ?_)
              refine En_Ps 1 (pc' := 22) (lv' := [(4, .int z72), (3, .int z69), (0, .ref 159), (1, .int a), (2, .int z22)]) (st' := []) rfl ?_
              refine En_lv (lv := [(0, .ref 159), (1, .int a), (2, .int z22), (3, .int z69), (4, .int z72)]) ⟨rfl, rfl, rfl, rfl, rfl, trivial⟩ ?_
              exact ih22 σ52 z69 z72 z56 h53 h59 ((h54 _ _ (inWa tgz_160 (by decide +kernel))).trans h30) h57 (by first | exact q_58e6e51dcc h70 | omega) (by first | exact q_5a4d8a7e08 h71 | omega) (by first | exact q_35104ce9d3 h73 h34 | omega) (by first | exact q_de42116b63 h73 h43 h4 | omega) (by first | exact q_ef1e8e38bf h55.1 | omega) (by first | exact q_41996583c2 h55.2 | omega) (by first | exact q_ae2dbf4292 h43 h73 | omega) (by first | exact q_8d03a5a7cb h73 h39 | omega)
    have := (by decide : (Int32.ofInt 0).toInt = 0)
    have := (by decide : (Int32.ofInt 0).toInt = 0)
    refine En_lv (lv := [(0, .ref 159), (1, .int a), (2, .int z22), (3, .int ((Int32.ofInt 0))), (4, .int ((Int32.ofInt 0)))]) ⟨rfl, rfl, rfl, rfl, rfl, trivial⟩ ?_
    exact key22 (Int.toNat (z2.toInt) + 1) σ16 ((Int32.ofInt 0)) ((Int32.ofInt 0)) z20 h17 h23 ((h18 _ _ (inWa tgz_160 (by decide +kernel))).trans ((h9 _ _ (inWa tgz_160 (by decide +kernel))).trans h1)) h21 (by decide) (by decide) (by decide) (by decide) (by first | exact q_ef1e8e38bf h19.1 | omega) (by first | exact q_41996583c2 h19.2 | omega) (by (first | exact q_d69f448e8e (by decide) h3 | omega)) (by first | exact toN_lt _ | omega)
  · refine En_Ps 1 (pc' := 10) (lv' := [(0, .ref 159), (1, .int a)]) (st' := [.int (((Int8.ofInt (-2)).toInt32))]) rfl ?_
    refine En_top (by decide : ((Int8.ofInt (-2)).toInt32).toInt = -2) (fun z74 h75 => ?_)
    exact En_ret (v := some (Value.int z74)) rfl rfl rfl ⟨h8, h12, z74, rfl, ⟨by first | exact q_f35c5d346c h75 | omega, by first | exact q_12a74e12a3 h75 | omega⟩⟩
/-- DoorSchoolModel.allKnocks()I -/
abbrev P_192 (σ0 : SG) : PO := fun v σ => WT σ ∧ Fr [] σ0 σ ∧ ∃ ret : Int32, v = some (Value.int ret) ∧ -ret.toInt ≤ 0 ∧ ret.toInt - 65535 ≤ 0
set_option maxRecDepth 10000 in
set_option maxHeartbeats 4000000 in
theorem c_192 (σ0 : SG) (hσ0 : WT σ0) : En 2 40 none mr_192 (P_192 σ0) 0 [(0, .ref 159)] [] σ0 := by
  have hF0 : Fr [] σ0 σ0 := Fr_rfl
  refine En_Ps 2 (pc' := 2) (lv' := [(0, .ref 159)]) (st' := [.ref 159, .int ((Int32.ofInt 1))]) rfl ?_
  obtain ⟨z2, h1, h3, h4⟩ := WT_peekI hσ0 tgz_160 (by decide +kernel : FT 36 (0 : Int).toNat = (0, 0, 4)) (by decide +kernel)
  obtain ⟨z6, h5, h7, h8⟩ := WT_peekI hσ0 tgz_160 (by decide +kernel : FT 36 (7 : Int).toNat = (0, 0, 1600)) (by decide +kernel)
  refine En_callV rfl rfl rfl rfl rfl rfl rfl rfl tgz_159 (by decide +kernel) rfl (c_269 σ0 hσ0 z2 h1 z6 h5) (by decide) (by decide) (fun v10 σ11 h9 => ?_)
  obtain ⟨h12, h13, z15, rfl, h14⟩ := h9
  have h16 := h14.2.2
  have h17 := Fr_trans hF0 h13 (by decide +kernel)
  refine En_Ps 1 (pc' := 6) (lv' := [(0, .ref 159)]) (st' := [.int ((((Int32.ofInt 1)) <<< (z15 &&& 31)))]) rfl ?_
  refine En_rng (shl1_p 16 rfl (by (first | exact q_ef1e8e38bf h14.1 | omega)) (by (first | exact q_6cc1dda24d h14.2.1 | omega)) (by decide)) (fun z18 h19 h20 => ?_)
  refine En_Ps 2 (pc' := 8) (lv' := [(0, .ref 159)]) (st' := [.int ((z18 - ((Int32.ofInt 1))))]) rfl ?_
  refine En_top (subI rfl (by decide : (Int32.ofInt 1).toInt = 1) (by first | exact q_96dadfce4b h19 | omega) (by first | exact q_8661d4233b h20 | omega)) (fun z21 h22 => ?_)
  exact En_ret (v := some (Value.int z21)) rfl rfl rfl ⟨h12, h17, z21, rfl, ⟨by first | exact q_a36023f969 h22 h19 | omega, by first | exact q_3bae1d5aac h22 h20 | omega⟩⟩
/-- DoorSchoolModel.isHouse(I)Z -/
abbrev P_258 (σ0 : SG) (a : Int32) : PO := fun v σ => WT σ ∧ Fr [] σ0 σ ∧ ∃ ret : Int32, v = some (Value.int ret) ∧ -ret.toInt ≤ 0 ∧ ret.toInt - 1 ≤ 0 ∧ (ret.toInt - 1 ≤ 0 ∧ -ret.toInt + 1 ≤ 0 → -a.toInt ≤ 0 ∧ a.toInt - 3 ≤ 0)
set_option maxRecDepth 10000 in
set_option maxHeartbeats 4000000 in
theorem c_258 (σ0 : SG) (hσ0 : WT σ0) (a : Int32) : En 1 25 none mr_258 (P_258 σ0 a) 0 [(0, .ref 159), (1, .int a)] [] σ0 := by
  have hF0 : Fr [] σ0 σ0 := Fr_rfl
  refine En_Ps 4 (pc' := 4) (lv' := [(0, .ref 159), (1, .int a)]) (st' := [.ref 159, .long ((Int64.ofNat 0)), .long a.toInt64]) rfl ?_
  refine En_getU (j := 1) (u := 160) (g' := 36) (q := 0) rfl rfl rfl tgz_159 (by decide +kernel) hσ0 (by decide +kernel) un_36_160 (fun h1 => ?_)
  refine En_Ps 1 (pc' := 8) (lv' := [(0, .ref 159), (1, .int a)]) (st' := [.int ((Int32.ofInt 4)), .ref 160, .long ((Int64.ofNat 0)), .long a.toInt64]) rfl ?_
  refine En_iald (l := 0) (u := 4) rfl (by decide : (Int32.ofInt 4).toInt = 4) tgz_160 (by decide +kernel) hσ0 (by decide) (lnI (by decide +kernel : LN _ = 226) (by decide)) (by decide +kernel) (fun z4 h3 h5 h6 => ?_)
  refine En_Ps 2 (pc' := 11) (lv' := [(0, .ref 159), (1, .int a)]) (st' := [.int ((z4 - ((Int32.ofInt 1)))), .long ((Int64.ofNat 0)), .long a.toInt64]) rfl ?_
  refine En_top (subI rfl (by decide : (Int32.ofInt 1).toInt = 1) (by first | exact q_93f9478bef h5 | omega) (by first | exact q_cc3cee8591 h6 | omega)) (fun z7 h8 => ?_)
  refine En_Ps 1 (pc' := 12) (lv' := [(0, .ref 159), (1, .int a)]) (st' := [.long z7.toInt64, .long ((Int64.ofNat 0)), .long a.toInt64]) rfl ?_
  have : a.toInt64.toInt = a.toInt := (i2lI rfl)
  have := (by decide : ((Int64.ofNat 0)).toInt = 0)
  have : z7.toInt64.toInt = z7.toInt := (i2lI rfl)
  refine En_callS rfl rfl rfl rfl rfl rfl rfl rfl rfl (c_249 σ0 hσ0 a.toInt64 ((Int64.ofNat 0)) z7.toInt64) (by decide) (by decide) (fun v10 σ11 h9 => ?_)
  obtain ⟨h12, h13, z15, rfl, h14⟩ := h9
  have h16 := Fr_trans hF0 h13 (by decide +kernel)
  exact En_ret (v := some (Value.int z15)) rfl rfl (retZ rfl rfl (by first | exact q_ef1e8e38bf h14.1 | omega) (by first | exact q_733c8bfbae h14.2.1 | omega)) ⟨h12, h16, z15, rfl, ⟨by first | exact q_a555021d16 h14.1 | omega, by first | exact q_ad5b726bf8 h14.2.1 | omega, fun _ => by omega⟩⟩
/-- DoorSchoolModel.amissOf(II)I -/
abbrev P_194 (σ0 : SG) (a : Int32) (b : Int32) : PO := fun v σ => WT σ ∧ Fr [(35, 18), (35, 21), (42, 0), (43, 0), (44, 0), (45, 0), (46, 0)] σ0 σ ∧ ∃ ret : Int32, v = some (Value.int ret) ∧ True
set_option maxRecDepth 10000 in
set_option maxHeartbeats 4000000 in
theorem c_194 (σ0 : SG) (hσ0 : WT σ0) (a : Int32) (b : Int32) (hl_a : 0 ≤ a.toInt) (hu_a : a.toInt ≤ 3) (hl_b : 0 ≤ b.toInt) (hu_b : b.toInt ≤ 3) : En 5 112 none mr_194 (P_194 σ0 a b) 0 [(0, .ref 159), (1, .int a), (2, .int b)] [] σ0 := by
  have hF0 : Fr [(35, 18), (35, 21), (42, 0), (43, 0), (44, 0), (45, 0), (46, 0)] σ0 σ0 := Fr_rfl
  refine En_Ps 2 (pc' := 2) (lv' := [(0, .ref 159), (1, .int a), (2, .int b)]) (st' := [.int a, .ref 159]) rfl ?_
  refine En_callV rfl rfl rfl rfl rfl rfl rfl rfl tgz_159 (by decide +kernel) rfl (c_213 σ0 hσ0 a (geI rfl (by first | exact q_58e6e51dcc hl_a | omega)) (leI rfl (by first | exact q_da5e9b976f hu_a | omega))) (by decide) (by decide) (fun v2 σ3 h1 => ?_)
  obtain ⟨h4, h5, z7, h8, z9, rfl, h6⟩ := h1
  have h10 := Fr_trans hF0 h5 (by decide +kernel)
  refine En_Ps 2 (pc' := 7) (lv' := [(0, .ref 159), (1, .int a), (2, .int b)]) (st' := [.ref 159, .ref 159, .int z9]) rfl ?_
  refine En_getU (j := 1) (u := 160) (g' := 36) (q := 0) rfl rfl rfl tgz_159 (by decide +kernel) h4 (by decide +kernel) un_36_160 (fun h11 => ?_)
  refine En_Ps 4 (pc' := 16) (lv' := [(0, .ref 159), (1, .int a), (2, .int b)]) (st' := [.int ((((Int32.ofInt 2)) * b)), .int (((Int16.ofInt 146).toInt32)), .ref 160, .ref 159, .int z9]) rfl ?_
  refine En_top (mulI (by decide : (Int32.ofInt 2).toInt = 2) rfl (Z := 2 * b.toInt) (by first | exact q_9c4c04fc55 | omega) (by first | exact q_1f719a6719 hl_b | omega) (by first | exact q_3ff87b8751 hu_b | omega)) (fun z13 h14 => ?_)
  refine En_Ps 1 (pc' := 17) (lv' := [(0, .ref 159), (1, .int a), (2, .int b)]) (st' := [.int (((((Int16.ofInt 146).toInt32)) + z13)), .ref 160, .ref 159, .int z9]) rfl ?_
  refine En_top (addI (by decide : ((Int16.ofInt 146).toInt32).toInt = 146) rfl (by first | exact q_42b4d5f9e5 h14 hl_b | omega) (by first | exact q_82ff7b9a25 h14 hu_b | omega)) (fun z15 h16 => ?_)
  refine En_iald (l := 0) (u := 15) rfl rfl tgz_160 (by decide +kernel) h4 (by first | exact q_ca048fa9de h16 h14 hl_b | omega) (lnI (by decide +kernel : LN _ = 226) (by first | exact q_8d4790cc3f h16 h14 hu_b | omega)) (FTrow 36 146 2 4 (by decide +kernel) (by first | exact q_dfbb15bd91 h16 h14 hl_b | omega) (by first | exact q_e71d6da6c9 h16 h14 hu_b | omega) (by first | exact q_d64200d76f h14 h16 | omega)) (fun z18 h17 h19 h20 => ?_)
  refine En_Ps 1 (pc' := 19) (lv' := [(0, .ref 159), (1, .int a), (2, .int b)]) (st' := [.ref 159, .int z18, .ref 159, .int z9]) rfl ?_
  refine En_getK (j := 1) h11 rfl rfl rfl tgz_159 (by decide +kernel) ?_
  refine En_Ps 4 (pc' := 28) (lv' := [(0, .ref 159), (1, .int a), (2, .int b)]) (st' := [.int ((((Int32.ofInt 2)) * b)), .int (((Int16.ofInt 146).toInt32)), .ref 160, .int z18, .ref 159, .int z9]) rfl ?_
  refine En_top (mulI (by decide : (Int32.ofInt 2).toInt = 2) rfl (Z := 2 * b.toInt) (by first | exact q_9c4c04fc55 | omega) (by first | exact q_1f719a6719 hl_b | omega) (by first | exact q_3ff87b8751 hu_b | omega)) (fun z21 h22 => ?_)
  refine En_Ps 1 (pc' := 29) (lv' := [(0, .ref 159), (1, .int a), (2, .int b)]) (st' := [.int (((((Int16.ofInt 146).toInt32)) + z21)), .ref 160, .int z18, .ref 159, .int z9]) rfl ?_
  refine En_top (addI (by decide : ((Int16.ofInt 146).toInt32).toInt = 146) rfl (by first | exact q_42b4d5f9e5 h22 hl_b | omega) (by first | exact q_82ff7b9a25 h22 hu_b | omega)) (fun z23 h24 => ?_)
  refine En_Ps 2 (pc' := 31) (lv' := [(0, .ref 159), (1, .int a), (2, .int b)]) (st' := [.int ((z23 + ((Int32.ofInt 1)))), .ref 160, .int z18, .ref 159, .int z9]) rfl ?_
  refine En_top (addI rfl (by decide : (Int32.ofInt 1).toInt = 1) (by first | exact q_8ed88b027b h24 h22 hl_b | omega) (by first | exact q_bb9acf466d h24 h22 hu_b | omega)) (fun z25 h26 => ?_)
  refine En_iald (l := 0) (u := 15) rfl rfl tgz_160 (by decide +kernel) h4 (by first | exact q_2a978cfcfe h26 h24 h22 hl_b | omega) (lnI (by decide +kernel : LN _ = 226) (by first | exact q_c40d0f27ec h26 h24 h22 hu_b | omega)) (FTrow 36 147 2 4 (by decide +kernel) (by first | exact q_f858115c7e h26 h24 h22 hl_b | omega) (by first | exact q_c0c7c1ec7b h26 h24 h22 hu_b | omega) (by first | exact q_19339a33a0 h22 h24 h26 | omega)) (fun z28 h27 h29 h30 => ?_)
  refine En_callV rfl rfl rfl rfl rfl rfl rfl rfl tgz_159 (by decide +kernel) rfl (c_212 σ3 h4 z18 z28) (by decide) (by decide) (fun v32 σ33 h31 => ?_)
  obtain ⟨h34, h35, z37, rfl, h36⟩ := h31
  have h38 := Fr_trans h10 h35 (by decide +kernel)
  refine En_Ps 1 (pc' := 36) (lv' := [(0, .ref 159), (1, .int a), (2, .int b)]) (st' := [.int ((z9 ^^^ z37))]) rfl ?_
  refine En_hav (fun z39 => ?_)
  refine En_callS rfl rfl rfl rfl rfl rfl rfl rfl rfl (c_203b σ33 h34 z39) (by decide) (by decide) (fun v41 σ42 h40 => ?_)
  obtain ⟨h43, h44, z46, rfl, h45⟩ := h40
  have h47 := Fr_trans h38 h44 (by decide +kernel)
  exact En_ret (v := some (Value.int z46)) rfl rfl rfl ⟨h43, h47, z46, rfl, trivial⟩
/-- DoorSchoolModel.amiss(II)I -/
abbrev P_193 (σ0 : SG) (a : Int32) (b : Int32) : PO := fun v σ => WT σ ∧ Fr [(35, 18), (35, 21), (42, 0), (43, 0), (44, 0), (45, 0), (46, 0)] σ0 σ ∧ ∃ ret : Int32, v = some (Value.int ret) ∧ True
set_option maxRecDepth 10000 in
set_option maxHeartbeats 4000000 in
theorem c_193 (σ0 : SG) (hσ0 : WT σ0) (a : Int32) (b : Int32) : En 6 134 none mr_193 (P_193 σ0 a b) 0 [(0, .ref 159), (1, .int a), (2, .int b)] [] σ0 := by
  have hF0 : Fr [(35, 18), (35, 21), (42, 0), (43, 0), (44, 0), (45, 0), (46, 0)] σ0 σ0 := Fr_rfl
  refine En_Ps 2 (pc' := 2) (lv' := [(0, .ref 159), (1, .int a), (2, .int b)]) (st' := [.int a, .ref 159]) rfl ?_
  obtain ⟨z2, h1, h3, h4⟩ := WT_peekI hσ0 tgz_160 (by decide +kernel : FT 36 (2 : Int).toNat = (0, 0, 4)) (by decide +kernel)
  refine En_callV rfl rfl rfl rfl rfl rfl rfl rfl tgz_159 (by decide +kernel) rfl (c_254 σ0 hσ0 a z2 h1) (by decide) (by decide) (fun v6 σ7 h5 => ?_)
  obtain ⟨h8, h9, z11, rfl, h10⟩ := h5
  have h12 := Fr_trans hF0 h9 (by decide +kernel)
  refine En_iEq _ rfl rfl (fun h13 => ?_) (fun h13 => ?_)
  · refine En_Ps 1 (pc' := 27) (lv' := [(0, .ref 159), (1, .int a), (2, .int b)]) (st' := [.int (((Int8.ofInt (-2)).toInt32))]) rfl ?_
    refine En_top (by decide : ((Int8.ofInt (-2)).toInt32).toInt = -2) (fun z14 h15 => ?_)
    exact En_ret (v := some (Value.int z14)) rfl rfl rfl ⟨h8, h12, z14, rfl, trivial⟩
  · refine En_Ps 2 (pc' := 10) (lv' := [(0, .ref 159), (1, .int a), (2, .int b)]) (st' := [.int b, .ref 159]) rfl ?_
    refine En_callV rfl rfl rfl rfl rfl rfl rfl rfl tgz_159 (by decide +kernel) rfl (c_258 σ7 h8 b) (by decide) (by decide) (fun v17 σ18 h16 => ?_)
    obtain ⟨h19, h20, z22, rfl, h21⟩ := h16
    have h23 := Fr_trans h12 h20 (by decide +kernel)
    refine En_iEq _ rfl rfl (fun h24 => ?_) (fun h24 => ?_)
    · refine En_Ps 1 (pc' := 27) (lv' := [(0, .ref 159), (1, .int a), (2, .int b)]) (st' := [.int (((Int8.ofInt (-2)).toInt32))]) rfl ?_
      refine En_top (by decide : ((Int8.ofInt (-2)).toInt32).toInt = -2) (fun z25 h26 => ?_)
      exact En_ret (v := some (Value.int z25)) rfl rfl rfl ⟨h19, h23, z25, rfl, trivial⟩
    · refine En_Ps 3 (pc' := 19) (lv' := [(0, .ref 159), (1, .int a), (2, .int b)]) (st' := [.int b, .int a, .ref 159]) rfl ?_
      refine En_callV rfl rfl rfl rfl rfl rfl rfl rfl tgz_159 (by decide +kernel) rfl (c_194 σ18 h19 a b (geI rfl (by (first | exact q_bf8258001b h10.2.2.1 h13 h10.1 | omega))) (leI rfl (by (first | exact q_88b0c3c731 h10.2.2.1 h13 h10.1 h4 | omega))) (geI rfl (by (first | exact q_32028d2b65 h21.2.2 h21.2.1 h24 h21.1 | omega))) (leI rfl (by (first | exact q_f294613f12 h21.2.2 h21.2.1 h24 h21.1 | omega)))) (by decide) (by decide) (fun v28 σ29 h27 => ?_)
      obtain ⟨h30, h31, z33, rfl, h32⟩ := h27
      have h34 := Fr_trans h23 h31 (by decide +kernel)
      refine En_Ps 1 (pc' := 27) (lv' := [(0, .ref 159), (1, .int a), (2, .int b)]) (st' := [.int z33]) rfl ?_
      exact En_ret (v := some (Value.int z33)) rfl rfl rfl ⟨h30, h34, z33, rfl, trivial⟩
/-- DoorSchoolModel.areDeeds(I)Z -/
abbrev P_195 (σ0 : SG) (a : Int32) : PO := fun v σ => WT σ ∧ Fr [] σ0 σ ∧ ∃ ret : Int32, v = some (Value.int ret) ∧ -ret.toInt ≤ 0 ∧ ret.toInt - 1 ≤ 0 ∧ (ret.toInt - 1 ≤ 0 ∧ -ret.toInt + 1 ≤ 0 → -a.toInt ≤ 0 ∧ a.toInt - 65535 ≤ 0)
set_option maxRecDepth 10000 in
set_option maxHeartbeats 4000000 in
theorem c_195 (σ0 : SG) (hσ0 : WT σ0) (a : Int32) : En 3 60 none mr_195 (P_195 σ0 a) 0 [(0, .ref 159), (1, .int a)] [] σ0 := by
  have hF0 : Fr [] σ0 σ0 := Fr_rfl
  refine En_Ps 1 (pc' := 1) (lv' := [(0, .ref 159), (1, .int a)]) (st' := [.ref 159]) rfl ?_
  obtain ⟨z2, h1, h3, h4⟩ := WT_peekI hσ0 tgz_160 (by decide +kernel : FT 36 (7 : Int).toNat = (0, 0, 1600)) (by decide +kernel)
  refine En_callV rfl rfl rfl rfl rfl rfl rfl rfl tgz_159 (by decide +kernel) rfl (c_264 σ0 hσ0 z2 h1) (by decide) (by decide) (fun v6 σ7 h5 => ?_)
  obtain ⟨h8, h9, z11, rfl, h10⟩ := h5
  have h12 := Fr_trans hF0 h9 (by decide +kernel)
  refine En_iEq _ rfl rfl (fun h13 => ?_) (fun h13 => ?_)
  · refine En_Ps 1 (pc' := 26) (lv' := [(0, .ref 159), (1, .int a)]) (st' := [.int ((Int32.ofInt 0))]) rfl ?_
    refine En_top (by decide : (Int32.ofInt 0).toInt = 0) (fun z14 h15 => ?_)
    exact En_ret (v := some (Value.int z14)) rfl rfl (retZ rfl rfl (by first | exact q_55451d0a83 h15 | omega) (by first | exact q_87849c3859 h15 | omega)) ⟨h8, h12, z14, rfl, ⟨by first | exact q_097a37c2ae h15 | omega, by first | exact q_e269517bee h15 | omega, fun _ => by omega⟩⟩
  · refine En_Ps 4 (pc' := 11) (lv' := [(0, .ref 159), (1, .int a)]) (st' := [.ref 159, .long ((Int64.ofNat 0)), .long a.toInt64]) rfl ?_
    refine En_callV rfl rfl rfl rfl rfl rfl rfl rfl tgz_159 (by decide +kernel) rfl (c_192 σ7 h8) (by decide) (by decide) (fun v17 σ18 h16 => ?_)
    obtain ⟨h19, h20, z22, rfl, h21⟩ := h16
    have h23 := Fr_trans h12 h20 (by decide +kernel)
    refine En_Ps 1 (pc' := 15) (lv' := [(0, .ref 159), (1, .int a)]) (st' := [.long z22.toInt64, .long ((Int64.ofNat 0)), .long a.toInt64]) rfl ?_
    have : a.toInt64.toInt = a.toInt := (i2lI rfl)
    have := (by decide : ((Int64.ofNat 0)).toInt = 0)
    have : z22.toInt64.toInt = z22.toInt := (i2lI rfl)
    refine En_callS rfl rfl rfl rfl rfl rfl rfl rfl rfl (c_249 σ18 h19 a.toInt64 ((Int64.ofNat 0)) z22.toInt64) (by decide) (by decide) (fun v25 σ26 h24 => ?_)
    obtain ⟨h27, h28, z30, rfl, h29⟩ := h24
    have h31 := Fr_trans h23 h28 (by decide +kernel)
    refine En_iEq _ rfl rfl (fun h32 => ?_) (fun h32 => ?_)
    · refine En_Ps 1 (pc' := 26) (lv' := [(0, .ref 159), (1, .int a)]) (st' := [.int ((Int32.ofInt 0))]) rfl ?_
      refine En_top (by decide : (Int32.ofInt 0).toInt = 0) (fun z33 h34 => ?_)
      exact En_ret (v := some (Value.int z33)) rfl rfl (retZ rfl rfl (by first | exact q_55451d0a83 h34 | omega) (by first | exact q_87849c3859 h34 | omega)) ⟨h27, h31, z33, rfl, ⟨by first | exact q_097a37c2ae h34 | omega, by first | exact q_e269517bee h34 | omega, fun _ => by omega⟩⟩
    · refine En_Ps 2 (pc' := 26) (lv' := [(0, .ref 159), (1, .int a)]) (st' := [.int ((Int32.ofInt 1))]) rfl ?_
      refine En_top (by decide : (Int32.ofInt 1).toInt = 1) (fun z35 h36 => ?_)
      exact En_ret (v := some (Value.int z35)) rfl rfl (retZ rfl rfl (by first | exact q_2b07c97645 h36 | omega) (by first | exact q_d9e7cbb253 h36 | omega)) ⟨h27, h31, z35, rfl, ⟨by first | exact q_ad3eee31ca h36 | omega, by first | exact q_81cf297dc4 h36 | omega, fun _ => by (first | exact q_e125eee387 (i2lI rfl) h29.2.2.1 h32 h29.1 (by decide) this h21.2 | omega)⟩⟩
/-- DoorSchoolModel.isSlot(I)Z -/
abbrev P_266 (σ0 : SG) (a : Int32) : PO := fun v σ => WT σ ∧ Fr [] σ0 σ ∧ ∃ ret : Int32, v = some (Value.int ret) ∧ -ret.toInt ≤ 0 ∧ ret.toInt - 1 ≤ 0 ∧ (ret.toInt - 1 ≤ 0 ∧ -ret.toInt + 1 ≤ 0 → -a.toInt ≤ 0 ∧ a.toInt - 3 ≤ 0) ∧ (-a.toInt ≤ 0 ∧ a.toInt - 3 ≤ 0 → ret.toInt - 1 ≤ 0 ∧ -ret.toInt + 1 ≤ 0)
set_option maxRecDepth 10000 in
set_option maxHeartbeats 4000000 in
theorem c_266 (σ0 : SG) (hσ0 : WT σ0) (a : Int32) : En 1 25 none mr_266 (P_266 σ0 a) 0 [(0, .int a)] [] σ0 := by
  have hF0 : Fr [] σ0 σ0 := Fr_rfl
  refine En_Ps 4 (pc' := 6) (lv' := [(0, .int a)]) (st' := [.long ((3 : Int64)), .long ((Int64.ofNat 0)), .long a.toInt64]) rfl ?_
  have : a.toInt64.toInt = a.toInt := (i2lI rfl)
  have := (by decide : ((Int64.ofNat 0)).toInt = 0)
  have := (by decide : ((3 : Int64)).toInt = 3)
  refine En_callS rfl rfl rfl rfl rfl rfl rfl rfl rfl (c_249 σ0 hσ0 a.toInt64 ((Int64.ofNat 0)) ((3 : Int64))) (by decide) (by decide) (fun v2 σ3 h1 => ?_)
  obtain ⟨h4, h5, z7, rfl, h6⟩ := h1
  have h8 := Fr_trans hF0 h5 (by decide +kernel)
  exact En_ret (v := some (Value.int z7)) rfl rfl (retZ rfl rfl (by first | exact q_ef1e8e38bf h6.1 | omega) (by first | exact q_733c8bfbae h6.2.1 | omega)) ⟨h4, h8, z7, rfl, ⟨by first | exact q_a555021d16 h6.1 | omega, by first | exact q_ad5b726bf8 h6.2.1 | omega, fun _ => by omega, fun _ => by omega⟩⟩
/-- DoorSchoolModel.numberAt(II)J -/
abbrev P_289 (σ0 : SG) (a : Int32) (b : Int32) : PO := fun v σ => WT σ ∧ Fr [] σ0 σ ∧ ∃ ret : Int64, v = some (Value.long ret) ∧ True
set_option maxRecDepth 10000 in
set_option maxHeartbeats 4000000 in
theorem c_289 (σ0 : SG) (hσ0 : WT σ0) (a : Int32) (b : Int32) (hl_a : 0 ≤ a.toInt) (hu_a : a.toInt ≤ 3) (hl_b : 0 ≤ b.toInt) (hu_b : b.toInt ≤ 59) : En 0 0 none mr_289 (P_289 σ0 a b) 0 [(0, .ref 159), (1, .int a), (2, .int b)] [] σ0 := by
  have hF0 : Fr [] σ0 σ0 := Fr_rfl
  refine En_Ps 1 (pc' := 1) (lv' := [(0, .ref 159), (1, .int a), (2, .int b)]) (st' := [.ref 159]) rfl ?_
  refine En_getU (j := 34) (u := 179) (g' := 55) (q := 0) rfl rfl rfl tgz_159 (by decide +kernel) hσ0 (by decide +kernel) un_55_179 (fun h1 => ?_)
  refine En_Ps 3 (pc' := 8) (lv' := [(0, .ref 159), (1, .int a), (2, .int b)]) (st' := [.int (((((Int8.ofInt 60).toInt32)) * a)), .ref 179]) rfl ?_
  refine En_top (mulI (by decide : ((Int8.ofInt 60).toInt32).toInt = 60) rfl (Z := 60 * a.toInt) (by first | exact q_7a16b37b72 | omega) (by first | exact q_1ce4e59c82 hl_a | omega) (by first | exact q_a3ec378d2c hu_a | omega)) (fun z3 h4 => ?_)
  refine En_Ps 2 (pc' := 10) (lv' := [(0, .ref 159), (1, .int a), (2, .int b)]) (st' := [.int ((z3 + b)), .ref 179]) rfl ?_
  refine En_top (addI rfl rfl (by first | exact q_0fd09a5c3f hl_b h4 hl_a | omega) (by first | exact q_87f4d5cbb8 hu_b h4 hu_a | omega)) (fun z5 h6 => ?_)
  refine En_lald (l := (-9223372036854775808)) (u := 9223372036854775807) rfl rfl tgz_179 (by decide +kernel) hσ0 (by first | exact q_604937762f h6 hl_b h4 hl_a | omega) (lnI (by decide +kernel : LN _ = 240) (by first | exact q_b66ff9fcab h6 hu_b h4 hu_a | omega)) (FTsgl (by decide +kernel)) (fun z8 h7 h9 h10 => ?_)
  exact En_ret (v := some (Value.long z8)) rfl rfl rfl ⟨hσ0, hF0, z8, rfl, trivial⟩
/-- DoorSchoolModel.isKnock(J)Z -/
abbrev P_259 (σ0 : SG) (a : Int64) : PO := fun v σ => WT σ ∧ Fr [] σ0 σ ∧ ∃ ret : Int32, v = some (Value.int ret) ∧ -ret.toInt ≤ 0 ∧ ret.toInt - 1 ≤ 0 ∧ (-ret.toInt + 1 ≤ 0 → -a.toInt ≤ 0 ∧ a.toInt - 15 ≤ 0)
set_option maxRecDepth 10000 in
set_option maxHeartbeats 4000000 in
theorem c_259 (σ0 : SG) (hσ0 : WT σ0) (a : Int64) : En 2 40 none mr_259 (P_259 σ0 a) 0 [(0, .ref 159), (1, .long a)] [] σ0 := by
  have hF0 : Fr [] σ0 σ0 := Fr_rfl
  refine En_Ps 3 (pc' := 3) (lv' := [(0, .ref 159), (1, .long a)]) (st' := [.ref 159, .long ((Int64.ofNat 0)), .long a]) rfl ?_
  obtain ⟨z2, h1, h3, h4⟩ := WT_peekI hσ0 tgz_160 (by decide +kernel : FT 36 (0 : Int).toNat = (0, 0, 4)) (by decide +kernel)
  obtain ⟨z6, h5, h7, h8⟩ := WT_peekI hσ0 tgz_160 (by decide +kernel : FT 36 (7 : Int).toNat = (0, 0, 1600)) (by decide +kernel)
  refine En_callV rfl rfl rfl rfl rfl rfl rfl rfl tgz_159 (by decide +kernel) rfl (c_269 σ0 hσ0 z2 h1 z6 h5) (by decide) (by decide) (fun v10 σ11 h9 => ?_)
  obtain ⟨h12, h13, z15, rfl, h14⟩ := h9
  have h16 := h14.2.2
  have h17 := Fr_trans hF0 h13 (by decide +kernel)
  refine En_Ps 2 (pc' := 8) (lv' := [(0, .ref 159), (1, .long a)]) (st' := [.int ((z15 - ((Int32.ofInt 1)))), .long ((Int64.ofNat 0)), .long a]) rfl ?_
  refine En_top (subI rfl (by decide : (Int32.ofInt 1).toInt = 1) (by first | exact q_89a3f9d69a h14.1 | omega) (by first | exact q_9b40fa289d h14.2.1 | omega)) (fun z18 h19 => ?_)
  refine En_Ps 1 (pc' := 9) (lv' := [(0, .ref 159), (1, .long a)]) (st' := [.long z18.toInt64, .long ((Int64.ofNat 0)), .long a]) rfl ?_
  have := (by decide : ((Int64.ofNat 0)).toInt = 0)
  have : z18.toInt64.toInt = z18.toInt := (i2lI rfl)
  refine En_callS rfl rfl rfl rfl rfl rfl rfl rfl rfl (c_249 σ11 h12 a ((Int64.ofNat 0)) z18.toInt64) (by decide) (by decide) (fun v21 σ22 h20 => ?_)
  obtain ⟨h23, h24, z26, rfl, h25⟩ := h20
  have h27 := Fr_trans h17 h24 (by decide +kernel)
  exact En_ret (v := some (Value.int z26)) rfl rfl (retZ rfl rfl (by first | exact q_ef1e8e38bf h25.1 | omega) (by first | exact q_733c8bfbae h25.2.1 | omega)) ⟨h23, h27, z26, rfl, ⟨by first | exact q_a555021d16 h25.1 | omega, by first | exact q_ad5b726bf8 h25.2.1 | omega, fun _ => by omega⟩⟩
/-- DoorSchoolModel.asksSeen(IZ)I -/
abbrev P_198 (σ0 : SG) (a : Int32) (b : Int32) : PO := fun v σ => WT σ ∧ Fr [] σ0 σ ∧ ∃ ret : Int32, v = some (Value.int ret) ∧ -ret.toInt - 6 ≤ 0 ∧ ret.toInt ≤ 0 ∧ (-ret.toInt ≤ 0 → -a.toInt ≤ 0 ∧ a.toInt - 3 ≤ 0)
set_option maxRecDepth 10000 in
set_option maxHeartbeats 4000000 in
theorem c_198 (σ0 : SG) (hσ0 : WT σ0) (a : Int32) (b : Int32) (hl_b : 0 ≤ b.toInt) (hu_b : b.toInt ≤ 1) : En 3 62 none mr_198 (P_198 σ0 a b) 0 [(0, .ref 159), (1, .int a), (2, .int b)] [] σ0 := by
  have hF0 : Fr [] σ0 σ0 := Fr_rfl
  refine En_Ps 1 (pc' := 1) (lv' := [(0, .ref 159), (1, .int a), (2, .int b)]) (st' := [.int a]) rfl ?_
  refine En_callS rfl rfl rfl rfl rfl rfl rfl rfl rfl (c_266 σ0 hσ0 a) (by decide) (by decide) (fun v2 σ3 h1 => ?_)
  obtain ⟨h4, h5, z7, rfl, h6⟩ := h1
  obtain rfl : σ0 = σ3 := Fr_nil h5
  refine En_iEq _ rfl rfl (fun h8 => ?_) (fun h8 => ?_)
  · refine En_Ps 1 (pc' := 20) (lv' := [(0, .ref 159), (1, .int a), (2, .int b)]) (st' := [.int (((Int8.ofInt (-2)).toInt32))]) rfl ?_
    refine En_top (by decide : ((Int8.ofInt (-2)).toInt32).toInt = -2) (fun z9 h10 => ?_)
    exact En_ret (v := some (Value.int z9)) rfl rfl rfl ⟨hσ0, hF0, z9, rfl, ⟨by first | exact q_2583522324 h10 | omega, by first | exact q_bbb39ffa1e h10 | omega, fun _ => by omega⟩⟩
  · refine En_Ps 1 (pc' := 8) (lv' := [(0, .ref 159), (1, .int a), (2, .int b)]) (st' := [.ref 159]) rfl ?_
    obtain ⟨z12, h11, h13, h14⟩ := WT_peekI hσ0 tgz_160 (by decide +kernel : FT 36 (7 : Int).toNat = (0, 0, 1600)) (by decide +kernel)
    refine En_callV rfl rfl rfl rfl rfl rfl rfl rfl tgz_159 (by decide +kernel) rfl (c_264 σ0 hσ0 z12 h11) (by decide) (by decide) (fun v16 σ17 h15 => ?_)
    obtain ⟨h18, h19, z21, rfl, h20⟩ := h15
    obtain rfl : σ0 = σ17 := Fr_nil h19
    refine En_iEq _ rfl rfl (fun h22 => ?_) (fun h22 => ?_)
    · refine En_Ps 1 (pc' := 20) (lv' := [(0, .ref 159), (1, .int a), (2, .int b)]) (st' := [.int (((Int8.ofInt (-2)).toInt32))]) rfl ?_
      refine En_top (by decide : ((Int8.ofInt (-2)).toInt32).toInt = -2) (fun z23 h24 => ?_)
      exact En_ret (v := some (Value.int z23)) rfl rfl rfl ⟨hσ0, hF0, z23, rfl, ⟨by first | exact q_2583522324 h24 | omega, by first | exact q_bbb39ffa1e h24 | omega, fun _ => by (first | exact q_52031ea72b h6.2.2.1 h6.2.1 h8 h6.1 | omega)⟩⟩
    · refine En_Ps 1 (pc' := 15) (lv' := [(0, .ref 159), (1, .int a), (2, .int b)]) (st' := [.int b]) rfl ?_
      refine En_iNe _ rfl rfl (fun h25 => ?_) (fun h25 => ?_)
      · refine En_Ps 1 (pc' := 22) (lv' := [(0, .ref 159), (1, .int a), (2, .int b)]) (st' := [.ref 159]) rfl ?_
        refine En_getU (j := 32) (u := 177) (g' := 53) (q := 0) rfl rfl rfl tgz_159 (by decide +kernel) hσ0 (by decide +kernel) un_53_177 (fun h26 => ?_)
        refine En_Ps 1 (pc' := 26) (lv' := [(0, .ref 159), (1, .int a), (2, .int b)]) (st' := [.int a, .ref 177]) rfl ?_
        refine En_iald (l := (-1)) (u := 60) rfl rfl tgz_177 (by decide +kernel) hσ0 (by (first | exact q_32028d2b65 h6.2.2.1 h6.2.1 h8 h6.1 | omega)) (lnI (by decide +kernel : LN _ = 4) (by (first | exact q_87da96c949 h6.2.2.1 h6.2.1 h8 h6.1 | omega))) (FTsgl (by decide +kernel)) (fun z29 h28 h30 h31 => ?_)
        refine En_Ps 1 (pc' := 28) (lv' := [(0, .ref 159), (1, .int a), (2, .int b)]) (st' := [.int ((Int32.ofInt (-1))), .int z29]) rfl ?_
        refine En_icNe _ rfl (by decide : (Int32.ofInt (-1)).toInt = -1) rfl (fun h32 => ?_) (fun h32 => ?_)
        · refine En_Ps 1 (pc' := 35) (lv' := [(0, .ref 159), (1, .int a), (2, .int b)]) (st' := [.ref 159]) rfl ?_
          refine En_getK (j := 32) h26 rfl rfl rfl tgz_159 (by decide +kernel) ?_
          refine En_Ps 1 (pc' := 39) (lv' := [(0, .ref 159), (1, .int a), (2, .int b)]) (st' := [.int a, .ref 177]) rfl ?_
          refine En_ialdK h28 rfl rfl tgz_177 (by decide +kernel) hσ0 (by (first | exact q_32028d2b65 h6.2.2.1 h6.2.1 h8 h6.1 | omega)) (lnI (by decide +kernel : LN _ = 4) (by (first | exact q_87da96c949 h6.2.2.1 h6.2.1 h8 h6.1 | omega))) ?_
          refine En_Ps 1 (pc' := 41) (lv' := [(0, .ref 159), (1, .int a), (2, .int b)]) (st' := [.int ((Int32.ofInt 2)), .int z29]) rfl ?_
          refine En_irem (c := 2) rfl rfl (by decide : (Int32.ofInt 2).toInt = 2) (by (first | exact q_ec18971c3b h32 h30 | omega)) (by decide) (fun z34 h35 => ?_)
          refine En_iEq _ rfl rfl (fun h36 => ?_) (fun h36 => ?_)
          · refine En_Ps 2 (pc' := 50) (lv' := [(3, .int ((Int32.ofInt 0))), (0, .ref 159), (1, .int a), (2, .int b)]) (st' := []) rfl ?_
            have key50 : ∀ (n50 : Nat) (y37 : Int32), 0 ≤ y37.toInt → y37.toInt ≤ 60 → y37.toInt - z29.toInt - 1 ≤ 0 → -y37.toInt + 60 < (n50 : Int) → y37.toInt % 2 = 0 → En 3 62 none mr_198 (P_198 σ0 a b) 50 [(0, .ref 159), (1, .int a), (2, .int b), (3, .int y37)] [] σ0 := by
              intro n50
              induction n50 with
              | zero =>
                intro y37 h41 h42 h43 h44 h45
                first | exact (q_98ae87e5bf h44 h42).elim | (exfalso; omega)
              | succ n50 ih50 =>
                intro y37 h41 h42 h43 h44 h45
                refine En_Ps 2 (pc' := 52) (lv' := [(0, .ref 159), (1, .int a), (2, .int b), (3, .int y37)]) (st' := [.ref 159, .int y37]) rfl ?_
                refine En_getK (j := 32) h26 rfl rfl rfl tgz_159 (by decide +kernel) ?_
                refine En_Ps 1 (pc' := 56) (lv' := [(0, .ref 159), (1, .int a), (2, .int b), (3, .int y37)]) (st' := [.int a, .ref 177, .int y37]) rfl ?_
                refine En_ialdK h28 rfl rfl tgz_177 (by decide +kernel) hσ0 (by (first | exact q_32028d2b65 h6.2.2.1 h6.2.1 h8 h6.1 | omega)) (lnI (by decide +kernel : LN _ = 4) (by (first | exact q_87da96c949 h6.2.2.1 h6.2.1 h8 h6.1 | omega))) ?_
                refine En_icGe _ rfl rfl rfl (fun h47 => ?_) (fun h47 => ?_)
                · refine En_Ps 1 (pc' := 99) (lv' := [(0, .ref 159), (1, .int a), (2, .int b), (3, .int y37)]) (st' := [.int ((Int32.ofInt 0))]) rfl ?_
                  refine En_top (by decide : (Int32.ofInt 0).toInt = 0) (fun z48 h49 => ?_)
                  exact En_ret (v := some (Value.int z48)) rfl rfl rfl ⟨hσ0, hF0, z48, rfl, ⟨by first | exact q_49fb6350c2 h49 | omega, by first | exact q_c5d285f1b9 h49 | omega, fun _ => by (first | exact q_52031ea72b h6.2.2.1 h6.2.1 h8 h6.1 | omega)⟩⟩
                · refine En_Ps 4 (pc' := 64) (lv' := [(0, .ref 159), (1, .int a), (2, .int b), (3, .int y37)]) (st' := [.int y37, .int a, .ref 159, .ref 159]) rfl ?_
                  refine En_callV rfl rfl rfl rfl rfl rfl rfl rfl tgz_159 (by decide +kernel) rfl (c_289 σ0 hσ0 a y37 (geI rfl (by (first | exact q_32028d2b65 h6.2.2.1 h6.2.1 h8 h6.1 | omega))) (leI rfl (by (first | exact q_f294613f12 h6.2.2.1 h6.2.1 h8 h6.1 | omega))) (geI rfl (by first | exact q_58e6e51dcc h41 | omega)) (leI rfl (by first | exact q_a0748cdabb h47 h31 | omega))) (by decide) (by decide) (fun v51 σ52 h50 => ?_)
                  obtain ⟨h53, h54, z56, rfl, h55⟩ := h50
                  obtain rfl : σ0 = σ52 := Fr_nil h54
                  refine En_callV rfl rfl rfl rfl rfl rfl rfl rfl tgz_159 (by decide +kernel) rfl (c_259 σ0 hσ0 z56) (by decide) (by decide) (fun v58 σ59 h57 => ?_)
                  obtain ⟨h60, h61, z63, rfl, h62⟩ := h57
                  obtain rfl : σ0 = σ59 := Fr_nil h61
                  refine En_iEq _ rfl rfl (fun h64 => ?_) (fun h64 => ?_)
                  · refine En_Ps 1 (pc' := 91) (lv' := [(0, .ref 159), (1, .int a), (2, .int b), (3, .int y37)]) (st' := [.int (((Int8.ofInt (-2)).toInt32))]) rfl ?_
                    refine En_top (by decide : ((Int8.ofInt (-2)).toInt32).toInt = -2) (fun z65 h66 => ?_)
                    exact En_ret (v := some (Value.int z65)) rfl rfl rfl ⟨hσ0, hF0, z65, rfl, ⟨by first | exact q_2583522324 h66 | omega, by first | exact q_bbb39ffa1e h66 | omega, fun _ => by (first | exact q_52031ea72b h6.2.2.1 h6.2.1 h8 h6.1 | omega)⟩⟩
                  · refine En_Ps 4 (pc' := 77) (lv' := [(0, .ref 159), (1, .int a), (2, .int b), (3, .int y37)]) (st' := [.int ((Int32.ofInt 1)), .int y37, .int a, .ref 159]) rfl ?_
                    have h67 : y37.toInt ≤ 58 := by omega
                    refine En_Ps 1 (pc' := 78) (lv' := [(0, .ref 159), (1, .int a), (2, .int b), (3, .int y37)]) (st' := [.int ((y37 + ((Int32.ofInt 1)))), .int a, .ref 159]) rfl ?_
                    refine En_top (addI rfl (by decide : (Int32.ofInt 1).toInt = 1) (by first | exact q_465ab79ac1 h41 | omega) (by first | exact q_232407ab69 h42 | omega)) (fun z68 h69 => ?_)
                    refine En_callV rfl rfl rfl rfl rfl rfl rfl rfl tgz_159 (by decide +kernel) rfl (c_289 σ0 hσ0 a z68 (geI rfl (by (first | exact q_32028d2b65 h6.2.2.1 h6.2.1 h8 h6.1 | omega))) (leI rfl (by (first | exact q_f294613f12 h6.2.2.1 h6.2.1 h8 h6.1 | omega))) (geI rfl (by first | exact q_35104ce9d3 h69 h41 | omega)) (leI rfl (by (first | exact q_fedb530d86 h69 h67 | omega)))) (by decide) (by decide) (fun v71 σ72 h70 => ?_)
                    obtain ⟨h73, h74, z76, rfl, h75⟩ := h70
                    obtain rfl : σ0 = σ72 := Fr_nil h74
                    refine En_Ps 2 (pc' := 83) (lv' := [(0, .ref 159), (1, .int a), (2, .int b), (3, .int y37)]) (st' := [.long ((Int64.ofNat 1)), .long ((Int64.ofNat 0)), .long z76]) rfl ?_
                    have := (by decide : ((Int64.ofNat 0)).toInt = 0)
                    have := (by decide : ((Int64.ofNat 1)).toInt = 1)
                    refine En_callS rfl rfl rfl rfl rfl rfl rfl rfl rfl (c_249 σ0 hσ0 z76 ((Int64.ofNat 0)) ((Int64.ofNat 1))) (by decide) (by decide) (fun v78 σ79 h77 => ?_)
                    obtain ⟨h80, h81, z83, rfl, h82⟩ := h77
                    obtain rfl : σ0 = σ79 := Fr_nil h81
                    refine En_iNe _ rfl rfl (fun h84 => ?_) (fun h84 => ?_)
                    · refine En_Ps 1 (pc' := 95) (lv' := [(3, .int ((y37 + Int32.ofInt 2))), (0, .ref 159), (1, .int a), (2, .int b)]) (st' := []) rfl ?_
                      refine En_lv1 (addI rfl (by decide : (Int32.ofInt 2).toInt = 2) (by first | exact q_f7bbb7a326 h41 | omega) (by first | exact q_f6c848b1e9 h42 | omega)) (fun z85 h86 => ?_)
                      refine En_Ps 1 (pc' := 50) (lv' := [(3, .int z85), (0, .ref 159), (1, .int a), (2, .int b)]) (st' := []) rfl ?_
                      refine En_lv (lv := [(0, .ref 159), (1, .int a), (2, .int b), (3, .int z85)]) ⟨rfl, rfl, rfl, rfl, trivial⟩ ?_
                      exact ih50 z85 (by first | exact q_8f6627763a h86 h41 | omega) (by (first | exact q_7df4548938 h86 h67 | omega)) (by first | exact q_277aaf3cd2 h47 h86 | omega) (by first | exact q_84b996d9f0 h86 h44 | omega) (by omega)
                    · refine En_Ps 1 (pc' := 91) (lv' := [(0, .ref 159), (1, .int a), (2, .int b), (3, .int y37)]) (st' := [.int (((Int8.ofInt (-2)).toInt32))]) rfl ?_
                      refine En_top (by decide : ((Int8.ofInt (-2)).toInt32).toInt = -2) (fun z87 h88 => ?_)
                      exact En_ret (v := some (Value.int z87)) rfl rfl rfl ⟨hσ0, hF0, z87, rfl, ⟨by first | exact q_2583522324 h88 | omega, by first | exact q_bbb39ffa1e h88 | omega, fun _ => by (first | exact q_52031ea72b h6.2.2.1 h6.2.1 h8 h6.1 | omega)⟩⟩
            have := (by decide : (Int32.ofInt 0).toInt = 0)
            refine En_lv (lv := [(0, .ref 159), (1, .int a), (2, .int b), (3, .int ((Int32.ofInt 0)))]) ⟨rfl, rfl, rfl, rfl, trivial⟩ ?_
            exact key50 (Int.toNat (60) + 1) ((Int32.ofInt 0)) (by decide) (by decide) (by (first | exact q_efe0cfa336 this h30 | omega)) (by first | exact toN_lt _ | omega) (by omega)
          · refine En_Ps 1 (pc' := 47) (lv' := [(0, .ref 159), (1, .int a), (2, .int b)]) (st' := [.int (((Int8.ofInt (-2)).toInt32))]) rfl ?_
            refine En_top (by decide : ((Int8.ofInt (-2)).toInt32).toInt = -2) (fun z89 h90 => ?_)
            exact En_ret (v := some (Value.int z89)) rfl rfl rfl ⟨hσ0, hF0, z89, rfl, ⟨by first | exact q_2583522324 h90 | omega, by first | exact q_bbb39ffa1e h90 | omega, fun _ => by (first | exact q_52031ea72b h6.2.2.1 h6.2.1 h8 h6.1 | omega)⟩⟩
        · refine En_Ps 1 (pc' := 33) (lv' := [(0, .ref 159), (1, .int a), (2, .int b)]) (st' := [.int (((Int8.ofInt (-6)).toInt32))]) rfl ?_
          refine En_top (by decide : ((Int8.ofInt (-6)).toInt32).toInt = -6) (fun z91 h92 => ?_)
          exact En_ret (v := some (Value.int z91)) rfl rfl rfl ⟨hσ0, hF0, z91, rfl, ⟨by first | exact q_597c727cce h92 | omega, by first | exact q_9bcb887de1 h92 | omega, fun _ => by (first | exact q_52031ea72b h6.2.2.1 h6.2.1 h8 h6.1 | omega)⟩⟩
      · refine En_Ps 1 (pc' := 20) (lv' := [(0, .ref 159), (1, .int a), (2, .int b)]) (st' := [.int (((Int8.ofInt (-2)).toInt32))]) rfl ?_
        refine En_top (by decide : ((Int8.ofInt (-2)).toInt32).toInt = -2) (fun z93 h94 => ?_)
        exact En_ret (v := some (Value.int z93)) rfl rfl rfl ⟨hσ0, hF0, z93, rfl, ⟨by first | exact q_2583522324 h94 | omega, by first | exact q_bbb39ffa1e h94 | omega, fun _ => by (first | exact q_52031ea72b h6.2.2.1 h6.2.1 h8 h6.1 | omega)⟩⟩
/-- DoorSchoolModel.doesSo(II)Z -/
abbrev P_218 (σ0 : SG) (a : Int32) (b : Int32) : PO := fun v σ => WT σ ∧ Fr [] σ0 σ ∧ ∃ ret : Int32, v = some (Value.int ret) ∧ -ret.toInt ≤ 0 ∧ ret.toInt - 1 ≤ 0
set_option maxRecDepth 10000 in
set_option maxHeartbeats 4000000 in
theorem c_218 (σ0 : SG) (hσ0 : WT σ0) (a : Int32) (b : Int32) (hl_a : 0 ≤ a.toInt) (hu_a : a.toInt ≤ 3) : En 1 22 none mr_218 (P_218 σ0 a b) 0 [(0, .ref 159), (1, .int a), (2, .int b)] [] σ0 := by
  have hF0 : Fr [] σ0 σ0 := Fr_rfl
  refine En_Ps 2 (pc' := 2) (lv' := [(3, .int ((Int32.ofInt 0))), (0, .ref 159), (1, .int a), (2, .int b)]) (st' := []) rfl ?_
  have key2 : ∀ (n2 : Nat) (y1 : Int32), 0 ≤ y1.toInt → y1.toInt ≤ 60 → -y1.toInt + 60 < (n2 : Int) → y1.toInt % 2 = 0 → En 1 22 none mr_218 (P_218 σ0 a b) 2 [(0, .ref 159), (1, .int a), (2, .int b), (3, .int y1)] [] σ0 := by
    intro n2
    induction n2 with
    | zero =>
      intro y1 h5 h6 h7 h8
      first | exact (q_98ae87e5bf h7 h6).elim | (exfalso; omega)
    | succ n2 ih2 =>
      intro y1 h5 h6 h7 h8
      refine En_Ps 2 (pc' := 4) (lv' := [(0, .ref 159), (1, .int a), (2, .int b), (3, .int y1)]) (st' := [.ref 159, .int y1]) rfl ?_
      refine En_getU (j := 32) (u := 177) (g' := 53) (q := 0) rfl rfl rfl tgz_159 (by decide +kernel) hσ0 (by decide +kernel) un_53_177 (fun h9 => ?_)
      refine En_Ps 1 (pc' := 8) (lv' := [(0, .ref 159), (1, .int a), (2, .int b), (3, .int y1)]) (st' := [.int a, .ref 177, .int y1]) rfl ?_
      refine En_iald (l := (-1)) (u := 60) rfl rfl tgz_177 (by decide +kernel) hσ0 (by first | exact q_58e6e51dcc hl_a | omega) (lnI (by decide +kernel : LN _ = 4) (by first | exact q_f3bb6f88f7 hu_a | omega)) (FTsgl (by decide +kernel)) (fun z12 h11 h13 h14 => ?_)
      refine En_icGe _ rfl rfl rfl (fun h15 => ?_) (fun h15 => ?_)
      · refine En_Ps 1 (pc' := 45) (lv' := [(0, .ref 159), (1, .int a), (2, .int b), (3, .int y1)]) (st' := [.int ((Int32.ofInt 1))]) rfl ?_
        refine En_top (by decide : (Int32.ofInt 1).toInt = 1) (fun z16 h17 => ?_)
        exact En_ret (v := some (Value.int z16)) rfl rfl (retZ rfl rfl (by first | exact q_2b07c97645 h17 | omega) (by first | exact q_d9e7cbb253 h17 | omega)) ⟨hσ0, hF0, z16, rfl, ⟨by first | exact q_ad3eee31ca h17 | omega, by first | exact q_81cf297dc4 h17 | omega⟩⟩
      · refine En_Ps 4 (pc' := 16) (lv' := [(0, .ref 159), (1, .int a), (2, .int b), (3, .int y1)]) (st' := [.int y1, .int a, .ref 159, .int b]) rfl ?_
        refine En_callV rfl rfl rfl rfl rfl rfl rfl rfl tgz_159 (by decide +kernel) rfl (c_289 σ0 hσ0 a y1 (geI rfl (by first | exact q_58e6e51dcc hl_a | omega)) (leI rfl (by first | exact q_da5e9b976f hu_a | omega)) (geI rfl (by first | exact q_58e6e51dcc h5 | omega)) (leI rfl (by first | exact q_a0748cdabb h15 h14 | omega))) (by decide) (by decide) (fun v19 σ20 h18 => ?_)
        obtain ⟨h21, h22, z24, rfl, h23⟩ := h18
        obtain rfl : σ0 = σ20 := Fr_nil h22
        refine En_Ps 1 (pc' := 20) (lv' := [(0, .ref 159), (1, .int a), (2, .int b), (3, .int y1)]) (st' := [.int ((z24.toInt32)), .int b]) rfl ?_
        refine En_hav (fun z25 => ?_)
        refine En_callS rfl rfl rfl rfl rfl rfl rfl rfl rfl (c_202b σ0 hσ0 b z25) (by decide) (by decide) (fun v27 σ28 h26 => ?_)
        obtain ⟨h29, h30, z32, rfl, h31⟩ := h26
        obtain rfl : σ0 = σ28 := Fr_nil h30
        refine En_Ps 5 (pc' := 28) (lv' := [(0, .ref 159), (1, .int a), (2, .int b), (3, .int y1)]) (st' := [.int ((Int32.ofInt 1)), .int y1, .int a, .ref 159, .long z32.toInt64]) rfl ?_
        have h33 : y1.toInt ≤ 58 := by omega
        refine En_Ps 1 (pc' := 29) (lv' := [(0, .ref 159), (1, .int a), (2, .int b), (3, .int y1)]) (st' := [.int ((y1 + ((Int32.ofInt 1)))), .int a, .ref 159, .long z32.toInt64]) rfl ?_
        refine En_top (addI rfl (by decide : (Int32.ofInt 1).toInt = 1) (by first | exact q_465ab79ac1 h5 | omega) (by first | exact q_232407ab69 h6 | omega)) (fun z34 h35 => ?_)
        refine En_callV rfl rfl rfl rfl rfl rfl rfl rfl tgz_159 (by decide +kernel) rfl (c_289 σ0 hσ0 a z34 (geI rfl (by first | exact q_58e6e51dcc hl_a | omega)) (leI rfl (by first | exact q_da5e9b976f hu_a | omega)) (geI rfl (by first | exact q_35104ce9d3 h35 h5 | omega)) (leI rfl (by (first | exact q_fedb530d86 h35 h33 | omega)))) (by decide) (by decide) (fun v37 σ38 h36 => ?_)
        obtain ⟨h39, h40, z42, rfl, h41⟩ := h36
        obtain rfl : σ0 = σ38 := Fr_nil h40
        refine En_Ps 1 (pc' := 33) (lv' := [(0, .ref 159), (1, .int a), (2, .int b), (3, .int y1)]) (st' := [.int (lg_cmp z32.toInt64 z42)]) rfl ?_
        refine En_lgEq _ (i2lI rfl) rfl rfl (fun h43 => ?_) (fun h43 => ?_)
        · refine En_Ps 1 (pc' := 41) (lv' := [(3, .int ((y1 + Int32.ofInt 2))), (0, .ref 159), (1, .int a), (2, .int b)]) (st' := []) rfl ?_
          refine En_lv1 (addI rfl (by decide : (Int32.ofInt 2).toInt = 2) (by first | exact q_f7bbb7a326 h5 | omega) (by first | exact q_f6c848b1e9 h6 | omega)) (fun z44 h45 => ?_)
          refine En_Ps 1 (pc' := 2) (lv' := [(3, .int z44), (0, .ref 159), (1, .int a), (2, .int b)]) (st' := []) rfl ?_
          refine En_lv (lv := [(0, .ref 159), (1, .int a), (2, .int b), (3, .int z44)]) ⟨rfl, rfl, rfl, rfl, trivial⟩ ?_
          exact ih2 z44 (by first | exact q_8f6627763a h45 h5 | omega) (by (first | exact q_7df4548938 h45 h33 | omega)) (by first | exact q_84b996d9f0 h45 h7 | omega) (by omega)
        · refine En_Ps 1 (pc' := 37) (lv' := [(0, .ref 159), (1, .int a), (2, .int b), (3, .int y1)]) (st' := [.int ((Int32.ofInt 0))]) rfl ?_
          refine En_top (by decide : (Int32.ofInt 0).toInt = 0) (fun z46 h47 => ?_)
          exact En_ret (v := some (Value.int z46)) rfl rfl (retZ rfl rfl (by first | exact q_55451d0a83 h47 | omega) (by first | exact q_87849c3859 h47 | omega)) ⟨hσ0, hF0, z46, rfl, ⟨by first | exact q_097a37c2ae h47 | omega, by first | exact q_e269517bee h47 | omega⟩⟩
  have := (by decide : (Int32.ofInt 0).toInt = 0)
  refine En_lv (lv := [(0, .ref 159), (1, .int a), (2, .int b), (3, .int ((Int32.ofInt 0)))]) ⟨rfl, rfl, rfl, rfl, trivial⟩ ?_
  exact key2 (Int.toNat (60) + 1) ((Int32.ofInt 0)) (by decide) (by decide) (by first | exact toN_lt _ | omega) (by omega)
/-- DoorSchoolModel.fitsOf(I)I -/
abbrev P_231 (σ0 : SG) (a : Int32) : PO := fun v σ => WT σ ∧ Fr [(35, 18), (42, 0), (43, 0), (44, 0)] σ0 σ ∧ ∃ ret : Int32, v = some (Value.int ret) ∧ -ret.toInt ≤ 0 ∧ ret.toInt - 81 ≤ 0
set_option maxRecDepth 10000 in
set_option maxHeartbeats 4000000 in
theorem c_231 (σ0 : SG) (hσ0 : WT σ0) (a : Int32) (hl_a : 0 ≤ a.toInt) (hu_a : a.toInt ≤ 3) : En 4 87 none mr_231 (P_231 σ0 a) 0 [(0, .ref 159), (1, .int a)] [] σ0 := by
  have hF0 : Fr [(35, 18), (42, 0), (43, 0), (44, 0)] σ0 σ0 := Fr_rfl
  refine En_Ps 1 (pc' := 1) (lv' := [(0, .ref 159), (1, .int a)]) (st' := [.ref 159]) rfl ?_
  obtain ⟨z2, h1, h3, h4⟩ := WT_peekI hσ0 tgz_160 (by decide +kernel : FT 36 (0 : Int).toNat = (0, 0, 4)) (by decide +kernel)
  obtain ⟨z6, h5, h7, h8⟩ := WT_peekI hσ0 tgz_160 (by decide +kernel : FT 36 (7 : Int).toNat = (0, 0, 1600)) (by decide +kernel)
  refine En_callV rfl rfl rfl rfl rfl rfl rfl rfl tgz_159 (by decide +kernel) rfl (c_272 σ0 hσ0 z2 h1 z6 h5) (by decide) (by decide) (fun v10 σ11 h9 => ?_)
  obtain ⟨h12, h13, rfl, h14⟩ := h9
  have h15 := Fr_trans hF0 h13 (by decide +kernel)
  refine En_Ps 4 (pc' := 8) (lv' := [(3, .int ((Int32.ofInt 0))), (2, .int ((Int32.ofInt 0))), (0, .ref 159), (1, .int a)]) (st' := []) rfl ?_
  have key8 : ∀ (n8 : Nat) (σ18 : SG) (y16 : Int32) (y17 : Int32), WT σ18 → Fr [(35, 18), (42, 0), (43, 0), (44, 0)] σ0 σ18 → (σ18 160)[(0 : Int).toNat]? = some (Value.int z2) → (σ18 160)[(7 : Int).toNat]? = some (Value.int z6) → 0 ≤ y16.toInt → y16.toInt ≤ 81 → 0 ≤ y17.toInt → y17.toInt ≤ 81 → y16.toInt - y17.toInt ≤ 0 → -y17.toInt + 81 < (n8 : Int) → En 4 87 none mr_231 (P_231 σ0 a) 8 [(0, .ref 159), (1, .int a), (2, .int y16), (3, .int y17)] [] σ18 := by
    intro n8
    induction n8 with
    | zero =>
      intro σ18 y16 y17 h19 h20 h21 h22 h23 h24 h25 h26 h27 h28
      first | exact (q_ffef14d449 h28 h26).elim | (exfalso; omega)
    | succ n8 ih8 =>
      intro σ18 y16 y17 h19 h20 h21 h22 h23 h24 h25 h26 h27 h28
      refine En_Ps 2 (pc' := 10) (lv' := [(0, .ref 159), (1, .int a), (2, .int y16), (3, .int y17)]) (st' := [.ref 159, .int y17]) rfl ?_
      refine En_getI (j := 18) (l := 0) (u := 81) rfl rfl rfl tgz_159 (by decide +kernel) h19 (by decide +kernel) (fun z30 h29 h31 h32 => ?_)
      refine En_icGe _ rfl rfl rfl (fun h33 => ?_) (fun h33 => ?_)
      · refine En_Ps 1 (pc' := 45) (lv' := [(0, .ref 159), (1, .int a), (2, .int y16), (3, .int y17)]) (st' := [.int y16]) rfl ?_
        exact En_ret (v := some (Value.int y16)) rfl rfl rfl ⟨h19, h20, y16, rfl, ⟨by first | exact q_c803b490ef h23 | omega, by first | exact q_96a57adcaf h24 | omega⟩⟩
      · refine En_Ps 4 (pc' := 20) (lv' := [(0, .ref 159), (1, .int a), (2, .int y16), (3, .int y17)]) (st' := [.ref 159, .int a, .ref 159, .int y16]) rfl ?_
        refine En_getU (j := 17) (u := 168) (g' := 44) (q := 0) rfl rfl rfl tgz_159 (by decide +kernel) h19 (by decide +kernel) un_44_168 (fun h34 => ?_)
        refine En_Ps 1 (pc' := 24) (lv' := [(0, .ref 159), (1, .int a), (2, .int y16), (3, .int y17)]) (st' := [.int y17, .ref 168, .int a, .ref 159, .int y16]) rfl ?_
        refine En_iald (l := (-2147483648)) (u := 2147483647) rfl rfl tgz_168 (by decide +kernel) h19 (by first | exact q_58e6e51dcc h25 | omega) (lnI (by decide +kernel : LN _ = 81) (by first | exact q_a0e855914a h33 h32 | omega)) (FTsgl (by decide +kernel)) (fun z37 h36 h38 h39 => ?_)
        refine En_callV rfl rfl rfl rfl rfl rfl rfl rfl tgz_159 (by decide +kernel) rfl (c_218 σ18 h19 a z37 (geI rfl (by first | exact q_58e6e51dcc hl_a | omega)) (leI rfl (by first | exact q_da5e9b976f hu_a | omega))) (by decide) (by decide) (fun v41 σ42 h40 => ?_)
        obtain ⟨h43, h44, z46, rfl, h45⟩ := h40
        have h47 := Fr_trans h20 h44 (by decide +kernel)
        refine En_iEq _ rfl rfl (fun h48 => ?_) (fun h48 => ?_)
        · refine En_Ps 2 (pc' := 37) (lv' := [(0, .ref 159), (1, .int a), (2, .int y16), (3, .int y17)]) (st' := [.int ((y16 + ((Int32.ofInt 0))))]) rfl ?_
          refine En_top (addI rfl (by decide : (Int32.ofInt 0).toInt = 0) (by first | exact q_2f569dfca1 h23 | omega) (by first | exact q_a21129f50f h24 | omega)) (fun z49 h50 => ?_)
          refine En_Ps 2 (pc' := 41) (lv' := [(3, .int ((y17 + Int32.ofInt 1))), (2, .int z49), (0, .ref 159), (1, .int a)]) (st' := []) rfl ?_
          refine En_lv1 (addI rfl (by decide : (Int32.ofInt 1).toInt = 1) (by first | exact q_465ab79ac1 h25 | omega) (by first | exact q_d778ff18c8 h26 | omega)) (fun z51 h52 => ?_)
          refine En_Ps 1 (pc' := 8) (lv' := [(3, .int z51), (2, .int z49), (0, .ref 159), (1, .int a)]) (st' := []) rfl ?_
          refine En_lv (lv := [(0, .ref 159), (1, .int a), (2, .int z49), (3, .int z51)]) ⟨rfl, rfl, rfl, rfl, trivial⟩ ?_
          exact ih8 σ42 z49 z51 h43 h47 ((h44 _ _ (inWa tgz_160 (by decide +kernel))).trans h21) ((h44 _ _ (inWa tgz_160 (by decide +kernel))).trans h22) (by first | exact q_771c4e5138 h50 h23 | omega) (by first | exact q_18b5268c76 h50 h24 | omega) (by first | exact q_35104ce9d3 h52 h25 | omega) (by first | exact q_798b104d48 h52 h33 h32 | omega) (by first | exact q_969c4fd5e6 h50 h52 h27 | omega) (by first | exact q_4ff790945b h52 h28 | omega)
        · refine En_Ps 3 (pc' := 37) (lv' := [(0, .ref 159), (1, .int a), (2, .int y16), (3, .int y17)]) (st' := [.int ((y16 + ((Int32.ofInt 1))))]) rfl ?_
          refine En_top (addI rfl (by decide : (Int32.ofInt 1).toInt = 1) (by first | exact q_465ab79ac1 h23 | omega) (by first | exact q_d778ff18c8 h24 | omega)) (fun z53 h54 => ?_)
          refine En_Ps 2 (pc' := 41) (lv' := [(3, .int ((y17 + Int32.ofInt 1))), (2, .int z53), (0, .ref 159), (1, .int a)]) (st' := []) rfl ?_
          refine En_lv1 (addI rfl (by decide : (Int32.ofInt 1).toInt = 1) (by first | exact q_465ab79ac1 h25 | omega) (by first | exact q_d778ff18c8 h26 | omega)) (fun z55 h56 => ?_)
          refine En_Ps 1 (pc' := 8) (lv' := [(3, .int z55), (2, .int z53), (0, .ref 159), (1, .int a)]) (st' := []) rfl ?_
          refine En_lv (lv := [(0, .ref 159), (1, .int a), (2, .int z53), (3, .int z55)]) ⟨rfl, rfl, rfl, rfl, trivial⟩ ?_
          exact ih8 σ42 z53 z55 h43 h47 ((h44 _ _ (inWa tgz_160 (by decide +kernel))).trans h21) ((h44 _ _ (inWa tgz_160 (by decide +kernel))).trans h22) (by first | exact q_35104ce9d3 h54 h23 | omega) (by first | exact q_d53ed2728c h54 h27 h33 h32 | omega) (by first | exact q_35104ce9d3 h56 h25 | omega) (by first | exact q_798b104d48 h56 h33 h32 | omega) (by first | exact q_1ff421e7a2 h54 h56 h27 | omega) (by first | exact q_4ff790945b h56 h28 | omega)
  have := (by decide : (Int32.ofInt 0).toInt = 0)
  have := (by decide : (Int32.ofInt 0).toInt = 0)
  refine En_lv (lv := [(0, .ref 159), (1, .int a), (2, .int ((Int32.ofInt 0))), (3, .int ((Int32.ofInt 0)))]) ⟨rfl, rfl, rfl, rfl, trivial⟩ ?_
  exact key8 (Int.toNat (81) + 1) σ11 ((Int32.ofInt 0)) ((Int32.ofInt 0)) h12 h15 ((h13 _ _ (inWa tgz_160 (by decide +kernel))).trans h1) ((h13 _ _ (inWa tgz_160 (by decide +kernel))).trans h5) (by decide) (by decide) (by decide) (by decide) (by (first | exact q_1bb76abeaf | omega)) (by first | exact toN_lt _ | omega)
/-- DoorSchoolModel.worstOf(II)I -/
abbrev P_332 (σ0 : SG) (a : Int32) (b : Int32) : PO := fun v σ => WT σ ∧ Fr [] σ0 σ ∧ ∃ ret : Int32, v = some (Value.int ret) ∧ -ret.toInt ≤ 0 ∧ ret.toInt - 81 ≤ 0
set_option maxRecDepth 10000 in
set_option maxHeartbeats 4000000 in
theorem c_332 (σ0 : SG) (hσ0 : WT σ0) (a : Int32) (b : Int32) (hl_a : 0 ≤ a.toInt) (hu_a : a.toInt ≤ 3) : En 2 45 none mr_332 (P_332 σ0 a b) 0 [(0, .ref 159), (1, .int a), (2, .int b)] [] σ0 := by
  have hF0 : Fr [] σ0 σ0 := Fr_rfl
  refine En_Ps 6 (pc' := 8) (lv' := [(5, .int ((Int32.ofInt 0))), (4, .int ((Int32.ofInt 0))), (3, .int ((Int32.ofInt 0))), (0, .ref 159), (1, .int a), (2, .int b)]) (st' := []) rfl ?_
  have key8 : ∀ (n8 : Nat) (σ4 : SG) (y1 : Int32) (y2 : Int32) (y3 : Int32), WT σ4 → Fr [] σ0 σ4 → 0 ≤ y1.toInt → y1.toInt ≤ 81 → 0 ≤ y2.toInt → y2.toInt ≤ 81 → 0 ≤ y3.toInt → y3.toInt ≤ 81 → y1.toInt - y3.toInt ≤ 0 → y2.toInt - y3.toInt ≤ 0 → -y3.toInt + 81 < (n8 : Int) → En 2 45 none mr_332 (P_332 σ0 a b) 8 [(0, .ref 159), (1, .int a), (2, .int b), (3, .int y1), (4, .int y2), (5, .int y3)] [] σ4 := by
    intro n8
    induction n8 with
    | zero =>
      intro σ4 y1 y2 y3 h5 h6 h7 h8 h9 h10 h11 h12 h13 h14 h15
      first | exact (q_ffef14d449 h15 h12).elim | (exfalso; omega)
    | succ n8 ih8 =>
      intro σ4 y1 y2 y3 h5 h6 h7 h8 h9 h10 h11 h12 h13 h14 h15
      refine En_Ps 2 (pc' := 11) (lv' := [(0, .ref 159), (1, .int a), (2, .int b), (3, .int y1), (4, .int y2), (5, .int y3)]) (st' := [.ref 159, .int y3]) rfl ?_
      refine En_getI (j := 18) (l := 0) (u := 81) rfl rfl rfl tgz_159 (by decide +kernel) h5 (by decide +kernel) (fun z17 h16 h18 h19 => ?_)
      refine En_icGe _ rfl rfl rfl (fun h20 => ?_) (fun h20 => ?_)
      · refine En_Ps 2 (pc' := 76) (lv' := [(0, .ref 159), (1, .int a), (2, .int b), (3, .int y1), (4, .int y2), (5, .int y3)]) (st' := [.int y2, .int y1]) rfl ?_
        refine En_callS rfl rfl rfl rfl rfl rfl rfl rfl rfl (c_10 σ4 h5 y1 y2) (by decide) (by decide) (fun v22 σ23 h21 => ?_)
        obtain ⟨h24, h25, z27, rfl, h26⟩ := h21
        have h28 := Fr_trans h6 h25 (by decide +kernel)
        exact En_ret (v := some (Value.int z27)) rfl rfl rfl ⟨h24, h28, z27, rfl, ⟨by first | exact q_78165d07a1 h26.1 h7 | omega, by (first | exact q_5fec60dc7e h26.2.2.2 h26.2.2.1 h8 h10 | omega)⟩⟩
      · refine En_Ps 3 (pc' := 20) (lv' := [(0, .ref 159), (1, .int a), (2, .int b), (3, .int y1), (4, .int y2), (5, .int y3)]) (st' := [.ref 159, .int a, .ref 159]) rfl ?_
        refine En_getU (j := 17) (u := 168) (g' := 44) (q := 0) rfl rfl rfl tgz_159 (by decide +kernel) h5 (by decide +kernel) un_44_168 (fun h29 => ?_)
        refine En_Ps 1 (pc' := 25) (lv' := [(0, .ref 159), (1, .int a), (2, .int b), (3, .int y1), (4, .int y2), (5, .int y3)]) (st' := [.int y3, .ref 168, .int a, .ref 159]) rfl ?_
        refine En_iald (l := (-2147483648)) (u := 2147483647) rfl rfl tgz_168 (by decide +kernel) h5 (by first | exact q_58e6e51dcc h11 | omega) (lnI (by decide +kernel : LN _ = 81) (by first | exact q_a0e855914a h20 h19 | omega)) (FTsgl (by decide +kernel)) (fun z32 h31 h33 h34 => ?_)
        refine En_callV rfl rfl rfl rfl rfl rfl rfl rfl tgz_159 (by decide +kernel) rfl (c_218 σ4 h5 a z32 (geI rfl (by first | exact q_58e6e51dcc hl_a | omega)) (leI rfl (by first | exact q_da5e9b976f hu_a | omega))) (by decide) (by decide) (fun v36 σ37 h35 => ?_)
        obtain ⟨h38, h39, z41, rfl, h40⟩ := h35
        have h42 := Fr_trans h6 h39 (by decide +kernel)
        refine En_iNe _ rfl rfl (fun h43 => ?_) (fun h43 => ?_)
        · refine En_Ps 2 (pc' := 37) (lv' := [(0, .ref 159), (1, .int a), (2, .int b), (3, .int y1), (4, .int y2), (5, .int y3)]) (st' := [.ref 159, .int y1]) rfl ?_
          refine En_getK (j := 17) ((h39 _ _ (inW tgz_159 (by decide +kernel))).trans h29) rfl rfl rfl tgz_159 (by decide +kernel) ?_
          refine En_Ps 1 (pc' := 42) (lv' := [(0, .ref 159), (1, .int a), (2, .int b), (3, .int y1), (4, .int y2), (5, .int y3)]) (st' := [.int y3, .ref 168, .int y1]) rfl ?_
          refine En_ialdK ((h39 _ _ (inWa tgz_168 (by decide +kernel))).trans h31) rfl rfl tgz_168 (by decide +kernel) h38 (by first | exact q_58e6e51dcc h11 | omega) (lnI (by decide +kernel : LN _ = 81) (by first | exact q_a0e855914a h20 h19 | omega)) ?_
          refine En_Ps 1 (pc' := 44) (lv' := [(0, .ref 159), (1, .int a), (2, .int b), (3, .int y1), (4, .int y2), (5, .int y3)]) (st' := [.int b, .int z32, .int y1]) rfl ?_
          refine En_callS rfl rfl rfl rfl rfl rfl rfl rfl rfl (c_202b σ37 h38 z32 b) (by decide) (by decide) (fun v46 σ47 h45 => ?_)
          obtain ⟨h48, h49, z51, rfl, h50⟩ := h45
          have h52 := Fr_trans h42 h49 (by decide +kernel)
          refine En_Ps 1 (pc' := 48) (lv' := [(0, .ref 159), (1, .int a), (2, .int b), (3, .int y1), (4, .int y2), (5, .int y3)]) (st' := [.int ((y1 + z51))]) rfl ?_
          refine En_top (addI rfl rfl (by first | exact q_eb9502dde8 h7 h50.1 | omega) (by first | exact q_16d54bf3c1 h8 h50.2 | omega)) (fun z53 h54 => ?_)
          refine En_Ps 4 (pc' := 53) (lv' := [(3, .int z53), (0, .ref 159), (1, .int a), (2, .int b), (4, .int y2), (5, .int y3)]) (st' := [.ref 159, .int ((Int32.ofInt 1)), .int y2]) rfl ?_
          refine En_getK (j := 17) ((h49 _ _ (inW tgz_159 (by decide +kernel))).trans ((h39 _ _ (inW tgz_159 (by decide +kernel))).trans h29)) rfl rfl rfl tgz_159 (by decide +kernel) ?_
          refine En_Ps 1 (pc' := 58) (lv' := [(3, .int z53), (0, .ref 159), (1, .int a), (2, .int b), (4, .int y2), (5, .int y3)]) (st' := [.int y3, .ref 168, .int ((Int32.ofInt 1)), .int y2]) rfl ?_
          refine En_ialdK ((h49 _ _ (inWa tgz_168 (by decide +kernel))).trans ((h39 _ _ (inWa tgz_168 (by decide +kernel))).trans h31)) rfl rfl tgz_168 (by decide +kernel) h48 (by first | exact q_58e6e51dcc h11 | omega) (lnI (by decide +kernel : LN _ = 81) (by first | exact q_a0e855914a h20 h19 | omega)) ?_
          refine En_Ps 1 (pc' := 60) (lv' := [(3, .int z53), (0, .ref 159), (1, .int a), (2, .int b), (4, .int y2), (5, .int y3)]) (st' := [.int b, .int z32, .int ((Int32.ofInt 1)), .int y2]) rfl ?_
          refine En_callS rfl rfl rfl rfl rfl rfl rfl rfl rfl (c_202b σ47 h48 z32 b) (by decide) (by decide) (fun v57 σ58 h56 => ?_)
          obtain ⟨h59, h60, z62, rfl, h61⟩ := h56
          have h63 := Fr_trans h52 h60 (by decide +kernel)
          refine En_Ps 1 (pc' := 64) (lv' := [(3, .int z53), (0, .ref 159), (1, .int a), (2, .int b), (4, .int y2), (5, .int y3)]) (st' := [.int ((((Int32.ofInt 1)) - z62)), .int y2]) rfl ?_
          refine En_top (subI (by decide : (Int32.ofInt 1).toInt = 1) rfl (by first | exact q_fb40ab176c h61.2 | omega) (by first | exact q_76898f0bce h61.1 | omega)) (fun z64 h65 => ?_)
          refine En_Ps 1 (pc' := 65) (lv' := [(3, .int z53), (0, .ref 159), (1, .int a), (2, .int b), (4, .int y2), (5, .int y3)]) (st' := [.int ((y2 + z64))]) rfl ?_
          refine En_top (addI rfl rfl (by first | exact q_cd2ec6c31a h9 h65 h61.2 | omega) (by first | exact q_a6e2bbed06 h14 h20 h65 h19 h61.1 | omega)) (fun z66 h67 => ?_)
          refine En_Ps 2 (pc' := 70) (lv' := [(5, .int ((y3 + Int32.ofInt 1))), (4, .int z66), (3, .int z53), (0, .ref 159), (1, .int a), (2, .int b)]) (st' := []) rfl ?_
          refine En_lv1 (addI rfl (by decide : (Int32.ofInt 1).toInt = 1) (by first | exact q_465ab79ac1 h11 | omega) (by first | exact q_d778ff18c8 h12 | omega)) (fun z68 h69 => ?_)
          refine En_Ps 1 (pc' := 8) (lv' := [(5, .int z68), (4, .int z66), (3, .int z53), (0, .ref 159), (1, .int a), (2, .int b)]) (st' := []) rfl ?_
          refine En_lv (lv := [(0, .ref 159), (1, .int a), (2, .int b), (3, .int z53), (4, .int z66), (5, .int z68)]) ⟨rfl, rfl, rfl, rfl, rfl, rfl, trivial⟩ ?_
          exact ih8 σ58 z53 z66 z68 h59 h63 (by first | exact q_dda4e24ae9 h54 h7 h50.1 | omega) (by first | exact q_760eda2494 h54 h13 h20 h50.2 h19 | omega) (by first | exact q_c802a74dda h67 h9 h65 h61.2 | omega) (by first | exact q_050160fc03 h67 h14 h20 h65 h19 h61.1 | omega) (by first | exact q_35104ce9d3 h69 h11 | omega) (by first | exact q_798b104d48 h69 h20 h19 | omega) (by first | exact q_2e103d99d1 h54 h69 h13 h50.2 | omega) (by first | exact q_f6af570735 h67 h69 h14 h65 h61.1 | omega) (by first | exact q_4ff790945b h69 h15 | omega)
        · refine En_Ps 2 (pc' := 70) (lv' := [(5, .int ((y3 + Int32.ofInt 1))), (0, .ref 159), (1, .int a), (2, .int b), (3, .int y1), (4, .int y2)]) (st' := []) rfl ?_
          refine En_lv1 (addI rfl (by decide : (Int32.ofInt 1).toInt = 1) (by first | exact q_465ab79ac1 h11 | omega) (by first | exact q_d778ff18c8 h12 | omega)) (fun z70 h71 => ?_)
          refine En_Ps 1 (pc' := 8) (lv' := [(5, .int z70), (0, .ref 159), (1, .int a), (2, .int b), (3, .int y1), (4, .int y2)]) (st' := []) rfl ?_
          refine En_lv (lv := [(0, .ref 159), (1, .int a), (2, .int b), (3, .int y1), (4, .int y2), (5, .int z70)]) ⟨rfl, rfl, rfl, rfl, rfl, rfl, trivial⟩ ?_
          exact ih8 σ37 y1 y2 z70 h38 h42 (by first | exact q_58e6e51dcc h7 | omega) (by first | exact q_938d18a0b8 h8 | omega) (by first | exact q_58e6e51dcc h9 | omega) (by first | exact q_938d18a0b8 h10 | omega) (by first | exact q_35104ce9d3 h71 h11 | omega) (by first | exact q_798b104d48 h71 h20 h19 | omega) (by first | exact q_3a5e225620 h13 h71 | omega) (by first | exact q_3a5e225620 h14 h71 | omega) (by first | exact q_4ff790945b h71 h15 | omega)
  have := (by decide : (Int32.ofInt 0).toInt = 0)
  have := (by decide : (Int32.ofInt 0).toInt = 0)
  have := (by decide : (Int32.ofInt 0).toInt = 0)
  refine En_lv (lv := [(0, .ref 159), (1, .int a), (2, .int b), (3, .int ((Int32.ofInt 0))), (4, .int ((Int32.ofInt 0))), (5, .int ((Int32.ofInt 0)))]) ⟨rfl, rfl, rfl, rfl, rfl, rfl, trivial⟩ ?_
  exact key8 (Int.toNat (81) + 1) σ0 ((Int32.ofInt 0)) ((Int32.ofInt 0)) ((Int32.ofInt 0)) hσ0 hF0 (by decide) (by decide) (by decide) (by decide) (by decide) (by decide) (by (first | exact q_1bb76abeaf | omega)) (by (first | exact q_1bb76abeaf | omega)) (by first | exact toN_lt _ | omega)
end
/-! 32.ly.m03 -/
section
/-- DoorSchoolModel.askOf(I)I -/
abbrev P_197 (σ0 : SG) (a : Int32) : PO := fun v σ => WT σ ∧ Fr [(35, 18), (42, 0), (43, 0), (44, 0)] σ0 σ ∧ ∃ ret : Int32, v = some (Value.int ret) ∧ -ret.toInt - 1 ≤ 0 ∧ ret.toInt - 15 ≤ 0
set_option maxRecDepth 10000 in
set_option maxHeartbeats 4000000 in
theorem c_197 (σ0 : SG) (hσ0 : WT σ0) (a : Int32) (hl_a : 0 ≤ a.toInt) (hu_a : a.toInt ≤ 3) : En 5 110 none mr_197 (P_197 σ0 a) 0 [(0, .ref 159), (1, .int a)] [] σ0 := by
  have hF0 : Fr [(35, 18), (42, 0), (43, 0), (44, 0)] σ0 σ0 := Fr_rfl
  refine En_Ps 2 (pc' := 2) (lv' := [(0, .ref 159), (1, .int a)]) (st' := [.int a, .ref 159]) rfl ?_
  refine En_callV rfl rfl rfl rfl rfl rfl rfl rfl tgz_159 (by decide +kernel) rfl (c_231 σ0 hσ0 a (geI rfl (by first | exact q_58e6e51dcc hl_a | omega)) (leI rfl (by first | exact q_da5e9b976f hu_a | omega))) (by decide) (by decide) (fun v2 σ3 h1 => ?_)
  obtain ⟨h4, h5, z7, rfl, h6⟩ := h1
  have h8 := Fr_trans hF0 h5 (by decide +kernel)
  refine En_Ps 5 (pc' := 11) (lv' := [(4, .int ((Int32.ofInt 0))), (3, .int ((Int32.ofInt (-1)))), (2, .int z7), (0, .ref 159), (1, .int a)]) (st' := []) rfl ?_
  have key11 : ∀ (n11 : Nat) (σ12 : SG) (y9 : Int32) (y10 : Int32) (y11 : Int32), WT σ12 → Fr [(35, 18), (42, 0), (43, 0), (44, 0)] σ0 σ12 → 0 ≤ y9.toInt → y9.toInt ≤ 81 → (-1) ≤ y10.toInt → y10.toInt ≤ 15 → 0 ≤ y11.toInt → y11.toInt ≤ 16 → y10.toInt - y11.toInt + 1 ≤ 0 → -y11.toInt + 16 < (n11 : Int) → En 5 110 none mr_197 (P_197 σ0 a) 11 [(0, .ref 159), (1, .int a), (2, .int y9), (3, .int y10), (4, .int y11)] [] σ12 := by
    intro n11
    induction n11 with
    | zero =>
      intro σ12 y9 y10 y11 h13 h14 h15 h16 h17 h18 h19 h20 h21 h22
      first | exact (q_511f6d33ac h22 h20).elim | (exfalso; omega)
    | succ n11 ih11 =>
      intro σ12 y9 y10 y11 h13 h14 h15 h16 h17 h18 h19 h20 h21 h22
      refine En_Ps 2 (pc' := 14) (lv' := [(0, .ref 159), (1, .int a), (2, .int y9), (3, .int y10), (4, .int y11)]) (st' := [.ref 159, .int y11]) rfl ?_
      obtain ⟨z24, h23, h25, h26⟩ := WT_peekI h13 tgz_160 (by decide +kernel : FT 36 (0 : Int).toNat = (0, 0, 4)) (by decide +kernel)
      obtain ⟨z28, h27, h29, h30⟩ := WT_peekI h13 tgz_160 (by decide +kernel : FT 36 (7 : Int).toNat = (0, 0, 1600)) (by decide +kernel)
      refine En_callV rfl rfl rfl rfl rfl rfl rfl rfl tgz_159 (by decide +kernel) rfl (c_269 σ12 h13 z24 h23 z28 h27) (by decide) (by decide) (fun v32 σ33 h31 => ?_)
      obtain ⟨h34, h35, z37, rfl, h36⟩ := h31
      have h38 := h36.2.2
      have h39 := Fr_trans h14 h35 (by decide +kernel)
      refine En_icGe _ rfl rfl rfl (fun h40 => ?_) (fun h40 => ?_)
      · refine En_Ps 1 (pc' := 51) (lv' := [(0, .ref 159), (1, .int a), (2, .int y9), (3, .int y10), (4, .int y11)]) (st' := [.int y10]) rfl ?_
        exact En_ret (v := some (Value.int y10)) rfl rfl rfl ⟨h34, h39, y10, rfl, ⟨by first | exact q_909eef6c0e h17 | omega, by first | exact q_867a9ac627 h18 | omega⟩⟩
      · refine En_Ps 3 (pc' := 24) (lv' := [(0, .ref 159), (1, .int a), (2, .int y9), (3, .int y10), (4, .int y11)]) (st' := [.int y11, .int a, .ref 159]) rfl ?_
        refine En_callV rfl rfl rfl rfl rfl rfl rfl rfl tgz_159 (by decide +kernel) rfl (c_332 σ33 h34 a y11 (geI rfl (by first | exact q_58e6e51dcc hl_a | omega)) (leI rfl (by first | exact q_da5e9b976f hu_a | omega))) (by decide) (by decide) (fun v42 σ43 h41 => ?_)
        obtain ⟨h44, h45, z47, rfl, h46⟩ := h41
        have h48 := Fr_trans h39 h45 (by decide +kernel)
        refine En_Ps 3 (pc' := 32) (lv' := [(5, .int z47), (0, .ref 159), (1, .int a), (2, .int y9), (3, .int y10), (4, .int y11)]) (st' := [.int y9, .int z47]) rfl ?_
        refine En_icLt _ rfl rfl rfl (fun h49 => ?_) (fun h49 => ?_)
        · refine En_Ps 5 (pc' := 47) (lv' := [(4, .int ((y11 + Int32.ofInt 1))), (3, .int y11), (2, .int z47), (5, .int z47), (0, .ref 159), (1, .int a)]) (st' := []) rfl ?_
          refine En_lv1 (addI rfl (by decide : (Int32.ofInt 1).toInt = 1) (by first | exact q_465ab79ac1 h19 | omega) (by first | exact q_f3f8e04381 h20 | omega)) (fun z50 h51 => ?_)
          refine En_Ps 1 (pc' := 11) (lv' := [(4, .int z50), (3, .int y11), (2, .int z47), (5, .int z47), (0, .ref 159), (1, .int a)]) (st' := []) rfl ?_
          refine En_lv (lv := [(0, .ref 159), (1, .int a), (2, .int z47), (3, .int y11), (4, .int z50)]) ⟨rfl, rfl, rfl, rfl, rfl, trivial⟩ ?_
          exact ih11 σ43 z47 y11 z50 h44 h48 (by first | exact q_ef1e8e38bf h46.1 | omega) (by first | exact q_e0af57759e h46.2 | omega) (by first | exact q_5b439548fc h19 | omega) (by first | exact q_c15b485600 h40 h36.2.1 | omega) (by first | exact q_35104ce9d3 h51 h19 | omega) (by first | exact q_34dc714687 h51 h40 h36.2.1 | omega) (by first | exact q_2fedec469a h51 | omega) (by first | exact q_c5d740bdff h51 h22 | omega)
        · refine En_Ps 2 (pc' := 47) (lv' := [(4, .int ((y11 + Int32.ofInt 1))), (5, .int z47), (0, .ref 159), (1, .int a), (2, .int y9), (3, .int y10)]) (st' := []) rfl ?_
          refine En_lv1 (addI rfl (by decide : (Int32.ofInt 1).toInt = 1) (by first | exact q_465ab79ac1 h19 | omega) (by first | exact q_f3f8e04381 h20 | omega)) (fun z52 h53 => ?_)
          refine En_Ps 1 (pc' := 11) (lv' := [(4, .int z52), (5, .int z47), (0, .ref 159), (1, .int a), (2, .int y9), (3, .int y10)]) (st' := []) rfl ?_
          refine En_lv (lv := [(0, .ref 159), (1, .int a), (2, .int y9), (3, .int y10), (4, .int z52)]) ⟨rfl, rfl, rfl, rfl, rfl, trivial⟩ ?_
          exact ih11 σ43 y9 y10 z52 h44 h48 (by first | exact q_58e6e51dcc h15 | omega) (by first | exact q_938d18a0b8 h16 | omega) (by first | exact q_77b189e83d h17 | omega) (by first | exact q_5a4d8a7e08 h18 | omega) (by first | exact q_35104ce9d3 h53 h19 | omega) (by first | exact q_34dc714687 h53 h40 h36.2.1 | omega) (by first | exact q_6591527e3e h21 h53 | omega) (by first | exact q_c5d740bdff h53 h22 | omega)
  have := (by decide : (Int32.ofInt (-1)).toInt = -1)
  have := (by decide : (Int32.ofInt 0).toInt = 0)
  refine En_lv (lv := [(0, .ref 159), (1, .int a), (2, .int z7), (3, .int ((Int32.ofInt (-1)))), (4, .int ((Int32.ofInt 0)))]) ⟨rfl, rfl, rfl, rfl, rfl, trivial⟩ ?_
  exact key11 (Int.toNat (16) + 1) σ3 z7 ((Int32.ofInt (-1))) ((Int32.ofInt 0)) h4 h8 (by first | exact q_ef1e8e38bf h6.1 | omega) (by first | exact q_e0af57759e h6.2 | omega) (by decide) (by decide) (by decide) (by decide) (by (first | exact q_2e3352c2b4 this (by decide) | omega)) (by first | exact toN_lt _ | omega)
/-- DoorSchoolModel.ask(I)I -/
abbrev P_196 (σ0 : SG) (a : Int32) : PO := fun v σ => WT σ ∧ Fr [(35, 18), (42, 0), (43, 0), (44, 0)] σ0 σ ∧ ∃ ret : Int32, v = some (Value.int ret) ∧ -ret.toInt - 6 ≤ 0 ∧ ret.toInt - 15 ≤ 0
set_option maxRecDepth 10000 in
set_option maxHeartbeats 4000000 in
theorem c_196 (σ0 : SG) (hσ0 : WT σ0) (a : Int32) : En 6 135 none mr_196 (P_196 σ0 a) 0 [(0, .ref 159), (1, .int a)] [] σ0 := by
  have hF0 : Fr [(35, 18), (42, 0), (43, 0), (44, 0)] σ0 σ0 := Fr_rfl
  refine En_Ps 3 (pc' := 3) (lv' := [(0, .ref 159), (1, .int a)]) (st' := [.int ((Int32.ofInt 1)), .int a, .ref 159]) rfl ?_
  have := (by decide : ((Int32.ofInt 1)).toInt = 1)
  refine En_callV rfl rfl rfl rfl rfl rfl rfl rfl tgz_159 (by decide +kernel) rfl (c_198 σ0 hσ0 a ((Int32.ofInt 1)) (geI (by decide : (Int32.ofInt 1).toInt = 1) (by decide)) (leI (by decide : (Int32.ofInt 1).toInt = 1) (by decide))) (by decide) (by decide) (fun v2 σ3 h1 => ?_)
  obtain ⟨h4, h5, z7, rfl, h6⟩ := h1
  have h8 := Fr_trans hF0 h5 (by decide +kernel)
  refine En_Ps 2 (pc' := 8) (lv' := [(2, .int z7), (0, .ref 159), (1, .int a)]) (st' := [.int z7]) rfl ?_
  refine En_iGe _ rfl rfl (fun h9 => ?_) (fun h9 => ?_)
  · refine En_Ps 2 (pc' := 17) (lv' := [(2, .int z7), (0, .ref 159), (1, .int a)]) (st' := [.int a, .ref 159]) rfl ?_
    refine En_callV rfl rfl rfl rfl rfl rfl rfl rfl tgz_159 (by decide +kernel) rfl (c_197 σ3 h4 a (geI rfl (by (first | exact q_b875be19a0 h6.2.2 h9 | omega))) (leI rfl (by (first | exact q_91631f135a h6.2.2 h9 | omega)))) (by decide) (by decide) (fun v11 σ12 h10 => ?_)
    obtain ⟨h13, h14, z16, rfl, h15⟩ := h10
    have h17 := Fr_trans h8 h14 (by decide +kernel)
    exact En_ret (v := some (Value.int z16)) rfl rfl rfl ⟨h13, h17, z16, rfl, ⟨by first | exact q_1d41d4b205 h15.1 | omega, by first | exact q_cc7dfeacf0 h15.2 | omega⟩⟩
  · refine En_Ps 2 (pc' := 20) (lv' := [(2, .int z7), (0, .ref 159), (1, .int a)]) (st' := [.int z7]) rfl ?_
    exact En_ret (v := some (Value.int z7)) rfl rfl rfl ⟨h4, h8, z7, rfl, ⟨by first | exact q_629d629181 h6.1 | omega, by first | exact q_ee93ba13c8 h9 | omega⟩⟩
/-- DoorSchoolModel.put(II)V -/
abbrev P_298 (σ0 : SG) (a : Int32) (b : Int32) : PO := fun v σ => WT σ ∧ Fr [(49, 0), (50, 0)] σ0 σ ∧ v = none ∧ PUTL σ0 σ a.toInt b.toInt (b.toInt + (tkN σ0 a.toInt.toNat : Int))
set_option maxRecDepth 10000 in
set_option maxHeartbeats 4000000 in
theorem c_298 (σ0 : SG) (hσ0 : WT σ0) (a : Int32) (b : Int32) (hl_a : 0 ≤ a.toInt) (hu_a : a.toInt ≤ 5) (hl_b : 0 ≤ b.toInt) (hu_b : b.toInt ≤ 111) (hB : HB σ0) : En 1 21 none mr_298 (P_298 σ0 a b) 0 [(0, .ref 159), (1, .int a), (2, .int b)] [] σ0 := by
  have hF0 : Fr [(49, 0), (50, 0)] σ0 σ0 := Fr_rfl
  refine En_Ps 1 (pc' := 1) (lv' := [(0, .ref 159), (1, .int a), (2, .int b)]) (st' := [.ref 159]) rfl ?_
  refine En_getU (j := 27) (u := 173) (g' := 49) (q := 0) rfl rfl rfl tgz_159 (by decide +kernel) hσ0 (by decide +kernel) un_49_173 (fun h1 => ?_)
  refine En_Ps 2 (pc' := 6) (lv' := [(0, .ref 159), (1, .int a), (2, .int b)]) (st' := [.int b, .int a, .ref 173]) rfl ?_
  refine En_iast (l := 0) (u := 111) rfl rfl tgz_173 (by decide +kernel) (by first | exact q_58e6e51dcc hl_a | omega) (lnI (by decide +kernel : LN _ = 6) (by first | exact q_f6226e27c9 hu_a | omega)) (FTsgl (by decide +kernel)) (rngI rfl (by first | exact q_58e6e51dcc hl_b | omega) (by first | exact q_927e0182ca hu_b | omega)) hσ0 hF0 (by decide +kernel) (fun σ3 h4 h5 h6 h7 => ?_)
  refine En_Ps 2 (pc' := 9) (lv' := [(3, .int b), (0, .ref 159), (1, .int a), (2, .int b)]) (st' := []) rfl ?_
  have key9 : ∀ (n9 : Nat) (σ9 : SG) (y8 : Int32), WT σ9 → Fr [(49, 0), (50, 0)] σ0 σ9 → (σ9 159)[27]? = some (Value.ref 173) → 0 ≤ y8.toInt → y8.toInt ≤ 127 → b.toInt - y8.toInt ≤ 0 → -y8.toInt + 127 < (n9 : Int) → PUTL σ0 σ9 a.toInt b.toInt y8.toInt → y8.toInt ≤ b.toInt + (tkN σ0 a.toInt.toNat : Int) → En 1 21 none mr_298 (P_298 σ0 a b) 9 [(0, .ref 159), (1, .int a), (2, .int b), (3, .int y8)] [] σ9 := by
    intro n9
    induction n9 with
    | zero =>
      intro σ9 y8 h10 h11 h12 h13 h14 h15 h16 h17 h18
      first | exact (q_aaec68a920 h16 h14).elim | (exfalso; omega)
    | succ n9 ih9 =>
      intro σ9 y8 h10 h11 h12 h13 h14 h15 h16 h17 h18
      refine En_Ps 4 (pc' := 13) (lv' := [(0, .ref 159), (1, .int a), (2, .int b), (3, .int y8)]) (st' := [.int a, .ref 159, .int b, .int y8]) rfl ?_
      refine En_callV rfl rfl rfl rfl rfl rfl rfl rfl tgz_159 (by decide +kernel) rfl (c_319 σ9 h10 a (geI rfl (by first | exact q_58e6e51dcc hl_a | omega)) (leI rfl (by first | exact q_d9092b5ca1 hu_a | omega))) (by decide) (by decide) (fun v20 σ21 h19 => ?_)
      obtain ⟨h22, h23, z25, rfl, h24⟩ := h19
      have h26 := h24.2.2
      obtain rfl : σ9 = σ21 := Fr_nil h23
      have h27 := tk_ci hσ0 hl_a hu_a
      have h28 := (SWd_fr h11 (by decide +kernel)) (154 + 2 * a.toInt)
      refine En_Ps 1 (pc' := 17) (lv' := [(0, .ref 159), (1, .int a), (2, .int b), (3, .int y8)]) (st' := [.int ((b + z25)), .int y8]) rfl ?_
      refine En_top (addI rfl rfl (by first | exact q_eb9502dde8 hl_b h24.1 | omega) (by first | exact q_59dac5040b hu_b h24.2.1 | omega)) (fun z29 h30 => ?_)
      refine En_icGe _ rfl rfl rfl (fun h31 => ?_) (fun h31 => ?_)
      · exact En_ret (v := none) rfl rfl rfl ⟨h10, h11, rfl, PUTL_x hσ0 h17 (by (first | exact q_c9c530f4d3 h31 h30 | omega)) (by (first | exact q_196e49b43d h26 h18 h28 h27.1 | omega)) (SWd_fr h11 (by decide +kernel)) h26 (by (first | exact q_58e6e51dcc hl_a | omega)) (by (first | exact q_d9092b5ca1 hu_a | omega))⟩
      · refine En_Ps 1 (pc' := 21) (lv' := [(0, .ref 159), (1, .int a), (2, .int b), (3, .int y8)]) (st' := [.ref 159]) rfl ?_
        refine En_getU (j := 28) (u := 174) (g' := 50) (q := 0) rfl rfl rfl tgz_159 (by decide +kernel) h10 (by decide +kernel) un_50_174 (fun h32 => ?_)
        refine En_Ps 2 (pc' := 26) (lv' := [(0, .ref 159), (1, .int a), (2, .int b), (3, .int y8)]) (st' := [.int y8, .ref 174, .int y8, .ref 174]) rfl ?_
        refine En_iald (l := (-2147483648)) (u := 2147483647) rfl rfl tgz_174 (by decide +kernel) h10 (by first | exact q_58e6e51dcc h13 | omega) (lnI (by decide +kernel : LN _ = 120) (by first | exact q_434f72d29c h30 h31 hu_b h24.2.1 | omega)) (FTsgl (by decide +kernel)) (fun z35 h34 h36 h37 => ?_)
        refine En_Ps 1 (pc' := 28) (lv' := [(0, .ref 159), (1, .int a), (2, .int b), (3, .int y8)]) (st' := [.int ((Int32.ofInt 1)), .int z35, .int y8, .ref 174]) rfl ?_
        have h38 := PUTL_b hB h17 h34 (by (first | exact q_58e6e51dcc h13 | omega)) (by (first | exact q_4f361b1b4d h31 h30 h24.2.1 hu_b | omega))
        refine En_Ps 1 (pc' := 29) (lv' := [(0, .ref 159), (1, .int a), (2, .int b), (3, .int y8)]) (st' := [.int ((z35 + ((Int32.ofInt 1)))), .int y8, .ref 174]) rfl ?_
        refine En_top (addI rfl (by decide : (Int32.ofInt 1).toInt = 1) (by first | exact q_b465f713f7 h36 | omega) (by (first | exact q_b843cb4b5f h38.2 | omega))) (fun z39 h40 => ?_)
        refine En_iast (l := (-2147483648)) (u := 2147483647) rfl rfl tgz_174 (by decide +kernel) (by first | exact q_58e6e51dcc h13 | omega) (lnI (by decide +kernel : LN _ = 120) (by first | exact q_434f72d29c h30 h31 hu_b h24.2.1 | omega)) (FTsgl (by decide +kernel)) (fullI _) h10 h11 (by decide +kernel) (fun σ41 h42 h43 h44 h45 => ?_)
        refine En_Ps 1 (pc' := 33) (lv' := [(3, .int ((y8 + Int32.ofInt 1))), (0, .ref 159), (1, .int a), (2, .int b)]) (st' := []) rfl ?_
        refine En_lv1 (addI rfl (by decide : (Int32.ofInt 1).toInt = 1) (by first | exact q_465ab79ac1 h13 | omega) (by first | exact q_6ee16b2e33 h14 | omega)) (fun z46 h47 => ?_)
        refine En_Ps 1 (pc' := 9) (lv' := [(3, .int z46), (0, .ref 159), (1, .int a), (2, .int b)]) (st' := []) rfl ?_
        refine En_lv (lv := [(0, .ref 159), (1, .int a), (2, .int b), (3, .int z46)]) ⟨rfl, rfl, rfl, rfl, trivial⟩ ?_
        exact ih9 σ41 z46 h42 h43 ((h45 _ _ (Or.inl (neTG tgz_159 tgz_174 (by decide)))).trans h12) (by first | exact q_35104ce9d3 h47 h13 | omega) (by first | exact q_16862d8bc0 h47 h30 h31 hu_b h24.2.1 | omega) (by first | exact q_3a5e225620 h15 h47 | omega) (by first | exact q_086be879e1 h47 h16 | omega) (PUTL_s h17 h34 h44 h45 (by (first | exact q_ba1b2c713b h40 | omega)) (by (first | exact q_58e6e51dcc hl_b | omega)) (by (first | exact q_2f9e8475ec h15 | omega)) (by (first | exact q_ba1b2c713b h47 | omega))) (by (first | exact q_f95303207f h47 h31 h30 h27.1 h26 h28 | omega))
  refine En_lv (lv := [(0, .ref 159), (1, .int a), (2, .int b), (3, .int b)]) ⟨rfl, rfl, rfl, rfl, trivial⟩ ?_
  exact key9 (Int.toNat (-b.toInt + 127) + 1) σ3 b h4 h5 ((h7 _ _ (Or.inl (neTG tgz_159 tgz_173 (by decide)))).trans h1) (by first | exact q_58e6e51dcc hl_b | omega) (by first | exact q_e7fd343b1e hu_b | omega) (by first | exact q_1bb76abeaf | omega) (by first | exact toN_lt _ | omega) (PUTL_0 h6 h7 (by (first | exact q_58e6e51dcc hl_a | omega)) rfl rfl) (by omega)
/-- DoorSchoolModel.isFree(III)Z -/
abbrev P_256 (σ0 : SG) (a : Int32) (b : Int32) (c : Int32) : PO := fun v σ => WT σ ∧ Fr [] σ0 σ ∧ ∃ ret : Int32, v = some (Value.int ret) ∧ -ret.toInt ≤ 0 ∧ ret.toInt - 1 ≤ 0 ∧ FREEs σ0 a.toInt b.toInt c.toInt ret.toInt
set_option maxRecDepth 10000 in
set_option maxHeartbeats 4000000 in
theorem c_256 (σ0 : SG) (hσ0 : WT σ0) (a : Int32) (b : Int32) (c : Int32) (hl_a : 0 ≤ a.toInt) (hu_a : a.toInt ≤ 111) (hl_b : 0 ≤ b.toInt) (hu_b : b.toInt ≤ 5) (hl_c : 0 ≤ c.toInt) (hu_c : c.toInt ≤ 5) : En 1 21 none mr_256 (P_256 σ0 a b c) 0 [(0, .ref 159), (1, .int a), (2, .int b), (3, .int c)] [] σ0 := by
  have hF0 : Fr [] σ0 σ0 := Fr_rfl
  refine En_Ps 2 (pc' := 3) (lv' := [(4, .int a), (0, .ref 159), (1, .int a), (2, .int b), (3, .int c)]) (st' := []) rfl ?_
  have key3 : ∀ (n3 : Nat) (y1 : Int32), 0 ≤ y1.toInt → y1.toInt ≤ 127 → a.toInt - y1.toInt ≤ 0 → -y1.toInt + 127 < (n3 : Int) → FRL σ0 a.toInt c.toInt y1.toInt → En 1 21 none mr_256 (P_256 σ0 a b c) 3 [(0, .ref 159), (1, .int a), (2, .int b), (3, .int c), (4, .int y1)] [] σ0 := by
    intro n3
    induction n3 with
    | zero =>
      intro y1 h5 h6 h7 h8 h9
      first | exact (q_aaec68a920 h8 h6).elim | (exfalso; omega)
    | succ n3 ih3 =>
      intro y1 h5 h6 h7 h8 h9
      refine En_Ps 4 (pc' := 8) (lv' := [(0, .ref 159), (1, .int a), (2, .int b), (3, .int c), (4, .int y1)]) (st' := [.int b, .ref 159, .int a, .int y1]) rfl ?_
      refine En_callV rfl rfl rfl rfl rfl rfl rfl rfl tgz_159 (by decide +kernel) rfl (c_319 σ0 hσ0 b (geI rfl (by first | exact q_58e6e51dcc hl_b | omega)) (leI rfl (by first | exact q_d9092b5ca1 hu_b | omega))) (by decide) (by decide) (fun v11 σ12 h10 => ?_)
      obtain ⟨h13, h14, z16, rfl, h15⟩ := h10
      have h17 := h15.2.2
      obtain rfl : σ0 = σ12 := Fr_nil h14
      refine En_Ps 1 (pc' := 12) (lv' := [(0, .ref 159), (1, .int a), (2, .int b), (3, .int c), (4, .int y1)]) (st' := [.int ((a + z16)), .int y1]) rfl ?_
      refine En_top (addI rfl rfl (by first | exact q_eb9502dde8 hl_a h15.1 | omega) (by first | exact q_59dac5040b hu_a h15.2.1 | omega)) (fun z18 h19 => ?_)
      refine En_icGe _ rfl rfl rfl (fun h20 => ?_) (fun h20 => ?_)
      · refine En_Ps 1 (pc' := 35) (lv' := [(0, .ref 159), (1, .int a), (2, .int b), (3, .int c), (4, .int y1)]) (st' := [.int ((Int32.ofInt 1))]) rfl ?_
        refine En_top (by decide : (Int32.ofInt 1).toInt = 1) (fun z21 h22 => ?_)
        exact En_ret (v := some (Value.int z21)) rfl rfl (retZ rfl rfl (by first | exact q_2b07c97645 h22 | omega) (by first | exact q_d9e7cbb253 h22 | omega)) ⟨hσ0, hF0, z21, rfl, ⟨by (first | exact q_ad3eee31ca h22 | omega), by (first | exact q_81cf297dc4 h22 | omega), FR_yes hσ0 h9 (by (first | exact q_58e6e51dcc hl_a | omega)) (by (first | exact q_c9c530f4d3 h20 h19 | omega)) h17 (by (first | exact q_58e6e51dcc hl_b | omega)) (by (first | exact q_d9092b5ca1 hu_b | omega)) (by (first | exact q_0bfa10f27c h22 | omega))⟩⟩
      · refine En_Ps 1 (pc' := 16) (lv' := [(0, .ref 159), (1, .int a), (2, .int b), (3, .int c), (4, .int y1)]) (st' := [.ref 159]) rfl ?_
        refine En_getU (j := 28) (u := 174) (g' := 50) (q := 0) rfl rfl rfl tgz_159 (by decide +kernel) hσ0 (by decide +kernel) un_50_174 (fun h23 => ?_)
        refine En_Ps 1 (pc' := 21) (lv' := [(0, .ref 159), (1, .int a), (2, .int b), (3, .int c), (4, .int y1)]) (st' := [.int y1, .ref 174]) rfl ?_
        refine En_iald (l := (-2147483648)) (u := 2147483647) rfl rfl tgz_174 (by decide +kernel) hσ0 (by first | exact q_58e6e51dcc h5 | omega) (lnI (by decide +kernel : LN _ = 120) (by first | exact q_434f72d29c h19 h20 hu_a h15.2.1 | omega)) (FTsgl (by decide +kernel)) (fun z26 h25 h27 h28 => ?_)
        refine En_Ps 1 (pc' := 23) (lv' := [(0, .ref 159), (1, .int a), (2, .int b), (3, .int c), (4, .int y1)]) (st' := [.int c, .int z26]) rfl ?_
        refine En_icLt _ rfl rfl rfl (fun h29 => ?_) (fun h29 => ?_)
        · refine En_Ps 1 (pc' := 31) (lv' := [(4, .int ((y1 + Int32.ofInt 1))), (0, .ref 159), (1, .int a), (2, .int b), (3, .int c)]) (st' := []) rfl ?_
          refine En_lv1 (addI rfl (by decide : (Int32.ofInt 1).toInt = 1) (by first | exact q_465ab79ac1 h5 | omega) (by first | exact q_6ee16b2e33 h6 | omega)) (fun z30 h31 => ?_)
          refine En_Ps 1 (pc' := 3) (lv' := [(4, .int z30), (0, .ref 159), (1, .int a), (2, .int b), (3, .int c)]) (st' := []) rfl ?_
          refine En_lv (lv := [(0, .ref 159), (1, .int a), (2, .int b), (3, .int c), (4, .int z30)]) ⟨rfl, rfl, rfl, rfl, rfl, trivial⟩ ?_
          exact ih3 z30 (by first | exact q_35104ce9d3 h31 h5 | omega) (by first | exact q_16862d8bc0 h31 h19 h20 hu_a h15.2.1 | omega) (by first | exact q_3a5e225620 h7 h31 | omega) (by first | exact q_086be879e1 h31 h8 | omega) (FRL_s h9 h25 (by (first | exact q_114b7bcb5b h29 | omega)) (by (first | exact q_58e6e51dcc h5 | omega)) (by (first | exact q_ba1b2c713b h31 | omega)))
        · refine En_Ps 1 (pc' := 27) (lv' := [(0, .ref 159), (1, .int a), (2, .int b), (3, .int c), (4, .int y1)]) (st' := [.int ((Int32.ofInt 0))]) rfl ?_
          refine En_top (by decide : (Int32.ofInt 0).toInt = 0) (fun z32 h33 => ?_)
          exact En_ret (v := some (Value.int z32)) rfl rfl (retZ rfl rfl (by first | exact q_55451d0a83 h33 | omega) (by first | exact q_87849c3859 h33 | omega)) ⟨hσ0, hF0, z32, rfl, ⟨by (first | exact q_097a37c2ae h33 | omega), by (first | exact q_e269517bee h33 | omega), FR_no hσ0 h25 (by (first | exact q_7b14c78c18 h29 | omega)) (by (first | exact q_58e6e51dcc hl_a | omega)) (by (first | exact q_2f9e8475ec h7 | omega)) (by (first | exact q_8c99a52932 h20 h19 | omega)) h17 (by (first | exact q_58e6e51dcc hl_b | omega)) (by (first | exact q_d9092b5ca1 hu_b | omega)) (by (first | exact q_d2dcd30e56 h33 | omega))⟩⟩
  refine En_lv (lv := [(0, .ref 159), (1, .int a), (2, .int b), (3, .int c), (4, .int a)]) ⟨rfl, rfl, rfl, rfl, rfl, trivial⟩ ?_
  exact key3 (Int.toNat (-a.toInt + 127) + 1) a (by first | exact q_58e6e51dcc hl_a | omega) (by first | exact q_e7fd343b1e hu_a | omega) (by first | exact q_1bb76abeaf | omega) (by first | exact toN_lt _ | omega) (FRL_0 rfl)
/-- DoorSchoolModel.overBy(III)I -/
abbrev P_293 (σ0 : SG) (a : Int32) (b : Int32) (c : Int32) : PO := fun v σ => WT σ ∧ Fr [(49, 0), (50, 0)] σ0 σ ∧ ∃ ret : Int32, v = some (Value.int ret) ∧ -ret.toInt ≤ 0 ∧ ret.toInt - 1000000 ≤ 0 ∧ OVERs σ0 a.toInt b.toInt c.toInt ret.toInt.toNat
set_option maxRecDepth 10000 in
set_option maxHeartbeats 4000000 in
theorem c_293 (σ0 : SG) (hσ0 : WT σ0) (a : Int32) (b : Int32) (c : Int32) (hl_a : 0 ≤ a.toInt) (hu_a : a.toInt ≤ 6) (hl_b : 0 ≤ b.toInt) (hl_c : 1 ≤ c.toInt) (hu_c : c.toInt ≤ 4) (hN : a.toInt ≤ ci σ0 160 5) : En 3 66 none mr_293 (P_293 σ0 a b c) 0 [(0, .ref 159), (1, .int a), (2, .int b), (3, .int c)] [] σ0 := by
  have hF0 : Fr [(49, 0), (50, 0)] σ0 σ0 := Fr_rfl
  refine En_Ps 2 (pc' := 3) (lv' := [(4, .int ((Int32.ofInt 0))), (0, .ref 159), (1, .int a), (2, .int b), (3, .int c)]) (st' := []) rfl ?_
  have key3 : ∀ (n3 : Nat) (σ2 : SG) (y1 : Int32), WT σ2 → Fr [(49, 0), (50, 0)] σ0 σ2 → 0 ≤ y1.toInt → y1.toInt ≤ 127 → -y1.toInt + 127 < (n3 : Int) → CLR σ2 y1.toInt → En 3 66 none mr_293 (P_293 σ0 a b c) 3 [(0, .ref 159), (1, .int a), (2, .int b), (3, .int c), (4, .int y1)] [] σ2 := by
    intro n3
    induction n3 with
    | zero =>
      intro σ2 y1 h3 h4 h5 h6 h7 h8
      first | exact (q_aaec68a920 h7 h6).elim | (exfalso; omega)
    | succ n3 ih3 =>
      intro σ2 y1 h3 h4 h5 h6 h7 h8
      refine En_Ps 2 (pc' := 6) (lv' := [(0, .ref 159), (1, .int a), (2, .int b), (3, .int c), (4, .int y1)]) (st' := [.ref 159, .int y1]) rfl ?_
      refine En_getU (j := 28) (u := 174) (g' := 50) (q := 0) rfl rfl rfl tgz_159 (by decide +kernel) h3 (by decide +kernel) un_50_174 (fun h9 => ?_)
      refine En_alenN (n := 120) rfl tgz_174 (by decide +kernel) (by decide +kernel) h3 ?_
      refine En_icGe _ rfl (by decide : (Int32.ofNat 120).toInt = 120) rfl (fun h11 => ?_) (fun h11 => ?_)
      · refine En_Ps 6 (pc' := 36) (lv' := [(6, .int ((Int32.ofInt 0))), (5, .int ((Int32.ofInt 0))), (4, .int ((Int32.ofInt 0))), (0, .ref 159), (1, .int a), (2, .int b), (3, .int c)]) (st' := []) rfl ?_
        have key36 : ∀ (n36 : Nat) (σ17 : SG) (y12 : Int32) (y13 : Int32) (y14 : Int32), WT σ17 → Fr [(49, 0), (50, 0)] σ0 σ17 → (σ17 159)[28]? = some (Value.ref 174) → 0 ≤ y12.toInt → y12.toInt ≤ 63 → 0 ≤ y13.toInt → y13.toInt ≤ 120 → 0 ≤ y14.toInt → y14.toInt ≤ 6 → a.toInt - y14.toInt < (n36 : Int) → PREF σ0 σ17 a.toInt y14.toInt y12.toInt y13.toInt → En 3 66 none mr_293 (P_293 σ0 a b c) 36 [(0, .ref 159), (1, .int a), (2, .int b), (3, .int c), (4, .int y12), (5, .int y13), (6, .int y14)] [] σ17 := by
          intro n36
          induction n36 with
          | zero =>
            intro σ17 y12 y13 y14 h18 h19 h20 h21 h22 h23 h24 h25 h26 h27 h28
            have h29 := PREF_lin hσ0 h28
            exfalso; (first | exact q_cf13fb9252 h27 h29.2.1 | omega)
          | succ n36 ih36 =>
            intro σ17 y12 y13 y14 h18 h19 h20 h21 h22 h23 h24 h25 h26 h27 h28
            have h33 := PREF_lin hσ0 h28
            refine En_Ps 2 (pc' := 39) (lv' := [(0, .ref 159), (1, .int a), (2, .int b), (3, .int c), (4, .int y12), (5, .int y13), (6, .int y14)]) (st' := [.int a, .int y14]) rfl ?_
            refine En_icGe _ rfl rfl rfl (fun h34 => ?_) (fun h34 => ?_)
            · refine En_Ps 4 (pc' := 88) (lv' := [(6, .int b), (0, .ref 159), (1, .int a), (2, .int b), (3, .int c), (4, .int y12), (5, .int y13)]) (st' := [.ref 159, .int ((Int32.ofInt 1))]) rfl ?_
              refine En_getU (j := 1) (u := 160) (g' := 36) (q := 0) rfl rfl rfl tgz_159 (by decide +kernel) h18 (by decide +kernel) un_36_160 (fun h35 => ?_)
              refine En_Ps 1 (pc' := 92) (lv' := [(6, .int b), (0, .ref 159), (1, .int a), (2, .int b), (3, .int c), (4, .int y12), (5, .int y13)]) (st' := [.int ((Int32.ofInt 5)), .ref 160, .int ((Int32.ofInt 1))]) rfl ?_
              refine En_iald (l := 0) (u := 6) rfl (by decide : (Int32.ofInt 5).toInt = 5) tgz_160 (by decide +kernel) h18 (by decide) (lnI (by decide +kernel : LN _ = 226) (by decide)) (by decide +kernel) (fun z38 h37 h39 h40 => ?_)
              refine En_Ps 7 (pc' := 101) (lv' := [(6, .int b), (0, .ref 159), (1, .int a), (2, .int b), (3, .int c), (4, .int y12), (5, .int y13)]) (st' := [.int ((((Int32.ofInt 1) <<< (z38 &&& 31)) - (Int32.ofInt 1) &&& (y12 ^^^ (Int32.ofInt (-1)))))]) rfl ?_
              refine En_nam (fun z41 h42 => ?_)
              refine En_Ps 2 (pc' := 104) (lv' := [(7, .int z41), (6, .int b), (0, .ref 159), (1, .int a), (2, .int b), (3, .int c), (4, .int y12), (5, .int y13)]) (st' := [.ref 159]) rfl ?_
              refine En_getK (j := 1) h35 rfl rfl rfl tgz_159 (by decide +kernel) ?_
              refine En_Ps 1 (pc' := 108) (lv' := [(7, .int z41), (6, .int b), (0, .ref 159), (1, .int a), (2, .int b), (3, .int c), (4, .int y12), (5, .int y13)]) (st' := [.int ((Int32.ofInt 5)), .ref 160]) rfl ?_
              refine En_ialdK h37 rfl (by decide : (Int32.ofInt 5).toInt = 5) tgz_160 (by decide +kernel) h18 (by decide) (lnI (by decide +kernel : LN _ = 226) (by decide)) ?_
              refine En_Ps 2 (pc' := 111) (lv' := [(7, .int z41), (6, .int b), (0, .ref 159), (1, .int a), (2, .int b), (3, .int c), (4, .int y12), (5, .int y13)]) (st' := [.int ((z38 - a))]) rfl ?_
              refine En_top (subI rfl rfl (by first | exact q_7e8a97a116 hu_a h39 | omega) (by first | exact q_f60c02febd hl_a h40 | omega)) (fun z44 h45 => ?_)
              refine En_Ps 1 (pc' := 113) (lv' := [(8, .int z44), (7, .int z41), (6, .int b), (0, .ref 159), (1, .int a), (2, .int b), (3, .int c), (4, .int y12), (5, .int y13)]) (st' := []) rfl ?_
              have key113 : ∀ (n113 : Nat) (σ53 : SG) (y46 : Int32) (y47 : Int32) (y48 : Int32) (y49 : Int32) (y50 : Int32), WT σ53 → Fr [(49, 0), (50, 0)] σ0 σ53 → (σ53 159)[28]? = some (Value.ref 174) → (σ53 159)[1]? = some (Value.ref 160) → (σ53 160)[(5 : Int).toNat]? = some (Value.int z38) → 0 ≤ y46.toInt → y46.toInt ≤ 63 → 0 ≤ y47.toInt → y47.toInt ≤ 120 → 0 ≤ y48.toInt → (-6) ≤ y50.toInt → y50.toInt ≤ 6 → y50.toInt + 6 < (n113 : Int) → MAIN σ0 σ53 a.toInt b.toInt c.toInt y46.toInt y47.toInt y48.toInt y49.toInt y50.toInt → En 3 66 none mr_293 (P_293 σ0 a b c) 113 [(0, .ref 159), (1, .int a), (2, .int b), (3, .int c), (4, .int y46), (5, .int y47), (6, .int y48), (7, .int y49), (8, .int y50)] [] σ53 := by
                intro n113
                induction n113 with
                | zero =>
                  intro σ53 y46 y47 y48 y49 y50 h54 h55 h56 h57 h58 h59 h60 h61 h62 h63 h64 h65 h66 h67
                  have h68 := MAIN_lin h67
                  first | exact (q_e327fe2edc h64 h66).elim | (exfalso; omega)
                | succ n113 ih113 =>
                  intro σ53 y46 y47 y48 y49 y50 h54 h55 h56 h57 h58 h59 h60 h61 h62 h63 h64 h65 h66 h67
                  have h72 := MAIN_lin h67
                  refine En_Ps 1 (pc' := 115) (lv' := [(0, .ref 159), (1, .int a), (2, .int b), (3, .int c), (4, .int y46), (5, .int y47), (6, .int y48), (7, .int y49), (8, .int y50)]) (st' := [.int y50]) rfl ?_
                  refine En_iLe _ rfl rfl (fun h73 => ?_) (fun h73 => ?_)
                  · refine En_Ps 1 (pc' := 255) (lv' := [(0, .ref 159), (1, .int a), (2, .int b), (3, .int c), (4, .int y46), (5, .int y47), (6, .int y48), (7, .int y49), (8, .int y50)]) (st' := [.int y47]) rfl ?_
                    exact En_ret (v := some (Value.int y47)) rfl rfl rfl ⟨h54, h55, y47, rfl, ⟨by (first | exact q_c803b490ef h72.2.2.2.2.2.1 | omega), by (first | exact q_da8a8b64f3 h62 | omega), MAIN_end h67 (by (first | exact q_35a72a35ef h73 | omega)) rfl⟩⟩
                  · refine En_Ps 2 (pc' := 122) (lv' := [(0, .ref 159), (1, .int a), (2, .int b), (3, .int c), (4, .int y46), (5, .int y47), (6, .int y48), (7, .int y49), (8, .int y50)]) (st' := [.int y50, .int y48]) rfl ?_
                    refine En_irem (c := y50.toInt) rfl rfl rfl (by (first | exact q_58e6e51dcc h72.2.2.2.2.1 | omega)) (by (first | exact q_3b0c12c491 h73 | omega)) (fun z74 h75 => ?_)
                    have h76 := Int.emod_nonneg (y48.toInt) (by (first | exact q_b01ccff44a h73 | omega) : y50.toInt ≠ 0)
                    have h77 := Int.emod_lt_of_pos (y48.toInt) (by (first | exact q_3b0c12c491 h73 | omega) : 0 < y50.toInt)
                    refine En_Ps 3 (pc' := 129) (lv' := [(9, .int z74), (0, .ref 159), (1, .int a), (2, .int b), (3, .int c), (4, .int y46), (5, .int y47), (6, .int y48), (7, .int y49), (8, .int y50)]) (st' := [.int y50, .int y48]) rfl ?_
                    refine En_idiv (c := y50.toInt) rfl rfl rfl (by (first | exact q_58e6e51dcc h72.2.2.2.2.1 | omega)) (by (first | exact q_3b0c12c491 h73 | omega)) (fun z78 h79 => ?_)
                    have h80 := Int.ediv_nonneg (by (first | exact q_58e6e51dcc h72.2.2.2.2.1 | omega) : 0 ≤ y48.toInt) (by (first | exact q_2610f0532d h73 | omega) : 0 ≤ y50.toInt)
                    refine En_Ps 3 (pc' := 135) (lv' := [(10, .int a), (6, .int z78), (9, .int z74), (0, .ref 159), (1, .int a), (2, .int b), (3, .int c), (4, .int y46), (5, .int y47), (7, .int y49), (8, .int y50)]) (st' := []) rfl ?_
                    have key135 : ∀ (n135 : Nat) (y82 : Int32) (y83 : Int32), 0 ≤ y82.toInt → y82.toInt ≤ 5 → 0 ≤ y83.toInt → y83.toInt ≤ 5 → -y83.toInt + 5 < (n135 : Int) → SELs y49.toInt y82.toInt y83.toInt z74.toInt a.toInt y50.toInt → En 3 66 none mr_293 (P_293 σ0 a b c) 135 [(0, .ref 159), (1, .int a), (2, .int b), (3, .int c), (4, .int y46), (5, .int y47), (6, .int z78), (7, .int y49), (8, .int y50), (9, .int y82), (10, .int y83)] [] σ53 := by
                      intro n135
                      induction n135 with
                      | zero =>
                        intro y82 y83 h89 h90 h91 h92 h93 h94
                        have h95 := SEL_lin h94
                        first | exact (q_94ef5d5129 h93 h92).elim | (exfalso; omega)
                      | succ n135 ih135 =>
                        intro y82 y83 h89 h90 h91 h92 h93 h94
                        have h99 := SEL_lin h94
                        refine En_Ps 2 (pc' := 139) (lv' := [(0, .ref 159), (1, .int a), (2, .int b), (3, .int c), (4, .int y46), (5, .int y47), (6, .int z78), (7, .int y49), (8, .int y50), (9, .int y82), (10, .int y83)]) (st' := [.int y83, .int y49]) rfl ?_
                        refine En_callS rfl rfl rfl rfl rfl rfl rfl rfl rfl (c_202a σ53 h54 y49 y83 (geI rfl (by (first | exact q_58e6e51dcc h72.2.2.1 | omega))) (leI rfl (by (first | exact q_8bf848900a h72.2.2.2.1 | omega))) (geI rfl (by first | exact q_58e6e51dcc h91 | omega)) (leI rfl (by first | exact q_c4fbf921fa h92 | omega))) (by decide) (by decide) (fun v101 σ102 h100 => ?_)
                        obtain ⟨h103, h104, z106, rfl, h105⟩ := h100
                        have h107 := h105.2.2
                        obtain rfl : σ53 = σ102 := Fr_nil h104
                        refine En_iEq _ rfl rfl (fun h108 => ?_) (fun h108 => ?_)
                        · refine En_Ps 3 (pc' := 156) (lv' := [(0, .ref 159), (1, .int a), (2, .int b), (3, .int c), (4, .int y46), (5, .int y47), (6, .int z78), (7, .int y49), (8, .int y50), (9, .int y82), (10, .int y83)]) (st' := [.int y83, .int y49, .int y82]) rfl ?_
                          refine En_callS rfl rfl rfl rfl rfl rfl rfl rfl rfl (c_202a σ53 h54 y49 y83 (geI rfl (by (first | exact q_58e6e51dcc h72.2.2.1 | omega))) (leI rfl (by (first | exact q_8bf848900a h72.2.2.2.1 | omega))) (geI rfl (by first | exact q_58e6e51dcc h91 | omega)) (leI rfl (by first | exact q_c4fbf921fa h92 | omega))) (by decide) (by decide) (fun v110 σ111 h109 => ?_)
                          obtain ⟨h112, h113, z115, rfl, h114⟩ := h109
                          have h116 := h114.2.2
                          obtain rfl : σ53 = σ111 := Fr_nil h113
                          refine En_Ps 1 (pc' := 160) (lv' := [(0, .ref 159), (1, .int a), (2, .int b), (3, .int c), (4, .int y46), (5, .int y47), (6, .int z78), (7, .int y49), (8, .int y50), (9, .int y82), (10, .int y83)]) (st' := [.int ((y82 - z115))]) rfl ?_
                          refine En_top (subI rfl rfl (by first | exact q_6e34b1aaff h89 h114.2.1 | omega) (by first | exact q_ba42866db6 h90 h114.1 | omega)) (fun z117 h118 => ?_)
                          refine En_Ps 1 (pc' := 162) (lv' := [(9, .int z117), (0, .ref 159), (1, .int a), (2, .int b), (3, .int c), (4, .int y46), (5, .int y47), (6, .int z78), (7, .int y49), (8, .int y50), (10, .int y83)]) (st' := []) rfl ?_
                          have h119 := SEL_s h94 h107 h116 (by (first | exact q_1ea8a7fa0c h108 | omega)) (show z117.toInt = _ - _ by (first | exact q_43b125e70a h118 | omega)) (show y83.toInt + 1 = _ by (first | exact q_a758490361 | omega))
                          have h120 := SEL_lin h119
                          refine En_Ps 1 (pc' := 165) (lv' := [(10, .int ((y83 + Int32.ofInt 1))), (9, .int z117), (0, .ref 159), (1, .int a), (2, .int b), (3, .int c), (4, .int y46), (5, .int y47), (6, .int z78), (7, .int y49), (8, .int y50)]) (st' := []) rfl ?_
                          refine En_lv1 (addI rfl (by decide : (Int32.ofInt 1).toInt = 1) (by first | exact q_465ab79ac1 h91 | omega) (by first | exact q_aeda34609f h92 | omega)) (fun z121 h122 => ?_)
                          refine En_Ps 1 (pc' := 135) (lv' := [(10, .int z121), (9, .int z117), (0, .ref 159), (1, .int a), (2, .int b), (3, .int c), (4, .int y46), (5, .int y47), (6, .int z78), (7, .int y49), (8, .int y50)]) (st' := []) rfl ?_
                          refine En_lv (lv := [(0, .ref 159), (1, .int a), (2, .int b), (3, .int c), (4, .int y46), (5, .int y47), (6, .int z78), (7, .int y49), (8, .int y50), (9, .int z117), (10, .int z121)]) ⟨rfl, rfl, rfl, rfl, rfl, rfl, rfl, rfl, rfl, rfl, rfl, trivial⟩ ?_
                          exact ih135 z117 z121 (by (first | exact q_58e6e51dcc h120.1 | omega)) (by first | exact q_2089b5ea15 h118 h90 h114.1 | omega) (by first | exact q_35104ce9d3 h122 h91 | omega) (by (first | exact q_0b53f3230e h122 h120.2.2.1 | omega)) (by first | exact q_4f8c136792 h122 h93 | omega) (SEL_eq h119 (by (first | exact q_ba1b2c713b h122 | omega)))
                        · refine En_Ps 1 (pc' := 147) (lv' := [(0, .ref 159), (1, .int a), (2, .int b), (3, .int c), (4, .int y46), (5, .int y47), (6, .int z78), (7, .int y49), (8, .int y50), (9, .int y82), (10, .int y83)]) (st' := [.int y82]) rfl ?_
                          refine En_iLe _ rfl rfl (fun h123 => ?_) (fun h123 => ?_)
                          · refine En_Ps 7 (pc' := 177) (lv' := [(0, .ref 159), (1, .int a), (2, .int b), (3, .int c), (4, .int y46), (5, .int y47), (6, .int z78), (7, .int y49), (8, .int y50), (9, .int y82), (10, .int y83)]) (st' := [.int ((y49 &&& (((Int32.ofInt 1) <<< (y83 &&& 31)) ^^^ (Int32.ofInt (-1)))))]) rfl ?_
                            refine En_nam (fun z124 h125 => ?_)
                            refine En_Ps 4 (pc' := 184) (lv' := [(7, .int z124), (0, .ref 159), (1, .int a), (2, .int b), (3, .int c), (4, .int y46), (5, .int y47), (6, .int z78), (8, .int y50), (9, .int y82), (10, .int y83)]) (st' := [.int y46, .int y83, .ref 159]) rfl ?_
                            refine En_callV rfl rfl rfl rfl rfl rfl rfl rfl tgz_159 (by decide +kernel) rfl (c_190 σ53 h54 y83 y46 (geI rfl (by first | exact q_58e6e51dcc h91 | omega)) (leI rfl (by first | exact q_d9092b5ca1 h92 | omega)) (geI rfl (by first | exact q_58e6e51dcc h59 | omega)) (leI rfl (by first | exact q_8bf848900a h60 | omega))) (by decide) (by decide) (fun v127 σ128 h126 => ?_)
                            obtain ⟨h129, h130, z132, rfl, h131⟩ := h126
                            have h133 := h131.2.2
                            obtain rfl : σ53 = σ128 := Fr_nil h130
                            refine En_Ps 3 (pc' := 192) (lv' := [(11, .int z132), (7, .int z124), (0, .ref 159), (1, .int a), (2, .int b), (3, .int c), (4, .int y46), (5, .int y47), (6, .int z78), (8, .int y50), (9, .int y82), (10, .int y83)]) (st' := [.int ((Int32.ofInt (-1))), .int z132]) rfl ?_
                            refine En_icNe _ rfl (by decide : (Int32.ofInt (-1)).toInt = -1) rfl (fun h134 => ?_) (fun h134 => ?_)
                            · have key199 : ∀ (n199 : Nat) (y135 : Int32), 0 ≤ y135.toInt → y135.toInt ≤ 127 → y47.toInt - y135.toInt < (n199 : Int) → WAITs σ53 y83.toInt c.toInt z132.toInt y135.toInt y47.toInt → En 3 66 none mr_293 (P_293 σ0 a b c) 199 [(0, .ref 159), (1, .int a), (2, .int b), (3, .int c), (4, .int y46), (5, .int y47), (6, .int z78), (7, .int z124), (8, .int y50), (9, .int y82), (10, .int y83), (11, .int y135)] [] σ53 := by
                                intro n199
                                induction n199 with
                                | zero =>
                                  intro y135 h141 h142 h143 h144
                                  have h145 := WAIT_lin h144
                                  exfalso; (first | exact q_cf13fb9252 h143 h145.2.2 | omega)
                                | succ n199 ih199 =>
                                  intro y135 h141 h142 h143 h144
                                  have h149 := WAIT_lin h144
                                  refine En_Ps 4 (pc' := 205) (lv' := [(0, .ref 159), (1, .int a), (2, .int b), (3, .int c), (4, .int y46), (5, .int y47), (6, .int z78), (7, .int z124), (8, .int y50), (9, .int y82), (10, .int y83), (11, .int y135)]) (st' := [.int c, .int y83, .int y135, .ref 159]) rfl ?_
                                  refine En_callV rfl rfl rfl rfl rfl rfl rfl rfl tgz_159 (by decide +kernel) rfl (c_256 σ53 h54 y135 y83 c (geI rfl (by first | exact q_58e6e51dcc h141 | omega)) (leI rfl (by (first | exact q_a54c9a8411 h149.2.2 h72.2.2.2.2.2.2.1 h73 | omega))) (geI rfl (by first | exact q_58e6e51dcc h91 | omega)) (leI rfl (by first | exact q_d9092b5ca1 h92 | omega)) (geI rfl (by first | exact q_337a85e294 hl_c | omega)) (leI rfl (by first | exact q_a7436ddd7e hu_c | omega))) (by decide) (by decide) (fun v151 σ152 h150 => ?_)
                                  obtain ⟨h153, h154, z156, rfl, h155⟩ := h150
                                  have h157 := h155.2.2
                                  obtain rfl : σ53 = σ152 := Fr_nil h154
                                  refine En_iNe _ rfl rfl (fun h158 => ?_) (fun h158 => ?_)
                                  · refine En_Ps 3 (pc' := 222) (lv' := [(0, .ref 159), (1, .int a), (2, .int b), (3, .int c), (4, .int y46), (5, .int y47), (6, .int z78), (7, .int z124), (8, .int y50), (9, .int y82), (10, .int y83), (11, .int y135)]) (st' := [.int y135, .int y83, .ref 159]) rfl ?_
                                    refine En_callV rfl rfl rfl rfl rfl rfl rfl rfl tgz_159 (by decide +kernel) rfl (c_298 σ53 h54 y83 y135 (geI rfl (by first | exact q_58e6e51dcc h91 | omega)) (leI rfl (by first | exact q_d9092b5ca1 h92 | omega)) (geI rfl (by first | exact q_58e6e51dcc h141 | omega)) (leI rfl (by (first | exact q_a54c9a8411 h149.2.2 h72.2.2.2.2.2.2.1 h73 | omega))) (MAIN_HB h67)) (by decide) (by decide) (fun v160 σ161 h159 => ?_)
                                    obtain ⟨h162, h163, rfl, h164⟩ := h159
                                    have h165 := h164
                                    have h166 := Fr_trans h55 h163 (by decide +kernel)
                                    refine En_Ps 5 (pc' := 232) (lv' := [(0, .ref 159), (1, .int a), (2, .int b), (3, .int c), (4, .int y46), (5, .int y47), (6, .int z78), (7, .int z124), (8, .int y50), (9, .int y82), (10, .int y83), (11, .int y135)]) (st' := [.int ((y46 ||| ((Int32.ofInt 1) <<< (y83 &&& 31))))]) rfl ?_
                                    refine En_nam (fun z167 h168 => ?_)
                                    have h169 := or_small h168 rfl rfl (by (first | exact q_58e6e51dcc h72.1 | omega)) (by (first | exact q_8bf848900a h72.2.1 | omega)) (by (first | exact q_58e6e51dcc h99.2.1 | omega)) (by (first | exact q_d9092b5ca1 h99.2.2.1 | omega))
                                    refine En_Ps 4 (pc' := 239) (lv' := [(4, .int z167), (0, .ref 159), (1, .int a), (2, .int b), (3, .int c), (5, .int y47), (6, .int z78), (7, .int z124), (8, .int y50), (9, .int y82), (10, .int y83), (11, .int y135)]) (st' := [.int y83, .ref 159, .int y47]) rfl ?_
                                    refine En_callV rfl rfl rfl rfl rfl rfl rfl rfl tgz_159 (by decide +kernel) rfl (c_294 σ161 h162 y83 (geI rfl (by first | exact q_58e6e51dcc h91 | omega)) (leI rfl (by first | exact q_d9092b5ca1 h92 | omega))) (by decide) (by decide) (fun v171 σ172 h170 => ?_)
                                    obtain ⟨h173, h174, z176, rfl, h175⟩ := h170
                                    have h177 := h175.2.2
                                    obtain rfl : σ161 = σ172 := Fr_nil h174
                                    refine En_callS rfl rfl rfl rfl rfl rfl rfl rfl rfl (c_10 σ161 h162 y47 z176) (by decide) (by decide) (fun v179 σ180 h178 => ?_)
                                    obtain ⟨h181, h182, z184, rfl, h183⟩ := h178
                                    obtain rfl : σ161 = σ180 := Fr_nil h182
                                    refine En_Ps 2 (pc' := 250) (lv' := [(8, .int ((y50 + Int32.ofInt (-1)))), (5, .int z184), (4, .int z167), (0, .ref 159), (1, .int a), (2, .int b), (3, .int c), (6, .int z78), (7, .int z124), (9, .int y82), (10, .int y83), (11, .int y135)]) (st' := []) rfl ?_
                                    refine En_lv1 (addI rfl (by decide : (Int32.ofInt (-1)).toInt = -1) (by first | exact q_6334a1f278 h73 | omega) (by first | exact q_8648629b60 h65 | omega)) (fun z185 h186 => ?_)
                                    refine En_Ps 1 (pc' := 113) (lv' := [(8, .int z185), (5, .int z184), (4, .int z167), (0, .ref 159), (1, .int a), (2, .int b), (3, .int c), (6, .int z78), (7, .int z124), (9, .int y82), (10, .int y83), (11, .int y135)]) (st' := []) rfl ?_
                                    refine En_lv (lv := [(0, .ref 159), (1, .int a), (2, .int b), (3, .int c), (4, .int z167), (5, .int z184), (6, .int z78), (7, .int z124), (8, .int z185)]) ⟨rfl, rfl, rfl, rfl, rfl, rfl, rfl, rfl, rfl, trivial⟩ ?_
                                    exact ih113 σ161 z167 z184 z78 z124 z185 h162 h166 ((h163 _ _ (inW tgz_159 (by decide +kernel))).trans h56) ((h163 _ _ (inW tgz_159 (by decide +kernel))).trans h57) ((h163 _ _ (inWa tgz_160 (by decide +kernel))).trans h58) (by (first | exact q_58e6e51dcc h169.2.1 | omega)) (by (first | exact q_8bf848900a h169.2.2 | omega)) (by first | exact q_f062bc8aa8 h183.1 h61 | omega) (by (first | exact q_00a4891a63 h183.2.2.2 h183.2.2.1 h62 h175.2.1 | omega)) (by omega) (by first | exact q_1cc20f3994 h186 h73 | omega) (by first | exact q_3ab6b389d6 h186 h65 | omega) (by first | exact q_3f755c6613 h186 h66 | omega) (MAIN_s hσ0 (SWd_fr h55 (by decide +kernel)) (SWd_fr h166 (by decide +kernel)) h67 (by (first | exact q_3b2ea2ae3d h73 | omega)) (by (first | exact q_41c8504a86 hl_c | omega)) h94 (by (first | exact q_35a72a35ef h123 | omega)) h107 (by (first | exact q_c82a63b4aa h108 h105.1 | omega)) h75 h79 h133 (by (first | exact q_b1ce702715 h149.1 | omega)) h144 h157 (by (first | exact q_c82a63b4aa h158 h155.1 | omega)) h165 (fun hb => andn_small h125 rfl rfl (by (first | exact q_58e6e51dcc h72.2.2.1 | omega)) (by (first | exact q_8bf848900a h72.2.2.2.1 | omega)) (by (first | exact q_58e6e51dcc h99.2.1 | omega)) (by (first | exact q_d9092b5ca1 h99.2.2.1 | omega)) hb) h169 h177 (by (first | exact q_2f9e8475ec h183.1 | omega)) (by (first | exact q_2f9e8475ec h183.2.1 | omega)) (by (first | exact q_0ff0506318 h183.2.2.2 h183.2.2.1 h183.1 h183.2.1 | omega)) (by (first | exact q_fb0fb1e27f h186 | omega)))
                                  · have h188 := WAIT_s hσ0 (SWd_fr h55 (by decide +kernel)) h67 (by (first | exact q_3b2ea2ae3d h73 | omega)) (by (first | exact q_41c8504a86 hl_c | omega)) h144 h157 (by (first | exact q_d2dcd30e56 h158 | omega)) (show y135.toInt + 1 = _ by (first | exact q_a758490361 | omega))
                                    have h189 := WAIT_lin h188
                                    refine En_Ps 1 (pc' := 214) (lv' := [(11, .int ((y135 + Int32.ofInt 1))), (0, .ref 159), (1, .int a), (2, .int b), (3, .int c), (4, .int y46), (5, .int y47), (6, .int z78), (7, .int z124), (8, .int y50), (9, .int y82), (10, .int y83)]) (st' := []) rfl ?_
                                    refine En_lv1 (addI rfl (by decide : (Int32.ofInt 1).toInt = 1) (by first | exact q_465ab79ac1 h141 | omega) (by first | exact q_6ee16b2e33 h142 | omega)) (fun z190 h191 => ?_)
                                    refine En_Ps 1 (pc' := 199) (lv' := [(11, .int z190), (0, .ref 159), (1, .int a), (2, .int b), (3, .int c), (4, .int y46), (5, .int y47), (6, .int z78), (7, .int z124), (8, .int y50), (9, .int y82), (10, .int y83)]) (st' := []) rfl ?_
                                    refine En_lv (lv := [(0, .ref 159), (1, .int a), (2, .int b), (3, .int c), (4, .int y46), (5, .int y47), (6, .int z78), (7, .int z124), (8, .int y50), (9, .int y82), (10, .int y83), (11, .int z190)]) ⟨rfl, rfl, rfl, rfl, rfl, rfl, rfl, rfl, rfl, rfl, rfl, rfl, trivial⟩ ?_
                                    exact ih199 z190 (by first | exact q_35104ce9d3 h191 h141 | omega) (by (first | exact q_6944ae8e89 h191 h189.2.2 h72.2.2.2.2.2.2.1 h73 | omega)) (by first | exact q_8d03a5a7cb h191 h143 | omega) (WAIT_eq h188 (by (first | exact q_ba1b2c713b h191 | omega)))
                              refine En_lv (lv := [(0, .ref 159), (1, .int a), (2, .int b), (3, .int c), (4, .int y46), (5, .int y47), (6, .int z78), (7, .int z124), (8, .int y50), (9, .int y82), (10, .int y83), (11, .int z132)]) ⟨rfl, rfl, rfl, rfl, rfl, rfl, rfl, rfl, rfl, rfl, rfl, rfl, trivial⟩ ?_
                              exact key199 (Int.toNat (y47.toInt - z132.toInt) + 1) z132 (by first | exact q_b1cade0df5 h134 h131.1 | omega) (by first | exact q_7e85c5d738 h131.2.1 | omega) (by first | exact toN_lt _ | omega) (WAIT_0 (SWd_fr h55 (by decide +kernel)) h67 (by (first | exact q_58e6e51dcc h99.2.1 | omega)) (by (first | exact q_d9092b5ca1 h99.2.2.1 | omega)) h133 (by (first | exact q_082e58d340 h134 h131.1 | omega)) rfl)
                            · refine En_Ps 1 (pc' := 198) (lv' := [(11, .int z132), (7, .int z124), (0, .ref 159), (1, .int a), (2, .int b), (3, .int c), (4, .int y46), (5, .int y47), (6, .int z78), (8, .int y50), (9, .int y82), (10, .int y83)]) (st' := [.int ((1000000 : Int32))]) rfl ?_
                              refine En_top (by decide : (1000000 : Int32).toInt = 1000000) (fun z192 h193 => ?_)
                              exact En_ret (v := some (Value.int z192)) rfl rfl rfl ⟨h54, h55, z192, rfl, ⟨by (first | exact q_e5c8e89f1d h193 | omega), by (first | exact q_9c93c4b26c h193 | omega), MAIN_far (SWd_fr h55 (by decide +kernel)) h67 (by (first | exact q_3b2ea2ae3d h73 | omega)) h94 (by (first | exact q_35a72a35ef h123 | omega)) h107 (by (first | exact q_c82a63b4aa h108 h105.1 | omega)) h75 h133 (by (first | exact q_b9e5c7e4b8 h134 | omega)) (by (first | exact q_7ccfc8a6d5 h193 | omega))⟩⟩
                          · refine En_Ps 3 (pc' := 156) (lv' := [(0, .ref 159), (1, .int a), (2, .int b), (3, .int c), (4, .int y46), (5, .int y47), (6, .int z78), (7, .int y49), (8, .int y50), (9, .int y82), (10, .int y83)]) (st' := [.int y83, .int y49, .int y82]) rfl ?_
                            refine En_callS rfl rfl rfl rfl rfl rfl rfl rfl rfl (c_202a σ53 h54 y49 y83 (geI rfl (by (first | exact q_58e6e51dcc h72.2.2.1 | omega))) (leI rfl (by (first | exact q_8bf848900a h72.2.2.2.1 | omega))) (geI rfl (by first | exact q_58e6e51dcc h91 | omega)) (leI rfl (by first | exact q_c4fbf921fa h92 | omega))) (by decide) (by decide) (fun v195 σ196 h194 => ?_)
                            obtain ⟨h197, h198, z200, rfl, h199⟩ := h194
                            have h201 := h199.2.2
                            obtain rfl : σ53 = σ196 := Fr_nil h198
                            refine En_Ps 1 (pc' := 160) (lv' := [(0, .ref 159), (1, .int a), (2, .int b), (3, .int c), (4, .int y46), (5, .int y47), (6, .int z78), (7, .int y49), (8, .int y50), (9, .int y82), (10, .int y83)]) (st' := [.int ((y82 - z200))]) rfl ?_
                            refine En_top (subI rfl rfl (by first | exact q_40505db8ac h123 h199.2.1 | omega) (by first | exact q_ba42866db6 h90 h199.1 | omega)) (fun z202 h203 => ?_)
                            refine En_Ps 1 (pc' := 162) (lv' := [(9, .int z202), (0, .ref 159), (1, .int a), (2, .int b), (3, .int c), (4, .int y46), (5, .int y47), (6, .int z78), (7, .int y49), (8, .int y50), (10, .int y83)]) (st' := []) rfl ?_
                            have h204 := SEL_s h94 h107 h201 (by (first | exact q_3ef2d450ba h123 | omega)) (show z202.toInt = _ - _ by (first | exact q_43b125e70a h203 | omega)) (show y83.toInt + 1 = _ by (first | exact q_a758490361 | omega))
                            have h205 := SEL_lin h204
                            refine En_Ps 1 (pc' := 165) (lv' := [(10, .int ((y83 + Int32.ofInt 1))), (9, .int z202), (0, .ref 159), (1, .int a), (2, .int b), (3, .int c), (4, .int y46), (5, .int y47), (6, .int z78), (7, .int y49), (8, .int y50)]) (st' := []) rfl ?_
                            refine En_lv1 (addI rfl (by decide : (Int32.ofInt 1).toInt = 1) (by first | exact q_465ab79ac1 h91 | omega) (by first | exact q_aeda34609f h92 | omega)) (fun z206 h207 => ?_)
                            refine En_Ps 1 (pc' := 135) (lv' := [(10, .int z206), (9, .int z202), (0, .ref 159), (1, .int a), (2, .int b), (3, .int c), (4, .int y46), (5, .int y47), (6, .int z78), (7, .int y49), (8, .int y50)]) (st' := []) rfl ?_
                            refine En_lv (lv := [(0, .ref 159), (1, .int a), (2, .int b), (3, .int c), (4, .int y46), (5, .int y47), (6, .int z78), (7, .int y49), (8, .int y50), (9, .int z202), (10, .int z206)]) ⟨rfl, rfl, rfl, rfl, rfl, rfl, rfl, rfl, rfl, rfl, rfl, trivial⟩ ?_
                            exact ih135 z202 z206 (by first | exact q_75a2bf1838 h203 h123 h199.2.1 | omega) (by first | exact q_2089b5ea15 h203 h90 h199.1 | omega) (by first | exact q_35104ce9d3 h207 h91 | omega) (by (first | exact q_0b53f3230e h207 h205.2.2.1 | omega)) (by first | exact q_4f8c136792 h207 h93 | omega) (SEL_eq h204 (by (first | exact q_ba1b2c713b h207 | omega)))
                    refine En_lv (lv := [(0, .ref 159), (1, .int a), (2, .int b), (3, .int c), (4, .int y46), (5, .int y47), (6, .int z78), (7, .int y49), (8, .int y50), (9, .int z74), (10, .int a)]) ⟨rfl, rfl, rfl, rfl, rfl, rfl, rfl, rfl, rfl, rfl, rfl, trivial⟩ ?_
                    exact key135 (Int.toNat (-a.toInt + 5) + 1) z74 a (by omega) (by omega) (by first | exact q_58e6e51dcc hl_a | omega) (by (first | exact q_8791e54926 h72.2.2.2.2.2.2.2.2.2 h73 | omega)) (by first | exact toN_lt _ | omega) (SEL_0 h67 rfl rfl (by omega) (by omega))
              refine En_lv (lv := [(0, .ref 159), (1, .int a), (2, .int b), (3, .int c), (4, .int y12), (5, .int y13), (6, .int b), (7, .int z41), (8, .int z44)]) ⟨rfl, rfl, rfl, rfl, rfl, rfl, rfl, rfl, rfl, trivial⟩ ?_
              exact key113 (Int.toNat (z44.toInt + 6) + 1) σ17 y12 y13 b z41 z44 h18 h19 h20 h35 h37 (by first | exact q_58e6e51dcc h21 | omega) (by first | exact q_8bf848900a h22 | omega) (by first | exact q_58e6e51dcc h23 | omega) (by first | exact q_9a800af02a h24 | omega) (by first | exact q_58e6e51dcc hl_b | omega) (by first | exact q_f54a842966 h45 hu_a h39 | omega) (by first | exact q_d03198a131 h45 hl_a h40 | omega) (by first | exact toN_lt _ | omega) (MAIN_0 hσ0 h28 (by (first | exact q_9ad3dc81d7 h34 h33.2.1 | omega)) h42 rfl (by have e1 := ci_at h37 (rfl : (5 : Int) = 5); have e2 := (SWd_fr h19 (by decide +kernel)) 5; (first | exact q_aeeede310e e2 e1 | omega)) hN rfl hl_b (by have e1 := ci_at h37 (rfl : (5 : Int) = 5); have e2 := (SWd_fr h19 (by decide +kernel)) 5; (first | exact q_727c6212c5 e2 e1 h45 | omega)))
            · refine En_Ps 3 (pc' := 46) (lv' := [(0, .ref 159), (1, .int a), (2, .int b), (3, .int c), (4, .int y12), (5, .int y13), (6, .int y14)]) (st' := [.ref 159, .int y14, .ref 159]) rfl ?_
              refine En_getU (j := 29) (u := 175) (g' := 51) (q := 0) rfl rfl rfl tgz_159 (by decide +kernel) h18 (by decide +kernel) un_51_175 (fun h208 => ?_)
              refine En_Ps 1 (pc' := 51) (lv' := [(0, .ref 159), (1, .int a), (2, .int b), (3, .int c), (4, .int y12), (5, .int y13), (6, .int y14)]) (st' := [.int y14, .ref 175, .int y14, .ref 159]) rfl ?_
              refine En_iald (l := 0) (u := 54) rfl rfl tgz_175 (by decide +kernel) h18 (by first | exact q_58e6e51dcc h25 | omega) (lnI (by decide +kernel : LN _ = 6) (by first | exact q_f252e21553 h34 hu_a | omega)) (FTsgl (by decide +kernel)) (fun z211 h210 h212 h213 => ?_)
              refine En_callV rfl rfl rfl rfl rfl rfl rfl rfl tgz_159 (by decide +kernel) rfl (c_298 σ17 h18 y14 z211 (geI rfl (by first | exact q_58e6e51dcc h25 | omega)) (leI rfl (by first | exact q_2c6b8d4bd3 h34 hu_a | omega)) (geI rfl (by first | exact q_58e6e51dcc h212 | omega)) (leI rfl (by first | exact q_4e4196c588 h213 | omega)) (PRE0_HB h28.1)) (by decide) (by decide) (fun v215 σ216 h214 => ?_)
              obtain ⟨h217, h218, rfl, h219⟩ := h214
              have h220 := h219
              have h221 := Fr_trans h19 h218 (by decide +kernel)
              refine En_Ps 5 (pc' := 62) (lv' := [(0, .ref 159), (1, .int a), (2, .int b), (3, .int c), (4, .int y12), (5, .int y13), (6, .int y14)]) (st' := [.int ((y12 ||| ((Int32.ofInt 1) <<< (y14 &&& 31))))]) rfl ?_
              refine En_nam (fun z222 h223 => ?_)
              have h224 := or_small h223 rfl rfl (by (first | exact q_58e6e51dcc h33.2.2.2.1 | omega)) (by (first | exact q_8bf848900a h33.2.2.2.2.1 | omega)) (by (first | exact q_58e6e51dcc h33.1 | omega)) (by (first | exact q_2c6b8d4bd3 h34 h33.2.2.1 | omega))
              refine En_Ps 4 (pc' := 69) (lv' := [(4, .int z222), (0, .ref 159), (1, .int a), (2, .int b), (3, .int c), (5, .int y13), (6, .int y14)]) (st' := [.int y14, .ref 159, .int y13]) rfl ?_
              refine En_callV rfl rfl rfl rfl rfl rfl rfl rfl tgz_159 (by decide +kernel) rfl (c_294 σ216 h217 y14 (geI rfl (by first | exact q_58e6e51dcc h25 | omega)) (leI rfl (by first | exact q_2c6b8d4bd3 h34 hu_a | omega))) (by decide) (by decide) (fun v226 σ227 h225 => ?_)
              obtain ⟨h228, h229, z231, rfl, h230⟩ := h225
              have h232 := h230.2.2
              obtain rfl : σ216 = σ227 := Fr_nil h229
              refine En_callS rfl rfl rfl rfl rfl rfl rfl rfl rfl (c_10 σ216 h217 y13 z231) (by decide) (by decide) (fun v234 σ235 h233 => ?_)
              obtain ⟨h236, h237, z239, rfl, h238⟩ := h233
              obtain rfl : σ216 = σ235 := Fr_nil h237
              refine En_Ps 2 (pc' := 80) (lv' := [(6, .int ((y14 + Int32.ofInt 1))), (5, .int z239), (4, .int z222), (0, .ref 159), (1, .int a), (2, .int b), (3, .int c)]) (st' := []) rfl ?_
              refine En_lv1 (addI rfl (by decide : (Int32.ofInt 1).toInt = 1) (by first | exact q_465ab79ac1 h25 | omega) (by first | exact q_9a865ca0e4 h26 | omega)) (fun z240 h241 => ?_)
              refine En_Ps 1 (pc' := 36) (lv' := [(6, .int z240), (5, .int z239), (4, .int z222), (0, .ref 159), (1, .int a), (2, .int b), (3, .int c)]) (st' := []) rfl ?_
              refine En_lv (lv := [(0, .ref 159), (1, .int a), (2, .int b), (3, .int c), (4, .int z222), (5, .int z239), (6, .int z240)]) ⟨rfl, rfl, rfl, rfl, rfl, rfl, rfl, trivial⟩ ?_
              exact ih36 σ216 z222 z239 z240 h217 h221 ((h218 _ _ (inW tgz_159 (by decide +kernel))).trans h20) (by (first | exact q_58e6e51dcc h224.2.1 | omega)) (by (first | exact q_8bf848900a h224.2.2 | omega)) (by first | exact q_f062bc8aa8 h238.1 h23 | omega) (by (first | exact q_97dcfd47cf h238.2.2.2 h238.2.2.1 h33.2.2.2.2.2.2.1 h230.2.1 | omega)) (by first | exact q_35104ce9d3 h241 h25 | omega) (by first | exact q_c76cfd8d15 h241 h34 hu_a | omega) (by first | exact q_8d03a5a7cb h241 h27 | omega) (PREF_s hσ0 h28 (SWd_fr h19 (by decide +kernel)) (SXd_fr h19 (by decide +kernel)) (by (first | exact q_114b7bcb5b h34 | omega)) (ci_at h210 rfl).symm h220 (by (first | exact q_ba1b2c713b h241 | omega)) (by (first | exact q_b1495600e7 h224.1 | omega)) (SWd_fr h221 (by decide +kernel)) h232 (by (first | exact q_2f9e8475ec h238.1 | omega)) (by (first | exact q_2f9e8475ec h238.2.1 | omega)) (by (first | exact q_0ff0506318 h238.2.2.2 h238.2.2.1 h238.1 h238.2.1 | omega)))
        have := (by decide : (Int32.ofInt 0).toInt = 0)
        have := (by decide : (Int32.ofInt 0).toInt = 0)
        have := (by decide : (Int32.ofInt 0).toInt = 0)
        refine En_lv (lv := [(0, .ref 159), (1, .int a), (2, .int b), (3, .int c), (4, .int ((Int32.ofInt 0))), (5, .int ((Int32.ofInt 0))), (6, .int ((Int32.ofInt 0)))]) ⟨rfl, rfl, rfl, rfl, rfl, rfl, rfl, trivial⟩ ?_
        exact key36 (Int.toNat (a.toInt) + 1) σ2 ((Int32.ofInt 0)) ((Int32.ofInt 0)) ((Int32.ofInt 0)) h3 h4 h9 (by decide) (by decide) (by decide) (by decide) (by decide) (by decide) (by first | exact toN_lt _ | omega) (PREF_0 h8 (by (first | exact q_6864a7db2d h11 | omega)) hl_a hu_a (by decide) (by decide) (by decide))
      · refine En_Ps 1 (pc' := 14) (lv' := [(0, .ref 159), (1, .int a), (2, .int b), (3, .int c), (4, .int y1)]) (st' := [.ref 159]) rfl ?_
        refine En_getK (j := 28) h9 rfl rfl rfl tgz_159 (by decide +kernel) ?_
        refine En_Ps 2 (pc' := 20) (lv' := [(0, .ref 159), (1, .int a), (2, .int b), (3, .int c), (4, .int y1)]) (st' := [.int ((Int32.ofInt 0)), .int y1, .ref 174]) rfl ?_
        refine En_iast (l := (-2147483648)) (u := 2147483647) rfl rfl tgz_174 (by decide +kernel) (by first | exact q_58e6e51dcc h5 | omega) (lnI (by decide +kernel : LN _ = 120) (by first | exact q_a3140d0b4a h11 | omega)) (FTsgl (by decide +kernel)) (fullI _) h3 h4 (by decide +kernel) (fun σ242 h243 h244 h245 h246 => ?_)
        refine En_Ps 1 (pc' := 24) (lv' := [(4, .int ((y1 + Int32.ofInt 1))), (0, .ref 159), (1, .int a), (2, .int b), (3, .int c)]) (st' := []) rfl ?_
        refine En_lv1 (addI rfl (by decide : (Int32.ofInt 1).toInt = 1) (by first | exact q_465ab79ac1 h5 | omega) (by first | exact q_68a4db60cc h11 | omega)) (fun z247 h248 => ?_)
        refine En_Ps 1 (pc' := 3) (lv' := [(4, .int z247), (0, .ref 159), (1, .int a), (2, .int b), (3, .int c)]) (st' := []) rfl ?_
        refine En_lv (lv := [(0, .ref 159), (1, .int a), (2, .int b), (3, .int c), (4, .int z247)]) ⟨rfl, rfl, rfl, rfl, rfl, trivial⟩ ?_
        exact ih3 σ242 z247 h243 h244 (by first | exact q_35104ce9d3 h248 h5 | omega) (by first | exact q_82af9d7fcb h248 h11 | omega) (by first | exact q_086be879e1 h248 h7 | omega) (CLR_s h8 h245 h246 (by decide) (by (first | exact q_58e6e51dcc h5 | omega)) (by (first | exact q_ba1b2c713b h248 | omega)))
  have := (by decide : (Int32.ofInt 0).toInt = 0)
  refine En_lv (lv := [(0, .ref 159), (1, .int a), (2, .int b), (3, .int c), (4, .int ((Int32.ofInt 0)))]) ⟨rfl, rfl, rfl, rfl, rfl, trivial⟩ ?_
  exact key3 (Int.toNat (127) + 1) σ0 ((Int32.ofInt 0)) hσ0 hF0 (by decide) (by decide) (by first | exact toN_lt _ | omega) (CLR_0 (by decide))
/-- DoorSchoolModel.leastHours(II)I -/
abbrev P_277 (σ0 : SG) (a : Int32) (b : Int32) : PO := fun v σ => WT σ ∧ Fr [(49, 0), (50, 0)] σ0 σ ∧ ∃ ret : Int32, v = some (Value.int ret) ∧ -ret.toInt ≤ 0 ∧ ret.toInt - 1000000 ≤ 0 ∧ LEASTs σ0 a.toInt b.toInt ret.toInt.toNat
set_option maxRecDepth 10000 in
set_option maxHeartbeats 4000000 in
theorem c_277 (σ0 : SG) (hσ0 : WT σ0) (a : Int32) (b : Int32) (hl_a : 0 ≤ a.toInt) (hu_a : a.toInt ≤ 6) (hl_b : 1 ≤ b.toInt) (hu_b : b.toInt ≤ 4) (hN : a.toInt ≤ ci σ0 160 5) : En 4 97 none mr_277 (P_277 σ0 a b) 0 [(0, .ref 159), (1, .int a), (2, .int b)] [] σ0 := by
  have hF0 : Fr [(49, 0), (50, 0)] σ0 σ0 := Fr_rfl
  refine En_Ps 4 (pc' := 5) (lv' := [(4, .int ((Int32.ofInt 2))), (3, .int ((Int32.ofInt 1))), (0, .ref 159), (1, .int a), (2, .int b)]) (st' := []) rfl ?_
  have key5 : ∀ (n5 : Nat) (y1 : Int32) (y2 : Int32), 2 ≤ y2.toInt → y2.toInt ≤ 7 → 8 - y2.toInt < (n5 : Int) → ORDs y1.toInt y2.toInt (ci σ0 160 5 - a.toInt) → En 4 97 none mr_277 (P_277 σ0 a b) 5 [(0, .ref 159), (1, .int a), (2, .int b), (3, .int y1), (4, .int y2)] [] σ0 := by
    intro n5
    induction n5 with
    | zero =>
      intro y1 y2 h8 h9 h10 h11
      exfalso; have := ORD_lin h11; (first | exact q_02d60d0460 this.2.1 h10 | omega)
    | succ n5 ih5 =>
      intro y1 y2 h8 h9 h10 h11
      have h14 := ORD_lin h11
      refine En_Ps 2 (pc' := 8) (lv' := [(0, .ref 159), (1, .int a), (2, .int b), (3, .int y1), (4, .int y2)]) (st' := [.ref 159, .int y2]) rfl ?_
      refine En_getU (j := 1) (u := 160) (g' := 36) (q := 0) rfl rfl rfl tgz_159 (by decide +kernel) hσ0 (by decide +kernel) un_36_160 (fun h15 => ?_)
      refine En_Ps 1 (pc' := 12) (lv' := [(0, .ref 159), (1, .int a), (2, .int b), (3, .int y1), (4, .int y2)]) (st' := [.int ((Int32.ofInt 5)), .ref 160, .int y2]) rfl ?_
      refine En_iald (l := 0) (u := 6) rfl (by decide : (Int32.ofInt 5).toInt = 5) tgz_160 (by decide +kernel) hσ0 (by decide) (lnI (by decide +kernel : LN _ = 226) (by decide)) (by decide +kernel) (fun z18 h17 h19 h20 => ?_)
      have h21 := ci_at h17 (rfl : (5 : Int) = 5)
      refine En_Ps 2 (pc' := 15) (lv' := [(0, .ref 159), (1, .int a), (2, .int b), (3, .int y1), (4, .int y2)]) (st' := [.int ((z18 - a)), .int y2]) rfl ?_
      refine En_top (subI rfl rfl (by first | exact q_7e8a97a116 hu_a h19 | omega) (by first | exact q_f60c02febd hl_a h20 | omega)) (fun z22 h23 => ?_)
      refine En_icGt _ rfl rfl rfl (fun h24 => ?_) (fun h24 => ?_)
      · have h25 := ORD_x h11 (by (first | exact q_858e2805c2 h24 h23 h21 | omega)) (by (first | exact q_d62cf41ae3 hN | omega))
        refine En_Ps 4 (pc' := 37) (lv' := [(5, .int ((Int32.ofInt 0))), (4, .int ((1000000 : Int32))), (0, .ref 159), (1, .int a), (2, .int b), (3, .int y1)]) (st' := []) rfl ?_
        have key37 : ∀ (n37 : Nat) (σ30 : SG) (y26 : Int32) (y27 : Int32), WT σ30 → Fr [(49, 0), (50, 0)] σ0 σ30 → (σ30 159)[1]? = some (Value.ref 160) → (σ30 160)[(5 : Int).toNat]? = some (Value.int z18) → 0 ≤ y26.toInt → y26.toInt ≤ 1000000 → 0 ≤ y27.toInt → y1.toInt - y27.toInt < (n37 : Int) → LSTL σ0 a.toInt b.toInt y26.toInt y27.toInt → y27.toInt ≤ y1.toInt → En 4 97 none mr_277 (P_277 σ0 a b) 37 [(0, .ref 159), (1, .int a), (2, .int b), (3, .int y1), (4, .int y26), (5, .int y27)] [] σ30 := by
          intro n37
          induction n37 with
          | zero =>
            intro σ30 y26 y27 h31 h32 h33 h34 h35 h36 h37 h38 h39 h40
            have h41 := LST_lin h39
            exfalso; (first | exact q_cf13fb9252 h38 h40 | omega)
          | succ n37 ih37 =>
            intro σ30 y26 y27 h31 h32 h33 h34 h35 h36 h37 h38 h39 h40
            have h45 := LST_lin h39
            refine En_Ps 2 (pc' := 40) (lv' := [(0, .ref 159), (1, .int a), (2, .int b), (3, .int y1), (4, .int y26), (5, .int y27)]) (st' := [.int y1, .int y27]) rfl ?_
            refine En_icGe _ rfl rfl rfl (fun h46 => ?_) (fun h46 => ?_)
            · refine En_Ps 1 (pc' := 66) (lv' := [(0, .ref 159), (1, .int a), (2, .int b), (3, .int y1), (4, .int y26), (5, .int y27)]) (st' := [.int y26]) rfl ?_
              exact En_ret (v := some (Value.int y26)) rfl rfl rfl ⟨h31, h32, y26, rfl, ⟨by (first | exact q_c803b490ef h45.1 | omega), by (first | exact q_b319b3558a h45.2.1 | omega), LST_x h39 h25 (by (first | exact q_7b14c78c18 h46 | omega)) hl_a hN (by (first | exact q_7b14c78c18 h40 | omega))⟩⟩
            · refine En_Ps 5 (pc' := 50) (lv' := [(0, .ref 159), (1, .int a), (2, .int b), (3, .int y1), (4, .int y26), (5, .int y27)]) (st' := [.int b, .int y27, .int a, .ref 159, .int y26]) rfl ?_
              refine En_callV rfl rfl rfl rfl rfl rfl rfl rfl tgz_159 (by decide +kernel) rfl (c_293 σ30 h31 a y27 b (geI rfl (by first | exact q_58e6e51dcc hl_a | omega)) (leI rfl (by first | exact q_615333d33f hu_a | omega)) (geI rfl (by first | exact q_58e6e51dcc h37 | omega)) (geI rfl (by first | exact q_41c8504a86 hl_b | omega)) (leI rfl (by first | exact q_c82ed93a8c hu_b | omega)) (by have e1 := (SWd_fr h32 (by decide +kernel)) 5; (first | exact q_fd5cb5d98b e1 hN | omega))) (by decide) (by decide) (fun v48 σ49 h47 => ?_)
              obtain ⟨h50, h51, z53, rfl, h52⟩ := h47
              have h54 := h52.2.2
              have h55 := Fr_trans h32 h51 (by decide +kernel)
              refine En_callS rfl rfl rfl rfl rfl rfl rfl rfl rfl (c_11 σ49 h50 y26 z53) (by decide) (by decide) (fun v57 σ58 h56 => ?_)
              obtain ⟨h59, h60, z62, rfl, h61⟩ := h56
              obtain rfl : σ49 = σ58 := Fr_nil h60
              refine En_Ps 2 (pc' := 61) (lv' := [(5, .int ((y27 + Int32.ofInt 1))), (4, .int z62), (0, .ref 159), (1, .int a), (2, .int b), (3, .int y1)]) (st' := []) rfl ?_
              refine En_lv1 (addI rfl (by decide : (Int32.ofInt 1).toInt = 1) (by first | exact q_465ab79ac1 h37 | omega) (by (first | exact q_60acc90230 h46 h14.2.2.2 | omega))) (fun z63 h64 => ?_)
              refine En_Ps 1 (pc' := 37) (lv' := [(5, .int z63), (4, .int z62), (0, .ref 159), (1, .int a), (2, .int b), (3, .int y1)]) (st' := []) rfl ?_
              refine En_lv (lv := [(0, .ref 159), (1, .int a), (2, .int b), (3, .int y1), (4, .int z62), (5, .int z63)]) ⟨rfl, rfl, rfl, rfl, rfl, rfl, trivial⟩ ?_
              exact ih37 σ49 z62 z63 h50 h55 ((h51 _ _ (inW tgz_159 (by decide +kernel))).trans h33) ((h51 _ _ (inWa tgz_160 (by decide +kernel))).trans h34) (by (first | exact q_ac6267e050 h61.2.2.2 h61.2.2.1 h52.1 h45.1 | omega)) (by first | exact q_a83191ed3e h61.1 h36 | omega) (by first | exact q_35104ce9d3 h64 h37 | omega) (by first | exact q_8d03a5a7cb h64 h38 | omega) (LST_s (SWd_fr h32 (by decide +kernel)) (SXd_fr h32 (by decide +kernel)) h39 h54 (by (first | exact q_ef1e8e38bf h52.1 | omega)) (by (first | exact q_c5738be602 h61.1 | omega)) (by (first | exact q_c5738be602 h61.2.1 | omega)) (by (first | exact q_144f4cdeb2 h61.2.2.2 h61.2.2.1 h61.2.1 h61.1 | omega)) (by (first | exact q_ba1b2c713b h64 | omega))) (by (first | exact q_826950af58 h64 h46 | omega))
        have := (by decide : (1000000 : Int32).toInt = 1000000)
        have := (by decide : (Int32.ofInt 0).toInt = 0)
        refine En_lv (lv := [(0, .ref 159), (1, .int a), (2, .int b), (3, .int y1), (4, .int ((1000000 : Int32))), (5, .int ((Int32.ofInt 0)))]) ⟨rfl, rfl, rfl, rfl, rfl, rfl, trivial⟩ ?_
        exact key37 (Int.toNat (y1.toInt) + 1) σ0 ((1000000 : Int32)) ((Int32.ofInt 0)) hσ0 hF0 h15 h17 (by decide) (by decide) (by decide) (by first | exact toN_lt _ | omega) (LST_0 (by decide) (by decide)) (by (first | exact q_75ddf89649 this h14.2.2.1 | omega))
      · refine En_Ps 3 (pc' := 22) (lv' := [(0, .ref 159), (1, .int a), (2, .int b), (3, .int y1), (4, .int y2)]) (st' := [.int ((y1 * y2))]) rfl ?_
        refine En_nam (fun z65 h66 => ?_)
        refine En_Ps 2 (pc' := 26) (lv' := [(4, .int ((y2 + Int32.ofInt 1))), (3, .int z65), (0, .ref 159), (1, .int a), (2, .int b)]) (st' := []) rfl ?_
        refine En_lv1 (addI rfl (by decide : (Int32.ofInt 1).toInt = 1) (by first | exact q_b7dadf652e h8 | omega) (by first | exact q_ec36873654 h9 | omega)) (fun z67 h68 => ?_)
        refine En_Ps 1 (pc' := 5) (lv' := [(4, .int z67), (3, .int z65), (0, .ref 159), (1, .int a), (2, .int b)]) (st' := []) rfl ?_
        refine En_lv (lv := [(0, .ref 159), (1, .int a), (2, .int b), (3, .int z65), (4, .int z67)]) ⟨rfl, rfl, rfl, rfl, rfl, trivial⟩ ?_
        exact ih5 z65 z67 (by first | exact q_e684beeb97 h68 h8 | omega) (by first | exact q_9b1ab74a6f h68 h24 h23 hl_a h20 | omega) (by omega) (ORD_s h11 h66 rfl rfl (by (first | exact q_9c9b4ba286 h24 h23 h21 | omega)) (by (first | exact q_ba1b2c713b h68 | omega)) rfl)
  have := (by decide : (Int32.ofInt 1).toInt = 1)
  have := (by decide : (Int32.ofInt 2).toInt = 2)
  refine En_lv (lv := [(0, .ref 159), (1, .int a), (2, .int b), (3, .int ((Int32.ofInt 1))), (4, .int ((Int32.ofInt 2)))]) ⟨rfl, rfl, rfl, rfl, rfl, trivial⟩ ?_
  exact key5 (Int.toNat (8 - 2) + 1) ((Int32.ofInt 1)) ((Int32.ofInt 2)) (by decide) (by decide) (by omega) (ORD_0 (by have := n6 hσ0; (first | exact q_074327f0a9 this.2 hl_a | omega)) (by decide) (by decide))
/-- DoorSchoolModel.mayBegin(II)Z -/
abbrev P_284 (σ0 : SG) (a : Int32) (b : Int32) : PO := fun v σ => WT σ ∧ Fr [(49, 0), (50, 0)] σ0 σ ∧ ∃ ret : Int32, v = some (Value.int ret) ∧ -ret.toInt ≤ 0 ∧ ret.toInt - 1 ≤ 0 ∧ (MAYs σ0 a.toInt b.toInt → ret.toInt = 1)
set_option maxRecDepth 10000 in
set_option maxHeartbeats 4000000 in
theorem c_284 (σ0 : SG) (hσ0 : WT σ0) (a : Int32) (b : Int32) (hl_a : 0 ≤ a.toInt) (hu_a : a.toInt ≤ 5) (hl_b : 0 ≤ b.toInt) (hu_b : b.toInt ≤ 54) : En 3 66 none mr_284 (P_284 σ0 a b) 0 [(0, .ref 159), (1, .int a), (2, .int b)] [] σ0 := by
  have hF0 : Fr [(49, 0), (50, 0)] σ0 σ0 := Fr_rfl
  refine En_Ps 2 (pc' := 2) (lv' := [(3, .int ((Int32.ofInt 0))), (0, .ref 159), (1, .int a), (2, .int b)]) (st' := []) rfl ?_
  have key2 : ∀ (n2 : Nat) (σ2 : SG) (y1 : Int32), WT σ2 → Fr [(49, 0), (50, 0)] σ0 σ2 → 0 ≤ y1.toInt → y1.toInt ≤ 127 → -y1.toInt + 127 < (n2 : Int) → CLR σ2 y1.toInt → En 3 66 none mr_284 (P_284 σ0 a b) 2 [(0, .ref 159), (1, .int a), (2, .int b), (3, .int y1)] [] σ2 := by
    intro n2
    induction n2 with
    | zero =>
      intro σ2 y1 h3 h4 h5 h6 h7 h8
      first | exact (q_aaec68a920 h7 h6).elim | (exfalso; omega)
    | succ n2 ih2 =>
      intro σ2 y1 h3 h4 h5 h6 h7 h8
      refine En_Ps 2 (pc' := 4) (lv' := [(0, .ref 159), (1, .int a), (2, .int b), (3, .int y1)]) (st' := [.ref 159, .int y1]) rfl ?_
      refine En_getU (j := 28) (u := 174) (g' := 50) (q := 0) rfl rfl rfl tgz_159 (by decide +kernel) h3 (by decide +kernel) un_50_174 (fun h9 => ?_)
      refine En_alenN (n := 120) rfl tgz_174 (by decide +kernel) (by decide +kernel) h3 ?_
      refine En_icGe _ rfl (by decide : (Int32.ofNat 120).toInt = 120) rfl (fun h11 => ?_) (fun h11 => ?_)
      · refine En_Ps 2 (pc' := 26) (lv' := [(3, .int ((Int32.ofInt 0))), (0, .ref 159), (1, .int a), (2, .int b)]) (st' := []) rfl ?_
        have key26 : ∀ (n26 : Nat) (σ15 : SG) (y12 : Int32), WT σ15 → Fr [(49, 0), (50, 0)] σ0 σ15 → (σ15 159)[28]? = some (Value.ref 174) → 0 ≤ y12.toInt → y12.toInt ≤ 5 → a.toInt - y12.toInt < (n26 : Int) → PRE0 σ0 σ15 a.toInt y12.toInt → En 3 66 none mr_284 (P_284 σ0 a b) 26 [(0, .ref 159), (1, .int a), (2, .int b), (3, .int y12)] [] σ15 := by
          intro n26
          induction n26 with
          | zero =>
            intro σ15 y12 h16 h17 h18 h19 h20 h21 h22
            have h23 := PRE0_lin h22
            exfalso; (first | exact q_cf13fb9252 h21 h23.2 | omega)
          | succ n26 ih26 =>
            intro σ15 y12 h16 h17 h18 h19 h20 h21 h22
            have h27 := PRE0_lin h22
            refine En_Ps 2 (pc' := 28) (lv' := [(0, .ref 159), (1, .int a), (2, .int b), (3, .int y12)]) (st' := [.int a, .int y12]) rfl ?_
            refine En_icGe _ rfl rfl rfl (fun h28 => ?_) (fun h28 => ?_)
            · refine En_Ps 3 (pc' := 51) (lv' := [(0, .ref 159), (1, .int a), (2, .int b), (3, .int y12)]) (st' := [.int a, .ref 159, .int b]) rfl ?_
              refine En_Ps 5 (pc' := 56) (lv' := [(0, .ref 159), (1, .int a), (2, .int b), (3, .int y12)]) (st' := [.int ((((Int32.ofInt 1) <<< (a &&& 31)) - (Int32.ofInt 1))), .int a, .ref 159, .int b]) rfl ?_
              refine En_nam (fun z29 h30 => ?_)
              have h31 := m1_small h30 rfl (by (first | exact q_58e6e51dcc hl_a | omega)) (by (first | exact q_d9092b5ca1 hu_a | omega))
              have h32 := PRE0_at h22 (by (first | exact q_9ad3dc81d7 h28 h27.2 | omega) : y12.toInt = a.toInt)
              refine En_callV rfl rfl rfl rfl rfl rfl rfl rfl tgz_159 (by decide +kernel) rfl (c_190 σ15 h16 a z29 (geI rfl (by first | exact q_58e6e51dcc hl_a | omega)) (leI rfl (by first | exact q_d9092b5ca1 hu_a | omega)) (geI rfl (by (first | exact q_58e6e51dcc h31.2.1 | omega))) (leI rfl (by (first | exact q_8bf848900a h31.2.2 | omega)))) (by decide) (by decide) (fun v34 σ35 h33 => ?_)
              obtain ⟨h36, h37, z39, rfl, h38⟩ := h33
              have h40 := h38.2.2
              obtain rfl : σ15 = σ35 := Fr_nil h37
              refine En_icLt _ rfl rfl rfl (fun h41 => ?_) (fun h41 => ?_)
              · refine En_Ps 1 (pc' := 82) (lv' := [(0, .ref 159), (1, .int a), (2, .int b), (3, .int y12)]) (st' := [.int ((Int32.ofInt 0))]) rfl ?_
                refine En_top (by decide : (Int32.ofInt 0).toInt = 0) (fun z42 h43 => ?_)
                exact En_ret (v := some (Value.int z42)) rfl rfl (retZ rfl rfl (by first | exact q_55451d0a83 h43 | omega) (by first | exact q_87849c3859 h43 | omega)) ⟨h16, h17, z42, rfl, ⟨by (first | exact q_097a37c2ae h43 | omega), by (first | exact q_e269517bee h43 | omega), MAY_1 (SWd_fr h17 (by decide +kernel)) h32 h31.1 hu_a hl_b h40 (by (first | exact q_114b7bcb5b h41 | omega))⟩⟩
              · refine En_Ps 4 (pc' := 66) (lv' := [(0, .ref 159), (1, .int a), (2, .int b), (3, .int y12)]) (st' := [.ref 159, .int a, .int b, .ref 159]) rfl ?_
                refine En_getU (j := 1) (u := 160) (g' := 36) (q := 0) rfl rfl rfl tgz_159 (by decide +kernel) h16 (by decide +kernel) un_36_160 (fun h44 => ?_)
                refine En_Ps 1 (pc' := 70) (lv' := [(0, .ref 159), (1, .int a), (2, .int b), (3, .int y12)]) (st' := [.int ((Int32.ofInt 1)), .ref 160, .int a, .int b, .ref 159]) rfl ?_
                refine En_iald (l := 0) (u := 3) rfl (by decide : (Int32.ofInt 1).toInt = 1) tgz_160 (by decide +kernel) h16 (by decide) (lnI (by decide +kernel : LN _ = 226) (by decide)) (by decide +kernel) (fun z47 h46 h48 h49 => ?_)
                refine En_callV rfl rfl rfl rfl rfl rfl rfl rfl tgz_159 (by decide +kernel) rfl (c_256 σ15 h16 b a z47 (geI rfl (by first | exact q_58e6e51dcc hl_b | omega)) (leI rfl (by first | exact q_4e4196c588 hu_b | omega)) (geI rfl (by first | exact q_58e6e51dcc hl_a | omega)) (leI rfl (by first | exact q_d9092b5ca1 hu_a | omega)) (geI rfl (by first | exact q_58e6e51dcc h48 | omega)) (leI rfl (by first | exact q_d73d44bb15 h49 | omega))) (by decide) (by decide) (fun v51 σ52 h50 => ?_)
                obtain ⟨h53, h54, z56, rfl, h55⟩ := h50
                have h57 := h55.2.2
                obtain rfl : σ15 = σ52 := Fr_nil h54
                refine En_iEq _ rfl rfl (fun h58 => ?_) (fun h58 => ?_)
                · refine En_Ps 1 (pc' := 82) (lv' := [(0, .ref 159), (1, .int a), (2, .int b), (3, .int y12)]) (st' := [.int ((Int32.ofInt 0))]) rfl ?_
                  refine En_top (by decide : (Int32.ofInt 0).toInt = 0) (fun z59 h60 => ?_)
                  exact En_ret (v := some (Value.int z59)) rfl rfl (retZ rfl rfl (by first | exact q_55451d0a83 h60 | omega) (by first | exact q_87849c3859 h60 | omega)) ⟨h16, h17, z59, rfl, ⟨by (first | exact q_097a37c2ae h60 | omega), by (first | exact q_e269517bee h60 | omega), MAY_2 hσ0 (SWd_fr h17 (by decide +kernel)) h32 hl_b hu_b (ci_at h46 rfl).symm h57 (by (first | exact q_d2dcd30e56 h58 | omega))⟩⟩
                · refine En_Ps 2 (pc' := 82) (lv' := [(0, .ref 159), (1, .int a), (2, .int b), (3, .int y12)]) (st' := [.int ((Int32.ofInt 1))]) rfl ?_
                  refine En_top (by decide : (Int32.ofInt 1).toInt = 1) (fun z61 h62 => ?_)
                  exact En_ret (v := some (Value.int z61)) rfl rfl (retZ rfl rfl (by first | exact q_2b07c97645 h62 | omega) (by first | exact q_d9e7cbb253 h62 | omega)) ⟨h16, h17, z61, rfl, ⟨by (first | exact q_ad3eee31ca h62 | omega), by (first | exact q_81cf297dc4 h62 | omega), fun _ => (by (first | exact q_0bfa10f27c h62 | omega))⟩⟩
            · refine En_Ps 3 (pc' := 34) (lv' := [(0, .ref 159), (1, .int a), (2, .int b), (3, .int y12)]) (st' := [.ref 159, .int y12, .ref 159]) rfl ?_
              refine En_getU (j := 29) (u := 175) (g' := 51) (q := 0) rfl rfl rfl tgz_159 (by decide +kernel) h16 (by decide +kernel) un_51_175 (fun h63 => ?_)
              refine En_Ps 1 (pc' := 38) (lv' := [(0, .ref 159), (1, .int a), (2, .int b), (3, .int y12)]) (st' := [.int y12, .ref 175, .int y12, .ref 159]) rfl ?_
              refine En_iald (l := 0) (u := 54) rfl rfl tgz_175 (by decide +kernel) h16 (by first | exact q_58e6e51dcc h19 | omega) (lnI (by decide +kernel : LN _ = 6) (by first | exact q_f6226e27c9 h20 | omega)) (FTsgl (by decide +kernel)) (fun z66 h65 h67 h68 => ?_)
              refine En_callV rfl rfl rfl rfl rfl rfl rfl rfl tgz_159 (by decide +kernel) rfl (c_298 σ15 h16 y12 z66 (geI rfl (by first | exact q_58e6e51dcc h19 | omega)) (leI rfl (by first | exact q_d9092b5ca1 h20 | omega)) (geI rfl (by first | exact q_58e6e51dcc h67 | omega)) (leI rfl (by first | exact q_4e4196c588 h68 | omega)) (PRE0_HB h22)) (by decide) (by decide) (fun v70 σ71 h69 => ?_)
              obtain ⟨h72, h73, rfl, h74⟩ := h69
              have h75 := h74
              have h76 := Fr_trans h17 h73 (by decide +kernel)
              refine En_Ps 1 (pc' := 45) (lv' := [(3, .int ((y12 + Int32.ofInt 1))), (0, .ref 159), (1, .int a), (2, .int b)]) (st' := []) rfl ?_
              refine En_lv1 (addI rfl (by decide : (Int32.ofInt 1).toInt = 1) (by first | exact q_465ab79ac1 h19 | omega) (by first | exact q_aeda34609f h20 | omega)) (fun z77 h78 => ?_)
              refine En_Ps 1 (pc' := 26) (lv' := [(3, .int z77), (0, .ref 159), (1, .int a), (2, .int b)]) (st' := []) rfl ?_
              refine En_lv (lv := [(0, .ref 159), (1, .int a), (2, .int b), (3, .int z77)]) ⟨rfl, rfl, rfl, rfl, trivial⟩ ?_
              exact ih26 σ71 z77 h72 h76 ((h73 _ _ (inW tgz_159 (by decide +kernel))).trans h18) (by first | exact q_35104ce9d3 h78 h19 | omega) (by first | exact q_b880857b86 h78 h28 hu_a | omega) (by first | exact q_8d03a5a7cb h78 h21 | omega) (PRE0_s hσ0 h22 (SWd_fr h17 (by decide +kernel)) (SXd_fr h17 (by decide +kernel)) (by (first | exact q_114b7bcb5b h28 | omega)) (ci_at h65 rfl).symm h75 (by (first | exact q_ba1b2c713b h78 | omega)))
        have := (by decide : (Int32.ofInt 0).toInt = 0)
        refine En_lv (lv := [(0, .ref 159), (1, .int a), (2, .int b), (3, .int ((Int32.ofInt 0)))]) ⟨rfl, rfl, rfl, rfl, trivial⟩ ?_
        exact key26 (Int.toNat (a.toInt) + 1) σ2 ((Int32.ofInt 0)) h3 h4 h9 (by decide) (by decide) (by first | exact toN_lt _ | omega) (PRE0_0 h8 (by (first | exact q_6864a7db2d h11 | omega)) hl_a (by (first | exact q_7cfb0f5691 hu_a | omega)) (by decide))
      · refine En_Ps 1 (pc' := 12) (lv' := [(0, .ref 159), (1, .int a), (2, .int b), (3, .int y1)]) (st' := [.ref 159]) rfl ?_
        refine En_getK (j := 28) h9 rfl rfl rfl tgz_159 (by decide +kernel) ?_
        refine En_Ps 2 (pc' := 17) (lv' := [(0, .ref 159), (1, .int a), (2, .int b), (3, .int y1)]) (st' := [.int ((Int32.ofInt 0)), .int y1, .ref 174]) rfl ?_
        refine En_iast (l := (-2147483648)) (u := 2147483647) rfl rfl tgz_174 (by decide +kernel) (by first | exact q_58e6e51dcc h5 | omega) (lnI (by decide +kernel : LN _ = 120) (by first | exact q_a3140d0b4a h11 | omega)) (FTsgl (by decide +kernel)) (fullI _) h3 h4 (by decide +kernel) (fun σ79 h80 h81 h82 h83 => ?_)
        refine En_Ps 1 (pc' := 21) (lv' := [(3, .int ((y1 + Int32.ofInt 1))), (0, .ref 159), (1, .int a), (2, .int b)]) (st' := []) rfl ?_
        refine En_lv1 (addI rfl (by decide : (Int32.ofInt 1).toInt = 1) (by first | exact q_465ab79ac1 h5 | omega) (by first | exact q_68a4db60cc h11 | omega)) (fun z84 h85 => ?_)
        refine En_Ps 1 (pc' := 2) (lv' := [(3, .int z84), (0, .ref 159), (1, .int a), (2, .int b)]) (st' := []) rfl ?_
        refine En_lv (lv := [(0, .ref 159), (1, .int a), (2, .int b), (3, .int z84)]) ⟨rfl, rfl, rfl, rfl, trivial⟩ ?_
        exact ih2 σ79 z84 h80 h81 (by first | exact q_35104ce9d3 h85 h5 | omega) (by first | exact q_82af9d7fcb h85 h11 | omega) (by first | exact q_086be879e1 h85 h7 | omega) (CLR_s h8 h82 h83 (by decide) (by (first | exact q_58e6e51dcc h5 | omega)) (by (first | exact q_ba1b2c713b h85 | omega)))
  have := (by decide : (Int32.ofInt 0).toInt = 0)
  refine En_lv (lv := [(0, .ref 159), (1, .int a), (2, .int b), (3, .int ((Int32.ofInt 0)))]) ⟨rfl, rfl, rfl, rfl, trivial⟩ ?_
  exact key2 (Int.toNat (127) + 1) σ0 ((Int32.ofInt 0)) hσ0 hF0 (by decide) (by decide) (by first | exact toN_lt _ | omega) (CLR_0 (by decide))
/-- DoorSchoolModel.begins(I)I -/
abbrev P_200 (σ0 : SG) (a : Int32) : PO := fun v σ => WT σ ∧ Fr [(49, 0), (50, 0), (51, 0)] σ0 σ ∧ ∃ ret : Int32, v = some (Value.int ret) ∧ -ret.toInt - 2 ≤ 0 ∧ ret.toInt - 54 ≤ 0
set_option maxRecDepth 10000 in
set_option maxHeartbeats 4000000 in
theorem c_200 (σ0 : SG) (hσ0 : WT σ0) (a : Int32) (hT : TPOS σ0) : En 5 122 none mr_200 (P_200 σ0 a) 0 [(0, .ref 159), (1, .int a)] [] σ0 := by
  have hF0 : Fr [(49, 0), (50, 0), (51, 0)] σ0 σ0 := Fr_rfl
  refine En_Ps 4 (pc' := 4) (lv' := [(0, .ref 159), (1, .int a)]) (st' := [.ref 159, .long ((Int64.ofNat 0)), .long a.toInt64]) rfl ?_
  refine En_getU (j := 1) (u := 160) (g' := 36) (q := 0) rfl rfl rfl tgz_159 (by decide +kernel) hσ0 (by decide +kernel) un_36_160 (fun h1 => ?_)
  refine En_Ps 1 (pc' := 8) (lv' := [(0, .ref 159), (1, .int a)]) (st' := [.int ((Int32.ofInt 5)), .ref 160, .long ((Int64.ofNat 0)), .long a.toInt64]) rfl ?_
  refine En_iald (l := 0) (u := 6) rfl (by decide : (Int32.ofInt 5).toInt = 5) tgz_160 (by decide +kernel) hσ0 (by decide) (lnI (by decide +kernel : LN _ = 226) (by decide)) (by decide +kernel) (fun z4 h3 h5 h6 => ?_)
  refine En_Ps 2 (pc' := 11) (lv' := [(0, .ref 159), (1, .int a)]) (st' := [.int ((z4 - ((Int32.ofInt 1)))), .long ((Int64.ofNat 0)), .long a.toInt64]) rfl ?_
  refine En_top (subI rfl (by decide : (Int32.ofInt 1).toInt = 1) (by first | exact q_93f9478bef h5 | omega) (by first | exact q_9320ba2c05 h6 | omega)) (fun z7 h8 => ?_)
  refine En_Ps 1 (pc' := 12) (lv' := [(0, .ref 159), (1, .int a)]) (st' := [.long z7.toInt64, .long ((Int64.ofNat 0)), .long a.toInt64]) rfl ?_
  have : a.toInt64.toInt = a.toInt := (i2lI rfl)
  have := (by decide : ((Int64.ofNat 0)).toInt = 0)
  have : z7.toInt64.toInt = z7.toInt := (i2lI rfl)
  refine En_callS rfl rfl rfl rfl rfl rfl rfl rfl rfl (c_249 σ0 hσ0 a.toInt64 ((Int64.ofNat 0)) z7.toInt64) (by decide) (by decide) (fun v10 σ11 h9 => ?_)
  obtain ⟨h12, h13, z15, rfl, h14⟩ := h9
  obtain rfl : σ0 = σ11 := Fr_nil h13
  refine En_iNe _ rfl rfl (fun h16 => ?_) (fun h16 => ?_)
  · refine En_Ps 3 (pc' := 24) (lv' := [(0, .ref 159), (1, .int a)]) (st' := [.ref 159, .int ((Int32.ofInt 0)), .ref 159]) rfl ?_
    refine En_getK (j := 1) h1 rfl rfl rfl tgz_159 (by decide +kernel) ?_
    refine En_Ps 1 (pc' := 28) (lv' := [(0, .ref 159), (1, .int a)]) (st' := [.int ((Int32.ofInt 1)), .ref 160, .int ((Int32.ofInt 0)), .ref 159]) rfl ?_
    refine En_iald (l := 0) (u := 3) rfl (by decide : (Int32.ofInt 1).toInt = 1) tgz_160 (by decide +kernel) hσ0 (by decide) (lnI (by decide +kernel : LN _ = 226) (by decide)) (by decide +kernel) (fun z18 h17 h19 h20 => ?_)
    have h21 : 1 ≤ z18.toInt := by have e1 := ci_at h17 (rfl : (1 : Int) = 1); have e5 := ci_at h3 (rfl : (5 : Int) = 5); have e := hT (Or.inl (by (first | exact q_ad8153d05d e5 h8 this h14.2.2.1 h16 h14.1 (by decide) | omega))); (first | exact q_7fea225eb9 e1 e | omega)
    have := (by decide : ((Int32.ofInt 0)).toInt = 0)
    refine En_callV rfl rfl rfl rfl rfl rfl rfl rfl tgz_159 (by decide +kernel) rfl (c_277 σ0 hσ0 ((Int32.ofInt 0)) z18 (geI (by decide : (Int32.ofInt 0).toInt = 0) (by decide)) (leI (by decide : (Int32.ofInt 0).toInt = 0) (by decide)) (geI rfl (by (first | exact q_41c8504a86 h21 | omega))) (leI rfl (by first | exact q_571ae29550 h20 | omega)) (by have := n6 hσ0; (first | exact q_cd53164edb this.1 (by decide) | omega))) (by decide) (by decide) (fun v23 σ24 h22 => ?_)
    obtain ⟨h25, h26, z28, rfl, h27⟩ := h22
    have h29 := h27.2.2
    have h30 := Fr_trans hF0 h26 (by decide +kernel)
    refine En_Ps 3 (pc' := 35) (lv' := [(3, .int ((Int32.ofInt 0))), (2, .int z28), (0, .ref 159), (1, .int a)]) (st' := []) rfl ?_
    have key35 : ∀ (n35 : Nat) (σ34 : SG) (y31 : Int32), WT σ34 → Fr [(49, 0), (50, 0), (51, 0)] σ0 σ34 → (σ34 159)[1]? = some (Value.ref 160) → (σ34 160)[(5 : Int).toNat]? = some (Value.int z4) → (σ34 160)[(1 : Int).toNat]? = some (Value.int z18) → 0 ≤ y31.toInt → y31.toInt ≤ 6 → -y31.toInt + 6 < (n35 : Int) → BEGs σ34 y31.toInt z28.toInt → En 5 122 none mr_200 (P_200 σ0 a) 35 [(0, .ref 159), (1, .int a), (2, .int z28), (3, .int y31)] [] σ34 := by
      intro n35
      induction n35 with
      | zero =>
        intro σ34 y31 h35 h36 h37 h38 h39 h40 h41 h42 h43
        have h44 := BEG_lin h43
        first | exact (q_1c67ffb2e6 h42 h41).elim | (exfalso; omega)
      | succ n35 ih35 =>
        intro σ34 y31 h35 h36 h37 h38 h39 h40 h41 h42 h43
        have h48 := BEG_lin h43
        refine En_Ps 2 (pc' := 37) (lv' := [(0, .ref 159), (1, .int a), (2, .int z28), (3, .int y31)]) (st' := [.int a, .int y31]) rfl ?_
        refine En_icGt _ rfl rfl rfl (fun h49 => ?_) (fun h49 => ?_)
        · refine En_Ps 1 (pc' := 98) (lv' := [(0, .ref 159), (1, .int a), (2, .int z28), (3, .int y31)]) (st' := [.ref 159]) rfl ?_
          refine En_getU (j := 29) (u := 175) (g' := 51) (q := 0) rfl rfl rfl tgz_159 (by decide +kernel) h35 (by decide +kernel) un_51_175 (fun h50 => ?_)
          refine En_Ps 1 (pc' := 102) (lv' := [(0, .ref 159), (1, .int a), (2, .int z28), (3, .int y31)]) (st' := [.int a, .ref 175]) rfl ?_
          refine En_iald (l := 0) (u := 54) rfl rfl tgz_175 (by decide +kernel) h35 (by (first | exact q_bf5288a390 (i2lI rfl) h14.2.2.1 h16 h14.1 (by decide) | omega)) (lnI (by decide +kernel : LN _ = 6) (by first | exact q_f252e21553 h49 h41 | omega)) (FTsgl (by decide +kernel)) (fun z53 h52 h54 h55 => ?_)
          exact En_ret (v := some (Value.int z53)) rfl rfl rfl ⟨h35, h36, z53, rfl, ⟨by first | exact q_ea7f0ffdb1 h54 | omega, by first | exact q_5cfa27335b h55 | omega⟩⟩
        · refine En_Ps 1 (pc' := 41) (lv' := [(0, .ref 159), (1, .int a), (2, .int z28), (3, .int y31)]) (st' := [.ref 159]) rfl ?_
          refine En_getU (j := 29) (u := 175) (g' := 51) (q := 0) rfl rfl rfl tgz_159 (by decide +kernel) h35 (by decide +kernel) un_51_175 (fun h56 => ?_)
          refine En_Ps 2 (pc' := 46) (lv' := [(0, .ref 159), (1, .int a), (2, .int z28), (3, .int y31)]) (st' := [.int ((Int32.ofInt 0)), .int y31, .ref 175]) rfl ?_
          refine En_iast (l := 0) (u := 54) rfl rfl tgz_175 (by decide +kernel) (by first | exact q_58e6e51dcc h40 | omega) (lnI (by decide +kernel : LN _ = 6) (by (first | exact q_513447d9af h49 (i2lI rfl) h14.2.2.1 h16 h14.1 (i2lI rfl) h8 h6 | omega))) (FTsgl (by decide +kernel)) (rngI (by decide : (Int32.ofInt 0).toInt = 0) (by decide) (by decide)) h35 h36 (by decide +kernel) (fun σ58 h59 h60 h61 h62 => ?_)
          have key47 : ∀ (n47 : Nat) (σ65 : SG), WT σ65 → Fr [(49, 0), (50, 0), (51, 0)] σ0 σ65 → (σ65 159)[1]? = some (Value.ref 160) → (σ65 160)[(5 : Int).toNat]? = some (Value.int z4) → (σ65 160)[(1 : Int).toNat]? = some (Value.int z18) → (σ65 159)[29]? = some (Value.ref 175) → 55 - ci σ65 175 y31.toInt < (n47 : Int) → AIMs σ65 y31.toInt z28.toInt → En 5 122 none mr_200 (P_200 σ0 a) 47 [(0, .ref 159), (1, .int a), (2, .int z28), (3, .int y31)] [] σ65 := by
            intro n47
            induction n47 with
            | zero =>
              intro σ65 h66 h67 h68 h69 h70 h71 h72 h73
              exfalso; have := AIM_lin (by assumption) h73; (first | exact q_82730effda this.2.2.2.2.2 h72 | omega)
            | succ n47 ih47 =>
              intro σ65 h66 h67 h68 h69 h70 h71 h72 h73
              have h76 := AIM_lin h66 h73
              refine En_Ps 3 (pc' := 50) (lv' := [(0, .ref 159), (1, .int a), (2, .int z28), (3, .int y31)]) (st' := [.ref 159, .int y31, .ref 159]) rfl ?_
              refine En_getK (j := 29) h71 rfl rfl rfl tgz_159 (by decide +kernel) ?_
              refine En_Ps 1 (pc' := 54) (lv' := [(0, .ref 159), (1, .int a), (2, .int z28), (3, .int y31)]) (st' := [.int y31, .ref 175, .int y31, .ref 159]) rfl ?_
              refine En_iald (l := 0) (u := 54) rfl rfl tgz_175 (by decide +kernel) h66 (by first | exact q_58e6e51dcc h40 | omega) (lnI (by decide +kernel : LN _ = 6) (by (first | exact q_88c525ea3e h76.2.1 | omega))) (FTsgl (by decide +kernel)) (fun z78 h77 h79 h80 => ?_)
              refine En_callV rfl rfl rfl rfl rfl rfl rfl rfl tgz_159 (by decide +kernel) rfl (c_284 σ65 h66 y31 z78 (geI rfl (by first | exact q_58e6e51dcc h40 | omega)) (leI rfl (by (first | exact q_d9092b5ca1 h76.2.1 | omega))) (geI rfl (by first | exact q_58e6e51dcc h79 | omega)) (leI rfl (by first | exact q_badf304c6d h80 | omega))) (by decide) (by decide) (fun v82 σ83 h81 => ?_)
              obtain ⟨h84, h85, z87, rfl, h86⟩ := h81
              have h88 := h86.2.2
              have h89 := Fr_trans h67 h85 (by decide +kernel)
              refine En_iEq _ rfl rfl (fun h90 => ?_) (fun h90 => ?_)
              · have h91 := GO_1 (all := z28.toInt) h88 (by (first | exact q_d2dcd30e56 h90 | omega))
                have h92 := AIM_53 h66 h73 h77 h91
                refine En_Ps 1 (pc' := 79) (lv' := [(0, .ref 159), (1, .int a), (2, .int z28), (3, .int y31)]) (st' := [.ref 159]) rfl ?_
                refine En_getK (j := 29) ((h85 _ _ (inW tgz_159 (by decide +kernel))).trans h71) rfl rfl rfl tgz_159 (by decide +kernel) ?_
                refine En_Ps 2 (pc' := 84) (lv' := [(0, .ref 159), (1, .int a), (2, .int z28), (3, .int y31)]) (st' := [.int y31, .ref 175, .int y31, .ref 175]) rfl ?_
                refine En_ialdK ((h85 _ _ (inWa tgz_175 (by decide +kernel))).trans h77) rfl rfl tgz_175 (by decide +kernel) h84 (by first | exact q_58e6e51dcc h40 | omega) (lnI (by decide +kernel : LN _ = 6) (by (first | exact q_88c525ea3e h76.2.1 | omega))) ?_
                refine En_Ps 2 (pc' := 87) (lv' := [(0, .ref 159), (1, .int a), (2, .int z28), (3, .int y31)]) (st' := [.int ((z78 + ((Int32.ofInt 1)))), .int y31, .ref 175]) rfl ?_
                refine En_top (addI rfl (by decide : (Int32.ofInt 1).toInt = 1) (by first | exact q_465ab79ac1 h79 | omega) (by first | exact q_6f39cb8ea5 h80 | omega)) (fun z94 h95 => ?_)
                refine En_iast (l := 0) (u := 54) rfl rfl tgz_175 (by decide +kernel) (by first | exact q_58e6e51dcc h40 | omega) (lnI (by decide +kernel : LN _ = 6) (by (first | exact q_88c525ea3e h76.2.1 | omega))) (FTsgl (by decide +kernel)) (rngI rfl (by first | exact q_35104ce9d3 h95 h79 | omega) (by (first | exact q_1943ee12ff h95 h92 | omega))) h84 h89 (by decide +kernel) (fun σ96 h97 h98 h99 h100 => ?_)
                refine En_Ps 1 (pc' := 47) (lv' := [(0, .ref 159), (1, .int a), (2, .int z28), (3, .int y31)]) (st' := []) rfl ?_
                have h101 := ci_at h99 (rfl : y31.toInt = y31.toInt)
                have h102 := ci_at h77 (rfl : y31.toInt = y31.toInt)
                exact ih47 σ96 h97 h98 ((h100 _ _ (Or.inl (neTG tgz_159 tgz_175 (by decide)))).trans ((h85 _ _ (inW tgz_159 (by decide +kernel))).trans h68)) ((h100 _ _ (Or.inl (neTG tgz_160 tgz_175 (by decide)))).trans ((h85 _ _ (inWa tgz_160 (by decide +kernel))).trans h69)) ((h100 _ _ (Or.inl (neTG tgz_160 tgz_175 (by decide)))).trans ((h85 _ _ (inWa tgz_160 (by decide +kernel))).trans h70)) ((h100 _ _ (Or.inl (neTG tgz_159 tgz_175 (by decide)))).trans ((h85 _ _ (inW tgz_159 (by decide +kernel))).trans h71)) (by omega) (AIM_s h66 (SWd_fr h85 (by decide +kernel)) (SXd_fr h85 (by decide +kernel)) h73 h77 h91 h99 h100 (by (first | exact q_ba1b2c713b h95 | omega)))
              · refine En_Ps 4 (pc' := 65) (lv' := [(0, .ref 159), (1, .int a), (2, .int z28), (3, .int y31)]) (st' := [.int ((y31 + ((Int32.ofInt 1)))), .ref 159]) rfl ?_
                refine En_top (addI rfl (by decide : (Int32.ofInt 1).toInt = 1) (by first | exact q_465ab79ac1 h40 | omega) (by first | exact q_9a865ca0e4 h41 | omega)) (fun z103 h104 => ?_)
                refine En_Ps 1 (pc' := 66) (lv' := [(0, .ref 159), (1, .int a), (2, .int z28), (3, .int y31)]) (st' := [.ref 159, .int z103, .ref 159]) rfl ?_
                refine En_getK (j := 1) ((h85 _ _ (inW tgz_159 (by decide +kernel))).trans h68) rfl rfl rfl tgz_159 (by decide +kernel) ?_
                refine En_Ps 1 (pc' := 70) (lv' := [(0, .ref 159), (1, .int a), (2, .int z28), (3, .int y31)]) (st' := [.int ((Int32.ofInt 1)), .ref 160, .int z103, .ref 159]) rfl ?_
                refine En_ialdK ((h85 _ _ (inWa tgz_160 (by decide +kernel))).trans h70) rfl (by decide : (Int32.ofInt 1).toInt = 1) tgz_160 (by decide +kernel) h84 (by decide) (lnI (by decide +kernel : LN _ = 226) (by decide)) ?_
                refine En_callV rfl rfl rfl rfl rfl rfl rfl rfl tgz_159 (by decide +kernel) rfl (c_277 σ83 h84 z103 z18 (geI rfl (by first | exact q_35104ce9d3 h104 h40 | omega)) (leI rfl (by (first | exact q_b63bf5706b h104 h76.2.1 | omega))) (geI rfl (by (first | exact q_41c8504a86 h21 | omega))) (leI rfl (by first | exact q_571ae29550 h20 | omega)) (by have e5 := ci_at ((h85 _ _ (inWa tgz_160 (by decide +kernel))).trans h69) (rfl : (5 : Int) = 5); (first | exact q_4382003f6b e5 h104 h49 (i2lI rfl) h8 h14.2.2.1 h16 h14.1 (i2lI rfl) | omega))) (by decide) (by decide) (fun v107 σ108 h106 => ?_)
                obtain ⟨h109, h110, z112, rfl, h111⟩ := h106
                have h113 := h111.2.2
                have h114 := Fr_trans h89 h110 (by decide +kernel)
                refine En_Ps 1 (pc' := 75) (lv' := [(0, .ref 159), (1, .int a), (2, .int z28), (3, .int y31)]) (st' := [.int z28, .int z112]) rfl ?_
                refine En_icLe _ rfl rfl rfl (fun h115 => ?_) (fun h115 => ?_)
                · refine En_Ps 1 (pc' := 94) (lv' := [(3, .int ((y31 + Int32.ofInt 1))), (0, .ref 159), (1, .int a), (2, .int z28)]) (st' := []) rfl ?_
                  refine En_lv1 (addI rfl (by decide : (Int32.ofInt 1).toInt = 1) (by first | exact q_465ab79ac1 h40 | omega) (by first | exact q_9a865ca0e4 h41 | omega)) (fun z116 h117 => ?_)
                  refine En_Ps 1 (pc' := 35) (lv' := [(3, .int z116), (0, .ref 159), (1, .int a), (2, .int z28)]) (st' := []) rfl ?_
                  refine En_lv (lv := [(0, .ref 159), (1, .int a), (2, .int z28), (3, .int z116)]) ⟨rfl, rfl, rfl, rfl, trivial⟩ ?_
                  exact ih35 σ108 z116 h109 h114 ((h110 _ _ (inW tgz_159 (by decide +kernel))).trans ((h85 _ _ (inW tgz_159 (by decide +kernel))).trans h68)) ((h110 _ _ (inWa tgz_160 (by decide +kernel))).trans ((h85 _ _ (inWa tgz_160 (by decide +kernel))).trans h69)) ((h110 _ _ (inWa tgz_160 (by decide +kernel))).trans ((h85 _ _ (inWa tgz_160 (by decide +kernel))).trans h70)) (by first | exact q_35104ce9d3 h117 h40 | omega) (by (first | exact q_b63bf5706b h117 h76.2.1 | omega)) (by first | exact q_18a3ecfd63 h117 h42 | omega) (BEG_s h113 (SWd_fr h110 (by decide +kernel)) (SXd_fr h110 (by decide +kernel)) (by omega) (ci_at ((h85 _ _ (inWa tgz_160 (by decide +kernel))).trans h70) rfl).symm (by (first | exact q_7b14c78c18 h115 | omega)) (by (first | exact q_ef1e8e38bf h111.1 | omega)) (by omega) (by (first | exact q_badf304c6d h76.2.2.2.1 | omega)) (by omega))
                · have h118 := GO_2 (hour := z78.toInt) (SWd_fr h85 (by decide +kernel)) (SXd_fr h85 (by decide +kernel)) h113 (by (first | exact q_ba1b2c713b h104 | omega) : _ = y31.toInt + 1) (ci_at ((h85 _ _ (inWa tgz_160 (by decide +kernel))).trans h70) rfl).symm (by (first | exact q_58e6e51dcc h76.1 | omega)) (by (first | exact q_114b7bcb5b h115 | omega) : z28.toInt < _) (by (first | exact q_58e6e51dcc h76.2.2.1 | omega))
                  have h119 := AIM_53 h66 h73 h77 h118
                  refine En_Ps 1 (pc' := 79) (lv' := [(0, .ref 159), (1, .int a), (2, .int z28), (3, .int y31)]) (st' := [.ref 159]) rfl ?_
                  refine En_getK (j := 29) ((h110 _ _ (inW tgz_159 (by decide +kernel))).trans ((h85 _ _ (inW tgz_159 (by decide +kernel))).trans h71)) rfl rfl rfl tgz_159 (by decide +kernel) ?_
                  refine En_Ps 2 (pc' := 84) (lv' := [(0, .ref 159), (1, .int a), (2, .int z28), (3, .int y31)]) (st' := [.int y31, .ref 175, .int y31, .ref 175]) rfl ?_
                  refine En_ialdK ((h110 _ _ (inWa tgz_175 (by decide +kernel))).trans ((h85 _ _ (inWa tgz_175 (by decide +kernel))).trans h77)) rfl rfl tgz_175 (by decide +kernel) h109 (by first | exact q_58e6e51dcc h40 | omega) (lnI (by decide +kernel : LN _ = 6) (by (first | exact q_88c525ea3e h76.2.1 | omega))) ?_
                  refine En_Ps 2 (pc' := 87) (lv' := [(0, .ref 159), (1, .int a), (2, .int z28), (3, .int y31)]) (st' := [.int ((z78 + ((Int32.ofInt 1)))), .int y31, .ref 175]) rfl ?_
                  refine En_top (addI rfl (by decide : (Int32.ofInt 1).toInt = 1) (by first | exact q_465ab79ac1 h79 | omega) (by first | exact q_6f39cb8ea5 h80 | omega)) (fun z121 h122 => ?_)
                  refine En_iast (l := 0) (u := 54) rfl rfl tgz_175 (by decide +kernel) (by first | exact q_58e6e51dcc h40 | omega) (lnI (by decide +kernel : LN _ = 6) (by (first | exact q_88c525ea3e h76.2.1 | omega))) (FTsgl (by decide +kernel)) (rngI rfl (by first | exact q_35104ce9d3 h122 h79 | omega) (by (first | exact q_1943ee12ff h122 h119 | omega))) h109 h114 (by decide +kernel) (fun σ123 h124 h125 h126 h127 => ?_)
                  refine En_Ps 1 (pc' := 47) (lv' := [(0, .ref 159), (1, .int a), (2, .int z28), (3, .int y31)]) (st' := []) rfl ?_
                  have h128 := ci_at h126 (rfl : y31.toInt = y31.toInt)
                  have h129 := ci_at h77 (rfl : y31.toInt = y31.toInt)
                  exact ih47 σ123 h124 h125 ((h127 _ _ (Or.inl (neTG tgz_159 tgz_175 (by decide)))).trans ((h110 _ _ (inW tgz_159 (by decide +kernel))).trans ((h85 _ _ (inW tgz_159 (by decide +kernel))).trans h68))) ((h127 _ _ (Or.inl (neTG tgz_160 tgz_175 (by decide)))).trans ((h110 _ _ (inWa tgz_160 (by decide +kernel))).trans ((h85 _ _ (inWa tgz_160 (by decide +kernel))).trans h69))) ((h127 _ _ (Or.inl (neTG tgz_160 tgz_175 (by decide)))).trans ((h110 _ _ (inWa tgz_160 (by decide +kernel))).trans ((h85 _ _ (inWa tgz_160 (by decide +kernel))).trans h70))) ((h127 _ _ (Or.inl (neTG tgz_159 tgz_175 (by decide)))).trans ((h110 _ _ (inW tgz_159 (by decide +kernel))).trans ((h85 _ _ (inW tgz_159 (by decide +kernel))).trans h71))) (by omega) (AIM_s h66 (SWd_tr (SWd_fr h85 (by decide +kernel)) (SWd_fr h110 (by decide +kernel))) (SXd_tr (SXd_fr h85 (by decide +kernel)) (SXd_fr h110 (by decide +kernel))) h73 h77 h118 h126 h127 (by (first | exact q_ba1b2c713b h122 | omega)))
          exact key47 (Int.toNat (55 - ci σ58 175 y31.toInt) + 1) σ58 h59 h60 ((h62 _ _ (Or.inl (neTG tgz_159 tgz_175 (by decide)))).trans h37) ((h62 _ _ (Or.inl (neTG tgz_160 tgz_175 (by decide)))).trans h38) ((h62 _ _ (Or.inl (neTG tgz_160 tgz_175 (by decide)))).trans h39) ((h62 _ _ (Or.inl (neTG tgz_159 tgz_175 (by decide)))).trans h56) (by omega) (AIM_0 h35 h43 (by have e5 := ci_at h38 (rfl : (5 : Int) = 5); (first | exact q_577e007cfd e5 h49 (i2lI rfl) h8 h14.2.2.1 h16 h14.1 (i2lI rfl) | omega)) h61 h62 (by decide))
    have := (by decide : (Int32.ofInt 0).toInt = 0)
    refine En_lv (lv := [(0, .ref 159), (1, .int a), (2, .int z28), (3, .int ((Int32.ofInt 0)))]) ⟨rfl, rfl, rfl, rfl, trivial⟩ ?_
    exact key35 (Int.toNat (6) + 1) σ24 ((Int32.ofInt 0)) h25 h30 ((h26 _ _ (inW tgz_159 (by decide +kernel))).trans h1) ((h26 _ _ (inWa tgz_160 (by decide +kernel))).trans h3) ((h26 _ _ (inWa tgz_160 (by decide +kernel))).trans h17) (by decide) (by decide) (by first | exact toN_lt _ | omega) (BEG_0 hσ0 (SWd_fr h26 (by decide +kernel)) (SXd_fr h26 (by decide +kernel)) h29 (by decide) (ci_at h17 rfl).symm (by (first | exact q_41c8504a86 h21 | omega)) (by (first | exact q_ef1e8e38bf h27.1 | omega)) (by decide))
  · refine En_Ps 1 (pc' := 20) (lv' := [(0, .ref 159), (1, .int a)]) (st' := [.int (((Int8.ofInt (-2)).toInt32))]) rfl ?_
    refine En_top (by decide : ((Int8.ofInt (-2)).toInt32).toInt = -2) (fun z130 h131 => ?_)
    exact En_ret (v := some (Value.int z130)) rfl rfl rfl ⟨hσ0, hF0, z130, rfl, ⟨by first | exact q_f35c5d346c h131 | omega, by first | exact q_18dc70cc6b h131 | omega⟩⟩
end
