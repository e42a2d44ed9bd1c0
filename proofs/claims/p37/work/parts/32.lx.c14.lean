/-- DoorSchool.write(IIJ)I -/
abbrev P_185 (σ0 : SG) (a : Int32) (b : Int32) (c : Int64) (p : Nat) (sg : Int32) : PO := fun v σ => WT σ ∧ Fr [(34, 0)] σ0 σ ∧ ∃ ret : Int32, v = some (.int ret) ∧ -ret.toInt - 7 ≤ 0 ∧ ret.toInt ≤ 0
set_option maxRecDepth 10000 in
set_option maxHeartbeats 4000000 in
theorem c_185 (σ0 : SG) (hσ0 : WT σ0) (a : Int32) (b : Int32) (c : Int64) (p : Nat) (hp : TG p = 18) (h_p : (σ0 0)[9]? = some (.ref p)) (sg : Int32) (h_sg : (σ0 p)[1]? = some (.int sg)) (hp0 : -sg.toInt ≤ 0) : En 1 24 none mr_185 (P_185 σ0 a b c p sg) 0 [(0, .ref 0), (1, .int a), (2, .int b), (3, .long c)] [] σ0 := by
  obtain ⟨hl_sg, hu_sg⟩ := WT_int hσ0 (g := 18) hp (by decide +kernel) (l := (-1)) (u := 4) (by decide +kernel) h_sg
  have hF0 : Fr [(34, 0)] σ0 σ0 := Fr_rfl
  refine En_Ps 1 (pc' := 1) (lv' := [(0, .ref 0), (1, .int a), (2, .int b), (3, .long c)]) (st' := [.int a]) rfl ?_
  refine En_callS rfl rfl rfl rfl rfl rfl rfl rfl rfl (c_147 σ0 hσ0 a) (by decide) (by decide) (fun v2 σ3 h1 => ?_)
  obtain ⟨h4, h5, z7, rfl, h6⟩ := h1
  have h8 := Fr_trans hF0 h5 (by decide +kernel)
  refine En_iNe _ rfl rfl (fun h9 => ?_) (fun h9 => ?_)
  · refine En_Ps 1 (pc' := 11) (lv' := [(0, .ref 0), (1, .int a), (2, .int b), (3, .long c)]) (st' := [.ref 0]) rfl ?_
    refine En_getU (j := 6) (u := 150) (g' := 32) (q := 0) rfl rfl rfl (by decide +kernel : TG 0 = 0) (by decide +kernel) h4 (by decide +kernel) (by decide +kernel) (fun h10 => ?_)
    refine En_Ps 1 (pc' := 15) (lv' := [(0, .ref 0), (1, .int a), (2, .int b), (3, .long c)]) (st' := [.int a, .ref 150]) rfl ?_
    refine En_aald (g' := 33) (u := 0) rfl rfl (by decide +kernel : TG 150 = 32) (by decide +kernel) h4 (by omega) (lnI (by decide +kernel : LN _ = 4) (by omega)) (FTsgl (by decide +kernel)) (fun a13 h12 ha13 => ?_)
    refine En_Ps 2 (pc' := 20) (lv' := [(5, .ref a13), (0, .ref 0), (1, .int a), (2, .int b), (3, .long c)]) (st' := [.ref a13]) rfl ?_
    refine En_getI (j := 1) (l := 0) (u := 1) rfl rfl rfl ha13 (by decide +kernel) h4 (by decide +kernel) (fun z15 h14 h16 h17 => ?_)
    refine En_iNe _ rfl rfl (fun h18 => ?_) (fun h18 => ?_)
    · refine En_Ps 1 (pc' := 30) (lv' := [(5, .ref a13), (0, .ref 0), (1, .int a), (2, .int b), (3, .long c)]) (st' := [.int b]) rfl ?_
      refine En_iLt _ rfl rfl (fun h19 => ?_) (fun h19 => ?_)
      · refine En_Ps 1 (pc' := 44) (lv' := [(5, .ref a13), (0, .ref 0), (1, .int a), (2, .int b), (3, .long c)]) (st' := [.int (((Int8.ofInt (-7)).toInt32))]) rfl ?_
        refine En_top (by decide : ((Int8.ofInt (-7)).toInt32).toInt = -7) (fun z20 h21 => ?_)
        exact En_ret (v := some (.int z20)) rfl rfl rfl ⟨h4, h8, z20, rfl, (by omega)⟩
      · refine En_Ps 2 (pc' := 36) (lv' := [(5, .ref a13), (0, .ref 0), (1, .int a), (2, .int b), (3, .long c)]) (st' := [.ref a13, .int b]) rfl ?_
        refine En_getI (j := 3) (l := 0) (u := 60) rfl rfl rfl ha13 (by decide +kernel) h4 (by decide +kernel) (fun z23 h22 h24 h25 => ?_)
        refine En_icLt _ rfl rfl rfl (fun h26 => ?_) (fun h26 => ?_)
        · refine En_Ps 3 (pc' := 49) (lv' := [(5, .ref a13), (0, .ref 0), (1, .int a), (2, .int b), (3, .long c)]) (st' := [.long c, .int b, .ref a13]) rfl ?_
          refine En_callV rfl rfl rfl rfl rfl rfl rfl rfl ha13 (by decide +kernel) rfl (c_88 σ3 h4 a13 ha13 b c (geI rfl (by omega)) (leI rfl (by omega))) (by decide) (by decide) (fun v28 σ29 h27 => ?_)
          obtain ⟨h30, h31, rfl, h32⟩ := h27
          have h33 := Fr_trans h8 h31 (by decide +kernel)
          refine En_Ps 1 (pc' := 53) (lv' := [(5, .ref a13), (0, .ref 0), (1, .int a), (2, .int b), (3, .long c)]) (st' := [.int ((Int32.ofInt 0))]) rfl ?_
          refine En_top (by decide : (Int32.ofInt 0).toInt = 0) (fun z34 h35 => ?_)
          exact En_ret (v := some (.int z34)) rfl rfl rfl ⟨h30, h33, z34, rfl, (by omega)⟩
        · refine En_Ps 1 (pc' := 44) (lv' := [(5, .ref a13), (0, .ref 0), (1, .int a), (2, .int b), (3, .long c)]) (st' := [.int (((Int8.ofInt (-7)).toInt32))]) rfl ?_
          refine En_top (by decide : ((Int8.ofInt (-7)).toInt32).toInt = -7) (fun z36 h37 => ?_)
          exact En_ret (v := some (.int z36)) rfl rfl rfl ⟨h4, h8, z36, rfl, (by omega)⟩
    · refine En_Ps 1 (pc' := 28) (lv' := [(5, .ref a13), (0, .ref 0), (1, .int a), (2, .int b), (3, .long c)]) (st' := [.int (((Int8.ofInt (-6)).toInt32))]) rfl ?_
      refine En_top (by decide : ((Int8.ofInt (-6)).toInt32).toInt = -6) (fun z38 h39 => ?_)
      exact En_ret (v := some (.int z38)) rfl rfl rfl ⟨h4, h8, z38, rfl, (by omega)⟩
  · refine En_Ps 1 (pc' := 9) (lv' := [(0, .ref 0), (1, .int a), (2, .int b), (3, .long c)]) (st' := [.int (((Int8.ofInt (-2)).toInt32))]) rfl ?_
    refine En_top (by decide : ((Int8.ofInt (-2)).toInt32).toInt = -2) (fun z40 h41 => ?_)
    exact En_ret (v := some (.int z40)) rfl rfl rfl ⟨h4, h8, z40, rfl, (by omega)⟩
