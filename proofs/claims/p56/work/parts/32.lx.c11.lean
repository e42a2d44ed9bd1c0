/-- DoorSchool.hangAll()Z -/
abbrev P_132 (σ0 : SG) (p : Nat) (sg : Int32) : PO := fun v σ => WT σ ∧ Fr [(10, 3), (10, 4), (10, 5), (11, 0), (12, 0), (13, 0)] σ0 σ ∧ ∃ ret : Int32, v = some (.int ret) ∧ -ret.toInt ≤ 0 ∧ ret.toInt - 1 ≤ 0
set_option maxRecDepth 10000 in
set_option maxHeartbeats 4000000 in
theorem c_132 (σ0 : SG) (hσ0 : WT σ0) (p : Nat) (hp : TG p = 18) (h_p : (σ0 0)[9]? = some (.ref p)) (sg : Int32) (h_sg : (σ0 p)[1]? = some (.int sg)) (hp0 : -sg.toInt ≤ 0) : En 8 223 none mr_132 (P_132 σ0 p sg) 0 [(0, .ref 0)] [] σ0 := by
  obtain ⟨hl_sg, hu_sg⟩ := WT_int hσ0 (g := 18) hp (by decide +kernel) (l := (-1)) (u := 4) (by decide +kernel) h_sg
  have hF0 : Fr [(10, 3), (10, 4), (10, 5), (11, 0), (12, 0), (13, 0)] σ0 σ0 := Fr_rfl
  refine En_Ps 1 (pc' := 1) (lv' := [(0, .ref 0)]) (st' := [.ref 0]) rfl ?_
  refine En_getK (j := 9) h_p rfl rfl rfl tgz_0 (by decide +kernel) ?_
  refine En_getI (j := 3) (l := 0) (u := 4) rfl rfl rfl hp (by decide +kernel) hσ0 (by decide +kernel) (fun z2 h1 h3 h4 => ?_)
  refine En_Ps 1 (pc' := 8) (lv' := [(0, .ref 0)]) (st' := [.ref 0, .int z2]) rfl ?_
  refine En_getK (j := 9) h_p rfl rfl rfl tgz_0 (by decide +kernel) ?_
  refine En_getI (j := 8) (l := 0) (u := 4) rfl rfl rfl hp (by decide +kernel) hσ0 (by decide +kernel) (fun z6 h5 h7 h8 => ?_)
  refine En_icGe _ rfl rfl rfl (fun h9 => ?_) (fun h9 => ?_)
  · refine En_Ps 2 (pc' := 21) (lv' := [(1, .int ((Int32.ofInt 0))), (0, .ref 0)]) (st' := []) rfl ?_
    have key21 : ∀ (n21 : Nat) (σ11 : SG) (y10 : Int32), WT σ11 → Fr [(10, 3), (10, 4), (10, 5), (11, 0), (12, 0), (13, 0)] σ0 σ11 → (σ11 0)[9]? = some (.ref p) → (σ11 p)[1]? = some (.int sg) → (σ11 p)[3]? = some (.int z2) → (σ11 p)[8]? = some (.int z6) → 0 ≤ y10.toInt → y10.toInt ≤ 4 → y10.toInt - z2.toInt ≤ 0 → z2.toInt - y10.toInt < (n21 : Int) → En 8 223 none mr_132 (P_132 σ0 p sg) 21 [(0, .ref 0), (1, .int y10)] [] σ11 := by
      intro n21
      induction n21 with
      | zero =>
        intro σ11 y10 h12 h13 h14 h15 h16 h17 h18 h19 h20 h21
        first | exact (q_14257feae7 h20 h21).elim | (exfalso; omega)
      | succ n21 ih21 =>
        intro σ11 y10 h12 h13 h14 h15 h16 h17 h18 h19 h20 h21
        refine En_Ps 2 (pc' := 23) (lv' := [(0, .ref 0), (1, .int y10)]) (st' := [.ref 0, .int y10]) rfl ?_
        refine En_getK (j := 9) h14 rfl rfl rfl tgz_0 (by decide +kernel) ?_
        refine En_getK (j := 3) h16 rfl rfl rfl hp (by decide +kernel) ?_
        refine En_icGe _ rfl rfl rfl (fun h22 => ?_) (fun h22 => ?_)
        · refine En_Ps 1 (pc' := 87) (lv' := [(0, .ref 0), (1, .int y10)]) (st' := [.ref 0]) rfl ?_
          refine En_getU (j := 4) (u := 10) (g' := 10) (q := 0) rfl rfl rfl tgz_0 (by decide +kernel) h12 (by decide +kernel) (by decide +kernel) (fun h23 => ?_)
          refine En_Ps 1 (pc' := 91) (lv' := [(0, .ref 0), (1, .int y10)]) (st' := [.ref 0, .ref 10]) rfl ?_
          refine En_getK (j := 9) h14 rfl rfl rfl tgz_0 (by decide +kernel) ?_
          refine En_getK (j := 3) h16 rfl rfl rfl hp (by decide +kernel) ?_
          refine En_Ps 1 (pc' := 98) (lv' := [(0, .ref 0), (1, .int y10)]) (st' := [.ref 0, .int z2, .ref 10]) rfl ?_
          refine En_getK (j := 9) h14 rfl rfl rfl tgz_0 (by decide +kernel) ?_
          refine En_getK (j := 8) h17 rfl rfl rfl hp (by decide +kernel) ?_
          refine En_callV rfl rfl rfl rfl rfl rfl rfl rfl tgz_10 (by decide +kernel) rfl (c_18 σ11 h12 z2 z6 (geI rfl (by first | exact q_58e6e51dcc h3 | omega)) (leI rfl (by first | exact q_c82ed93a8c h4 | omega)) (geI rfl (by first | exact q_58e6e51dcc h7 | omega)) (leI rfl (by first | exact q_c82ed93a8c h8 | omega))) (by decide) (by decide) (fun v26 σ27 h25 => ?_)
          obtain ⟨h28, h29, rfl, h30⟩ := h25
          have h31 := Fr_trans h13 h29 (by decide +kernel)
          refine En_Ps 1 (pc' := 108) (lv' := [(0, .ref 0), (1, .int y10)]) (st' := [.int ((Int32.ofInt 1))]) rfl ?_
          refine En_top (by decide : (Int32.ofInt 1).toInt = 1) (fun z32 h33 => ?_)
          exact En_ret (v := some (.int z32)) rfl rfl (retZ rfl rfl (by first | exact q_2b07c97645 h33 | omega) (by first | exact q_d9e7cbb253 h33 | omega)) ⟨h28, h31, z32, rfl, ⟨by first | exact q_ad3eee31ca h33 | omega, by first | exact q_81cf297dc4 h33 | omega⟩⟩
        · refine En_Ps 2 (pc' := 34) (lv' := [(0, .ref 0), (1, .int y10)]) (st' := [.int y10, .ref 0]) rfl ?_
          refine En_callV rfl rfl rfl rfl rfl rfl rfl rfl tgz_0 (by decide +kernel) rfl (c_114 σ11 h12 y10 (geI rfl (by first | exact q_58e6e51dcc h18 | omega)) (leI rfl (by first | exact q_5ab2e90ecc h22 h4 | omega)) p hp h14 sg h15 (by first | exact q_a555021d16 hp0 | omega)) (by decide) (by decide) (fun v35 σ36 h34 => ?_)
          obtain ⟨h37, h38, z40, rfl, h39⟩ := h34
          have h41 := Fr_trans h13 h38 (by decide +kernel)
          refine En_Ps 3 (pc' := 40) (lv' := [(3, .int ((Int32.ofInt 0))), (2, .int z40), (0, .ref 0), (1, .int y10)]) (st' := []) rfl ?_
          have key40 : ∀ (n40 : Nat) (σ43 : SG) (y42 : Int32), WT σ43 → Fr [(10, 3), (10, 4), (10, 5), (11, 0), (12, 0), (13, 0)] σ0 σ43 → (σ43 0)[9]? = some (.ref p) → (σ43 p)[1]? = some (.int sg) → (σ43 p)[3]? = some (.int z2) → (σ43 p)[8]? = some (.int z6) → 0 ≤ y42.toInt → y42.toInt ≤ 4 → y42.toInt - z6.toInt ≤ 0 → z2.toInt - y42.toInt < (n40 : Int) → En 8 223 none mr_132 (P_132 σ0 p sg) 40 [(0, .ref 0), (1, .int y10), (2, .int z40), (3, .int y42)] [] σ43 := by
            intro n40
            induction n40 with
            | zero =>
              intro σ43 y42 h44 h45 h46 h47 h48 h49 h50 h51 h52 h53
              first | exact (q_57f31fc63d h9 h52 h53).elim | (exfalso; omega)
            | succ n40 ih40 =>
              intro σ43 y42 h44 h45 h46 h47 h48 h49 h50 h51 h52 h53
              refine En_Ps 2 (pc' := 42) (lv' := [(0, .ref 0), (1, .int y10), (2, .int z40), (3, .int y42)]) (st' := [.ref 0, .int y42]) rfl ?_
              refine En_getK (j := 9) h46 rfl rfl rfl tgz_0 (by decide +kernel) ?_
              refine En_getK (j := 8) h49 rfl rfl rfl hp (by decide +kernel) ?_
              refine En_icGe _ rfl rfl rfl (fun h54 => ?_) (fun h54 => ?_)
              · refine En_Ps 1 (pc' := 83) (lv' := [(1, .int ((y10 + Int32.ofInt 1))), (0, .ref 0), (2, .int z40), (3, .int y42)]) (st' := []) rfl ?_
                refine En_lv1 (addI rfl (by decide : (Int32.ofInt 1).toInt = 1) (by first | exact q_465ab79ac1 h18 | omega) (by first | exact q_f7282962fd h19 | omega)) (fun z55 h56 => ?_)
                refine En_Ps 1 (pc' := 21) (lv' := [(1, .int z55), (0, .ref 0), (2, .int z40), (3, .int y42)]) (st' := []) rfl ?_
                refine En_lv (lv := [(0, .ref 0), (1, .int z55)]) ⟨rfl, rfl, trivial⟩ ?_
                exact ih21 σ43 z55 h44 h45 h46 h47 h48 h49 (by first | exact q_35104ce9d3 h56 h18 | omega) (by first | exact q_de42116b63 h56 h22 h4 | omega) (by first | exact q_ae2dbf4292 h22 h56 | omega) (by first | exact q_8d03a5a7cb h56 h21 | omega)
              · refine En_Ps 1 (pc' := 52) (lv' := [(0, .ref 0), (1, .int y10), (2, .int z40), (3, .int y42)]) (st' := [.ref 0]) rfl ?_
                refine En_getU (j := 4) (u := 10) (g' := 10) (q := 0) rfl rfl rfl tgz_0 (by decide +kernel) h44 (by decide +kernel) (by decide +kernel) (fun h57 => ?_)
                refine En_getU (j := 0) (u := 11) (g' := 11) (q := 0) rfl rfl rfl tgz_10 (by decide +kernel) h44 (by decide +kernel) (by decide +kernel) (fun h59 => ?_)
                refine En_Ps 3 (pc' := 61) (lv' := [(0, .ref 0), (1, .int y10), (2, .int z40), (3, .int y42)]) (st' := [.int ((y42 * ((Int32.ofInt 4)))), .ref 11]) rfl ?_
                refine En_top (mulI rfl (by decide : (Int32.ofInt 4).toInt = 4) (Z := 4 * y42.toInt) (by first | exact q_37bd5d571c | omega) (by first | exact q_be45967ac2 h50 | omega) (by first | exact q_9034d5bea5 h54 h8 | omega)) (fun z61 h62 => ?_)
                refine En_Ps 2 (pc' := 63) (lv' := [(0, .ref 0), (1, .int y10), (2, .int z40), (3, .int y42)]) (st' := [.int ((z61 + y10)), .ref 11]) rfl ?_
                refine En_top (addI rfl rfl (by first | exact q_1dc55d4c5f h18 h62 h50 | omega) (by first | exact q_9989d21511 h22 h62 h4 h54 h8 | omega)) (fun z63 h64 => ?_)
                refine En_Ps 3 (pc' := 66) (lv' := [(0, .ref 0), (1, .int y10), (2, .int z40), (3, .int y42)]) (st' := [.int y42, .ref 0, .int z40, .int z63, .ref 11]) rfl ?_
                refine En_callV rfl rfl rfl rfl rfl rfl rfl rfl tgz_0 (by decide +kernel) rfl (c_139 σ43 h44 y42 (geI rfl (by first | exact q_58e6e51dcc h50 | omega)) (leI rfl (by first | exact q_5ab2e90ecc h54 h8 | omega)) p hp h46 sg h47 (by first | exact q_a555021d16 hp0 | omega)) (by decide) (by decide) (fun v66 σ67 h65 => ?_)
                obtain ⟨h68, h69, z71, rfl, h70⟩ := h65
                have h72 := Fr_trans h45 h69 (by decide +kernel)
                refine En_Ps 1 (pc' := 70) (lv' := [(0, .ref 0), (1, .int y10), (2, .int z40), (3, .int y42)]) (st' := [.int ((z40 ^^^ z71)), .int z63, .ref 11]) rfl ?_
                refine En_hav (fun z73 => ?_)
                refine En_callS rfl rfl rfl rfl rfl rfl rfl rfl rfl (c_7 σ67 h68 z73) (by decide) (by decide) (fun v75 σ76 h74 => ?_)
                obtain ⟨h77, h78, z80, rfl, h79⟩ := h74
                have h81 := Fr_trans h72 h78 (by decide +kernel)
                refine En_iast (l := (-2147483648)) (u := 2147483647) rfl rfl tgz_11 (by decide +kernel) (by first | exact q_5eeacb4bec h64 h18 h62 h50 | omega) (lnI (by decide +kernel : LN _ = 16) (by first | exact q_6fc0f4f6fe h64 h22 h62 h4 h54 h8 | omega)) (FTsgl (by decide +kernel)) (fullI _) h77 h81 (by decide +kernel) (fun σ82 h83 h84 h85 h86 => ?_)
                refine En_Ps 1 (pc' := 77) (lv' := [(3, .int ((y42 + Int32.ofInt 1))), (0, .ref 0), (1, .int y10), (2, .int z40)]) (st' := []) rfl ?_
                refine En_lv1 (addI rfl (by decide : (Int32.ofInt 1).toInt = 1) (by first | exact q_465ab79ac1 h50 | omega) (by first | exact q_f7282962fd h51 | omega)) (fun z87 h88 => ?_)
                refine En_Ps 1 (pc' := 40) (lv' := [(3, .int z87), (0, .ref 0), (1, .int y10), (2, .int z40)]) (st' := []) rfl ?_
                refine En_lv (lv := [(0, .ref 0), (1, .int y10), (2, .int z40), (3, .int z87)]) ⟨rfl, rfl, rfl, rfl, trivial⟩ ?_
                exact ih40 σ82 z87 h83 h84 ((h86 _ _ (Or.inl (neTG tgz_0 tgz_11 (by decide)))).trans ((h78 _ _ (inW tgz_0 (by decide +kernel))).trans ((h69 _ _ (inW tgz_0 (by decide +kernel))).trans h46))) ((h86 _ _ (Or.inl (neTG hp tgz_11 (by decide)))).trans ((h78 _ _ (inW hp (by decide +kernel))).trans ((h69 _ _ (inW hp (by decide +kernel))).trans h47))) ((h86 _ _ (Or.inl (neTG hp tgz_11 (by decide)))).trans ((h78 _ _ (inW hp (by decide +kernel))).trans ((h69 _ _ (inW hp (by decide +kernel))).trans h48))) ((h86 _ _ (Or.inl (neTG hp tgz_11 (by decide)))).trans ((h78 _ _ (inW hp (by decide +kernel))).trans ((h69 _ _ (inW hp (by decide +kernel))).trans h49))) (by first | exact q_35104ce9d3 h88 h50 | omega) (by first | exact q_de42116b63 h88 h54 h8 | omega) (by first | exact q_ae2dbf4292 h54 h88 | omega) (by first | exact q_8d03a5a7cb h88 h53 | omega)
          have := (by decide : (Int32.ofInt 0).toInt = 0)
          refine En_lv (lv := [(0, .ref 0), (1, .int y10), (2, .int z40), (3, .int ((Int32.ofInt 0)))]) ⟨rfl, rfl, rfl, rfl, trivial⟩ ?_
          exact key40 (Int.toNat (z2.toInt) + 1) σ36 ((Int32.ofInt 0)) h37 h41 ((h38 _ _ (inW tgz_0 (by decide +kernel))).trans h14) ((h38 _ _ (inW hp (by decide +kernel))).trans h15) ((h38 _ _ (inW hp (by decide +kernel))).trans h16) ((h38 _ _ (inW hp (by decide +kernel))).trans h17) (by decide) (by decide) (by omega) (by first | exact toN_lt _ | omega)
    have := (by decide : (Int32.ofInt 0).toInt = 0)
    refine En_lv (lv := [(0, .ref 0), (1, .int ((Int32.ofInt 0)))]) ⟨rfl, rfl, trivial⟩ ?_
    exact key21 (Int.toNat (z2.toInt) + 1) σ0 ((Int32.ofInt 0)) hσ0 hF0 h_p h_sg h1 h5 (by decide) (by decide) (by omega) (by first | exact toN_lt _ | omega)
  · refine En_Ps 1 (pc' := 18) (lv' := [(0, .ref 0)]) (st' := [.int ((Int32.ofInt 0))]) rfl ?_
    refine En_top (by decide : (Int32.ofInt 0).toInt = 0) (fun z89 h90 => ?_)
    exact En_ret (v := some (.int z89)) rfl rfl (retZ rfl rfl (by first | exact q_55451d0a83 h90 | omega) (by first | exact q_87849c3859 h90 | omega)) ⟨hσ0, hF0, z89, rfl, ⟨by first | exact q_097a37c2ae h90 | omega, by first | exact q_e269517bee h90 | omega⟩⟩
/-- DoorSchool.hanging()I -/
abbrev P_133 (σ0 : SG) (p : Nat) (sg : Int32) : PO := fun v σ => WT σ ∧ Fr [(10, 3), (10, 4), (10, 5), (11, 0), (12, 0), (13, 0)] σ0 σ ∧ ∃ ret : Int32, v = some (.int ret) ∧ True
set_option maxRecDepth 10000 in
set_option maxHeartbeats 4000000 in
theorem c_133 (σ0 : SG) (hσ0 : WT σ0) (p : Nat) (hp : TG p = 18) (h_p : (σ0 0)[9]? = some (.ref p)) (sg : Int32) (h_sg : (σ0 p)[1]? = some (.int sg)) (hp0 : -sg.toInt ≤ 0) : En 9 246 none mr_133 (P_133 σ0 p sg) 0 [(0, .ref 0)] [] σ0 := by
  obtain ⟨hl_sg, hu_sg⟩ := WT_int hσ0 (g := 18) hp (by decide +kernel) (l := (-1)) (u := 4) (by decide +kernel) h_sg
  have hF0 : Fr [(10, 3), (10, 4), (10, 5), (11, 0), (12, 0), (13, 0)] σ0 σ0 := Fr_rfl
  refine En_Ps 1 (pc' := 1) (lv' := [(0, .ref 0)]) (st' := [.ref 0]) rfl ?_
  refine En_getK (j := 9) h_p rfl rfl rfl tgz_0 (by decide +kernel) ?_
  refine En_callV rfl rfl rfl rfl rfl rfl rfl rfl hp (by decide +kernel) rfl (c_43 σ0 hσ0 p hp) (by decide) (by decide) (fun v2 σ3 h1 => ?_)
  obtain ⟨h4, h5, z7, rfl, h6⟩ := h1
  have h8 := Fr_trans hF0 h5 (by decide +kernel)
  refine En_iNe _ rfl rfl (fun h9 => ?_) (fun h9 => ?_)
  · refine En_Ps 1 (pc' := 14) (lv' := [(0, .ref 0)]) (st' := [.ref 0]) rfl ?_
    refine En_callV rfl rfl rfl rfl rfl rfl rfl rfl tgz_0 (by decide +kernel) rfl (c_132 σ3 h4 p hp ((h5 _ _ (inW tgz_0 (by decide +kernel))).trans h_p) sg ((h5 _ _ (inW hp (by decide +kernel))).trans h_sg) (by first | exact q_a555021d16 hp0 | omega)) (by decide) (by decide) (fun v11 σ12 h10 => ?_)
    obtain ⟨h13, h14, z16, rfl, h15⟩ := h10
    have h17 := Fr_trans h8 h14 (by decide +kernel)
    refine En_iEq _ rfl rfl (fun h18 => ?_) (fun h18 => ?_)
    · refine En_Ps 1 (pc' := 31) (lv' := [(0, .ref 0)]) (st' := [.int ((Int32.ofInt (-1)))]) rfl ?_
      refine En_top (by decide : (Int32.ofInt (-1)).toInt = -1) (fun z19 h20 => ?_)
      exact En_ret (v := some (.int z19)) rfl rfl rfl ⟨h13, h17, z19, rfl, trivial⟩
    · refine En_Ps 1 (pc' := 21) (lv' := [(0, .ref 0)]) (st' := [.ref 0]) rfl ?_
      refine En_getU (j := 4) (u := 10) (g' := 10) (q := 0) rfl rfl rfl tgz_0 (by decide +kernel) h13 (by decide +kernel) (by decide +kernel) (fun h21 => ?_)
      refine En_getI (j := 5) (l := (-2147483648)) (u := 2147483647) rfl rfl rfl tgz_10 (by decide +kernel) h13 (by decide +kernel) (fun z24 h23 h25 h26 => ?_)
      refine En_Ps 1 (pc' := 31) (lv' := [(0, .ref 0)]) (st' := [.int z24]) rfl ?_
      exact En_ret (v := some (.int z24)) rfl rfl rfl ⟨h13, h17, z24, rfl, trivial⟩
  · refine En_Ps 1 (pc' := 12) (lv' := [(0, .ref 0)]) (st' := [.int (((Int8.ofInt (-2)).toInt32))]) rfl ?_
    refine En_top (by decide : ((Int8.ofInt (-2)).toInt32).toInt = -2) (fun z27 h28 => ?_)
    exact En_ret (v := some (.int z27)) rfl rfl rfl ⟨h4, h8, z27, rfl, trivial⟩
/-- DoorSchool.hard()I -/
abbrev P_134 (σ0 : SG) (p : Nat) (sg : Int32) : PO := fun v σ => WT σ ∧ Fr [] σ0 σ ∧ ∃ ret : Int32, v = some (.int ret) ∧ -ret.toInt - 2 ≤ 0 ∧ ret.toInt - 8191 ≤ 0
set_option maxRecDepth 10000 in
set_option maxHeartbeats 4000000 in
theorem c_134 (σ0 : SG) (hσ0 : WT σ0) (p : Nat) (hp : TG p = 18) (h_p : (σ0 0)[9]? = some (.ref p)) (sg : Int32) (h_sg : (σ0 p)[1]? = some (.int sg)) (hp0 : -sg.toInt ≤ 0) : En 4 92 none mr_134 (P_134 σ0 p sg) 0 [(0, .ref 0)] [] σ0 := by
  obtain ⟨hl_sg, hu_sg⟩ := WT_int hσ0 (g := 18) hp (by decide +kernel) (l := (-1)) (u := 4) (by decide +kernel) h_sg
  have hF0 : Fr [] σ0 σ0 := Fr_rfl
  refine En_Ps 1 (pc' := 1) (lv' := [(0, .ref 0)]) (st' := [.ref 0]) rfl ?_
  refine En_getK (j := 9) h_p rfl rfl rfl tgz_0 (by decide +kernel) ?_
  refine En_callV rfl rfl rfl rfl rfl rfl rfl rfl hp (by decide +kernel) rfl (c_43 σ0 hσ0 p hp) (by decide) (by decide) (fun v2 σ3 h1 => ?_)
  obtain ⟨h4, h5, z7, rfl, h6⟩ := h1
  have h8 := Fr_trans hF0 h5 (by decide +kernel)
  refine En_iNe _ rfl rfl (fun h9 => ?_) (fun h9 => ?_)
  · refine En_Ps 2 (pc' := 15) (lv' := [(0, .ref 0)]) (st' := [.ref 0, .int ((Int32.ofInt 1))]) rfl ?_
    refine En_getK (j := 9) ((h5 _ _ (inW tgz_0 (by decide +kernel))).trans h_p) rfl rfl rfl tgz_0 (by decide +kernel) ?_
    refine En_getR (j := 5) (g' := 20) (u := 0) rfl rfl rfl hp (by decide +kernel) h4 (by decide +kernel) (fun a11 h10 ha11 => ?_)
    refine En_getI (j := 2) (l := 0) (u := 13) rfl rfl rfl ha11 (by decide +kernel) h4 (by decide +kernel) (fun z13 h12 h14 h15 => ?_)
    refine En_Ps 1 (pc' := 25) (lv' := [(0, .ref 0)]) (st' := [.int ((((Int32.ofInt 1)) <<< (z13 &&& 31)))]) rfl ?_
    refine En_rng (shl1_p 13 rfl (by omega) (by omega) (by decide)) (fun z16 h17 h18 => ?_)
    refine En_Ps 2 (pc' := 27) (lv' := [(0, .ref 0)]) (st' := [.int ((z16 - ((Int32.ofInt 1))))]) rfl ?_
    refine En_top (subI rfl (by decide : (Int32.ofInt 1).toInt = 1) (by first | exact q_96dadfce4b h17 | omega) (by first | exact q_db04968c7a h18 | omega)) (fun z19 h20 => ?_)
    refine En_Ps 3 (pc' := 30) (lv' := [(2, .int ((Int32.ofInt 0))), (1, .int z19), (0, .ref 0)]) (st' := []) rfl ?_
    have key30 : ∀ (n30 : Nat) (σ23 : SG) (y21 : Int32) (y22 : Int32), WT σ23 → Fr [] σ0 σ23 → (σ23 0)[9]? = some (.ref p) → (σ23 p)[1]? = some (.int sg) → (σ23 p)[5]? = some (.ref a11) → (σ23 a11)[2]? = some (.int z13) → 0 ≤ y21.toInt → y21.toInt ≤ 8191 → 0 ≤ y22.toInt → y22.toInt ≤ 4 → -y22.toInt + 4 < (n30 : Int) → En 4 92 none mr_134 (P_134 σ0 p sg) 30 [(0, .ref 0), (1, .int y21), (2, .int y22)] [] σ23 := by
      intro n30
      induction n30 with
      | zero =>
        intro σ23 y21 y22 h24 h25 h26 h27 h28 h29 h30 h31 h32 h33 h34
        first | exact (q_20d6385c6f h34 h33).elim | (exfalso; omega)
      | succ n30 ih30 =>
        intro σ23 y21 y22 h24 h25 h26 h27 h28 h29 h30 h31 h32 h33 h34
        refine En_Ps 2 (pc' := 32) (lv' := [(0, .ref 0), (1, .int y21), (2, .int y22)]) (st' := [.ref 0, .int y22]) rfl ?_
        refine En_getK (j := 9) h26 rfl rfl rfl tgz_0 (by decide +kernel) ?_
        refine En_getI (j := 3) (l := 0) (u := 4) rfl rfl rfl hp (by decide +kernel) h24 (by decide +kernel) (fun z36 h35 h37 h38 => ?_)
        refine En_icGe _ rfl rfl rfl (fun h39 => ?_) (fun h39 => ?_)
        · refine En_Ps 1 (pc' := 68) (lv' := [(0, .ref 0), (1, .int y21), (2, .int y22)]) (st' := [.int y21]) rfl ?_
          exact En_ret (v := some (.int y21)) rfl rfl rfl ⟨h24, h25, y21, rfl, ⟨by first | exact q_ea7f0ffdb1 h30 | omega, by first | exact q_23b8b6a2d5 h31 | omega⟩⟩
        · refine En_Ps 2 (pc' := 43) (lv' := [(0, .ref 0), (1, .int y21), (2, .int y22)]) (st' := [.ref 0, .int y21]) rfl ?_
          refine En_getK (j := 9) h26 rfl rfl rfl tgz_0 (by decide +kernel) ?_
          refine En_getK (j := 5) h28 rfl rfl rfl hp (by decide +kernel) ?_
          refine En_Ps 2 (pc' := 51) (lv' := [(0, .ref 0), (1, .int y21), (2, .int y22)]) (st' := [.int y22, .ref 0, .ref a11, .int y21]) rfl ?_
          refine En_callV rfl rfl rfl rfl rfl rfl rfl rfl tgz_0 (by decide +kernel) rfl (c_114 σ23 h24 y22 (geI rfl (by first | exact q_58e6e51dcc h32 | omega)) (leI rfl (by first | exact q_5ab2e90ecc h39 h38 | omega)) p hp h26 sg h27 (by first | exact q_a555021d16 hp0 | omega)) (by decide) (by decide) (fun v41 σ42 h40 => ?_)
          obtain ⟨h43, h44, z46, rfl, h45⟩ := h40
          have h47 := Fr_trans h25 h44 (by decide +kernel)
          refine En_callV rfl rfl rfl rfl rfl rfl rfl rfl ha11 (by decide +kernel) rfl (c_32 σ42 h43 a11 ha11 z46) (by decide) (by decide) (fun v49 σ50 h48 => ?_)
          obtain ⟨h51, h52, z54, rfl, h53⟩ := h48
          have h55 := Fr_trans h47 h52 (by decide +kernel)
          refine En_Ps 2 (pc' := 59) (lv' := [(0, .ref 0), (1, .int y21), (2, .int y22)]) (st' := [.int ((z54 ^^^ ((Int32.ofInt (-1))))), .int y21]) rfl ?_
          refine En_nam (fun z56 h57 => ?_)
          refine En_Ps 1 (pc' := 60) (lv' := [(0, .ref 0), (1, .int y21), (2, .int y22)]) (st' := [.int ((y21 &&& z56))]) rfl ?_
          refine En_nam (fun z58 h59 => ?_)
          obtain ⟨h60, h61⟩ := andn_rng h59 rfl (by omega) (by omega : _ ≤ (8191 : Int))
          refine En_Ps 2 (pc' := 64) (lv' := [(2, .int ((y22 + Int32.ofInt 1))), (1, .int z58), (0, .ref 0)]) (st' := []) rfl ?_
          refine En_lv1 (addI rfl (by decide : (Int32.ofInt 1).toInt = 1) (by first | exact q_465ab79ac1 h32 | omega) (by first | exact q_f7282962fd h33 | omega)) (fun z62 h63 => ?_)
          refine En_Ps 1 (pc' := 30) (lv' := [(2, .int z62), (1, .int z58), (0, .ref 0)]) (st' := []) rfl ?_
          refine En_lv (lv := [(0, .ref 0), (1, .int z58), (2, .int z62)]) ⟨rfl, rfl, rfl, trivial⟩ ?_
          exact ih30 σ50 z58 z62 h51 h55 ((h52 _ _ (inW tgz_0 (by decide +kernel))).trans ((h44 _ _ (inW tgz_0 (by decide +kernel))).trans h26)) ((h52 _ _ (inW hp (by decide +kernel))).trans ((h44 _ _ (inW hp (by decide +kernel))).trans h27)) ((h52 _ _ (inW hp (by decide +kernel))).trans ((h44 _ _ (inW hp (by decide +kernel))).trans h28)) ((h52 _ _ (inW ha11 (by decide +kernel))).trans ((h44 _ _ (inW ha11 (by decide +kernel))).trans h29)) (by omega) (by omega) (by first | exact q_35104ce9d3 h63 h32 | omega) (by first | exact q_de42116b63 h63 h39 h38 | omega) (by first | exact q_3d8d70ace2 h63 h34 | omega)
    have := (by decide : (Int32.ofInt 0).toInt = 0)
    refine En_lv (lv := [(0, .ref 0), (1, .int z19), (2, .int ((Int32.ofInt 0)))]) ⟨rfl, rfl, rfl, trivial⟩ ?_
    exact key30 (Int.toNat (4) + 1) σ3 z19 ((Int32.ofInt 0)) h4 h8 ((h5 _ _ (inW tgz_0 (by decide +kernel))).trans h_p) ((h5 _ _ (inW hp (by decide +kernel))).trans h_sg) h10 h12 (by first | exact q_00529e3716 h20 h17 | omega) (by first | exact q_67d26d8395 h20 h18 | omega) (by decide) (by decide) (by first | exact toN_lt _ | omega)
  · refine En_Ps 1 (pc' := 12) (lv' := [(0, .ref 0)]) (st' := [.int (((Int8.ofInt (-2)).toInt32))]) rfl ?_
    refine En_top (by decide : ((Int8.ofInt (-2)).toInt32).toInt = -2) (fun z64 h65 => ?_)
    exact En_ret (v := some (.int z64)) rfl rfl rfl ⟨h4, h8, z64, rfl, ⟨by first | exact q_f35c5d346c h65 | omega, by first | exact q_55a330f117 h65 | omega⟩⟩
/-- DoorSchool.hours()I -/
abbrev P_137 (σ0 : SG) (p : Nat) (sg : Int32) : PO := fun v σ => WT σ ∧ Fr [(14, 3), (14, 4), (15, 0), (16, 0), (17, 0)] σ0 σ ∧ ∃ ret : Int32, v = some (.int ret) ∧ -ret.toInt - 2 ≤ 0 ∧ ret.toInt - 1000 ≤ 0
set_option maxRecDepth 10000 in
set_option maxHeartbeats 4000000 in
theorem c_137 (σ0 : SG) (hσ0 : WT σ0) (p : Nat) (hp : TG p = 18) (h_p : (σ0 0)[9]? = some (.ref p)) (sg : Int32) (h_sg : (σ0 p)[1]? = some (.int sg)) (hp0 : -sg.toInt ≤ 0) : En 11 292 none mr_137 (P_137 σ0 p sg) 0 [(0, .ref 0)] [] σ0 := by
  obtain ⟨hl_sg, hu_sg⟩ := WT_int hσ0 (g := 18) hp (by decide +kernel) (l := (-1)) (u := 4) (by decide +kernel) h_sg
  have hF0 : Fr [(14, 3), (14, 4), (15, 0), (16, 0), (17, 0)] σ0 σ0 := Fr_rfl
  refine En_Ps 1 (pc' := 1) (lv' := [(0, .ref 0)]) (st' := [.ref 0]) rfl ?_
  refine En_getK (j := 9) h_p rfl rfl rfl tgz_0 (by decide +kernel) ?_
  refine En_callV rfl rfl rfl rfl rfl rfl rfl rfl hp (by decide +kernel) rfl (c_43 σ0 hσ0 p hp) (by decide) (by decide) (fun v2 σ3 h1 => ?_)
  obtain ⟨h4, h5, z7, rfl, h6⟩ := h1
  have h8 := Fr_trans hF0 h5 (by decide +kernel)
  refine En_iEq _ rfl rfl (fun h9 => ?_) (fun h9 => ?_)
  · refine En_Ps 1 (pc' := 33) (lv' := [(0, .ref 0)]) (st' := [.int (((Int8.ofInt (-2)).toInt32))]) rfl ?_
    refine En_top (by decide : ((Int8.ofInt (-2)).toInt32).toInt = -2) (fun z10 h11 => ?_)
    exact En_ret (v := some (.int z10)) rfl rfl rfl ⟨h4, h8, z10, rfl, ⟨by first | exact q_f35c5d346c h11 | omega, by first | exact q_a2119e8b7a h11 | omega⟩⟩
  · refine En_Ps 1 (pc' := 11) (lv' := [(0, .ref 0)]) (st' := [.ref 0]) rfl ?_
    refine En_getU (j := 5) (u := 14) (g' := 14) (q := 0) rfl rfl rfl tgz_0 (by decide +kernel) h4 (by decide +kernel) (by decide +kernel) (fun h12 => ?_)
    refine En_Ps 1 (pc' := 15) (lv' := [(0, .ref 0)]) (st' := [.ref 0, .ref 14]) rfl ?_
    refine En_getK (j := 9) ((h5 _ _ (inW tgz_0 (by decide +kernel))).trans h_p) rfl rfl rfl tgz_0 (by decide +kernel) ?_
    refine En_Ps 1 (pc' := 19) (lv' := [(0, .ref 0)]) (st' := [.ref 0, .ref p, .ref 14]) rfl ?_
    refine En_getK (j := 9) ((h5 _ _ (inW tgz_0 (by decide +kernel))).trans h_p) rfl rfl rfl tgz_0 (by decide +kernel) ?_
    refine En_getI (j := 2) (l := (-1)) (u := 3) rfl rfl rfl hp (by decide +kernel) h4 (by decide +kernel) (fun z15 h14 h16 h17 => ?_)
    refine En_callV rfl rfl rfl rfl rfl rfl rfl rfl tgz_14 (by decide +kernel) rfl (c_98 σ3 h4 p hp z15 (geI rfl (by first | exact q_77b189e83d h16 | omega)) (leI rfl (by first | exact q_571ae29550 h17 | omega))) (by decide) (by decide) (fun v19 σ20 h18 => ?_)
    obtain ⟨h21, h22, z24, rfl, h23⟩ := h18
    have h25 := Fr_trans h8 h22 (by decide +kernel)
    refine En_Ps 1 (pc' := 33) (lv' := [(0, .ref 0)]) (st' := [.int z24]) rfl ?_
    exact En_ret (v := some (.int z24)) rfl rfl rfl ⟨h21, h25, z24, rfl, ⟨by first | exact q_70a249c7f8 h23.1 | omega, by first | exact q_1655d09eed h23.2 | omega⟩⟩
/-- DoorSchool.house(II)I -/
abbrev P_138 (σ0 : SG) (a : Int32) (b : Int32) (p : Nat) (sg : Int32) : PO := fun v σ => WT σ ∧ Fr [] σ0 σ ∧ ∃ ret : Int32, v = some (.int ret) ∧ -ret.toInt - 2 ≤ 0 ∧ ret.toInt - 63 ≤ 0
set_option maxRecDepth 10000 in
set_option maxHeartbeats 4000000 in
theorem c_138 (σ0 : SG) (hσ0 : WT σ0) (a : Int32) (b : Int32) (p : Nat) (hp : TG p = 18) (h_p : (σ0 0)[9]? = some (.ref p)) (sg : Int32) (h_sg : (σ0 p)[1]? = some (.int sg)) (hp0 : -sg.toInt ≤ 0) : En 1 24 none mr_138 (P_138 σ0 a b p sg) 0 [(0, .ref 0), (1, .int a), (2, .int b)] [] σ0 := by
  obtain ⟨hl_sg, hu_sg⟩ := WT_int hσ0 (g := 18) hp (by decide +kernel) (l := (-1)) (u := 4) (by decide +kernel) h_sg
  have hF0 : Fr [] σ0 σ0 := Fr_rfl
  refine En_Ps 1 (pc' := 1) (lv' := [(0, .ref 0), (1, .int a), (2, .int b)]) (st' := [.ref 0]) rfl ?_
  refine En_getK (j := 9) h_p rfl rfl rfl tgz_0 (by decide +kernel) ?_
  refine En_callV rfl rfl rfl rfl rfl rfl rfl rfl hp (by decide +kernel) rfl (c_43 σ0 hσ0 p hp) (by decide) (by decide) (fun v2 σ3 h1 => ?_)
  obtain ⟨h4, h5, z7, rfl, h6⟩ := h1
  have h8 := Fr_trans hF0 h5 (by decide +kernel)
  refine En_iEq _ rfl rfl (fun h9 => ?_) (fun h9 => ?_)
  · refine En_Ps 1 (pc' := 28) (lv' := [(0, .ref 0), (1, .int a), (2, .int b)]) (st' := [.int (((Int8.ofInt (-2)).toInt32))]) rfl ?_
    refine En_top (by decide : ((Int8.ofInt (-2)).toInt32).toInt = -2) (fun z10 h11 => ?_)
    exact En_ret (v := some (.int z10)) rfl rfl rfl ⟨h4, h8, z10, rfl, ⟨by first | exact q_f35c5d346c h11 | omega, by first | exact q_443ead751f h11 | omega⟩⟩
  · refine En_Ps 2 (pc' := 12) (lv' := [(0, .ref 0), (1, .int a), (2, .int b)]) (st' := [.int ((Int32.ofInt (-1))), .int a]) rfl ?_
    refine En_icEq _ rfl (by decide : (Int32.ofInt (-1)).toInt = -1) rfl (fun h12 => ?_) (fun h12 => ?_)
    · refine En_Ps 2 (pc' := 31) (lv' := [(0, .ref 0), (1, .int a), (2, .int b)]) (st' := [.int ((Int32.ofInt (-1))), .int a]) rfl ?_
      refine En_icNe _ rfl (by decide : (Int32.ofInt (-1)).toInt = -1) rfl (fun hx => by first | exact (q_9d3c087e80 hx h12).elim | (exfalso; omega)) (fun h13 => ?_)
      refine En_Ps 1 (pc' := 35) (lv' := [(0, .ref 0), (1, .int a), (2, .int b)]) (st' := [.ref 0]) rfl ?_
      refine En_getK (j := 9) ((h5 _ _ (inW tgz_0 (by decide +kernel))).trans h_p) rfl rfl rfl tgz_0 (by decide +kernel) ?_
      refine En_getI (j := 6) (l := 0) (u := 15) rfl rfl rfl hp (by decide +kernel) h4 (by decide +kernel) (fun z15 h14 h16 h17 => ?_)
      refine En_Ps 4 (pc' := 56) (lv' := [(3, .int z15), (0, .ref 0), (1, .int a), (2, .int b)]) (st' := [.int ((Int32.ofInt (-1))), .int a]) rfl ?_
      refine En_icNe _ rfl (by decide : (Int32.ofInt (-1)).toInt = -1) rfl (fun hx => by first | exact (q_9d3c087e80 hx h12).elim | (exfalso; omega)) (fun h18 => ?_)
      refine En_Ps 1 (pc' := 60) (lv' := [(3, .int z15), (0, .ref 0), (1, .int a), (2, .int b)]) (st' := [.ref 0]) rfl ?_
      refine En_getK (j := 9) ((h5 _ _ (inW tgz_0 (by decide +kernel))).trans h_p) rfl rfl rfl tgz_0 (by decide +kernel) ?_
      refine En_getI (j := 7) (l := 0) (u := 15) rfl rfl rfl hp (by decide +kernel) h4 (by decide +kernel) (fun z20 h19 h21 h22 => ?_)
      refine En_Ps 3 (pc' := 81) (lv' := [(4, .int z20), (3, .int z15), (0, .ref 0), (1, .int a), (2, .int b)]) (st' := [.int b]) rfl ?_
      rcases (show b.toInt = 0 ∨ b.toInt = 1 ∨ b.toInt = 2 ∨ b.toInt < 0 ∨ 2 < b.toInt by omega) with h23 | h23 | h23 | h23 | h23
      · refine En_swI (t := 108) (n := 0) rfl h23 rfl (by decide +kernel) ?_
        refine En_Ps 1 (pc' := 109) (lv' := [(4, .int z20), (3, .int z15), (0, .ref 0), (1, .int a), (2, .int b)]) (st' := [.int z15]) rfl ?_
        exact En_ret (v := some (.int z15)) rfl rfl rfl ⟨h4, h8, z15, rfl, ⟨by first | exact q_ea7f0ffdb1 h16 | omega, by first | exact q_44d6f75ba8 h17 | omega⟩⟩
      · refine En_swI (t := 110) (n := 1) rfl h23 rfl (by decide +kernel) ?_
        refine En_Ps 1 (pc' := 112) (lv' := [(4, .int z20), (3, .int z15), (0, .ref 0), (1, .int a), (2, .int b)]) (st' := [.int z20]) rfl ?_
        exact En_ret (v := some (.int z20)) rfl rfl rfl ⟨h4, h8, z20, rfl, ⟨by first | exact q_ea7f0ffdb1 h21 | omega, by first | exact q_44d6f75ba8 h22 | omega⟩⟩
      · refine En_swI (t := 113) (n := 2) rfl h23 rfl (by decide +kernel) ?_
        refine En_Ps 1 (pc' := 114) (lv' := [(4, .int z20), (3, .int z15), (0, .ref 0), (1, .int a), (2, .int b)]) (st' := [.ref 0]) rfl ?_
        refine En_getU (j := 2) (u := 4) (g' := 4) (q := 0) rfl rfl rfl tgz_0 (by decide +kernel) h4 (by decide +kernel) (by decide +kernel) (fun h24 => ?_)
        refine En_Ps 2 (pc' := 120) (lv' := [(4, .int z20), (3, .int z15), (0, .ref 0), (1, .int a), (2, .int b)]) (st' := [.int z20, .int z15, .ref 4]) rfl ?_
        refine En_callV rfl rfl rfl rfl rfl rfl rfl rfl tgz_4 (by decide +kernel) rfl (c_77 σ3 h4 z15 z20) (by decide) (by decide) (fun v27 σ28 h26 => ?_)
        obtain ⟨h29, h30, z32, rfl, h31⟩ := h26
        have h33 := Fr_trans h8 h30 (by decide +kernel)
        refine En_callS rfl rfl rfl rfl rfl rfl rfl rfl rfl (c_7 σ28 h29 z32) (by decide) (by decide) (fun v35 σ36 h34 => ?_)
        obtain ⟨h37, h38, z40, rfl, h39⟩ := h34
        have h41 := Fr_trans h33 h38 (by decide +kernel)
        exact En_ret (v := some (.int z40)) rfl rfl rfl ⟨h37, h41, z40, rfl, ⟨by first | exact q_70a249c7f8 h39.1 | omega, by first | exact q_4b9206e141 h39.2 | omega⟩⟩
      · refine En_swO (t := 127) rfl (by omega) rfl (by decide +kernel) ?_
        refine En_Ps 1 (pc' := 129) (lv' := [(4, .int z20), (3, .int z15), (0, .ref 0), (1, .int a), (2, .int b)]) (st' := [.int (((Int8.ofInt (-2)).toInt32))]) rfl ?_
        refine En_top (by decide : ((Int8.ofInt (-2)).toInt32).toInt = -2) (fun z42 h43 => ?_)
        exact En_ret (v := some (.int z42)) rfl rfl rfl ⟨h4, h8, z42, rfl, ⟨by first | exact q_f35c5d346c h43 | omega, by first | exact q_443ead751f h43 | omega⟩⟩
      · refine En_swO (t := 127) rfl (by omega) rfl (by decide +kernel) ?_
        refine En_Ps 1 (pc' := 129) (lv' := [(4, .int z20), (3, .int z15), (0, .ref 0), (1, .int a), (2, .int b)]) (st' := [.int (((Int8.ofInt (-2)).toInt32))]) rfl ?_
        refine En_top (by decide : ((Int8.ofInt (-2)).toInt32).toInt = -2) (fun z44 h45 => ?_)
        exact En_ret (v := some (.int z44)) rfl rfl rfl ⟨h4, h8, z44, rfl, ⟨by first | exact q_f35c5d346c h45 | omega, by first | exact q_443ead751f h45 | omega⟩⟩
    · refine En_Ps 1 (pc' := 16) (lv' := [(0, .ref 0), (1, .int a), (2, .int b)]) (st' := [.ref 0]) rfl ?_
      refine En_getK (j := 9) ((h5 _ _ (inW tgz_0 (by decide +kernel))).trans h_p) rfl rfl rfl tgz_0 (by decide +kernel) ?_
      refine En_Ps 1 (pc' := 20) (lv' := [(0, .ref 0), (1, .int a), (2, .int b)]) (st' := [.int a, .ref p]) rfl ?_
      refine En_callV rfl rfl rfl rfl rfl rfl rfl rfl hp (by decide +kernel) rfl (c_48 σ3 h4 p hp a) (by decide) (by decide) (fun v47 σ48 h46 => ?_)
      obtain ⟨h49, h50, z52, rfl, h51⟩ := h46
      have h53 := Fr_trans h8 h50 (by decide +kernel)
      refine En_iNe _ rfl rfl (fun h54 => ?_) (fun h54 => ?_)
      · refine En_Ps 2 (pc' := 31) (lv' := [(0, .ref 0), (1, .int a), (2, .int b)]) (st' := [.int ((Int32.ofInt (-1))), .int a]) rfl ?_
        refine En_icNe _ rfl (by decide : (Int32.ofInt (-1)).toInt = -1) rfl (fun h55 => ?_) (fun hx => by exfalso; omega)
        refine En_Ps 1 (pc' := 45) (lv' := [(0, .ref 0), (1, .int a), (2, .int b)]) (st' := [.ref 0]) rfl ?_
        refine En_getK (j := 9) ((h50 _ _ (inW tgz_0 (by decide +kernel))).trans ((h5 _ _ (inW tgz_0 (by decide +kernel))).trans h_p)) rfl rfl rfl tgz_0 (by decide +kernel) ?_
        refine En_getR (j := 9) (g' := 23) (u := 0) rfl rfl rfl hp (by decide +kernel) h49 (by decide +kernel) (fun a57 h56 ha57 => ?_)
        refine En_Ps 1 (pc' := 52) (lv' := [(0, .ref 0), (1, .int a), (2, .int b)]) (st' := [.int a, .ref a57]) rfl ?_
        refine En_iald (l := 0) (u := 15) rfl rfl ha57 (by decide +kernel) h49 (by omega) (lnI (by decide +kernel : LN _ = 4) (by omega)) (FTsgl (by decide +kernel)) (fun z59 h58 h60 h61 => ?_)
        refine En_Ps 3 (pc' := 56) (lv' := [(3, .int z59), (0, .ref 0), (1, .int a), (2, .int b)]) (st' := [.int ((Int32.ofInt (-1))), .int a]) rfl ?_
        refine En_icNe _ rfl (by decide : (Int32.ofInt (-1)).toInt = -1) rfl (fun h62 => ?_) (fun hx => by exfalso; omega)
        refine En_Ps 1 (pc' := 70) (lv' := [(3, .int z59), (0, .ref 0), (1, .int a), (2, .int b)]) (st' := [.ref 0]) rfl ?_
        refine En_getK (j := 9) ((h50 _ _ (inW tgz_0 (by decide +kernel))).trans ((h5 _ _ (inW tgz_0 (by decide +kernel))).trans h_p)) rfl rfl rfl tgz_0 (by decide +kernel) ?_
        refine En_getR (j := 10) (g' := 24) (u := 0) rfl rfl rfl hp (by decide +kernel) h49 (by decide +kernel) (fun a64 h63 ha64 => ?_)
        refine En_Ps 1 (pc' := 77) (lv' := [(3, .int z59), (0, .ref 0), (1, .int a), (2, .int b)]) (st' := [.int a, .ref a64]) rfl ?_
        refine En_iald (l := 0) (u := 15) rfl rfl ha64 (by decide +kernel) h49 (by omega) (lnI (by decide +kernel : LN _ = 4) (by omega)) (FTsgl (by decide +kernel)) (fun z66 h65 h67 h68 => ?_)
        refine En_Ps 2 (pc' := 81) (lv' := [(4, .int z66), (3, .int z59), (0, .ref 0), (1, .int a), (2, .int b)]) (st' := [.int b]) rfl ?_
        rcases (show b.toInt = 0 ∨ b.toInt = 1 ∨ b.toInt = 2 ∨ b.toInt < 0 ∨ 2 < b.toInt by omega) with h69 | h69 | h69 | h69 | h69
        · refine En_swI (t := 108) (n := 0) rfl h69 rfl (by decide +kernel) ?_
          refine En_Ps 1 (pc' := 109) (lv' := [(4, .int z66), (3, .int z59), (0, .ref 0), (1, .int a), (2, .int b)]) (st' := [.int z59]) rfl ?_
          exact En_ret (v := some (.int z59)) rfl rfl rfl ⟨h49, h53, z59, rfl, ⟨by first | exact q_ea7f0ffdb1 h60 | omega, by first | exact q_44d6f75ba8 h61 | omega⟩⟩
        · refine En_swI (t := 110) (n := 1) rfl h69 rfl (by decide +kernel) ?_
          refine En_Ps 1 (pc' := 112) (lv' := [(4, .int z66), (3, .int z59), (0, .ref 0), (1, .int a), (2, .int b)]) (st' := [.int z66]) rfl ?_
          exact En_ret (v := some (.int z66)) rfl rfl rfl ⟨h49, h53, z66, rfl, ⟨by first | exact q_ea7f0ffdb1 h67 | omega, by first | exact q_44d6f75ba8 h68 | omega⟩⟩
        · refine En_swI (t := 113) (n := 2) rfl h69 rfl (by decide +kernel) ?_
          refine En_Ps 1 (pc' := 114) (lv' := [(4, .int z66), (3, .int z59), (0, .ref 0), (1, .int a), (2, .int b)]) (st' := [.ref 0]) rfl ?_
          refine En_getU (j := 2) (u := 4) (g' := 4) (q := 0) rfl rfl rfl tgz_0 (by decide +kernel) h49 (by decide +kernel) (by decide +kernel) (fun h70 => ?_)
          refine En_Ps 2 (pc' := 120) (lv' := [(4, .int z66), (3, .int z59), (0, .ref 0), (1, .int a), (2, .int b)]) (st' := [.int z66, .int z59, .ref 4]) rfl ?_
          refine En_callV rfl rfl rfl rfl rfl rfl rfl rfl tgz_4 (by decide +kernel) rfl (c_77 σ48 h49 z59 z66) (by decide) (by decide) (fun v73 σ74 h72 => ?_)
          obtain ⟨h75, h76, z78, rfl, h77⟩ := h72
          have h79 := Fr_trans h53 h76 (by decide +kernel)
          refine En_callS rfl rfl rfl rfl rfl rfl rfl rfl rfl (c_7 σ74 h75 z78) (by decide) (by decide) (fun v81 σ82 h80 => ?_)
          obtain ⟨h83, h84, z86, rfl, h85⟩ := h80
          have h87 := Fr_trans h79 h84 (by decide +kernel)
          exact En_ret (v := some (.int z86)) rfl rfl rfl ⟨h83, h87, z86, rfl, ⟨by first | exact q_70a249c7f8 h85.1 | omega, by first | exact q_4b9206e141 h85.2 | omega⟩⟩
        · refine En_swO (t := 127) rfl (by omega) rfl (by decide +kernel) ?_
          refine En_Ps 1 (pc' := 129) (lv' := [(4, .int z66), (3, .int z59), (0, .ref 0), (1, .int a), (2, .int b)]) (st' := [.int (((Int8.ofInt (-2)).toInt32))]) rfl ?_
          refine En_top (by decide : ((Int8.ofInt (-2)).toInt32).toInt = -2) (fun z88 h89 => ?_)
          exact En_ret (v := some (.int z88)) rfl rfl rfl ⟨h49, h53, z88, rfl, ⟨by first | exact q_f35c5d346c h89 | omega, by first | exact q_443ead751f h89 | omega⟩⟩
        · refine En_swO (t := 127) rfl (by omega) rfl (by decide +kernel) ?_
          refine En_Ps 1 (pc' := 129) (lv' := [(4, .int z66), (3, .int z59), (0, .ref 0), (1, .int a), (2, .int b)]) (st' := [.int (((Int8.ofInt (-2)).toInt32))]) rfl ?_
          refine En_top (by decide : ((Int8.ofInt (-2)).toInt32).toInt = -2) (fun z90 h91 => ?_)
          exact En_ret (v := some (.int z90)) rfl rfl rfl ⟨h49, h53, z90, rfl, ⟨by first | exact q_f35c5d346c h91 | omega, by first | exact q_443ead751f h91 | omega⟩⟩
      · refine En_Ps 1 (pc' := 28) (lv' := [(0, .ref 0), (1, .int a), (2, .int b)]) (st' := [.int (((Int8.ofInt (-2)).toInt32))]) rfl ?_
        refine En_top (by decide : ((Int8.ofInt (-2)).toInt32).toInt = -2) (fun z92 h93 => ?_)
        exact En_ret (v := some (.int z92)) rfl rfl rfl ⟨h49, h53, z92, rfl, ⟨by first | exact q_f35c5d346c h93 | omega, by first | exact q_443ead751f h93 | omega⟩⟩
/-- DoorSchool.hung(I)I -/
abbrev P_140 (σ0 : SG) (a : Int32) (p : Nat) (sg : Int32) : PO := fun v σ => WT σ ∧ Fr [(10, 3), (10, 4), (10, 5), (11, 0), (12, 0), (13, 0)] σ0 σ ∧ ∃ ret : Int32, v = some (.int ret) ∧ -ret.toInt - 2 ≤ 0 ∧ ret.toInt - 3 ≤ 0
set_option maxRecDepth 10000 in
set_option maxHeartbeats 4000000 in
theorem c_140 (σ0 : SG) (hσ0 : WT σ0) (a : Int32) (p : Nat) (hp : TG p = 18) (h_p : (σ0 0)[9]? = some (.ref p)) (sg : Int32) (h_sg : (σ0 p)[1]? = some (.int sg)) (hp0 : -sg.toInt ≤ 0) : En 9 246 none mr_140 (P_140 σ0 a p sg) 0 [(0, .ref 0), (1, .int a)] [] σ0 := by
  obtain ⟨hl_sg, hu_sg⟩ := WT_int hσ0 (g := 18) hp (by decide +kernel) (l := (-1)) (u := 4) (by decide +kernel) h_sg
  have hF0 : Fr [(10, 3), (10, 4), (10, 5), (11, 0), (12, 0), (13, 0)] σ0 σ0 := Fr_rfl
  refine En_Ps 1 (pc' := 1) (lv' := [(0, .ref 0), (1, .int a)]) (st' := [.ref 0]) rfl ?_
  refine En_getK (j := 9) h_p rfl rfl rfl tgz_0 (by decide +kernel) ?_
  refine En_Ps 1 (pc' := 5) (lv' := [(0, .ref 0), (1, .int a)]) (st' := [.int a, .ref p]) rfl ?_
  refine En_callV rfl rfl rfl rfl rfl rfl rfl rfl hp (by decide +kernel) rfl (c_48 σ0 hσ0 p hp a) (by decide) (by decide) (fun v2 σ3 h1 => ?_)
  obtain ⟨h4, h5, z7, rfl, h6⟩ := h1
  have h8 := Fr_trans hF0 h5 (by decide +kernel)
  refine En_iNe _ rfl rfl (fun h9 => ?_) (fun h9 => ?_)
  · refine En_Ps 1 (pc' := 15) (lv' := [(0, .ref 0), (1, .int a)]) (st' := [.ref 0]) rfl ?_
    refine En_callV rfl rfl rfl rfl rfl rfl rfl rfl tgz_0 (by decide +kernel) rfl (c_132 σ3 h4 p hp ((h5 _ _ (inW tgz_0 (by decide +kernel))).trans h_p) sg ((h5 _ _ (inW hp (by decide +kernel))).trans h_sg) (by first | exact q_a555021d16 hp0 | omega)) (by decide) (by decide) (fun v11 σ12 h10 => ?_)
    obtain ⟨h13, h14, z16, rfl, h15⟩ := h10
    have h17 := Fr_trans h8 h14 (by decide +kernel)
    refine En_iEq _ rfl rfl (fun h18 => ?_) (fun h18 => ?_)
    · refine En_Ps 1 (pc' := 34) (lv' := [(0, .ref 0), (1, .int a)]) (st' := [.int ((Int32.ofInt (-1)))]) rfl ?_
      refine En_top (by decide : (Int32.ofInt (-1)).toInt = -1) (fun z19 h20 => ?_)
      exact En_ret (v := some (.int z19)) rfl rfl rfl ⟨h13, h17, z19, rfl, ⟨by first | exact q_e1de8c7867 h20 | omega, by first | exact q_cca129732b h20 | omega⟩⟩
    · refine En_Ps 1 (pc' := 22) (lv' := [(0, .ref 0), (1, .int a)]) (st' := [.ref 0]) rfl ?_
      refine En_getU (j := 4) (u := 10) (g' := 10) (q := 0) rfl rfl rfl tgz_0 (by decide +kernel) h13 (by decide +kernel) (by decide +kernel) (fun h21 => ?_)
      refine En_getU (j := 2) (u := 13) (g' := 13) (q := 0) rfl rfl rfl tgz_10 (by decide +kernel) h13 (by decide +kernel) (by decide +kernel) (fun h23 => ?_)
      refine En_Ps 1 (pc' := 29) (lv' := [(0, .ref 0), (1, .int a)]) (st' := [.int a, .ref 13]) rfl ?_
      refine En_iald (l := 0) (u := 3) rfl rfl tgz_13 (by decide +kernel) h13 (by omega) (lnI (by decide +kernel : LN _ = 4) (by omega)) (FTsgl (by decide +kernel)) (fun z26 h25 h27 h28 => ?_)
      refine En_Ps 1 (pc' := 34) (lv' := [(0, .ref 0), (1, .int a)]) (st' := [.int z26]) rfl ?_
      exact En_ret (v := some (.int z26)) rfl rfl rfl ⟨h13, h17, z26, rfl, ⟨by first | exact q_ea7f0ffdb1 h27 | omega, by first | exact q_e9a8eec0c4 h28 | omega⟩⟩
  · refine En_Ps 1 (pc' := 13) (lv' := [(0, .ref 0), (1, .int a)]) (st' := [.int (((Int8.ofInt (-2)).toInt32))]) rfl ?_
    refine En_top (by decide : ((Int8.ofInt (-2)).toInt32).toInt = -2) (fun z29 h30 => ?_)
    exact En_ret (v := some (.int z29)) rfl rfl rfl ⟨h4, h8, z29, rfl, ⟨by first | exact q_f35c5d346c h30 | omega, by first | exact q_09eb541a79 h30 | omega⟩⟩
/-- DoorSchool.isRest(III)Z -/
abbrev P_145 (σ0 : SG) (a : Int32) (b : Int32) (c : Int32) (p : Nat) (sg : Int32) : PO := fun v σ => WT σ ∧ Fr [] σ0 σ ∧ ∃ ret : Int32, v = some (.int ret) ∧ -ret.toInt ≤ 0 ∧ ret.toInt - 1 ≤ 0
set_option maxRecDepth 10000 in
set_option maxHeartbeats 4000000 in
theorem c_145 (σ0 : SG) (hσ0 : WT σ0) (a : Int32) (b : Int32) (c : Int32) (hl_a : 0 ≤ a.toInt) (hu_a : a.toInt ≤ 3) (hl_b : 0 ≤ b.toInt) (hu_b : b.toInt ≤ 2) (p : Nat) (hp : TG p = 18) (h_p : (σ0 0)[9]? = some (.ref p)) (sg : Int32) (h_sg : (σ0 p)[1]? = some (.int sg)) (hp0 : -sg.toInt ≤ 0) : En 5 114 none mr_145 (P_145 σ0 a b c p sg) 0 [(0, .ref 0), (1, .int a), (2, .int b), (3, .int c)] [] σ0 := by
  obtain ⟨hl_sg, hu_sg⟩ := WT_int hσ0 (g := 18) hp (by decide +kernel) (l := (-1)) (u := 4) (by decide +kernel) h_sg
  have hF0 : Fr [] σ0 σ0 := Fr_rfl
  refine En_Ps 1 (pc' := 1) (lv' := [(0, .ref 0), (1, .int a), (2, .int b), (3, .int c)]) (st' := [.ref 0]) rfl ?_
  refine En_callV rfl rfl rfl rfl rfl rfl rfl rfl tgz_0 (by decide +kernel) rfl (c_160 σ0 hσ0 p hp h_p sg h_sg (by first | exact q_a555021d16 hp0 | omega)) (by decide) (by decide) (fun v2 σ3 h1 => ?_)
  obtain ⟨h4, h5, z7, rfl, h6⟩ := h1
  have h8 := Fr_trans hF0 h5 (by decide +kernel)
  refine En_Ps 1 (pc' := 5) (lv' := [(0, .ref 0), (1, .int a), (2, .int b), (3, .int c)]) (st' := [.int c, .int z7]) rfl ?_
  refine En_callS rfl rfl rfl rfl rfl rfl rfl rfl rfl (c_108 σ3 h4 z7 c) (by decide) (by decide) (fun v10 σ11 h9 => ?_)
  obtain ⟨h12, h13, z15, rfl, h14⟩ := h9
  have h16 := Fr_trans h8 h13 (by decide +kernel)
  refine En_Ps 1 (pc' := 9) (lv' := [(0, .ref 0), (1, .int a), (2, .int b), (3, .int c)]) (st' := [.int ((Int32.ofInt 1)), .int z15]) rfl ?_
  refine En_icNe _ rfl (by decide : (Int32.ofInt 1).toInt = 1) rfl (fun h17 => ?_) (fun h17 => ?_)
  · refine En_Ps 3 (pc' := 17) (lv' := [(0, .ref 0), (1, .int a), (2, .int b), (3, .int c)]) (st' := [.int b, .int a, .ref 0]) rfl ?_
    refine En_callV rfl rfl rfl rfl rfl rfl rfl rfl tgz_0 (by decide +kernel) rfl (c_171 σ11 h12 a b (geI rfl (by first | exact q_58e6e51dcc hl_a | omega)) (leI rfl (by first | exact q_da5e9b976f hu_a | omega)) (geI rfl (by first | exact q_58e6e51dcc hl_b | omega)) (leI rfl (by first | exact q_a85463bd0d hu_b | omega)) p hp ((h13 _ _ (inW tgz_0 (by decide +kernel))).trans ((h5 _ _ (inW tgz_0 (by decide +kernel))).trans h_p)) sg ((h13 _ _ (inW hp (by decide +kernel))).trans ((h5 _ _ (inW hp (by decide +kernel))).trans h_sg)) (by first | exact q_a555021d16 hp0 | omega)) (by decide) (by decide) (fun v19 σ20 h18 => ?_)
    obtain ⟨h21, h22, z24, rfl, h23⟩ := h18
    have h25 := Fr_trans h16 h22 (by decide +kernel)
    refine En_Ps 1 (pc' := 21) (lv' := [(0, .ref 0), (1, .int a), (2, .int b), (3, .int c)]) (st' := [.int c, .int z24]) rfl ?_
    refine En_callS rfl rfl rfl rfl rfl rfl rfl rfl rfl (c_108 σ20 h21 z24 c) (by decide) (by decide) (fun v27 σ28 h26 => ?_)
    obtain ⟨h29, h30, z32, rfl, h31⟩ := h26
    have h33 := Fr_trans h25 h30 (by decide +kernel)
    refine En_iNe _ rfl rfl (fun h34 => ?_) (fun h34 => ?_)
    · refine En_Ps 2 (pc' := 45) (lv' := [(4, .int ((Int32.ofInt 0))), (0, .ref 0), (1, .int a), (2, .int b), (3, .int c)]) (st' := []) rfl ?_
      have key45 : ∀ (n45 : Nat) (σ36 : SG) (y35 : Int32), WT σ36 → Fr [] σ0 σ36 → (σ36 0)[9]? = some (.ref p) → (σ36 p)[1]? = some (.int sg) → 0 ≤ y35.toInt → y35.toInt ≤ 3 → -y35.toInt + 3 < (n45 : Int) → En 5 114 none mr_145 (P_145 σ0 a b c p sg) 45 [(0, .ref 0), (1, .int a), (2, .int b), (3, .int c), (4, .int y35)] [] σ36 := by
        intro n45
        induction n45 with
        | zero =>
          intro σ36 y35 h37 h38 h39 h40 h41 h42 h43
          first | exact (q_9f1e7068c9 h43 h42).elim | (exfalso; omega)
        | succ n45 ih45 =>
          intro σ36 y35 h37 h38 h39 h40 h41 h42 h43
          refine En_Ps 2 (pc' := 48) (lv' := [(0, .ref 0), (1, .int a), (2, .int b), (3, .int c), (4, .int y35)]) (st' := [.int ((Int32.ofInt 3)), .int y35]) rfl ?_
          refine En_icGe _ rfl (by decide : (Int32.ofInt 3).toInt = 3) rfl (fun h44 => ?_) (fun h44 => ?_)
          · refine En_Ps 1 (pc' := 74) (lv' := [(0, .ref 0), (1, .int a), (2, .int b), (3, .int c), (4, .int y35)]) (st' := [.int ((Int32.ofInt 1))]) rfl ?_
            refine En_top (by decide : (Int32.ofInt 1).toInt = 1) (fun z45 h46 => ?_)
            exact En_ret (v := some (.int z45)) rfl rfl (retZ rfl rfl (by first | exact q_2b07c97645 h46 | omega) (by first | exact q_d9e7cbb253 h46 | omega)) ⟨h37, h38, z45, rfl, ⟨by first | exact q_ad3eee31ca h46 | omega, by first | exact q_81cf297dc4 h46 | omega⟩⟩
          · refine En_Ps 3 (pc' := 55) (lv' := [(0, .ref 0), (1, .int a), (2, .int b), (3, .int c), (4, .int y35)]) (st' := [.int y35, .int a, .ref 0]) rfl ?_
            refine En_callV rfl rfl rfl rfl rfl rfl rfl rfl tgz_0 (by decide +kernel) rfl (c_171 σ36 h37 a y35 (geI rfl (by first | exact q_58e6e51dcc hl_a | omega)) (leI rfl (by first | exact q_da5e9b976f hu_a | omega)) (geI rfl (by first | exact q_58e6e51dcc h41 | omega)) (leI rfl (by first | exact q_f1519f12c0 h44 | omega)) p hp h39 sg h40 (by first | exact q_a555021d16 hp0 | omega)) (by decide) (by decide) (fun v48 σ49 h47 => ?_)
            obtain ⟨h50, h51, z53, rfl, h52⟩ := h47
            have h54 := Fr_trans h38 h51 (by decide +kernel)
            refine En_Ps 1 (pc' := 59) (lv' := [(0, .ref 0), (1, .int a), (2, .int b), (3, .int c), (4, .int y35)]) (st' := [.int c, .int z53]) rfl ?_
            refine En_callS rfl rfl rfl rfl rfl rfl rfl rfl rfl (c_108 σ49 h50 z53 c) (by decide) (by decide) (fun v56 σ57 h55 => ?_)
            obtain ⟨h58, h59, z61, rfl, h60⟩ := h55
            have h62 := Fr_trans h54 h59 (by decide +kernel)
            refine En_iNe _ rfl rfl (fun h63 => ?_) (fun h63 => ?_)
            · refine En_Ps 1 (pc' := 70) (lv' := [(4, .int ((y35 + Int32.ofInt 1))), (0, .ref 0), (1, .int a), (2, .int b), (3, .int c)]) (st' := []) rfl ?_
              refine En_lv1 (addI rfl (by decide : (Int32.ofInt 1).toInt = 1) (by first | exact q_465ab79ac1 h41 | omega) (by first | exact q_6ae830b01d h44 | omega)) (fun z64 h65 => ?_)
              refine En_Ps 1 (pc' := 45) (lv' := [(4, .int z64), (0, .ref 0), (1, .int a), (2, .int b), (3, .int c)]) (st' := []) rfl ?_
              refine En_lv (lv := [(0, .ref 0), (1, .int a), (2, .int b), (3, .int c), (4, .int z64)]) ⟨rfl, rfl, rfl, rfl, rfl, trivial⟩ ?_
              exact ih45 σ57 z64 h58 h62 ((h59 _ _ (inW tgz_0 (by decide +kernel))).trans ((h51 _ _ (inW tgz_0 (by decide +kernel))).trans h39)) ((h59 _ _ (inW hp (by decide +kernel))).trans ((h51 _ _ (inW hp (by decide +kernel))).trans h40)) (by first | exact q_35104ce9d3 h65 h41 | omega) (by first | exact q_84805d5d8e h65 h44 | omega) (by first | exact q_6272716eb4 h65 h43 | omega)
            · refine En_Ps 1 (pc' := 66) (lv' := [(0, .ref 0), (1, .int a), (2, .int b), (3, .int c), (4, .int y35)]) (st' := [.int ((Int32.ofInt 0))]) rfl ?_
              refine En_top (by decide : (Int32.ofInt 0).toInt = 0) (fun z66 h67 => ?_)
              exact En_ret (v := some (.int z66)) rfl rfl (retZ rfl rfl (by first | exact q_55451d0a83 h67 | omega) (by first | exact q_87849c3859 h67 | omega)) ⟨h58, h62, z66, rfl, ⟨by first | exact q_097a37c2ae h67 | omega, by first | exact q_e269517bee h67 | omega⟩⟩
      have := (by decide : (Int32.ofInt 0).toInt = 0)
      refine En_lv (lv := [(0, .ref 0), (1, .int a), (2, .int b), (3, .int c), (4, .int ((Int32.ofInt 0)))]) ⟨rfl, rfl, rfl, rfl, rfl, trivial⟩ ?_
      exact key45 (Int.toNat (3) + 1) σ28 ((Int32.ofInt 0)) h29 h33 ((h30 _ _ (inW tgz_0 (by decide +kernel))).trans ((h22 _ _ (inW tgz_0 (by decide +kernel))).trans ((h13 _ _ (inW tgz_0 (by decide +kernel))).trans ((h5 _ _ (inW tgz_0 (by decide +kernel))).trans h_p)))) ((h30 _ _ (inW hp (by decide +kernel))).trans ((h22 _ _ (inW hp (by decide +kernel))).trans ((h13 _ _ (inW hp (by decide +kernel))).trans ((h5 _ _ (inW hp (by decide +kernel))).trans h_sg)))) (by decide) (by decide) (by first | exact toN_lt _ | omega)
    · refine En_Ps 3 (pc' := 30) (lv' := [(0, .ref 0), (1, .int a), (2, .int b), (3, .int c)]) (st' := [.int b, .int a, .ref 0]) rfl ?_
      refine En_callV rfl rfl rfl rfl rfl rfl rfl rfl tgz_0 (by decide +kernel) rfl (c_171 σ28 h29 a b (geI rfl (by first | exact q_58e6e51dcc hl_a | omega)) (leI rfl (by first | exact q_da5e9b976f hu_a | omega)) (geI rfl (by first | exact q_58e6e51dcc hl_b | omega)) (leI rfl (by first | exact q_a85463bd0d hu_b | omega)) p hp ((h30 _ _ (inW tgz_0 (by decide +kernel))).trans ((h22 _ _ (inW tgz_0 (by decide +kernel))).trans ((h13 _ _ (inW tgz_0 (by decide +kernel))).trans ((h5 _ _ (inW tgz_0 (by decide +kernel))).trans h_p)))) sg ((h30 _ _ (inW hp (by decide +kernel))).trans ((h22 _ _ (inW hp (by decide +kernel))).trans ((h13 _ _ (inW hp (by decide +kernel))).trans ((h5 _ _ (inW hp (by decide +kernel))).trans h_sg)))) (by first | exact q_a555021d16 hp0 | omega)) (by decide) (by decide) (fun v69 σ70 h68 => ?_)
      obtain ⟨h71, h72, z74, rfl, h73⟩ := h68
      have h75 := Fr_trans h33 h72 (by decide +kernel)
      refine En_iNe _ rfl rfl (fun h76 => ?_) (fun h76 => ?_)
      · refine En_Ps 1 (pc' := 41) (lv' := [(0, .ref 0), (1, .int a), (2, .int b), (3, .int c)]) (st' := [.int ((Int32.ofInt 0))]) rfl ?_
        refine En_top (by decide : (Int32.ofInt 0).toInt = 0) (fun z77 h78 => ?_)
        exact En_ret (v := some (.int z77)) rfl rfl (retZ rfl rfl (by first | exact q_55451d0a83 h78 | omega) (by first | exact q_87849c3859 h78 | omega)) ⟨h71, h75, z77, rfl, ⟨by first | exact q_097a37c2ae h78 | omega, by first | exact q_e269517bee h78 | omega⟩⟩
      · refine En_Ps 2 (pc' := 41) (lv' := [(0, .ref 0), (1, .int a), (2, .int b), (3, .int c)]) (st' := [.int ((Int32.ofInt 1))]) rfl ?_
        refine En_top (by decide : (Int32.ofInt 1).toInt = 1) (fun z79 h80 => ?_)
        exact En_ret (v := some (.int z79)) rfl rfl (retZ rfl rfl (by first | exact q_2b07c97645 h80 | omega) (by first | exact q_d9e7cbb253 h80 | omega)) ⟨h71, h75, z79, rfl, ⟨by first | exact q_ad3eee31ca h80 | omega, by first | exact q_81cf297dc4 h80 | omega⟩⟩
  · refine En_Ps 1 (pc' := 13) (lv' := [(0, .ref 0), (1, .int a), (2, .int b), (3, .int c)]) (st' := [.int ((Int32.ofInt 0))]) rfl ?_
    refine En_top (by decide : (Int32.ofInt 0).toInt = 0) (fun z81 h82 => ?_)
    exact En_ret (v := some (.int z81)) rfl rfl (retZ rfl rfl (by first | exact q_55451d0a83 h82 | omega) (by first | exact q_87849c3859 h82 | omega)) ⟨h12, h16, z81, rfl, ⟨by first | exact q_097a37c2ae h82 | omega, by first | exact q_e269517bee h82 | omega⟩⟩
/-- DoorSchool.isSeed(I)Z -/
abbrev P_146 (σ0 : SG) (a : Int32) : PO := fun v σ => WT σ ∧ Fr [] σ0 σ ∧ ∃ ret : Int32, v = some (.int ret) ∧ -ret.toInt ≤ 0 ∧ ret.toInt - 1 ≤ 0 ∧ (ret.toInt - 1 ≤ 0 ∧ -ret.toInt + 1 ≤ 0 → -a.toInt ≤ 0 ∧ a.toInt - 2000000000 ≤ 0) ∧ (-a.toInt ≤ 0 ∧ a.toInt - 2000000000 ≤ 0 → ret.toInt - 1 ≤ 0 ∧ -ret.toInt + 1 ≤ 0)
set_option maxRecDepth 10000 in
set_option maxHeartbeats 4000000 in
theorem c_146 (σ0 : SG) (hσ0 : WT σ0) (a : Int32) : En 0 0 none mr_146 (P_146 σ0 a) 0 [(0, .int a)] [] σ0 := by
  have hF0 : Fr [] σ0 σ0 := Fr_rfl
  refine En_Ps 1 (pc' := 1) (lv' := [(0, .int a)]) (st' := [.int a]) rfl ?_
  refine En_iLt _ rfl rfl (fun h1 => ?_) (fun h1 => ?_)
  · refine En_Ps 1 (pc' := 16) (lv' := [(0, .int a)]) (st' := [.int ((Int32.ofInt 0))]) rfl ?_
    refine En_top (by decide : (Int32.ofInt 0).toInt = 0) (fun z2 h3 => ?_)
    exact En_ret (v := some (.int z2)) rfl rfl (retZ rfl rfl (by first | exact q_55451d0a83 h3 | omega) (by first | exact q_87849c3859 h3 | omega)) ⟨hσ0, hF0, z2, rfl, ⟨by first | exact q_097a37c2ae h3 | omega, by first | exact q_e269517bee h3 | omega, fun _ => by omega, fun _ => by omega⟩⟩
  · refine En_Ps 2 (pc' := 8) (lv' := [(0, .int a)]) (st' := [.int ((2000000000 : Int32)), .int a]) rfl ?_
    refine En_icGt _ rfl (by decide : (2000000000 : Int32).toInt = 2000000000) rfl (fun h4 => ?_) (fun h4 => ?_)
    · refine En_Ps 1 (pc' := 16) (lv' := [(0, .int a)]) (st' := [.int ((Int32.ofInt 0))]) rfl ?_
      refine En_top (by decide : (Int32.ofInt 0).toInt = 0) (fun z5 h6 => ?_)
      exact En_ret (v := some (.int z5)) rfl rfl (retZ rfl rfl (by first | exact q_55451d0a83 h6 | omega) (by first | exact q_87849c3859 h6 | omega)) ⟨hσ0, hF0, z5, rfl, ⟨by first | exact q_097a37c2ae h6 | omega, by first | exact q_e269517bee h6 | omega, fun _ => by omega, fun _ => by omega⟩⟩
    · refine En_Ps 2 (pc' := 16) (lv' := [(0, .int a)]) (st' := [.int ((Int32.ofInt 1))]) rfl ?_
      refine En_top (by decide : (Int32.ofInt 1).toInt = 1) (fun z7 h8 => ?_)
      exact En_ret (v := some (.int z7)) rfl rfl (retZ rfl rfl (by first | exact q_2b07c97645 h8 | omega) (by first | exact q_d9e7cbb253 h8 | omega)) ⟨hσ0, hF0, z7, rfl, ⟨by first | exact q_ad3eee31ca h8 | omega, by first | exact q_81cf297dc4 h8 | omega, fun _ => by omega, fun _ => by omega⟩⟩
/-- DoorSchool.learnt(II)I -/
abbrev P_150 (σ0 : SG) (a : Int32) (b : Int32) (p : Nat) (sg : Int32) : PO := fun v σ => WT σ ∧ Fr [] σ0 σ ∧ ∃ ret : Int32, v = some (.int ret) ∧ -ret.toInt - 2 ≤ 0 ∧ ret.toInt - 81 ≤ 0
set_option maxRecDepth 10000 in
set_option maxHeartbeats 4000000 in
theorem c_150 (σ0 : SG) (hσ0 : WT σ0) (a : Int32) (b : Int32) (p : Nat) (hp : TG p = 18) (h_p : (σ0 0)[9]? = some (.ref p)) (sg : Int32) (h_sg : (σ0 p)[1]? = some (.int sg)) (hp0 : -sg.toInt ≤ 0) : En 4 94 none mr_150 (P_150 σ0 a b p sg) 0 [(0, .ref 0), (1, .int a), (2, .int b)] [] σ0 := by
  obtain ⟨hl_sg, hu_sg⟩ := WT_int hσ0 (g := 18) hp (by decide +kernel) (l := (-1)) (u := 4) (by decide +kernel) h_sg
  have hF0 : Fr [] σ0 σ0 := Fr_rfl
  refine En_Ps 1 (pc' := 1) (lv' := [(0, .ref 0), (1, .int a), (2, .int b)]) (st' := [.int a]) rfl ?_
  refine En_callS rfl rfl rfl rfl rfl rfl rfl rfl rfl (c_148 σ0 hσ0 a) (by decide) (by decide) (fun v2 σ3 h1 => ?_)
  obtain ⟨h4, h5, z7, rfl, h6⟩ := h1
  have h8 := Fr_trans hF0 h5 (by decide +kernel)
  refine En_iEq _ rfl rfl (fun h9 => ?_) (fun h9 => ?_)
  · refine En_Ps 1 (pc' := 32) (lv' := [(0, .ref 0), (1, .int a), (2, .int b)]) (st' := [.int (((Int8.ofInt (-2)).toInt32))]) rfl ?_
    refine En_top (by decide : ((Int8.ofInt (-2)).toInt32).toInt = -2) (fun z10 h11 => ?_)
    exact En_ret (v := some (.int z10)) rfl rfl rfl ⟨h4, h8, z10, rfl, ⟨by first | exact q_f35c5d346c h11 | omega, by first | exact q_a224a6b9a0 h11 | omega⟩⟩
  · refine En_Ps 1 (pc' := 8) (lv' := [(0, .ref 0), (1, .int a), (2, .int b)]) (st' := [.ref 0]) rfl ?_
    refine En_getK (j := 9) ((h5 _ _ (inW tgz_0 (by decide +kernel))).trans h_p) rfl rfl rfl tgz_0 (by decide +kernel) ?_
    refine En_Ps 1 (pc' := 12) (lv' := [(0, .ref 0), (1, .int a), (2, .int b)]) (st' := [.int b, .ref p]) rfl ?_
    refine En_callV rfl rfl rfl rfl rfl rfl rfl rfl hp (by decide +kernel) rfl (c_46 σ3 h4 p hp b sg ((h5 _ _ (inW hp (by decide +kernel))).trans h_sg) (by first | exact q_a555021d16 hp0 | omega)) (by decide) (by decide) (fun v13 σ14 h12 => ?_)
    obtain ⟨h15, h16, z18, rfl, h17⟩ := h12
    have h19 := Fr_trans h8 h16 (by decide +kernel)
    refine En_iEq _ rfl rfl (fun h20 => ?_) (fun h20 => ?_)
    · refine En_Ps 1 (pc' := 32) (lv' := [(0, .ref 0), (1, .int a), (2, .int b)]) (st' := [.int (((Int8.ofInt (-2)).toInt32))]) rfl ?_
      refine En_top (by decide : ((Int8.ofInt (-2)).toInt32).toInt = -2) (fun z21 h22 => ?_)
      exact En_ret (v := some (.int z21)) rfl rfl rfl ⟨h15, h19, z21, rfl, ⟨by first | exact q_f35c5d346c h22 | omega, by first | exact q_a224a6b9a0 h22 | omega⟩⟩
    · refine En_Ps 1 (pc' := 19) (lv' := [(0, .ref 0), (1, .int a), (2, .int b)]) (st' := [.ref 0]) rfl ?_
      refine En_getU (j := 3) (u := 8) (g' := 8) (q := 0) rfl rfl rfl tgz_0 (by decide +kernel) h15 (by decide +kernel) (by decide +kernel) (fun h23 => ?_)
      refine En_Ps 2 (pc' := 24) (lv' := [(0, .ref 0), (1, .int a), (2, .int b)]) (st' := [.int b, .int a, .ref 8]) rfl ?_
      refine En_callV rfl rfl rfl rfl rfl rfl rfl rfl tgz_8 (by decide +kernel) rfl (c_24 σ14 h15 a b) (by decide) (by decide) (fun v26 σ27 h25 => ?_)
      obtain ⟨h28, h29, z31, rfl, h30⟩ := h25
      have h32 := Fr_trans h19 h29 (by decide +kernel)
      refine En_Ps 1 (pc' := 32) (lv' := [(0, .ref 0), (1, .int a), (2, .int b)]) (st' := [.int z31]) rfl ?_
      exact En_ret (v := some (.int z31)) rfl rfl rfl ⟨h28, h32, z31, rfl, ⟨by first | exact q_70a249c7f8 h30.1 | omega, by first | exact q_62172f5eca h30.2 | omega⟩⟩

