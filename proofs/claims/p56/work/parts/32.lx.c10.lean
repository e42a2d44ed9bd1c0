/-- DoorSchool.door(II)I -/
abbrev P_116 (σ0 : SG) (a : Int32) (b : Int32) (p : Nat) (sg : Int32) : PO := fun v σ => WT σ ∧ Fr [] σ0 σ ∧ ∃ ret : Int32, v = some (.int ret) ∧ -ret.toInt - 2 ≤ 0 ∧ ret.toInt - 50 ≤ 0
set_option maxRecDepth 10000 in
set_option maxHeartbeats 4000000 in
theorem c_116 (σ0 : SG) (hσ0 : WT σ0) (a : Int32) (b : Int32) (p : Nat) (hp : TG p = 18) (h_p : (σ0 0)[9]? = some (.ref p)) (sg : Int32) (h_sg : (σ0 p)[1]? = some (.int sg)) (hp0 : -sg.toInt ≤ 0) : En 1 21 none mr_116 (P_116 σ0 a b p sg) 0 [(0, .ref 0), (1, .int a), (2, .int b)] [] σ0 := by
  obtain ⟨hl_sg, hu_sg⟩ := WT_int hσ0 (g := 18) hp (by decide +kernel) (l := (-1)) (u := 4) (by decide +kernel) h_sg
  have hF0 : Fr [] σ0 σ0 := Fr_rfl
  refine En_Ps 1 (pc' := 1) (lv' := [(0, .ref 0), (1, .int a), (2, .int b)]) (st' := [.ref 0]) rfl ?_
  refine En_getK (j := 9) h_p rfl rfl rfl tgz_0 (by decide +kernel) ?_
  refine En_Ps 1 (pc' := 5) (lv' := [(0, .ref 0), (1, .int a), (2, .int b)]) (st' := [.int a, .ref p]) rfl ?_
  refine En_callV rfl rfl rfl rfl rfl rfl rfl rfl hp (by decide +kernel) rfl (c_47 σ0 hσ0 p hp a) (by decide) (by decide) (fun v2 σ3 h1 => ?_)
  obtain ⟨h4, h5, z7, rfl, h6⟩ := h1
  have h8 := Fr_trans hF0 h5 (by decide +kernel)
  refine En_iNe _ rfl rfl (fun h9 => ?_) (fun h9 => ?_)
  · refine En_Ps 1 (pc' := 15) (lv' := [(0, .ref 0), (1, .int a), (2, .int b)]) (st' := [.ref 0]) rfl ?_
    refine En_getK (j := 9) ((h5 _ _ (inW tgz_0 (by decide +kernel))).trans h_p) rfl rfl rfl tgz_0 (by decide +kernel) ?_
    refine En_getR (j := 4) (g' := 19) (u := 0) rfl rfl rfl hp (by decide +kernel) h4 (by decide +kernel) (fun a11 h10 ha11 => ?_)
    refine En_Ps 1 (pc' := 22) (lv' := [(0, .ref 0), (1, .int a), (2, .int b)]) (st' := [.int a, .ref a11]) rfl ?_
    refine En_aald (g' := 28) (u := 0) rfl rfl ha11 (by decide +kernel) h4 (by omega) (lnI (by decide +kernel : LN _ = 4) (by omega)) (FTsgl (by decide +kernel)) (fun a13 h12 ha13 => ?_)
    refine En_Ps 2 (pc' := 25) (lv' := [(3, .ref a13), (0, .ref 0), (1, .int a), (2, .int b)]) (st' := [.int b]) rfl ?_
    rcases (show b.toInt = 0 ∨ b.toInt = 1 ∨ b.toInt = 2 ∨ b.toInt = 3 ∨ b.toInt < 0 ∨ 3 < b.toInt by omega) with h14 | h14 | h14 | h14 | h14 | h14
    · refine En_swI (t := 56) (n := 0) rfl h14 rfl (by decide +kernel) ?_
      refine En_Ps 1 (pc' := 57) (lv' := [(3, .ref a13), (0, .ref 0), (1, .int a), (2, .int b)]) (st' := [.ref a13]) rfl ?_
      refine En_getI (j := 1) (l := 0) (u := 2) rfl rfl rfl ha13 (by decide +kernel) h4 (by decide +kernel) (fun z16 h15 h17 h18 => ?_)
      exact En_ret (v := some (.int z16)) rfl rfl rfl ⟨h4, h8, z16, rfl, ⟨by first | exact q_ea7f0ffdb1 h17 | omega, by first | exact q_ab791a917f h18 | omega⟩⟩
    · refine En_swI (t := 61) (n := 1) rfl h14 rfl (by decide +kernel) ?_
      refine En_Ps 1 (pc' := 62) (lv' := [(3, .ref a13), (0, .ref 0), (1, .int a), (2, .int b)]) (st' := [.ref a13]) rfl ?_
      refine En_getI (j := 2) (l := 0) (u := 50) rfl rfl rfl ha13 (by decide +kernel) h4 (by decide +kernel) (fun z20 h19 h21 h22 => ?_)
      exact En_ret (v := some (.int z20)) rfl rfl rfl ⟨h4, h8, z20, rfl, ⟨by first | exact q_ea7f0ffdb1 h21 | omega, by first | exact q_1608b91b28 h22 | omega⟩⟩
    · refine En_swI (t := 66) (n := 2) rfl h14 rfl (by decide +kernel) ?_
      refine En_Ps 1 (pc' := 67) (lv' := [(3, .ref a13), (0, .ref 0), (1, .int a), (2, .int b)]) (st' := [.ref a13]) rfl ?_
      refine En_getR (j := 0) (g' := 20) (u := 0) rfl rfl rfl ha13 (by decide +kernel) h4 (by decide +kernel) (fun a24 h23 ha24 => ?_)
      refine En_getI (j := 2) (l := 0) (u := 13) rfl rfl rfl ha24 (by decide +kernel) h4 (by decide +kernel) (fun z26 h25 h27 h28 => ?_)
      exact En_ret (v := some (.int z26)) rfl rfl rfl ⟨h4, h8, z26, rfl, ⟨by first | exact q_ea7f0ffdb1 h27 | omega, by first | exact q_40e7a490d5 h28 | omega⟩⟩
    · refine En_swI (t := 74) (n := 3) rfl h14 rfl (by decide +kernel) ?_
      refine En_Ps 1 (pc' := 75) (lv' := [(3, .ref a13), (0, .ref 0), (1, .int a), (2, .int b)]) (st' := [.ref a13]) rfl ?_
      refine En_getI (j := 3) (l := (-1)) (u := 3) rfl rfl rfl ha13 (by decide +kernel) h4 (by decide +kernel) (fun z30 h29 h31 h32 => ?_)
      exact En_ret (v := some (.int z30)) rfl rfl rfl ⟨h4, h8, z30, rfl, ⟨by first | exact q_fe58cd40d0 h31 | omega, by first | exact q_dc79e997ce h32 | omega⟩⟩
    · refine En_swO (t := 79) rfl (by omega) rfl (by decide +kernel) ?_
      refine En_Ps 1 (pc' := 81) (lv' := [(3, .ref a13), (0, .ref 0), (1, .int a), (2, .int b)]) (st' := [.int (((Int8.ofInt (-2)).toInt32))]) rfl ?_
      refine En_top (by decide : ((Int8.ofInt (-2)).toInt32).toInt = -2) (fun z33 h34 => ?_)
      exact En_ret (v := some (.int z33)) rfl rfl rfl ⟨h4, h8, z33, rfl, ⟨by first | exact q_f35c5d346c h34 | omega, by first | exact q_307520f238 h34 | omega⟩⟩
    · refine En_swO (t := 79) rfl (by omega) rfl (by decide +kernel) ?_
      refine En_Ps 1 (pc' := 81) (lv' := [(3, .ref a13), (0, .ref 0), (1, .int a), (2, .int b)]) (st' := [.int (((Int8.ofInt (-2)).toInt32))]) rfl ?_
      refine En_top (by decide : ((Int8.ofInt (-2)).toInt32).toInt = -2) (fun z35 h36 => ?_)
      exact En_ret (v := some (.int z35)) rfl rfl rfl ⟨h4, h8, z35, rfl, ⟨by first | exact q_f35c5d346c h36 | omega, by first | exact q_307520f238 h36 | omega⟩⟩
  · refine En_Ps 1 (pc' := 13) (lv' := [(0, .ref 0), (1, .int a), (2, .int b)]) (st' := [.int (((Int8.ofInt (-2)).toInt32))]) rfl ?_
    refine En_top (by decide : ((Int8.ofInt (-2)).toInt32).toInt = -2) (fun z37 h38 => ?_)
    exact En_ret (v := some (.int z37)) rfl rfl rfl ⟨h4, h8, z37, rfl, ⟨by first | exact q_f35c5d346c h38 | omega, by first | exact q_307520f238 h38 | omega⟩⟩
/-- DoorSchool.easiest(I)I -/
abbrev P_117 (σ0 : SG) (a : Int32) (p : Nat) (sg : Int32) : PO := fun v σ => WT σ ∧ Fr [] σ0 σ ∧ ∃ ret : Int32, v = some (.int ret) ∧ -ret.toInt - 2 ≤ 0 ∧ ret.toInt - 2 ≤ 0
set_option maxRecDepth 10000 in
set_option maxHeartbeats 4000000 in
theorem c_117 (σ0 : SG) (hσ0 : WT σ0) (a : Int32) (p : Nat) (hp : TG p = 18) (h_p : (σ0 0)[9]? = some (.ref p)) (sg : Int32) (h_sg : (σ0 p)[1]? = some (.int sg)) (hp0 : -sg.toInt ≤ 0) : En 6 144 none mr_117 (P_117 σ0 a p sg) 0 [(0, .ref 0), (1, .int a)] [] σ0 := by
  obtain ⟨hl_sg, hu_sg⟩ := WT_int hσ0 (g := 18) hp (by decide +kernel) (l := (-1)) (u := 4) (by decide +kernel) h_sg
  have hF0 : Fr [] σ0 σ0 := Fr_rfl
  refine En_Ps 1 (pc' := 1) (lv' := [(0, .ref 0), (1, .int a)]) (st' := [.ref 0]) rfl ?_
  refine En_getK (j := 9) h_p rfl rfl rfl tgz_0 (by decide +kernel) ?_
  refine En_Ps 1 (pc' := 5) (lv' := [(0, .ref 0), (1, .int a)]) (st' := [.int a, .ref p]) rfl ?_
  refine En_callV rfl rfl rfl rfl rfl rfl rfl rfl hp (by decide +kernel) rfl (c_46 σ0 hσ0 p hp a sg h_sg (by first | exact q_a555021d16 hp0 | omega)) (by decide) (by decide) (fun v2 σ3 h1 => ?_)
  obtain ⟨h4, h5, z7, rfl, h6⟩ := h1
  have h8 := Fr_trans hF0 h5 (by decide +kernel)
  refine En_iNe _ rfl rfl (fun h9 => ?_) (fun h9 => ?_)
  · refine En_Ps 6 (pc' := 22) (lv' := [(4, .int ((Int32.ofInt 0))), (3, .int (((Int8.ofInt 17).toInt32))), (2, .int ((Int32.ofInt (-1)))), (0, .ref 0), (1, .int a)]) (st' := []) rfl ?_
    have key22 : ∀ (n22 : Nat) (σ13 : SG) (y10 : Int32) (y11 : Int32) (y12 : Int32), WT σ13 → Fr [] σ0 σ13 → (σ13 0)[9]? = some (.ref p) → (σ13 p)[1]? = some (.int sg) → (-1) ≤ y10.toInt → y10.toInt ≤ 2 → 0 ≤ y11.toInt → y11.toInt ≤ 63 → 0 ≤ y12.toInt → y12.toInt ≤ 3 → y10.toInt - y12.toInt + 1 ≤ 0 → -y12.toInt + 3 < (n22 : Int) → En 6 144 none mr_117 (P_117 σ0 a p sg) 22 [(0, .ref 0), (1, .int a), (2, .int y10), (3, .int y11), (4, .int y12)] [] σ13 := by
      intro n22
      induction n22 with
      | zero =>
        intro σ13 y10 y11 y12 h14 h15 h16 h17 h18 h19 h20 h21 h22 h23 h24 h25
        first | exact (q_9f1e7068c9 h25 h23).elim | (exfalso; omega)
      | succ n22 ih22 =>
        intro σ13 y10 y11 y12 h14 h15 h16 h17 h18 h19 h20 h21 h22 h23 h24 h25
        refine En_Ps 2 (pc' := 25) (lv' := [(0, .ref 0), (1, .int a), (2, .int y10), (3, .int y11), (4, .int y12)]) (st' := [.int ((Int32.ofInt 3)), .int y12]) rfl ?_
        refine En_icGe _ rfl (by decide : (Int32.ofInt 3).toInt = 3) rfl (fun h26 => ?_) (fun h26 => ?_)
        · refine En_Ps 1 (pc' := 71) (lv' := [(0, .ref 0), (1, .int a), (2, .int y10), (3, .int y11), (4, .int y12)]) (st' := [.int y10]) rfl ?_
          exact En_ret (v := some (.int y10)) rfl rfl rfl ⟨h14, h15, y10, rfl, ⟨by first | exact q_fe58cd40d0 h18 | omega, by first | exact q_316dab1512 h19 | omega⟩⟩
        · refine En_Ps 1 (pc' := 29) (lv' := [(0, .ref 0), (1, .int a), (2, .int y10), (3, .int y11), (4, .int y12)]) (st' := [.ref 0]) rfl ?_
          refine En_getU (j := 3) (u := 8) (g' := 8) (q := 0) rfl rfl rfl tgz_0 (by decide +kernel) h14 (by decide +kernel) (by decide +kernel) (fun h27 => ?_)
          refine En_Ps 2 (pc' := 35) (lv' := [(0, .ref 0), (1, .int a), (2, .int y10), (3, .int y11), (4, .int y12)]) (st' := [.int a, .int y12, .ref 8]) rfl ?_
          refine En_callV rfl rfl rfl rfl rfl rfl rfl rfl tgz_8 (by decide +kernel) rfl (c_25 σ13 h14 y12 a) (by decide) (by decide) (fun v30 σ31 h29 => ?_)
          obtain ⟨h32, h33, z35, rfl, h34⟩ := h29
          have h36 := Fr_trans h15 h33 (by decide +kernel)
          refine En_Ps 3 (pc' := 43) (lv' := [(5, .int z35), (0, .ref 0), (1, .int a), (2, .int y10), (3, .int y11), (4, .int y12)]) (st' := [.int ((Int32.ofInt (-1))), .int z35]) rfl ?_
          refine En_icEq _ rfl (by decide : (Int32.ofInt (-1)).toInt = -1) rfl (fun h37 => ?_) (fun h37 => ?_)
          · refine En_Ps 1 (pc' := 67) (lv' := [(4, .int ((y12 + Int32.ofInt 1))), (5, .int z35), (0, .ref 0), (1, .int a), (2, .int y10), (3, .int y11)]) (st' := []) rfl ?_
            refine En_lv1 (addI rfl (by decide : (Int32.ofInt 1).toInt = 1) (by first | exact q_465ab79ac1 h22 | omega) (by first | exact q_6ae830b01d h26 | omega)) (fun z38 h39 => ?_)
            refine En_Ps 1 (pc' := 22) (lv' := [(4, .int z38), (5, .int z35), (0, .ref 0), (1, .int a), (2, .int y10), (3, .int y11)]) (st' := []) rfl ?_
            refine En_lv (lv := [(0, .ref 0), (1, .int a), (2, .int y10), (3, .int y11), (4, .int z38)]) ⟨rfl, rfl, rfl, rfl, rfl, trivial⟩ ?_
            exact ih22 σ31 y10 y11 z38 h32 h36 ((h33 _ _ (inW tgz_0 (by decide +kernel))).trans h16) ((h33 _ _ (inW hp (by decide +kernel))).trans h17) (by first | exact q_77b189e83d h18 | omega) (by first | exact q_a85463bd0d h19 | omega) (by first | exact q_58e6e51dcc h20 | omega) (by first | exact q_8bf848900a h21 | omega) (by first | exact q_35104ce9d3 h39 h22 | omega) (by first | exact q_84805d5d8e h39 h26 | omega) (by first | exact q_6591527e3e h24 h39 | omega) (by first | exact q_6272716eb4 h39 h25 | omega)
          · refine En_Ps 1 (pc' := 48) (lv' := [(5, .int z35), (0, .ref 0), (1, .int a), (2, .int y10), (3, .int y11), (4, .int y12)]) (st' := [.int z35]) rfl ?_
            refine En_callS rfl rfl rfl rfl rfl rfl rfl rfl rfl (c_7 σ31 h32 z35) (by decide) (by decide) (fun v41 σ42 h40 => ?_)
            obtain ⟨h43, h44, z46, rfl, h45⟩ := h40
            have h47 := Fr_trans h36 h44 (by decide +kernel)
            refine En_Ps 1 (pc' := 52) (lv' := [(5, .int z35), (0, .ref 0), (1, .int a), (2, .int y10), (3, .int y11), (4, .int y12)]) (st' := [.int y11, .int z46]) rfl ?_
            refine En_icGe _ rfl rfl rfl (fun h48 => ?_) (fun h48 => ?_)
            · refine En_Ps 1 (pc' := 67) (lv' := [(4, .int ((y12 + Int32.ofInt 1))), (5, .int z35), (0, .ref 0), (1, .int a), (2, .int y10), (3, .int y11)]) (st' := []) rfl ?_
              refine En_lv1 (addI rfl (by decide : (Int32.ofInt 1).toInt = 1) (by first | exact q_465ab79ac1 h22 | omega) (by first | exact q_6ae830b01d h26 | omega)) (fun z49 h50 => ?_)
              refine En_Ps 1 (pc' := 22) (lv' := [(4, .int z49), (5, .int z35), (0, .ref 0), (1, .int a), (2, .int y10), (3, .int y11)]) (st' := []) rfl ?_
              refine En_lv (lv := [(0, .ref 0), (1, .int a), (2, .int y10), (3, .int y11), (4, .int z49)]) ⟨rfl, rfl, rfl, rfl, rfl, trivial⟩ ?_
              exact ih22 σ42 y10 y11 z49 h43 h47 ((h44 _ _ (inW tgz_0 (by decide +kernel))).trans ((h33 _ _ (inW tgz_0 (by decide +kernel))).trans h16)) ((h44 _ _ (inW hp (by decide +kernel))).trans ((h33 _ _ (inW hp (by decide +kernel))).trans h17)) (by first | exact q_77b189e83d h18 | omega) (by first | exact q_a85463bd0d h19 | omega) (by first | exact q_58e6e51dcc h20 | omega) (by first | exact q_8bf848900a h21 | omega) (by first | exact q_35104ce9d3 h50 h22 | omega) (by first | exact q_84805d5d8e h50 h26 | omega) (by first | exact q_6591527e3e h24 h50 | omega) (by first | exact q_6272716eb4 h50 h25 | omega)
            · refine En_Ps 1 (pc' := 57) (lv' := [(5, .int z35), (0, .ref 0), (1, .int a), (2, .int y10), (3, .int y11), (4, .int y12)]) (st' := [.int z35]) rfl ?_
              refine En_callS rfl rfl rfl rfl rfl rfl rfl rfl rfl (c_7 σ42 h43 z35) (by decide) (by decide) (fun v52 σ53 h51 => ?_)
              obtain ⟨h54, h55, z57, rfl, h56⟩ := h51
              have h58 := Fr_trans h47 h55 (by decide +kernel)
              refine En_Ps 4 (pc' := 67) (lv' := [(4, .int ((y12 + Int32.ofInt 1))), (2, .int y12), (3, .int z57), (5, .int z35), (0, .ref 0), (1, .int a)]) (st' := []) rfl ?_
              refine En_lv1 (addI rfl (by decide : (Int32.ofInt 1).toInt = 1) (by first | exact q_465ab79ac1 h22 | omega) (by first | exact q_6ae830b01d h26 | omega)) (fun z59 h60 => ?_)
              refine En_Ps 1 (pc' := 22) (lv' := [(4, .int z59), (2, .int y12), (3, .int z57), (5, .int z35), (0, .ref 0), (1, .int a)]) (st' := []) rfl ?_
              refine En_lv (lv := [(0, .ref 0), (1, .int a), (2, .int y12), (3, .int z57), (4, .int z59)]) ⟨rfl, rfl, rfl, rfl, rfl, trivial⟩ ?_
              exact ih22 σ53 y12 z57 z59 h54 h58 ((h55 _ _ (inW tgz_0 (by decide +kernel))).trans ((h44 _ _ (inW tgz_0 (by decide +kernel))).trans ((h33 _ _ (inW tgz_0 (by decide +kernel))).trans h16))) ((h55 _ _ (inW hp (by decide +kernel))).trans ((h44 _ _ (inW hp (by decide +kernel))).trans ((h33 _ _ (inW hp (by decide +kernel))).trans h17))) (by first | exact q_5b439548fc h22 | omega) (by first | exact q_f1519f12c0 h26 | omega) (by first | exact q_ef1e8e38bf h56.1 | omega) (by first | exact q_3ea7e55eca h56.2 | omega) (by first | exact q_35104ce9d3 h60 h22 | omega) (by first | exact q_84805d5d8e h60 h26 | omega) (by first | exact q_2fedec469a h60 | omega) (by first | exact q_6272716eb4 h60 h25 | omega)
    have := (by decide : (Int32.ofInt (-1)).toInt = -1)
    have := (by decide : ((Int8.ofInt 17).toInt32).toInt = 17)
    have := (by decide : (Int32.ofInt 0).toInt = 0)
    refine En_lv (lv := [(0, .ref 0), (1, .int a), (2, .int ((Int32.ofInt (-1)))), (3, .int (((Int8.ofInt 17).toInt32))), (4, .int ((Int32.ofInt 0)))]) ⟨rfl, rfl, rfl, rfl, rfl, trivial⟩ ?_
    exact key22 (Int.toNat (3) + 1) σ3 ((Int32.ofInt (-1))) (((Int8.ofInt 17).toInt32)) ((Int32.ofInt 0)) h4 h8 ((h5 _ _ (inW tgz_0 (by decide +kernel))).trans h_p) ((h5 _ _ (inW hp (by decide +kernel))).trans h_sg) (by decide) (by decide) (by decide) (by decide) (by decide) (by decide) (by omega) (by first | exact toN_lt _ | omega)
  · refine En_Ps 1 (pc' := 13) (lv' := [(0, .ref 0), (1, .int a)]) (st' := [.int (((Int8.ofInt (-2)).toInt32))]) rfl ?_
    refine En_top (by decide : ((Int8.ofInt (-2)).toInt32).toInt = -2) (fun z61 h62 => ?_)
    exact En_ret (v := some (.int z61)) rfl rfl rfl ⟨h4, h8, z61, rfl, ⟨by first | exact q_f35c5d346c h62 | omega, by first | exact q_53fa448498 h62 | omega⟩⟩
/-- DoorSchool.errors(II)I -/
abbrev P_119 (σ0 : SG) (a : Int32) (b : Int32) (p : Nat) (sg : Int32) : PO := fun v σ => WT σ ∧ Fr [] σ0 σ ∧ ∃ ret : Int32, v = some (.int ret) ∧ True
set_option maxRecDepth 10000 in
set_option maxHeartbeats 4000000 in
theorem c_119 (σ0 : SG) (hσ0 : WT σ0) (a : Int32) (b : Int32) (p : Nat) (hp : TG p = 18) (h_p : (σ0 0)[9]? = some (.ref p)) (sg : Int32) (h_sg : (σ0 p)[1]? = some (.int sg)) (hp0 : -sg.toInt ≤ 0) : En 4 94 none mr_119 (P_119 σ0 a b p sg) 0 [(0, .ref 0), (1, .int a), (2, .int b)] [] σ0 := by
  obtain ⟨hl_sg, hu_sg⟩ := WT_int hσ0 (g := 18) hp (by decide +kernel) (l := (-1)) (u := 4) (by decide +kernel) h_sg
  have hF0 : Fr [] σ0 σ0 := Fr_rfl
  refine En_Ps 1 (pc' := 1) (lv' := [(0, .ref 0), (1, .int a), (2, .int b)]) (st' := [.int a]) rfl ?_
  refine En_callS rfl rfl rfl rfl rfl rfl rfl rfl rfl (c_148 σ0 hσ0 a) (by decide) (by decide) (fun v2 σ3 h1 => ?_)
  obtain ⟨h4, h5, z7, rfl, h6⟩ := h1
  have h8 := Fr_trans hF0 h5 (by decide +kernel)
  refine En_iEq _ rfl rfl (fun h9 => ?_) (fun h9 => ?_)
  · refine En_Ps 1 (pc' := 32) (lv' := [(0, .ref 0), (1, .int a), (2, .int b)]) (st' := [.int (((Int8.ofInt (-2)).toInt32))]) rfl ?_
    refine En_top (by decide : ((Int8.ofInt (-2)).toInt32).toInt = -2) (fun z10 h11 => ?_)
    exact En_ret (v := some (.int z10)) rfl rfl rfl ⟨h4, h8, z10, rfl, trivial⟩
  · refine En_Ps 1 (pc' := 8) (lv' := [(0, .ref 0), (1, .int a), (2, .int b)]) (st' := [.ref 0]) rfl ?_
    refine En_getK (j := 9) ((h5 _ _ (inW tgz_0 (by decide +kernel))).trans h_p) rfl rfl rfl tgz_0 (by decide +kernel) ?_
    refine En_Ps 1 (pc' := 12) (lv' := [(0, .ref 0), (1, .int a), (2, .int b)]) (st' := [.int b, .ref p]) rfl ?_
    refine En_callV rfl rfl rfl rfl rfl rfl rfl rfl hp (by decide +kernel) rfl (c_46 σ3 h4 p hp b sg ((h5 _ _ (inW hp (by decide +kernel))).trans h_sg) (by first | exact q_a555021d16 hp0 | omega)) (by decide) (by decide) (fun v13 σ14 h12 => ?_)
    obtain ⟨h15, h16, z18, rfl, h17⟩ := h12
    have h19 := Fr_trans h8 h16 (by decide +kernel)
    refine En_iEq _ rfl rfl (fun h20 => ?_) (fun h20 => ?_)
    · refine En_Ps 1 (pc' := 32) (lv' := [(0, .ref 0), (1, .int a), (2, .int b)]) (st' := [.int (((Int8.ofInt (-2)).toInt32))]) rfl ?_
      refine En_top (by decide : ((Int8.ofInt (-2)).toInt32).toInt = -2) (fun z21 h22 => ?_)
      exact En_ret (v := some (.int z21)) rfl rfl rfl ⟨h15, h19, z21, rfl, trivial⟩
    · refine En_Ps 1 (pc' := 19) (lv' := [(0, .ref 0), (1, .int a), (2, .int b)]) (st' := [.ref 0]) rfl ?_
      refine En_getU (j := 3) (u := 8) (g' := 8) (q := 0) rfl rfl rfl tgz_0 (by decide +kernel) h15 (by decide +kernel) (by decide +kernel) (fun h23 => ?_)
      refine En_Ps 2 (pc' := 24) (lv' := [(0, .ref 0), (1, .int a), (2, .int b)]) (st' := [.int b, .int a, .ref 8]) rfl ?_
      refine En_callV rfl rfl rfl rfl rfl rfl rfl rfl tgz_8 (by decide +kernel) rfl (c_20 σ14 h15 a b) (by decide) (by decide) (fun v26 σ27 h25 => ?_)
      obtain ⟨h28, h29, z31, rfl, h30⟩ := h25
      have h32 := Fr_trans h19 h29 (by decide +kernel)
      refine En_Ps 1 (pc' := 32) (lv' := [(0, .ref 0), (1, .int a), (2, .int b)]) (st' := [.int z31]) rfl ?_
      exact En_ret (v := some (.int z31)) rfl rfl rfl ⟨h28, h32, z31, rfl, trivial⟩
/-- DoorSchool.isZeroOrOne(I)Z -/
abbrev P_149 (σ0 : SG) (a : Int32) : PO := fun v σ => WT σ ∧ Fr [] σ0 σ ∧ ∃ ret : Int32, v = some (.int ret) ∧ -ret.toInt ≤ 0 ∧ ret.toInt - 1 ≤ 0 ∧ (ret.toInt - 1 ≤ 0 ∧ -ret.toInt + 1 ≤ 0 → -a.toInt ≤ 0 ∧ a.toInt - 1 ≤ 0)
set_option maxRecDepth 10000 in
set_option maxHeartbeats 4000000 in
theorem c_149 (σ0 : SG) (hσ0 : WT σ0) (a : Int32) : En 0 0 none mr_149 (P_149 σ0 a) 0 [(0, .int a)] [] σ0 := by
  have hF0 : Fr [] σ0 σ0 := Fr_rfl
  refine En_Ps 1 (pc' := 1) (lv' := [(0, .int a)]) (st' := [.int a]) rfl ?_
  refine En_iEq _ rfl rfl (fun h1 => ?_) (fun h1 => ?_)
  · refine En_Ps 2 (pc' := 14) (lv' := [(0, .int a)]) (st' := [.int ((Int32.ofInt 1))]) rfl ?_
    refine En_top (by decide : (Int32.ofInt 1).toInt = 1) (fun z2 h3 => ?_)
    exact En_ret (v := some (.int z2)) rfl rfl (retZ rfl rfl (by first | exact q_2b07c97645 h3 | omega) (by first | exact q_d9e7cbb253 h3 | omega)) ⟨hσ0, hF0, z2, rfl, ⟨by first | exact q_ad3eee31ca h3 | omega, by first | exact q_81cf297dc4 h3 | omega, fun _ => by omega⟩⟩
  · refine En_Ps 2 (pc' := 6) (lv' := [(0, .int a)]) (st' := [.int ((Int32.ofInt 1)), .int a]) rfl ?_
    refine En_icNe _ rfl (by decide : (Int32.ofInt 1).toInt = 1) rfl (fun h4 => ?_) (fun h4 => ?_)
    · refine En_Ps 1 (pc' := 14) (lv' := [(0, .int a)]) (st' := [.int ((Int32.ofInt 0))]) rfl ?_
      refine En_top (by decide : (Int32.ofInt 0).toInt = 0) (fun z5 h6 => ?_)
      exact En_ret (v := some (.int z5)) rfl rfl (retZ rfl rfl (by first | exact q_55451d0a83 h6 | omega) (by first | exact q_87849c3859 h6 | omega)) ⟨hσ0, hF0, z5, rfl, ⟨by first | exact q_097a37c2ae h6 | omega, by first | exact q_e269517bee h6 | omega, fun _ => by omega⟩⟩
    · refine En_Ps 2 (pc' := 14) (lv' := [(0, .int a)]) (st' := [.int ((Int32.ofInt 1))]) rfl ?_
      refine En_top (by decide : (Int32.ofInt 1).toInt = 1) (fun z7 h8 => ?_)
      exact En_ret (v := some (.int z7)) rfl rfl (retZ rfl rfl (by first | exact q_2b07c97645 h8 | omega) (by first | exact q_d9e7cbb253 h8 | omega)) ⟨hσ0, hF0, z7, rfl, ⟨by first | exact q_ad3eee31ca h8 | omega, by first | exact q_81cf297dc4 h8 | omega, fun _ => by omega⟩⟩
/-- DoorSchool.exam(II)I -/
abbrev P_120 (σ0 : SG) (a : Int32) (b : Int32) (p : Nat) (sg : Int32) : PO := fun v σ => WT σ ∧ Fr [] σ0 σ ∧ ∃ ret : Int32, v = some (.int ret) ∧ -ret.toInt - 2 ≤ 0 ∧ ret.toInt - 15 ≤ 0
set_option maxRecDepth 10000 in
set_option maxHeartbeats 4000000 in
theorem c_120 (σ0 : SG) (hσ0 : WT σ0) (a : Int32) (b : Int32) (p : Nat) (hp : TG p = 18) (h_p : (σ0 0)[9]? = some (.ref p)) (sg : Int32) (h_sg : (σ0 p)[1]? = some (.int sg)) (hp0 : -sg.toInt ≤ 0) : En 1 20 none mr_120 (P_120 σ0 a b p sg) 0 [(0, .ref 0), (1, .int a), (2, .int b)] [] σ0 := by
  obtain ⟨hl_sg, hu_sg⟩ := WT_int hσ0 (g := 18) hp (by decide +kernel) (l := (-1)) (u := 4) (by decide +kernel) h_sg
  have hF0 : Fr [] σ0 σ0 := Fr_rfl
  refine En_Ps 1 (pc' := 1) (lv' := [(0, .ref 0), (1, .int a), (2, .int b)]) (st' := [.int a]) rfl ?_
  refine En_iLt _ rfl rfl (fun h1 => ?_) (fun h1 => ?_)
  · refine En_Ps 1 (pc' := 27) (lv' := [(0, .ref 0), (1, .int a), (2, .int b)]) (st' := [.int (((Int8.ofInt (-2)).toInt32))]) rfl ?_
    refine En_top (by decide : ((Int8.ofInt (-2)).toInt32).toInt = -2) (fun z2 h3 => ?_)
    exact En_ret (v := some (.int z2)) rfl rfl rfl ⟨hσ0, hF0, z2, rfl, ⟨by first | exact q_f35c5d346c h3 | omega, by first | exact q_12a74e12a3 h3 | omega⟩⟩
  · refine En_Ps 2 (pc' := 6) (lv' := [(0, .ref 0), (1, .int a), (2, .int b)]) (st' := [.ref 0, .int a]) rfl ?_
    refine En_getK (j := 9) h_p rfl rfl rfl tgz_0 (by decide +kernel) ?_
    refine En_getR (j := 5) (g' := 20) (u := 0) rfl rfl rfl hp (by decide +kernel) hσ0 (by decide +kernel) (fun a5 h4 ha5 => ?_)
    refine En_getI (j := 2) (l := 0) (u := 13) rfl rfl rfl ha5 (by decide +kernel) hσ0 (by decide +kernel) (fun z7 h6 h8 h9 => ?_)
    refine En_icGe _ rfl rfl rfl (fun h10 => ?_) (fun h10 => ?_)
    · refine En_Ps 1 (pc' := 27) (lv' := [(0, .ref 0), (1, .int a), (2, .int b)]) (st' := [.int (((Int8.ofInt (-2)).toInt32))]) rfl ?_
      refine En_top (by decide : ((Int8.ofInt (-2)).toInt32).toInt = -2) (fun z11 h12 => ?_)
      exact En_ret (v := some (.int z11)) rfl rfl rfl ⟨hσ0, hF0, z11, rfl, ⟨by first | exact q_f35c5d346c h12 | omega, by first | exact q_12a74e12a3 h12 | omega⟩⟩
    · refine En_Ps 1 (pc' := 19) (lv' := [(0, .ref 0), (1, .int a), (2, .int b)]) (st' := [.int b]) rfl ?_
      refine En_callS rfl rfl rfl rfl rfl rfl rfl rfl rfl (c_149 σ0 hσ0 b) (by decide) (by decide) (fun v14 σ15 h13 => ?_)
      obtain ⟨h16, h17, z19, rfl, h18⟩ := h13
      have h20 := Fr_trans hF0 h17 (by decide +kernel)
      refine En_iNe _ rfl rfl (fun h21 => ?_) (fun h21 => ?_)
      · refine En_Ps 1 (pc' := 29) (lv' := [(0, .ref 0), (1, .int a), (2, .int b)]) (st' := [.int b]) rfl ?_
        refine En_iNe _ rfl rfl (fun h22 => ?_) (fun h22 => ?_)
        · refine En_Ps 1 (pc' := 48) (lv' := [(0, .ref 0), (1, .int a), (2, .int b)]) (st' := [.ref 0]) rfl ?_
          refine En_getK (j := 9) ((h17 _ _ (inW tgz_0 (by decide +kernel))).trans h_p) rfl rfl rfl tgz_0 (by decide +kernel) ?_
          refine En_getK (j := 5) ((h17 _ _ (inW hp (by decide +kernel))).trans h4) rfl rfl rfl hp (by decide +kernel) ?_
          refine En_getR (j := 1) (g' := 22) (u := 0) rfl rfl rfl ha5 (by decide +kernel) h16 (by decide +kernel) (fun a24 h23 ha24 => ?_)
          refine En_Ps 1 (pc' := 58) (lv' := [(0, .ref 0), (1, .int a), (2, .int b)]) (st' := [.int a, .ref a24]) rfl ?_
          refine En_iald (l := 0) (u := 1) rfl rfl ha24 (by decide +kernel) h16 (by first | exact q_58e6e51dcc h1 | omega) (lnI (by decide +kernel : LN _ = 13) (by first | exact q_314deb8953 h10 h9 | omega)) (FTsgl (by decide +kernel)) (fun z26 h25 h27 h28 => ?_)
          exact En_ret (v := some (.int z26)) rfl rfl rfl ⟨h16, h20, z26, rfl, ⟨by first | exact q_ea7f0ffdb1 h27 | omega, by first | exact q_31525ae3c9 h28 | omega⟩⟩
        · refine En_Ps 1 (pc' := 33) (lv' := [(0, .ref 0), (1, .int a), (2, .int b)]) (st' := [.ref 0]) rfl ?_
          refine En_getK (j := 9) ((h17 _ _ (inW tgz_0 (by decide +kernel))).trans h_p) rfl rfl rfl tgz_0 (by decide +kernel) ?_
          refine En_getK (j := 5) ((h17 _ _ (inW hp (by decide +kernel))).trans h4) rfl rfl rfl hp (by decide +kernel) ?_
          refine En_getR (j := 0) (g' := 21) (u := 0) rfl rfl rfl ha5 (by decide +kernel) h16 (by decide +kernel) (fun a30 h29 ha30 => ?_)
          refine En_Ps 1 (pc' := 43) (lv' := [(0, .ref 0), (1, .int a), (2, .int b)]) (st' := [.int a, .ref a30]) rfl ?_
          refine En_iald (l := 0) (u := 15) rfl rfl ha30 (by decide +kernel) h16 (by first | exact q_58e6e51dcc h1 | omega) (lnI (by decide +kernel : LN _ = 13) (by first | exact q_314deb8953 h10 h9 | omega)) (FTsgl (by decide +kernel)) (fun z32 h31 h33 h34 => ?_)
          refine En_Ps 1 (pc' := 59) (lv' := [(0, .ref 0), (1, .int a), (2, .int b)]) (st' := [.int z32]) rfl ?_
          exact En_ret (v := some (.int z32)) rfl rfl rfl ⟨h16, h20, z32, rfl, ⟨by first | exact q_ea7f0ffdb1 h33 | omega, by first | exact q_867a9ac627 h34 | omega⟩⟩
      · refine En_Ps 1 (pc' := 27) (lv' := [(0, .ref 0), (1, .int a), (2, .int b)]) (st' := [.int (((Int8.ofInt (-2)).toInt32))]) rfl ?_
        refine En_top (by decide : ((Int8.ofInt (-2)).toInt32).toInt = -2) (fun z35 h36 => ?_)
        exact En_ret (v := some (.int z35)) rfl rfl rfl ⟨h16, h20, z35, rfl, ⟨by first | exact q_f35c5d346c h36 | omega, by first | exact q_12a74e12a3 h36 | omega⟩⟩
/-- DoorSchool.fewest(II)I -/
abbrev P_123 (σ0 : SG) (a : Int32) (b : Int32) (p : Nat) (sg : Int32) : PO := fun v σ => WT σ ∧ Fr [] σ0 σ ∧ ∃ ret : Int32, v = some (.int ret) ∧ -ret.toInt - 2 ≤ 0 ∧ ret.toInt - 63 ≤ 0
set_option maxRecDepth 10000 in
set_option maxHeartbeats 4000000 in
theorem c_123 (σ0 : SG) (hσ0 : WT σ0) (a : Int32) (b : Int32) (p : Nat) (hp : TG p = 18) (h_p : (σ0 0)[9]? = some (.ref p)) (sg : Int32) (h_sg : (σ0 p)[1]? = some (.int sg)) (hp0 : -sg.toInt ≤ 0) : En 6 144 none mr_123 (P_123 σ0 a b p sg) 0 [(0, .ref 0), (1, .int a), (2, .int b)] [] σ0 := by
  obtain ⟨hl_sg, hu_sg⟩ := WT_int hσ0 (g := 18) hp (by decide +kernel) (l := (-1)) (u := 4) (by decide +kernel) h_sg
  have hF0 : Fr [] σ0 σ0 := Fr_rfl
  refine En_Ps 1 (pc' := 1) (lv' := [(0, .ref 0), (1, .int a), (2, .int b)]) (st' := [.int a]) rfl ?_
  refine En_callS rfl rfl rfl rfl rfl rfl rfl rfl rfl (c_148 σ0 hσ0 a) (by decide) (by decide) (fun v2 σ3 h1 => ?_)
  obtain ⟨h4, h5, z7, rfl, h6⟩ := h1
  have h8 := Fr_trans hF0 h5 (by decide +kernel)
  refine En_iEq _ rfl rfl (fun h9 => ?_) (fun h9 => ?_)
  · refine En_Ps 1 (pc' := 20) (lv' := [(0, .ref 0), (1, .int a), (2, .int b)]) (st' := [.int (((Int8.ofInt (-2)).toInt32))]) rfl ?_
    refine En_top (by decide : ((Int8.ofInt (-2)).toInt32).toInt = -2) (fun z10 h11 => ?_)
    exact En_ret (v := some (.int z10)) rfl rfl rfl ⟨h4, h8, z10, rfl, ⟨by first | exact q_f35c5d346c h11 | omega, by first | exact q_443ead751f h11 | omega⟩⟩
  · refine En_Ps 1 (pc' := 8) (lv' := [(0, .ref 0), (1, .int a), (2, .int b)]) (st' := [.ref 0]) rfl ?_
    refine En_getK (j := 9) ((h5 _ _ (inW tgz_0 (by decide +kernel))).trans h_p) rfl rfl rfl tgz_0 (by decide +kernel) ?_
    refine En_Ps 1 (pc' := 12) (lv' := [(0, .ref 0), (1, .int a), (2, .int b)]) (st' := [.int b, .ref p]) rfl ?_
    refine En_callV rfl rfl rfl rfl rfl rfl rfl rfl hp (by decide +kernel) rfl (c_46 σ3 h4 p hp b sg ((h5 _ _ (inW hp (by decide +kernel))).trans h_sg) (by first | exact q_a555021d16 hp0 | omega)) (by decide) (by decide) (fun v13 σ14 h12 => ?_)
    obtain ⟨h15, h16, z18, rfl, h17⟩ := h12
    have h19 := Fr_trans h8 h16 (by decide +kernel)
    refine En_iNe _ rfl rfl (fun h20 => ?_) (fun h20 => ?_)
    · refine En_Ps 1 (pc' := 22) (lv' := [(0, .ref 0), (1, .int a), (2, .int b)]) (st' := [.ref 0]) rfl ?_
      refine En_getU (j := 3) (u := 8) (g' := 8) (q := 0) rfl rfl rfl tgz_0 (by decide +kernel) h15 (by decide +kernel) (by decide +kernel) (fun h21 => ?_)
      refine En_Ps 2 (pc' := 27) (lv' := [(0, .ref 0), (1, .int a), (2, .int b)]) (st' := [.int b, .int a, .ref 8]) rfl ?_
      refine En_callV rfl rfl rfl rfl rfl rfl rfl rfl tgz_8 (by decide +kernel) rfl (c_25 σ14 h15 a b) (by decide) (by decide) (fun v24 σ25 h23 => ?_)
      obtain ⟨h26, h27, z29, rfl, h28⟩ := h23
      have h30 := Fr_trans h19 h27 (by decide +kernel)
      refine En_Ps 3 (pc' := 33) (lv' := [(3, .int z29), (0, .ref 0), (1, .int a), (2, .int b)]) (st' := [.int ((Int32.ofInt (-1))), .int z29]) rfl ?_
      refine En_icNe _ rfl (by decide : (Int32.ofInt (-1)).toInt = -1) rfl (fun h31 => ?_) (fun h31 => ?_)
      · refine En_Ps 1 (pc' := 41) (lv' := [(3, .int z29), (0, .ref 0), (1, .int a), (2, .int b)]) (st' := [.int z29]) rfl ?_
        refine En_callS rfl rfl rfl rfl rfl rfl rfl rfl rfl (c_7 σ25 h26 z29) (by decide) (by decide) (fun v33 σ34 h32 => ?_)
        obtain ⟨h35, h36, z38, rfl, h37⟩ := h32
        have h39 := Fr_trans h30 h36 (by decide +kernel)
        exact En_ret (v := some (.int z38)) rfl rfl rfl ⟨h35, h39, z38, rfl, ⟨by first | exact q_70a249c7f8 h37.1 | omega, by first | exact q_4b9206e141 h37.2 | omega⟩⟩
      · refine En_Ps 2 (pc' := 44) (lv' := [(3, .int z29), (0, .ref 0), (1, .int a), (2, .int b)]) (st' := [.int ((Int32.ofInt (-1)))]) rfl ?_
        refine En_top (by decide : (Int32.ofInt (-1)).toInt = -1) (fun z40 h41 => ?_)
        exact En_ret (v := some (.int z40)) rfl rfl rfl ⟨h26, h30, z40, rfl, ⟨by first | exact q_e1de8c7867 h41 | omega, by first | exact q_c86a015a5d h41 | omega⟩⟩
    · refine En_Ps 1 (pc' := 20) (lv' := [(0, .ref 0), (1, .int a), (2, .int b)]) (st' := [.int (((Int8.ofInt (-2)).toInt32))]) rfl ?_
      refine En_top (by decide : ((Int8.ofInt (-2)).toInt32).toInt = -2) (fun z42 h43 => ?_)
      exact En_ret (v := some (.int z42)) rfl rfl rfl ⟨h15, h19, z42, rfl, ⟨by first | exact q_f35c5d346c h43 | omega, by first | exact q_443ead751f h43 | omega⟩⟩
/-- DoorSchool.fits(I)I -/
abbrev P_124 (σ0 : SG) (a : Int32) (p : Nat) (sg : Int32) : PO := fun v σ => WT σ ∧ Fr [] σ0 σ ∧ ∃ ret : Int32, v = some (.int ret) ∧ -ret.toInt - 6 ≤ 0 ∧ ret.toInt - 81 ≤ 0
set_option maxRecDepth 10000 in
set_option maxHeartbeats 4000000 in
theorem c_124 (σ0 : SG) (hσ0 : WT σ0) (a : Int32) (p : Nat) (hp : TG p = 18) (h_p : (σ0 0)[9]? = some (.ref p)) (sg : Int32) (h_sg : (σ0 p)[1]? = some (.int sg)) (hp0 : -sg.toInt ≤ 0) : En 2 47 none mr_124 (P_124 σ0 a p sg) 0 [(0, .ref 0), (1, .int a)] [] σ0 := by
  obtain ⟨hl_sg, hu_sg⟩ := WT_int hσ0 (g := 18) hp (by decide +kernel) (l := (-1)) (u := 4) (by decide +kernel) h_sg
  have hF0 : Fr [] σ0 σ0 := Fr_rfl
  refine En_Ps 2 (pc' := 2) (lv' := [(0, .ref 0), (1, .int a)]) (st' := [.int a, .ref 0]) rfl ?_
  refine En_callV rfl rfl rfl rfl rfl rfl rfl rfl tgz_0 (by decide +kernel) rfl (c_180 σ0 hσ0 a p hp h_p sg h_sg (by first | exact q_a555021d16 hp0 | omega)) (by decide) (by decide) (fun v2 σ3 h1 => ?_)
  obtain ⟨h4, h5, z7, rfl, h6⟩ := h1
  have h8 := Fr_trans hF0 h5 (by decide +kernel)
  refine En_Ps 2 (pc' := 7) (lv' := [(2, .int z7), (0, .ref 0), (1, .int a)]) (st' := [.int z7]) rfl ?_
  refine En_iEq _ rfl rfl (fun h9 => ?_) (fun h9 => ?_)
  · refine En_Ps 1 (pc' := 15) (lv' := [(2, .int z7), (0, .ref 0), (1, .int a)]) (st' := [.ref 0]) rfl ?_
    refine En_getU (j := 2) (u := 4) (g' := 4) (q := 0) rfl rfl rfl tgz_0 (by decide +kernel) h4 (by decide +kernel) (by decide +kernel) (fun h10 => ?_)
    refine En_Ps 1 (pc' := 19) (lv' := [(2, .int z7), (0, .ref 0), (1, .int a)]) (st' := [.ref 0, .ref 4]) rfl ?_
    refine En_getU (j := 6) (u := 150) (g' := 32) (q := 0) rfl rfl rfl tgz_0 (by decide +kernel) h4 (by decide +kernel) (by decide +kernel) (fun h12 => ?_)
    refine En_Ps 1 (pc' := 23) (lv' := [(2, .int z7), (0, .ref 0), (1, .int a)]) (st' := [.int a, .ref 150, .ref 4]) rfl ?_
    refine En_aald (g' := 33) (u := 0) rfl rfl tgz_150 (by decide +kernel) h4 (by omega) (lnI (by decide +kernel : LN _ = 4) (by omega)) (FTsgl (by decide +kernel)) (fun a15 h14 ha15 => ?_)
    refine En_Ps 1 (pc' := 25) (lv' := [(2, .int z7), (0, .ref 0), (1, .int a)]) (st' := [.int ((Int32.ofInt 1)), .ref a15, .ref 4]) rfl ?_
    have := (by decide : ((Int32.ofInt 1)).toInt = 1)
    refine En_callV rfl rfl rfl rfl rfl rfl rfl rfl ha15 (by decide +kernel) rfl (c_89 σ3 h4 a15 ha15 ((Int32.ofInt 1))) (by decide) (by decide) (fun v17 σ18 h16 => ?_)
    obtain ⟨h19, h20, z22, rfl, h21⟩ := h16
    have h23 := Fr_trans h8 h20 (by decide +kernel)
    refine En_Ps 1 (pc' := 29) (lv' := [(2, .int z7), (0, .ref 0), (1, .int a)]) (st' := [.ref 0, .int z22, .ref 4]) rfl ?_
    refine En_getK (j := 6) ((h20 _ _ (inW tgz_0 (by decide +kernel))).trans h12) rfl rfl rfl tgz_0 (by decide +kernel) ?_
    refine En_Ps 1 (pc' := 33) (lv' := [(2, .int z7), (0, .ref 0), (1, .int a)]) (st' := [.int a, .ref 150, .int z22, .ref 4]) rfl ?_
    refine En_aald (g' := 33) (u := 0) rfl rfl tgz_150 (by decide +kernel) h19 (by omega) (lnI (by decide +kernel : LN _ = 4) (by omega)) (FTsgl (by decide +kernel)) (fun a25 h24 ha25 => ?_)
    refine En_Ps 1 (pc' := 35) (lv' := [(2, .int z7), (0, .ref 0), (1, .int a)]) (st' := [.int ((Int32.ofInt 0)), .ref a25, .int z22, .ref 4]) rfl ?_
    have := (by decide : ((Int32.ofInt 0)).toInt = 0)
    refine En_callV rfl rfl rfl rfl rfl rfl rfl rfl ha25 (by decide +kernel) rfl (c_89 σ18 h19 a25 ha25 ((Int32.ofInt 0))) (by decide) (by decide) (fun v27 σ28 h26 => ?_)
    obtain ⟨h29, h30, z32, rfl, h31⟩ := h26
    have h33 := Fr_trans h23 h30 (by decide +kernel)
    refine En_callV rfl rfl rfl rfl rfl rfl rfl rfl tgz_4 (by decide +kernel) rfl (c_79 σ28 h29 z22 z32) (by decide) (by decide) (fun v35 σ36 h34 => ?_)
    obtain ⟨h37, h38, z40, rfl, h39⟩ := h34
    have h41 := Fr_trans h33 h38 (by decide +kernel)
    exact En_ret (v := some (.int z40)) rfl rfl rfl ⟨h37, h41, z40, rfl, ⟨by first | exact q_8061444f0d h39.1 | omega, by first | exact q_62172f5eca h39.2 | omega⟩⟩
  · refine En_Ps 2 (pc' := 41) (lv' := [(2, .int z7), (0, .ref 0), (1, .int a)]) (st' := [.int z7]) rfl ?_
    exact En_ret (v := some (.int z7)) rfl rfl rfl ⟨h4, h8, z7, rfl, ⟨by first | exact q_629d629181 h6.1 | omega, by first | exact q_debdfeb6c0 h9 h6.2.1 | omega⟩⟩
/-- DoorSchool.ownerDeeds()I -/
abbrev P_160 (σ0 : SG) (p : Nat) (sg : Int32) : PO := fun v σ => WT σ ∧ Fr [] σ0 σ ∧ ∃ ret : Int32, v = some (.int ret) ∧ -ret.toInt ≤ 0 ∧ ret.toInt - 65535 ≤ 0
set_option maxRecDepth 10000 in
set_option maxHeartbeats 4000000 in
theorem c_160 (σ0 : SG) (hσ0 : WT σ0) (p : Nat) (hp : TG p = 18) (h_p : (σ0 0)[9]? = some (.ref p)) (sg : Int32) (h_sg : (σ0 p)[1]? = some (.int sg)) (hp0 : -sg.toInt ≤ 0) : En 1 24 none mr_160 (P_160 σ0 p sg) 0 [(0, .ref 0)] [] σ0 := by
  obtain ⟨hl_sg, hu_sg⟩ := WT_int hσ0 (g := 18) hp (by decide +kernel) (l := (-1)) (u := 4) (by decide +kernel) h_sg
  have hF0 : Fr [] σ0 σ0 := Fr_rfl
  refine En_Ps 1 (pc' := 1) (lv' := [(0, .ref 0)]) (st' := [.ref 0]) rfl ?_
  refine En_getU (j := 2) (u := 4) (g' := 4) (q := 0) rfl rfl rfl tgz_0 (by decide +kernel) hσ0 (by decide +kernel) (by decide +kernel) (fun h1 => ?_)
  refine En_Ps 1 (pc' := 5) (lv' := [(0, .ref 0)]) (st' := [.ref 0, .ref 4]) rfl ?_
  refine En_getK (j := 9) h_p rfl rfl rfl tgz_0 (by decide +kernel) ?_
  refine En_getI (j := 6) (l := 0) (u := 15) rfl rfl rfl hp (by decide +kernel) hσ0 (by decide +kernel) (fun z4 h3 h5 h6 => ?_)
  refine En_Ps 1 (pc' := 12) (lv' := [(0, .ref 0)]) (st' := [.ref 0, .int z4, .ref 4]) rfl ?_
  refine En_getK (j := 9) h_p rfl rfl rfl tgz_0 (by decide +kernel) ?_
  refine En_getI (j := 7) (l := 0) (u := 15) rfl rfl rfl hp (by decide +kernel) hσ0 (by decide +kernel) (fun z8 h7 h9 h10 => ?_)
  refine En_callV rfl rfl rfl rfl rfl rfl rfl rfl tgz_4 (by decide +kernel) rfl (c_77 σ0 hσ0 z4 z8) (by decide) (by decide) (fun v12 σ13 h11 => ?_)
  obtain ⟨h14, h15, z17, rfl, h16⟩ := h11
  have h18 := Fr_trans hF0 h15 (by decide +kernel)
  exact En_ret (v := some (.int z17)) rfl rfl rfl ⟨h14, h18, z17, rfl, ⟨by first | exact q_a555021d16 h16.1 | omega, by first | exact q_ef123ba13c h16.2 | omega⟩⟩
/-- DoorSchool.fooling(I)I -/
abbrev P_126 (σ0 : SG) (a : Int32) (p : Nat) (sg : Int32) : PO := fun v σ => WT σ ∧ Fr [] σ0 σ ∧ ∃ ret : Int32, v = some (.int ret) ∧ True
set_option maxRecDepth 10000 in
set_option maxHeartbeats 4000000 in
theorem c_126 (σ0 : SG) (hσ0 : WT σ0) (a : Int32) (hl_a : 0 ≤ a.toInt) (hu_a : a.toInt ≤ 3) (p : Nat) (hp : TG p = 18) (h_p : (σ0 0)[9]? = some (.ref p)) (sg : Int32) (h_sg : (σ0 p)[1]? = some (.int sg)) (hp0 : -sg.toInt ≤ 0) : En 4 92 none mr_126 (P_126 σ0 a p sg) 0 [(0, .ref 0), (1, .int a)] [] σ0 := by
  obtain ⟨hl_sg, hu_sg⟩ := WT_int hσ0 (g := 18) hp (by decide +kernel) (l := (-1)) (u := 4) (by decide +kernel) h_sg
  have hF0 : Fr [] σ0 σ0 := Fr_rfl
  refine En_Ps 2 (pc' := 2) (lv' := [(0, .ref 0), (1, .int a)]) (st' := [.int a, .ref 0]) rfl ?_
  refine En_callV rfl rfl rfl rfl rfl rfl rfl rfl tgz_0 (by decide +kernel) rfl (c_114 σ0 hσ0 a (geI rfl (by first | exact q_58e6e51dcc hl_a | omega)) (leI rfl (by first | exact q_da5e9b976f hu_a | omega)) p hp h_p sg h_sg (by first | exact q_a555021d16 hp0 | omega)) (by decide) (by decide) (fun v2 σ3 h1 => ?_)
  obtain ⟨h4, h5, z7, rfl, h6⟩ := h1
  have h8 := Fr_trans hF0 h5 (by decide +kernel)
  refine En_Ps 1 (pc' := 6) (lv' := [(0, .ref 0), (1, .int a)]) (st' := [.ref 0, .int z7]) rfl ?_
  refine En_callV rfl rfl rfl rfl rfl rfl rfl rfl tgz_0 (by decide +kernel) rfl (c_160 σ3 h4 p hp ((h5 _ _ (inW tgz_0 (by decide +kernel))).trans h_p) sg ((h5 _ _ (inW hp (by decide +kernel))).trans h_sg) (by first | exact q_a555021d16 hp0 | omega)) (by decide) (by decide) (fun v10 σ11 h9 => ?_)
  obtain ⟨h12, h13, z15, rfl, h14⟩ := h9
  have h16 := Fr_trans h8 h13 (by decide +kernel)
  refine En_Ps 2 (pc' := 11) (lv' := [(0, .ref 0), (1, .int a)]) (st' := [.int ((z15 ^^^ ((Int32.ofInt (-1))))), .int z7]) rfl ?_
  refine En_nam (fun z17 h18 => ?_)
  refine En_Ps 1 (pc' := 12) (lv' := [(0, .ref 0), (1, .int a)]) (st' := [.int ((z7 &&& z17))]) rfl ?_
  refine En_nam (fun z19 h20 => ?_)
  exact En_ret (v := some (.int z19)) rfl rfl rfl ⟨h12, h16, z19, rfl, trivial⟩
/-- DoorSchool.fooled(II)I -/
abbrev P_125 (σ0 : SG) (a : Int32) (b : Int32) (p : Nat) (sg : Int32) : PO := fun v σ => WT σ ∧ Fr [] σ0 σ ∧ ∃ ret : Int32, v = some (.int ret) ∧ True
set_option maxRecDepth 10000 in
set_option maxHeartbeats 4000000 in
theorem c_125 (σ0 : SG) (hσ0 : WT σ0) (a : Int32) (b : Int32) (p : Nat) (hp : TG p = 18) (h_p : (σ0 0)[9]? = some (.ref p)) (sg : Int32) (h_sg : (σ0 p)[1]? = some (.int sg)) (hp0 : -sg.toInt ≤ 0) : En 5 113 none mr_125 (P_125 σ0 a b p sg) 0 [(0, .ref 0), (1, .int a), (2, .int b)] [] σ0 := by
  obtain ⟨hl_sg, hu_sg⟩ := WT_int hσ0 (g := 18) hp (by decide +kernel) (l := (-1)) (u := 4) (by decide +kernel) h_sg
  have hF0 : Fr [] σ0 σ0 := Fr_rfl
  refine En_Ps 1 (pc' := 1) (lv' := [(0, .ref 0), (1, .int a), (2, .int b)]) (st' := [.ref 0]) rfl ?_
  refine En_getK (j := 9) h_p rfl rfl rfl tgz_0 (by decide +kernel) ?_
  refine En_Ps 1 (pc' := 5) (lv' := [(0, .ref 0), (1, .int a), (2, .int b)]) (st' := [.int a, .ref p]) rfl ?_
  refine En_callV rfl rfl rfl rfl rfl rfl rfl rfl hp (by decide +kernel) rfl (c_47 σ0 hσ0 p hp a) (by decide) (by decide) (fun v2 σ3 h1 => ?_)
  obtain ⟨h4, h5, z7, rfl, h6⟩ := h1
  have h8 := Fr_trans hF0 h5 (by decide +kernel)
  refine En_iEq _ rfl rfl (fun h9 => ?_) (fun h9 => ?_)
  · refine En_Ps 1 (pc' := 20) (lv' := [(0, .ref 0), (1, .int a), (2, .int b)]) (st' := [.int (((Int8.ofInt (-2)).toInt32))]) rfl ?_
    refine En_top (by decide : ((Int8.ofInt (-2)).toInt32).toInt = -2) (fun z10 h11 => ?_)
    exact En_ret (v := some (.int z10)) rfl rfl rfl ⟨h4, h8, z10, rfl, trivial⟩
  · refine En_Ps 1 (pc' := 12) (lv' := [(0, .ref 0), (1, .int a), (2, .int b)]) (st' := [.int b]) rfl ?_
    refine En_callS rfl rfl rfl rfl rfl rfl rfl rfl rfl (c_149 σ3 h4 b) (by decide) (by decide) (fun v13 σ14 h12 => ?_)
    obtain ⟨h15, h16, z18, rfl, h17⟩ := h12
    have h19 := Fr_trans h8 h16 (by decide +kernel)
    refine En_iNe _ rfl rfl (fun h20 => ?_) (fun h20 => ?_)
    · refine En_Ps 1 (pc' := 22) (lv' := [(0, .ref 0), (1, .int a), (2, .int b)]) (st' := [.int b]) rfl ?_
      refine En_iNe _ rfl rfl (fun h21 => ?_) (fun h21 => ?_)
      · refine En_Ps 1 (pc' := 34) (lv' := [(0, .ref 0), (1, .int a), (2, .int b)]) (st' := [.ref 0]) rfl ?_
        refine En_callV rfl rfl rfl rfl rfl rfl rfl rfl tgz_0 (by decide +kernel) rfl (c_160 σ14 h15 p hp ((h16 _ _ (inW tgz_0 (by decide +kernel))).trans ((h5 _ _ (inW tgz_0 (by decide +kernel))).trans h_p)) sg ((h16 _ _ (inW hp (by decide +kernel))).trans ((h5 _ _ (inW hp (by decide +kernel))).trans h_sg)) (by first | exact q_a555021d16 hp0 | omega)) (by decide) (by decide) (fun v23 σ24 h22 => ?_)
        obtain ⟨h25, h26, z28, rfl, h27⟩ := h22
        have h29 := Fr_trans h19 h26 (by decide +kernel)
        refine En_Ps 2 (pc' := 39) (lv' := [(0, .ref 0), (1, .int a), (2, .int b)]) (st' := [.int a, .ref 0, .int z28]) rfl ?_
        refine En_callV rfl rfl rfl rfl rfl rfl rfl rfl tgz_0 (by decide +kernel) rfl (c_114 σ24 h25 a (geI rfl (by omega)) (leI rfl (by omega)) p hp ((h26 _ _ (inW tgz_0 (by decide +kernel))).trans ((h16 _ _ (inW tgz_0 (by decide +kernel))).trans ((h5 _ _ (inW tgz_0 (by decide +kernel))).trans h_p))) sg ((h26 _ _ (inW hp (by decide +kernel))).trans ((h16 _ _ (inW hp (by decide +kernel))).trans ((h5 _ _ (inW hp (by decide +kernel))).trans h_sg))) (by first | exact q_a555021d16 hp0 | omega)) (by decide) (by decide) (fun v31 σ32 h30 => ?_)
        obtain ⟨h33, h34, z36, rfl, h35⟩ := h30
        have h37 := Fr_trans h29 h34 (by decide +kernel)
        refine En_Ps 2 (pc' := 44) (lv' := [(0, .ref 0), (1, .int a), (2, .int b)]) (st' := [.int ((z36 ^^^ ((Int32.ofInt (-1))))), .int z28]) rfl ?_
        refine En_nam (fun z38 h39 => ?_)
        refine En_Ps 1 (pc' := 45) (lv' := [(0, .ref 0), (1, .int a), (2, .int b)]) (st' := [.int ((z28 &&& z38))]) rfl ?_
        refine En_nam (fun z40 h41 => ?_)
        obtain ⟨h42, h43⟩ := andn_rng h41 rfl (by omega) (by omega : _ ≤ (65535 : Int))
        exact En_ret (v := some (.int z40)) rfl rfl rfl ⟨h33, h37, z40, rfl, trivial⟩
      · refine En_Ps 2 (pc' := 27) (lv' := [(0, .ref 0), (1, .int a), (2, .int b)]) (st' := [.int a, .ref 0]) rfl ?_
        refine En_callV rfl rfl rfl rfl rfl rfl rfl rfl tgz_0 (by decide +kernel) rfl (c_126 σ14 h15 a (geI rfl (by omega)) (leI rfl (by omega)) p hp ((h16 _ _ (inW tgz_0 (by decide +kernel))).trans ((h5 _ _ (inW tgz_0 (by decide +kernel))).trans h_p)) sg ((h16 _ _ (inW hp (by decide +kernel))).trans ((h5 _ _ (inW hp (by decide +kernel))).trans h_sg)) (by first | exact q_a555021d16 hp0 | omega)) (by decide) (by decide) (fun v45 σ46 h44 => ?_)
        obtain ⟨h47, h48, z50, rfl, h49⟩ := h44
        have h51 := Fr_trans h19 h48 (by decide +kernel)
        refine En_Ps 1 (pc' := 45) (lv' := [(0, .ref 0), (1, .int a), (2, .int b)]) (st' := [.int z50]) rfl ?_
        exact En_ret (v := some (.int z50)) rfl rfl rfl ⟨h47, h51, z50, rfl, trivial⟩
    · refine En_Ps 1 (pc' := 20) (lv' := [(0, .ref 0), (1, .int a), (2, .int b)]) (st' := [.int (((Int8.ofInt (-2)).toInt32))]) rfl ?_
      refine En_top (by decide : ((Int8.ofInt (-2)).toInt32).toInt = -2) (fun z52 h53 => ?_)
      exact En_ret (v := some (.int z52)) rfl rfl rfl ⟨h15, h19, z52, rfl, trivial⟩
/-- DoorSchool.wouldDo(II)I -/
abbrev P_184 (σ0 : SG) (a : Int32) (b : Int32) (p : Nat) (sg : Int32) : PO := fun v σ => WT σ ∧ Fr [] σ0 σ ∧ ∃ ret : Int32, v = some (.int ret) ∧ True
set_option maxRecDepth 10000 in
set_option maxHeartbeats 4000000 in
theorem c_184 (σ0 : SG) (hσ0 : WT σ0) (a : Int32) (b : Int32) (hl_a : 0 ≤ a.toInt) (hu_a : a.toInt ≤ 3) (hl_b : 0 ≤ b.toInt) (hu_b : b.toInt ≤ 2) (p : Nat) (hp : TG p = 18) (h_p : (σ0 0)[9]? = some (.ref p)) (sg : Int32) (h_sg : (σ0 p)[1]? = some (.int sg)) (hp0 : -sg.toInt ≤ 0) : En 3 70 none mr_184 (P_184 σ0 a b p sg) 0 [(0, .ref 0), (1, .int a), (2, .int b)] [] σ0 := by
  obtain ⟨hl_sg, hu_sg⟩ := WT_int hσ0 (g := 18) hp (by decide +kernel) (l := (-1)) (u := 4) (by decide +kernel) h_sg
  have hF0 : Fr [] σ0 σ0 := Fr_rfl
  refine En_Ps 1 (pc' := 1) (lv' := [(0, .ref 0), (1, .int a), (2, .int b)]) (st' := [.ref 0]) rfl ?_
  refine En_getU (j := 3) (u := 8) (g' := 8) (q := 0) rfl rfl rfl tgz_0 (by decide +kernel) hσ0 (by decide +kernel) (by decide +kernel) (fun h1 => ?_)
  refine En_Ps 2 (pc' := 6) (lv' := [(0, .ref 0), (1, .int a), (2, .int b)]) (st' := [.ref 0, .int b, .ref 8]) rfl ?_
  refine En_getK (j := 9) h_p rfl rfl rfl tgz_0 (by decide +kernel) ?_
  refine En_getR (j := 4) (g' := 19) (u := 0) rfl rfl rfl hp (by decide +kernel) hσ0 (by decide +kernel) (fun a4 h3 ha4 => ?_)
  refine En_Ps 1 (pc' := 13) (lv' := [(0, .ref 0), (1, .int a), (2, .int b)]) (st' := [.int a, .ref a4, .int b, .ref 8]) rfl ?_
  refine En_aald (g' := 28) (u := 0) rfl rfl ha4 (by decide +kernel) hσ0 (by first | exact q_58e6e51dcc hl_a | omega) (lnI (by decide +kernel : LN _ = 4) (by first | exact q_f3bb6f88f7 hu_a | omega)) (FTsgl (by decide +kernel)) (fun a6 h5 ha6 => ?_)
  refine En_getR (j := 0) (g' := 20) (u := 0) rfl rfl rfl ha6 (by decide +kernel) hσ0 (by decide +kernel) (fun a8 h7 ha8 => ?_)
  refine En_callV rfl rfl rfl rfl rfl rfl rfl rfl tgz_8 (by decide +kernel) rfl (c_22 σ0 hσ0 b a8 ha8) (by decide) (by decide) (fun v10 σ11 h9 => ?_)
  obtain ⟨h12, h13, z15, rfl, h14⟩ := h9
  have h16 := Fr_trans hF0 h13 (by decide +kernel)
  exact En_ret (v := some (.int z15)) rfl rfl rfl ⟨h12, h16, z15, rfl, trivial⟩
/-- DoorSchool.stolenBy(II)I -/
abbrev P_171 (σ0 : SG) (a : Int32) (b : Int32) (p : Nat) (sg : Int32) : PO := fun v σ => WT σ ∧ Fr [] σ0 σ ∧ ∃ ret : Int32, v = some (.int ret) ∧ True
set_option maxRecDepth 10000 in
set_option maxHeartbeats 4000000 in
theorem c_171 (σ0 : SG) (hσ0 : WT σ0) (a : Int32) (b : Int32) (hl_a : 0 ≤ a.toInt) (hu_a : a.toInt ≤ 3) (hl_b : 0 ≤ b.toInt) (hu_b : b.toInt ≤ 2) (p : Nat) (hp : TG p = 18) (h_p : (σ0 0)[9]? = some (.ref p)) (sg : Int32) (h_sg : (σ0 p)[1]? = some (.int sg)) (hp0 : -sg.toInt ≤ 0) : En 4 92 none mr_171 (P_171 σ0 a b p sg) 0 [(0, .ref 0), (1, .int a), (2, .int b)] [] σ0 := by
  obtain ⟨hl_sg, hu_sg⟩ := WT_int hσ0 (g := 18) hp (by decide +kernel) (l := (-1)) (u := 4) (by decide +kernel) h_sg
  have hF0 : Fr [] σ0 σ0 := Fr_rfl
  refine En_Ps 3 (pc' := 3) (lv' := [(0, .ref 0), (1, .int a), (2, .int b)]) (st' := [.int b, .int a, .ref 0]) rfl ?_
  refine En_callV rfl rfl rfl rfl rfl rfl rfl rfl tgz_0 (by decide +kernel) rfl (c_184 σ0 hσ0 a b (geI rfl (by first | exact q_58e6e51dcc hl_a | omega)) (leI rfl (by first | exact q_da5e9b976f hu_a | omega)) (geI rfl (by first | exact q_58e6e51dcc hl_b | omega)) (leI rfl (by first | exact q_a85463bd0d hu_b | omega)) p hp h_p sg h_sg (by first | exact q_a555021d16 hp0 | omega)) (by decide) (by decide) (fun v2 σ3 h1 => ?_)
  obtain ⟨h4, h5, z7, rfl, h6⟩ := h1
  have h8 := Fr_trans hF0 h5 (by decide +kernel)
  refine En_Ps 1 (pc' := 7) (lv' := [(0, .ref 0), (1, .int a), (2, .int b)]) (st' := [.ref 0, .int z7]) rfl ?_
  refine En_callV rfl rfl rfl rfl rfl rfl rfl rfl tgz_0 (by decide +kernel) rfl (c_160 σ3 h4 p hp ((h5 _ _ (inW tgz_0 (by decide +kernel))).trans h_p) sg ((h5 _ _ (inW hp (by decide +kernel))).trans h_sg) (by first | exact q_a555021d16 hp0 | omega)) (by decide) (by decide) (fun v10 σ11 h9 => ?_)
  obtain ⟨h12, h13, z15, rfl, h14⟩ := h9
  have h16 := Fr_trans h8 h13 (by decide +kernel)
  refine En_Ps 2 (pc' := 12) (lv' := [(0, .ref 0), (1, .int a), (2, .int b)]) (st' := [.int ((z15 ^^^ ((Int32.ofInt (-1))))), .int z7]) rfl ?_
  refine En_nam (fun z17 h18 => ?_)
  refine En_Ps 1 (pc' := 13) (lv' := [(0, .ref 0), (1, .int a), (2, .int b)]) (st' := [.int ((z7 &&& z17))]) rfl ?_
  refine En_nam (fun z19 h20 => ?_)
  exact En_ret (v := some (.int z19)) rfl rfl rfl ⟨h12, h16, z19, rfl, trivial⟩
/-- DoorSchool.game(III)I -/
abbrev P_131 (σ0 : SG) (a : Int32) (b : Int32) (c : Int32) (p : Nat) (sg : Int32) : PO := fun v σ => WT σ ∧ Fr [] σ0 σ ∧ ∃ ret : Int32, v = some (.int ret) ∧ -ret.toInt - 2 ≤ 0 ∧ ret.toInt - 1 ≤ 0
set_option maxRecDepth 10000 in
set_option maxHeartbeats 4000000 in
theorem c_131 (σ0 : SG) (hσ0 : WT σ0) (a : Int32) (b : Int32) (c : Int32) (p : Nat) (hp : TG p = 18) (h_p : (σ0 0)[9]? = some (.ref p)) (sg : Int32) (h_sg : (σ0 p)[1]? = some (.int sg)) (hp0 : -sg.toInt ≤ 0) : En 5 114 none mr_131 (P_131 σ0 a b c p sg) 0 [(0, .ref 0), (1, .int a), (2, .int b), (3, .int c)] [] σ0 := by
  obtain ⟨hl_sg, hu_sg⟩ := WT_int hσ0 (g := 18) hp (by decide +kernel) (l := (-1)) (u := 4) (by decide +kernel) h_sg
  have hF0 : Fr [] σ0 σ0 := Fr_rfl
  refine En_Ps 1 (pc' := 1) (lv' := [(0, .ref 0), (1, .int a), (2, .int b), (3, .int c)]) (st' := [.ref 0]) rfl ?_
  refine En_getK (j := 9) h_p rfl rfl rfl tgz_0 (by decide +kernel) ?_
  refine En_Ps 1 (pc' := 5) (lv' := [(0, .ref 0), (1, .int a), (2, .int b), (3, .int c)]) (st' := [.int a, .ref p]) rfl ?_
  refine En_callV rfl rfl rfl rfl rfl rfl rfl rfl hp (by decide +kernel) rfl (c_47 σ0 hσ0 p hp a) (by decide) (by decide) (fun v2 σ3 h1 => ?_)
  obtain ⟨h4, h5, z7, rfl, h6⟩ := h1
  have h8 := Fr_trans hF0 h5 (by decide +kernel)
  refine En_iEq _ rfl rfl (fun h9 => ?_) (fun h9 => ?_)
  · refine En_Ps 1 (pc' := 31) (lv' := [(0, .ref 0), (1, .int a), (2, .int b), (3, .int c)]) (st' := [.int (((Int8.ofInt (-2)).toInt32))]) rfl ?_
    refine En_top (by decide : ((Int8.ofInt (-2)).toInt32).toInt = -2) (fun z10 h11 => ?_)
    exact En_ret (v := some (.int z10)) rfl rfl rfl ⟨h4, h8, z10, rfl, ⟨by first | exact q_f35c5d346c h11 | omega, by first | exact q_680688d8e6 h11 | omega⟩⟩
  · refine En_Ps 1 (pc' := 12) (lv' := [(0, .ref 0), (1, .int a), (2, .int b), (3, .int c)]) (st' := [.int b]) rfl ?_
    refine En_callS rfl rfl rfl rfl rfl rfl rfl rfl rfl (c_148 σ3 h4 b) (by decide) (by decide) (fun v13 σ14 h12 => ?_)
    obtain ⟨h15, h16, z18, rfl, h17⟩ := h12
    have h19 := Fr_trans h8 h16 (by decide +kernel)
    refine En_iEq _ rfl rfl (fun h20 => ?_) (fun h20 => ?_)
    · refine En_Ps 1 (pc' := 31) (lv' := [(0, .ref 0), (1, .int a), (2, .int b), (3, .int c)]) (st' := [.int (((Int8.ofInt (-2)).toInt32))]) rfl ?_
      refine En_top (by decide : ((Int8.ofInt (-2)).toInt32).toInt = -2) (fun z21 h22 => ?_)
      exact En_ret (v := some (.int z21)) rfl rfl rfl ⟨h15, h19, z21, rfl, ⟨by first | exact q_f35c5d346c h22 | omega, by first | exact q_680688d8e6 h22 | omega⟩⟩
    · refine En_Ps 1 (pc' := 19) (lv' := [(0, .ref 0), (1, .int a), (2, .int b), (3, .int c)]) (st' := [.ref 0]) rfl ?_
      refine En_getK (j := 9) ((h16 _ _ (inW tgz_0 (by decide +kernel))).trans ((h5 _ _ (inW tgz_0 (by decide +kernel))).trans h_p)) rfl rfl rfl tgz_0 (by decide +kernel) ?_
      refine En_Ps 1 (pc' := 23) (lv' := [(0, .ref 0), (1, .int a), (2, .int b), (3, .int c)]) (st' := [.int c, .ref p]) rfl ?_
      refine En_callV rfl rfl rfl rfl rfl rfl rfl rfl hp (by decide +kernel) rfl (c_49 σ14 h15 p hp c sg ((h16 _ _ (inW hp (by decide +kernel))).trans ((h5 _ _ (inW hp (by decide +kernel))).trans h_sg)) (by first | exact q_a555021d16 hp0 | omega)) (by decide) (by decide) (fun v24 σ25 h23 => ?_)
      obtain ⟨h26, h27, z29, rfl, h28⟩ := h23
      have h30 := Fr_trans h19 h27 (by decide +kernel)
      refine En_iNe _ rfl rfl (fun h31 => ?_) (fun h31 => ?_)
      · refine En_Ps 1 (pc' := 33) (lv' := [(0, .ref 0), (1, .int a), (2, .int b), (3, .int c)]) (st' := [.ref 0]) rfl ?_
        refine En_callV rfl rfl rfl rfl rfl rfl rfl rfl tgz_0 (by decide +kernel) rfl (c_160 σ25 h26 p hp ((h27 _ _ (inW tgz_0 (by decide +kernel))).trans ((h16 _ _ (inW tgz_0 (by decide +kernel))).trans ((h5 _ _ (inW tgz_0 (by decide +kernel))).trans h_p))) sg ((h27 _ _ (inW hp (by decide +kernel))).trans ((h16 _ _ (inW hp (by decide +kernel))).trans ((h5 _ _ (inW hp (by decide +kernel))).trans h_sg))) (by first | exact q_a555021d16 hp0 | omega)) (by decide) (by decide) (fun v33 σ34 h32 => ?_)
        obtain ⟨h35, h36, z38, rfl, h37⟩ := h32
        have h39 := Fr_trans h30 h36 (by decide +kernel)
        refine En_Ps 1 (pc' := 37) (lv' := [(0, .ref 0), (1, .int a), (2, .int b), (3, .int c)]) (st' := [.int c, .int z38]) rfl ?_
        refine En_callS rfl rfl rfl rfl rfl rfl rfl rfl rfl (c_108 σ34 h35 z38 c) (by decide) (by decide) (fun v41 σ42 h40 => ?_)
        obtain ⟨h43, h44, z46, rfl, h45⟩ := h40
        have h47 := Fr_trans h39 h44 (by decide +kernel)
        refine En_Ps 1 (pc' := 41) (lv' := [(0, .ref 0), (1, .int a), (2, .int b), (3, .int c)]) (st' := [.int ((Int32.ofInt 1)), .int z46]) rfl ?_
        refine En_icNe _ rfl (by decide : (Int32.ofInt 1).toInt = 1) rfl (fun h48 => ?_) (fun h48 => ?_)
        · refine En_Ps 3 (pc' := 50) (lv' := [(0, .ref 0), (1, .int a), (2, .int b), (3, .int c)]) (st' := [.int b, .int a, .ref 0]) rfl ?_
          refine En_callV rfl rfl rfl rfl rfl rfl rfl rfl tgz_0 (by decide +kernel) rfl (c_171 σ42 h43 a b (geI rfl (by omega)) (leI rfl (by omega)) (geI rfl (by omega)) (leI rfl (by omega)) p hp ((h44 _ _ (inW tgz_0 (by decide +kernel))).trans ((h36 _ _ (inW tgz_0 (by decide +kernel))).trans ((h27 _ _ (inW tgz_0 (by decide +kernel))).trans ((h16 _ _ (inW tgz_0 (by decide +kernel))).trans ((h5 _ _ (inW tgz_0 (by decide +kernel))).trans h_p))))) sg ((h44 _ _ (inW hp (by decide +kernel))).trans ((h36 _ _ (inW hp (by decide +kernel))).trans ((h27 _ _ (inW hp (by decide +kernel))).trans ((h16 _ _ (inW hp (by decide +kernel))).trans ((h5 _ _ (inW hp (by decide +kernel))).trans h_sg))))) (by first | exact q_a555021d16 hp0 | omega)) (by decide) (by decide) (fun v50 σ51 h49 => ?_)
          obtain ⟨h52, h53, z55, rfl, h54⟩ := h49
          have h56 := Fr_trans h47 h53 (by decide +kernel)
          refine En_Ps 1 (pc' := 54) (lv' := [(0, .ref 0), (1, .int a), (2, .int b), (3, .int c)]) (st' := [.int c, .int z55]) rfl ?_
          refine En_callS rfl rfl rfl rfl rfl rfl rfl rfl rfl (c_108 σ51 h52 z55 c) (by decide) (by decide) (fun v58 σ59 h57 => ?_)
          obtain ⟨h60, h61, z63, rfl, h62⟩ := h57
          have h64 := Fr_trans h56 h61 (by decide +kernel)
          exact En_ret (v := some (.int z63)) rfl rfl rfl ⟨h60, h64, z63, rfl, ⟨by first | exact q_70a249c7f8 h62.1 | omega, by first | exact q_ad5b726bf8 h62.2 | omega⟩⟩
        · refine En_Ps 1 (pc' := 46) (lv' := [(0, .ref 0), (1, .int a), (2, .int b), (3, .int c)]) (st' := [.int (((Int8.ofInt (-2)).toInt32))]) rfl ?_
          refine En_top (by decide : ((Int8.ofInt (-2)).toInt32).toInt = -2) (fun z65 h66 => ?_)
          exact En_ret (v := some (.int z65)) rfl rfl rfl ⟨h43, h47, z65, rfl, ⟨by first | exact q_f35c5d346c h66 | omega, by first | exact q_680688d8e6 h66 | omega⟩⟩
      · refine En_Ps 1 (pc' := 31) (lv' := [(0, .ref 0), (1, .int a), (2, .int b), (3, .int c)]) (st' := [.int (((Int8.ofInt (-2)).toInt32))]) rfl ?_
        refine En_top (by decide : ((Int8.ofInt (-2)).toInt32).toInt = -2) (fun z67 h68 => ?_)
        exact En_ret (v := some (.int z67)) rfl rfl rfl ⟨h26, h30, z67, rfl, ⟨by first | exact q_f35c5d346c h68 | omega, by first | exact q_680688d8e6 h68 | omega⟩⟩

