/-- DoorSchool$Reader.readAhead(LDoorSchool$Plan;)V -/
abbrev P_61 (σ0 : SG) (a : Nat) (f : Int32) (sg : Int32) : PO := fun v σ => WT σ ∧ Fr [(3, 1), (3, 2), (3, 3), (3, 4), (3, 5), (3, 6), (26, 0)] σ0 σ ∧ ∃ f1 : Int32, (σ 3)[5]? = some (.int f1) ∧ v = none ∧ -f1.toInt ≤ 0 ∧ f1.toInt - 3 ≤ 0 ∧ -f1.toInt + f.toInt ≤ 0 ∧ f1.toInt - f.toInt - 3 ≤ 0 ∧ -f1.toInt + sg.toInt - 4 ≤ 0 ∧ f1.toInt - sg.toInt - 3 ≤ 0 ∧ f.toInt - f1.toInt ≤ 0
set_option maxRecDepth 10000 in
set_option maxHeartbeats 4000000 in
theorem c_61 (σ0 : SG) (hσ0 : WT σ0) (a : Nat) (ha : TG a = 18) (f : Int32) (h_f : (σ0 3)[5]? = some (.int f)) (sg : Int32) (h_sg : (σ0 a)[1]? = some (.int sg)) (hp0 : -sg.toInt ≤ 0) : En 3 66 none mr_61 (P_61 σ0 a f sg) 0 [(0, .ref 3), (1, .ref a)] [] σ0 := by
  obtain ⟨hl_f, hu_f⟩ := WT_int hσ0 (g := 3) (by decide +kernel) (by decide +kernel) (l := 0) (u := 3) (by decide +kernel) h_f
  obtain ⟨hl_sg, hu_sg⟩ := WT_int hσ0 (g := 18) ha (by decide +kernel) (l := (-1)) (u := 4) (by decide +kernel) h_sg
  have hF0 : Fr [(3, 1), (3, 2), (3, 3), (3, 4), (3, 5), (3, 6), (26, 0)] σ0 σ0 := Fr_rfl
  refine En_Ps 1 (pc' := 1) (lv' := [(0, .ref 3), (1, .ref a)]) (st' := [.ref 3]) rfl ?_
  refine En_callV rfl rfl rfl rfl rfl rfl rfl rfl (by decide +kernel : TG 3 = 3) (by decide +kernel) rfl (c_72 σ0 hσ0) (by decide) (by decide) (fun v2 σ3 h1 => ?_)
  obtain ⟨h4, h5, rfl, h6⟩ := h1
  have h7 := Fr_trans hF0 h5 (by decide +kernel)
  refine En_Ps 3 (pc' := 7) (lv' := [(0, .ref 3), (1, .ref a)]) (st' := [.ref a, .int ((Int32.ofInt 0)), .ref 3]) rfl ?_
  refine En_getI (j := 11) (l := 0) (u := 6) rfl rfl rfl ha (by decide +kernel) h4 (by decide +kernel) (fun z9 h8 h10 h11 => ?_)
  refine En_Ps 2 (pc' := 12) (lv' := [(0, .ref 3), (1, .ref a)]) (st' := [.int ((z9 - ((Int32.ofInt 1)))), .int ((Int32.ofInt 0)), .ref 3]) rfl ?_
  refine En_top (subI rfl (by decide : (Int32.ofInt 1).toInt = 1) (by omega) (by omega)) (fun z12 h13 => ?_)
  have := (by decide : ((Int32.ofInt 0)).toInt = 0)
  refine En_callV rfl rfl rfl rfl rfl rfl rfl rfl (by decide +kernel : TG 3 = 3) (by decide +kernel) rfl (c_73 σ3 h4 ((Int32.ofInt 0)) z12 f ((h5 _ _ (inW (by decide +kernel : TG 3 = 3) (by decide +kernel))).trans h_f)) (by decide) (by decide) (fun v15 σ16 h14 => ?_)
  obtain ⟨h17, h18, z20, h21, z22, rfl, h19⟩ := h14
  have h23 := Fr_trans h7 h18 (by decide +kernel)
  refine En_Ps 5 (pc' := 20) (lv' := [(2, .int z22), (0, .ref 3), (1, .ref a)]) (st' := [.int ((z22 + ((Int32.ofInt 1)))), .ref 3]) rfl ?_
  refine En_top (addI rfl (by decide : (Int32.ofInt 1).toInt = 1) (by omega) (by omega)) (fun z24 h25 => ?_)
  refine En_Ps 1 (pc' := 21) (lv' := [(2, .int z22), (0, .ref 3), (1, .ref a)]) (st' := [.ref a, .int z24, .ref 3]) rfl ?_
  refine En_getK (j := 11) ((h18 _ _ (inW ha (by decide +kernel))).trans h8) rfl rfl rfl ha (by decide +kernel) ?_
  refine En_Ps 2 (pc' := 26) (lv' := [(2, .int z22), (0, .ref 3), (1, .ref a)]) (st' := [.int ((z9 - ((Int32.ofInt 1)))), .int z24, .ref 3]) rfl ?_
  refine En_top (subI rfl (by decide : (Int32.ofInt 1).toInt = 1) (by omega) (by omega)) (fun z26 h27 => ?_)
  refine En_callV rfl rfl rfl rfl rfl rfl rfl rfl (by decide +kernel : TG 3 = 3) (by decide +kernel) rfl (c_73 σ16 h17 z24 z26 z20 h21) (by decide) (by decide) (fun v29 σ30 h28 => ?_)
  obtain ⟨h31, h32, z34, h35, z36, rfl, h33⟩ := h28
  have h37 := Fr_trans h23 h32 (by decide +kernel)
  refine En_Ps 2 (pc' := 31) (lv' := [(3, .int z36), (2, .int z22), (0, .ref 3), (1, .ref a)]) (st' := [.ref 3]) rfl ?_
  refine En_getK (j := 5) h35 rfl rfl rfl (by decide +kernel : TG 3 = 3) (by decide +kernel) ?_
  refine En_iNe _ rfl rfl (fun h38 => ?_) (fun h38 => ?_)
  · exact En_ret (v := none) rfl rfl rfl ⟨h31, h37, z34, h35, rfl, (by omega)⟩
  · refine En_Ps 1 (pc' := 38) (lv' := [(3, .int z36), (2, .int z22), (0, .ref 3), (1, .ref a)]) (st' := [.ref a]) rfl ?_
    refine En_getR (j := 13) (g' := 26) (u := 0) rfl rfl rfl ha (by decide +kernel) h31 (by decide +kernel) (fun a40 h39 ha40 => ?_)
    refine En_Ps 2 (pc' := 43) (lv' := [(3, .int z36), (2, .int z22), (0, .ref 3), (1, .ref a)]) (st' := [.int z36, .ref a40, .int z36, .ref a40]) rfl ?_
    refine En_iald (l := 0) (u := 63) rfl rfl ha40 (by decide +kernel) h31 (by omega) (lnI (by decide +kernel : LN _ = 6) (by omega)) (FTsgl (by decide +kernel)) (fun z42 h41 h43 h44 => ?_)
    refine En_Ps 3 (pc' := 47) (lv' := [(3, .int z36), (2, .int z22), (0, .ref 3), (1, .ref a)]) (st' := [.int ((((Int32.ofInt 1)) <<< (z22 &&& 31))), .int z42, .int z36, .ref a40]) rfl ?_
    refine En_rng (shl1_p 4 rfl (by omega) (by omega) (by decide)) (fun z45 h46 h47 => ?_)
    refine En_Ps 1 (pc' := 48) (lv' := [(3, .int z36), (2, .int z22), (0, .ref 3), (1, .ref a)]) (st' := [.int ((z42 ||| z45)), .int z36, .ref a40]) rfl ?_
    refine En_rng (l := 0) (u := 63) (or_rng 6 rfl rfl (by omega) (by omega) (by omega) (by omega) (by decide)) (fun z48 h49 h50 => ?_)
    refine En_iast (l := 0) (u := 63) rfl rfl ha40 (by decide +kernel) (by omega) (lnI (by decide +kernel : LN _ = 6) (by omega)) (FTsgl (by decide +kernel)) (rngI rfl (by omega) (by omega)) h31 h37 (by decide +kernel) (fun σ51 h52 h53 h54 h55 => ?_)
    exact En_ret (v := none) rfl rfl rfl ⟨h52, h53, z34, ((h55 _ _ (Or.inl (neTG (by decide +kernel : TG 3 = 3) ha40 (by decide)))).trans h35), rfl, (by omega)⟩
/-- DoorSchool$Reader.read(LDoorSchool$Plan;)V -/
abbrev P_60 (σ0 : SG) (a : Nat) : PO := fun v σ => WT σ ∧ Fr [(3, 1), (3, 2), (3, 3), (3, 4), (3, 5), (3, 6), (18, 0), (18, 1), (18, 2), (18, 3), (18, 6), (18, 7), (18, 8), (18, 11), (18, 14), (20, 2), (21, 0), (22, 0), (23, 0), (24, 0), (25, 0), (26, 0), (28, 1), (28, 2), (28, 3)] σ0 σ ∧ ∃ f1 : Int32, (σ 3)[5]? = some (.int f1) ∧ ∃ sg1 : Int32, (σ a)[1]? = some (.int sg1) ∧ v = none ∧ -f1.toInt ≤ 0 ∧ f1.toInt - 3 ≤ 0 ∧ -sg1.toInt - 1 ≤ 0 ∧ sg1.toInt - 4 ≤ 0 ∧ -sg1.toInt - f1.toInt ≤ 0
set_option maxRecDepth 10000 in
set_option maxHeartbeats 4000000 in
theorem c_60 (σ0 : SG) (hσ0 : WT σ0) (a : Nat) (ha : TG a = 18) : En 7 159 none mr_60 (P_60 σ0 a) 0 [(0, .ref 3), (1, .ref a)] [] σ0 := by
  have hF0 : Fr [(3, 1), (3, 2), (3, 3), (3, 4), (3, 5), (3, 6), (18, 0), (18, 1), (18, 2), (18, 3), (18, 6), (18, 7), (18, 8), (18, 11), (18, 14), (20, 2), (21, 0), (22, 0), (23, 0), (24, 0), (25, 0), (26, 0), (28, 1), (28, 2), (28, 3)] σ0 σ0 := Fr_rfl
  refine En_Ps 2 (pc' := 2) (lv' := [(0, .ref 3), (1, .ref a)]) (st' := [.int ((Int32.ofInt 0)), .ref 3]) rfl ?_
  refine En_put (j := 5) rfl rfl rfl (by decide +kernel : TG 3 = 3) (by decide +kernel) rfl (vI (l := 0) (u := 3) (by decide +kernel) (by decide : (Int32.ofInt 0).toInt = 0) (by omega) (by omega)) hσ0 hF0 (by decide +kernel) (fun σ1 h2 h3 h4 h5 => ?_)
  refine En_Ps 2 (pc' := 7) (lv' := [(0, .ref 3), (1, .ref a)]) (st' := [.int ((Int32.ofInt (-1))), .ref 3]) rfl ?_
  refine En_put (j := 6) rfl rfl rfl (by decide +kernel : TG 3 = 3) (by decide +kernel) rfl (vI (l := (-1)) (u := 1600) (by decide +kernel) (by decide : (Int32.ofInt (-1)).toInt = -1) (by omega) (by omega)) h2 h3 (by decide +kernel) (fun σ6 h7 h8 h9 h10 => ?_)
  refine En_Ps 2 (pc' := 12) (lv' := [(0, .ref 3), (1, .ref a)]) (st' := [.int ((Int32.ofInt 0)), .ref 3]) rfl ?_
  refine En_put (j := 3) rfl rfl rfl (by decide +kernel : TG 3 = 3) (by decide +kernel) rfl (vI (l := 0) (u := 1600) (by decide +kernel) (by decide : (Int32.ofInt 0).toInt = 0) (by omega) (by omega)) h7 h8 (by decide +kernel) (fun σ11 h12 h13 h14 h15 => ?_)
  refine En_Ps 1 (pc' := 16) (lv' := [(0, .ref 3), (1, .ref a)]) (st' := [.ref a]) rfl ?_
  refine En_callV rfl rfl rfl rfl rfl rfl rfl rfl ha (by decide +kernel) rfl (c_42 σ11 h12 a ha) (by decide) (by decide) (fun v17 σ18 h16 => ?_)
  obtain ⟨h19, h20, z22, h23, z24, h25, rfl, h21⟩ := h16
  have h26 := Fr_trans h13 h20 (by decide +kernel)
  refine En_Ps 1 (pc' := 20) (lv' := [(0, .ref 3), (1, .ref a)]) (st' := [.ref 3]) rfl ?_
  refine En_callV rfl rfl rfl rfl rfl rfl rfl rfl (by decide +kernel : TG 3 = 3) (by decide +kernel) rfl (c_72 σ18 h19) (by decide) (by decide) (fun v28 σ29 h27 => ?_)
  obtain ⟨h30, h31, rfl, h32⟩ := h27
  have h33 := Fr_trans h26 h31 (by decide +kernel)
  refine En_Ps 2 (pc' := 25) (lv' := [(2, .int ((Int32.ofInt 0))), (0, .ref 3), (1, .ref a)]) (st' := []) rfl ?_
  have key25 : ∀ (n25 : Nat) (σ38 : SG) (y34 : Int32) (y35 : Int32) (y36 : Int32) (y37 : Int32), WT σ38 → Fr [(3, 1), (3, 2), (3, 3), (3, 4), (3, 5), (3, 6), (18, 0), (18, 1), (18, 2), (18, 3), (18, 6), (18, 7), (18, 8), (18, 11), (18, 14), (20, 2), (21, 0), (22, 0), (23, 0), (24, 0), (25, 0), (26, 0), (28, 1), (28, 2), (28, 3)] σ0 σ38 → (σ38 3)[5]? = some (.int y35) → (σ38 a)[0]? = some (.int y36) → (σ38 a)[1]? = some (.int y37) → 0 ≤ y34.toInt → y34.toInt ≤ 1601 → 0 ≤ y35.toInt → y35.toInt ≤ 3 → 0 ≤ y36.toInt → y36.toInt ≤ 1601 → (-1) ≤ y37.toInt → y37.toInt ≤ 4 → -y37.toInt - y35.toInt ≤ 0 → -y37.toInt - y36.toInt ≤ 0 → y34.toInt - y36.toInt + z22.toInt ≤ 0 → -z22.toInt - y34.toInt + y36.toInt ≤ 0 → -y34.toInt + 1601 < (n25 : Int) → En 7 159 none mr_60 (P_60 σ0 a) 25 [(0, .ref 3), (1, .ref a), (2, .int y34)] [] σ38 := by
    intro n25
    induction n25 with
    | zero =>
      intro σ38 y34 y35 y36 y37 h39 h40 h41 h42 h43 h44 h45 h46 h47 h48 h49 h50 h51 h52 h53 h54 h55 h56
      exfalso; omega
    | succ n25 ih25 =>
      intro σ38 y34 y35 y36 y37 h39 h40 h41 h42 h43 h44 h45 h46 h47 h48 h49 h50 h51 h52 h53 h54 h55 h56
      refine En_Ps 2 (pc' := 29) (lv' := [(0, .ref 3), (1, .ref a), (2, .int y34)]) (st' := [.int (((Int16.ofInt 1600).toInt32)), .int y34]) rfl ?_
      refine En_icGt _ rfl (by decide : ((Int16.ofInt 1600).toInt32).toInt = 1600) rfl (fun h57 => ?_) (fun h57 => ?_)
      · exact En_ret (v := none) rfl rfl rfl ⟨h39, h40, y35, h41, y37, h43, rfl, (by omega)⟩
      · refine En_Ps 1 (pc' := 33) (lv' := [(0, .ref 3), (1, .ref a), (2, .int y34)]) (st' := [.ref 3]) rfl ?_
        refine En_getI (j := 1) (l := 0) (u := 4) rfl rfl rfl (by decide +kernel : TG 3 = 3) (by decide +kernel) h39 (by decide +kernel) (fun z59 h58 h60 h61 => ?_)
        refine En_iEq _ rfl rfl (fun h62 => ?_) (fun h62 => ?_)
        · exact En_ret (v := none) rfl rfl rfl ⟨h39, h40, y35, h41, y37, h43, rfl, (by omega)⟩
        · refine En_Ps 1 (pc' := 40) (lv' := [(0, .ref 3), (1, .ref a), (2, .int y34)]) (st' := [.ref 3]) rfl ?_
          refine En_getK (j := 5) h41 rfl rfl rfl (by decide +kernel : TG 3 = 3) (by decide +kernel) ?_
          refine En_iNe _ rfl rfl (fun h63 => ?_) (fun h63 => ?_)
          · exact En_ret (v := none) rfl rfl rfl ⟨h39, h40, y35, h41, y37, h43, rfl, (by omega)⟩
          · refine En_Ps 1 (pc' := 47) (lv' := [(0, .ref 3), (1, .ref a), (2, .int y34)]) (st' := [.int y34]) rfl ?_
            refine En_iNe _ rfl rfl (fun h64 => ?_) (fun h64 => ?_)
            · refine En_Ps 1 (pc' := 59) (lv' := [(0, .ref 3), (1, .ref a), (2, .int y34)]) (st' := [.ref 3]) rfl ?_
              refine En_ldcS (i := 2) rfl rfl rfl ?_
              refine En_callV rfl rfl rfl rfl rfl rfl rfl rfl (by decide +kernel : TG 3 = 3) (by decide +kernel) rfl (c_71s2 σ38 h39) (by decide) (by decide) (fun v66 σ67 h65 => ?_)
              obtain ⟨h68, h69, z71, rfl, h70⟩ := h65
              have h72 := Fr_trans h40 h69 (by decide +kernel)
              refine En_iEq _ rfl rfl (fun h73 => ?_) (fun h73 => ?_)
              · refine En_Ps 1 (pc' := 76) (lv' := [(0, .ref 3), (1, .ref a), (2, .int y34)]) (st' := [.ref 3]) rfl ?_
                refine En_ldcS (i := 6) rfl rfl rfl ?_
                refine En_callV rfl rfl rfl rfl rfl rfl rfl rfl (by decide +kernel : TG 3 = 3) (by decide +kernel) rfl (c_71s6 σ67 h68) (by decide) (by decide) (fun v75 σ76 h74 => ?_)
                obtain ⟨h77, h78, z80, rfl, h79⟩ := h74
                have h81 := Fr_trans h72 h78 (by decide +kernel)
                refine En_iEq _ rfl rfl (fun h82 => ?_) (fun h82 => ?_)
                · refine En_Ps 1 (pc' := 93) (lv' := [(0, .ref 3), (1, .ref a), (2, .int y34)]) (st' := [.ref 3]) rfl ?_
                  refine En_ldcS (i := 3) rfl rfl rfl ?_
                  refine En_callV rfl rfl rfl rfl rfl rfl rfl rfl (by decide +kernel : TG 3 = 3) (by decide +kernel) rfl (c_71s3 σ76 h77) (by decide) (by decide) (fun v84 σ85 h83 => ?_)
                  obtain ⟨h86, h87, z89, rfl, h88⟩ := h83
                  have h90 := Fr_trans h81 h87 (by decide +kernel)
                  refine En_iEq _ rfl rfl (fun h91 => ?_) (fun h91 => ?_)
                  · refine En_Ps 1 (pc' := 110) (lv' := [(0, .ref 3), (1, .ref a), (2, .int y34)]) (st' := [.ref 3]) rfl ?_
                    refine En_ldcS (i := 17) rfl rfl rfl ?_
                    refine En_callV rfl rfl rfl rfl rfl rfl rfl rfl (by decide +kernel : TG 3 = 3) (by decide +kernel) rfl (c_71s17 σ85 h86) (by decide) (by decide) (fun v93 σ94 h92 => ?_)
                    obtain ⟨h95, h96, z98, rfl, h97⟩ := h92
                    have h99 := Fr_trans h90 h96 (by decide +kernel)
                    refine En_iEq _ rfl rfl (fun h100 => ?_) (fun h100 => ?_)
                    · refine En_Ps 1 (pc' := 127) (lv' := [(0, .ref 3), (1, .ref a), (2, .int y34)]) (st' := [.ref 3]) rfl ?_
                      refine En_ldcS (i := 9) rfl rfl rfl ?_
                      refine En_callV rfl rfl rfl rfl rfl rfl rfl rfl (by decide +kernel : TG 3 = 3) (by decide +kernel) rfl (c_71s9 σ94 h95) (by decide) (by decide) (fun v102 σ103 h101 => ?_)
                      obtain ⟨h104, h105, z107, rfl, h106⟩ := h101
                      have h108 := Fr_trans h99 h105 (by decide +kernel)
                      refine En_iEq _ rfl rfl (fun h109 => ?_) (fun h109 => ?_)
                      · refine En_Ps 1 (pc' := 144) (lv' := [(0, .ref 3), (1, .ref a), (2, .int y34)]) (st' := [.ref 3]) rfl ?_
                        refine En_ldcS (i := 5) rfl rfl rfl ?_
                        refine En_callV rfl rfl rfl rfl rfl rfl rfl rfl (by decide +kernel : TG 3 = 3) (by decide +kernel) rfl (c_71s5 σ103 h104) (by decide) (by decide) (fun v111 σ112 h110 => ?_)
                        obtain ⟨h113, h114, z116, rfl, h115⟩ := h110
                        have h117 := Fr_trans h108 h114 (by decide +kernel)
                        refine En_iEq _ rfl rfl (fun h118 => ?_) (fun h118 => ?_)
                        · refine En_Ps 1 (pc' := 161) (lv' := [(0, .ref 3), (1, .ref a), (2, .int y34)]) (st' := [.ref 3]) rfl ?_
                          refine En_ldcS (i := 1) rfl rfl rfl ?_
                          refine En_callV rfl rfl rfl rfl rfl rfl rfl rfl (by decide +kernel : TG 3 = 3) (by decide +kernel) rfl (c_71s1 σ112 h113) (by decide) (by decide) (fun v120 σ121 h119 => ?_)
                          obtain ⟨h122, h123, z125, rfl, h124⟩ := h119
                          have h126 := Fr_trans h117 h123 (by decide +kernel)
                          refine En_iEq _ rfl rfl (fun h127 => ?_) (fun h127 => ?_)
                          · refine En_Ps 1 (pc' := 178) (lv' := [(0, .ref 3), (1, .ref a), (2, .int y34)]) (st' := [.ref 3]) rfl ?_
                            refine En_ldcS (i := 0) rfl rfl rfl ?_
                            refine En_callV rfl rfl rfl rfl rfl rfl rfl rfl (by decide +kernel : TG 3 = 3) (by decide +kernel) rfl (c_71s0 σ121 h122) (by decide) (by decide) (fun v129 σ130 h128 => ?_)
                            obtain ⟨h131, h132, z134, rfl, h133⟩ := h128
                            have h135 := Fr_trans h126 h132 (by decide +kernel)
                            refine En_iEq _ rfl rfl (fun h136 => ?_) (fun h136 => ?_)
                            · refine En_Ps 2 (pc' := 196) (lv' := [(0, .ref 3), (1, .ref a), (2, .int y34)]) (st' := [.int ((Int32.ofInt 1)), .ref 3]) rfl ?_
                              have := (by decide : ((Int32.ofInt 1)).toInt = 1)
                              refine En_callV rfl rfl rfl rfl rfl rfl rfl rfl (by decide +kernel : TG 3 = 3) (by decide +kernel) rfl (c_54 σ130 h131 ((Int32.ofInt 1)) (geI (by decide : (Int32.ofInt 1).toInt = 1) (by omega)) (leI (by decide : (Int32.ofInt 1).toInt = 1) (by omega)) y35 ((h132 _ _ (inW (by decide +kernel : TG 3 = 3) (by decide +kernel))).trans ((h123 _ _ (inW (by decide +kernel : TG 3 = 3) (by decide +kernel))).trans ((h114 _ _ (inW (by decide +kernel : TG 3 = 3) (by decide +kernel))).trans ((h105 _ _ (inW (by decide +kernel : TG 3 = 3) (by decide +kernel))).trans ((h96 _ _ (inW (by decide +kernel : TG 3 = 3) (by decide +kernel))).trans ((h87 _ _ (inW (by decide +kernel : TG 3 = 3) (by decide +kernel))).trans ((h78 _ _ (inW (by decide +kernel : TG 3 = 3) (by decide +kernel))).trans ((h69 _ _ (inW (by decide +kernel : TG 3 = 3) (by decide +kernel))).trans h41))))))))) (by decide) (by decide) (fun v138 σ139 h137 => ?_)
                              obtain ⟨h140, h141, z143, h144, rfl, h142⟩ := h137
                              have h145 := Fr_trans h135 h141 (by decide +kernel)
                              refine En_Ps 2 (pc' := 201) (lv' := [(0, .ref 3), (1, .ref a), (2, .int y34)]) (st' := [.ref 3, .ref 3]) rfl ?_
                              refine En_getK (j := 1) ((h141 _ _ (inW (by decide +kernel : TG 3 = 3) (by decide +kernel))).trans ((h132 _ _ (inW (by decide +kernel : TG 3 = 3) (by decide +kernel))).trans ((h123 _ _ (inW (by decide +kernel : TG 3 = 3) (by decide +kernel))).trans ((h114 _ _ (inW (by decide +kernel : TG 3 = 3) (by decide +kernel))).trans ((h105 _ _ (inW (by decide +kernel : TG 3 = 3) (by decide +kernel))).trans ((h96 _ _ (inW (by decide +kernel : TG 3 = 3) (by decide +kernel))).trans ((h87 _ _ (inW (by decide +kernel : TG 3 = 3) (by decide +kernel))).trans ((h78 _ _ (inW (by decide +kernel : TG 3 = 3) (by decide +kernel))).trans ((h69 _ _ (inW (by decide +kernel : TG 3 = 3) (by decide +kernel))).trans h58))))))))) rfl rfl rfl (by decide +kernel : TG 3 = 3) (by decide +kernel) ?_
                              refine En_Ps 1 (pc' := 205) (lv' := [(0, .ref 3), (1, .ref a), (2, .int y34)]) (st' := [.int ((Int32.ofInt 3)), .int z59, .ref 3]) rfl ?_
                              refine En_icNe _ rfl (by decide : (Int32.ofInt 3).toInt = 3) rfl (fun h146 => ?_) (fun h146 => ?_)
                              · refine En_Ps 1 (pc' := 213) (lv' := [(0, .ref 3), (1, .ref a), (2, .int y34)]) (st' := [.int ((Int32.ofInt 0)), .ref 3]) rfl ?_
                                have := (by decide : ((Int32.ofInt 0)).toInt = 0)
                                refine En_callV rfl rfl rfl rfl rfl rfl rfl rfl (by decide +kernel : TG 3 = 3) (by decide +kernel) rfl (c_59 σ139 h140 ((Int32.ofInt 0)) (geI (by decide : (Int32.ofInt 0).toInt = 0) (by omega)) (leI (by decide : (Int32.ofInt 0).toInt = 0) (by omega)) z143 h144) (by decide) (by decide) (fun v148 σ149 h147 => ?_)
                                obtain ⟨h150, h151, z153, h154, rfl, h152⟩ := h147
                                have h155 := Fr_trans h145 h151 (by decide +kernel)
                                refine En_Ps 2 (pc' := 218) (lv' := [(0, .ref 3), (1, .ref a), (2, .int y34)]) (st' := [.ref a, .ref a]) rfl ?_
                                refine En_getK (j := 0) ((h151 _ _ (inW ha (by decide +kernel))).trans ((h141 _ _ (inW ha (by decide +kernel))).trans ((h132 _ _ (inW ha (by decide +kernel))).trans ((h123 _ _ (inW ha (by decide +kernel))).trans ((h114 _ _ (inW ha (by decide +kernel))).trans ((h105 _ _ (inW ha (by decide +kernel))).trans ((h96 _ _ (inW ha (by decide +kernel))).trans ((h87 _ _ (inW ha (by decide +kernel))).trans ((h78 _ _ (inW ha (by decide +kernel))).trans ((h69 _ _ (inW ha (by decide +kernel))).trans h42)))))))))) rfl rfl rfl ha (by decide +kernel) ?_
                                refine En_Ps 2 (pc' := 223) (lv' := [(0, .ref 3), (1, .ref a), (2, .int y34)]) (st' := [.int ((y36 + ((Int32.ofInt 1)))), .ref a]) rfl ?_
                                refine En_top (addI rfl (by decide : (Int32.ofInt 1).toInt = 1) (by omega) (by omega)) (fun z156 h157 => ?_)
                                refine En_put (j := 0) rfl rfl rfl ha (by decide +kernel) rfl (vI (l := 0) (u := 1601) (by decide +kernel) rfl (by omega) (by omega)) h150 h155 (by decide +kernel) (fun σ158 h159 h160 h161 h162 => ?_)
                                refine En_Ps 1 (pc' := 229) (lv' := [(2, .int ((y34 + Int32.ofInt 1))), (0, .ref 3), (1, .ref a)]) (st' := []) rfl ?_
                                refine En_lv1 (addI rfl (by decide : (Int32.ofInt 1).toInt = 1) (by omega) (by omega)) (fun z163 h164 => ?_)
                                refine En_Ps 1 (pc' := 25) (lv' := [(2, .int z163), (0, .ref 3), (1, .ref a)]) (st' := []) rfl ?_
                                refine En_lv (lv := [(0, .ref 3), (1, .ref a), (2, .int z163)]) ⟨rfl, rfl, rfl, trivial⟩ ?_
                                exact ih25 σ158 z163 z153 z156 y37 h159 h160 ((h162 _ _ (Or.inr (by decide))).trans h154) h161 ((h162 _ _ (Or.inr (by decide))).trans ((h151 _ _ (inW ha (by decide +kernel))).trans ((h141 _ _ (inW ha (by decide +kernel))).trans ((h132 _ _ (inW ha (by decide +kernel))).trans ((h123 _ _ (inW ha (by decide +kernel))).trans ((h114 _ _ (inW ha (by decide +kernel))).trans ((h105 _ _ (inW ha (by decide +kernel))).trans ((h96 _ _ (inW ha (by decide +kernel))).trans ((h87 _ _ (inW ha (by decide +kernel))).trans ((h78 _ _ (inW ha (by decide +kernel))).trans ((h69 _ _ (inW ha (by decide +kernel))).trans h43))))))))))) (by omega) (by omega) (by omega) (by omega) (by omega) (by omega) (by omega) (by omega) (by omega) (by omega) (by omega) (by omega) (by omega)
                              · refine En_Ps 2 (pc' := 213) (lv' := [(0, .ref 3), (1, .ref a), (2, .int y34)]) (st' := [.int ((Int32.ofInt 1)), .ref 3]) rfl ?_
                                have := (by decide : ((Int32.ofInt 1)).toInt = 1)
                                refine En_callV rfl rfl rfl rfl rfl rfl rfl rfl (by decide +kernel : TG 3 = 3) (by decide +kernel) rfl (c_59 σ139 h140 ((Int32.ofInt 1)) (geI (by decide : (Int32.ofInt 1).toInt = 1) (by omega)) (leI (by decide : (Int32.ofInt 1).toInt = 1) (by omega)) z143 h144) (by decide) (by decide) (fun v166 σ167 h165 => ?_)
                                obtain ⟨h168, h169, z171, h172, rfl, h170⟩ := h165
                                have h173 := Fr_trans h145 h169 (by decide +kernel)
                                refine En_Ps 2 (pc' := 218) (lv' := [(0, .ref 3), (1, .ref a), (2, .int y34)]) (st' := [.ref a, .ref a]) rfl ?_
                                refine En_getK (j := 0) ((h169 _ _ (inW ha (by decide +kernel))).trans ((h141 _ _ (inW ha (by decide +kernel))).trans ((h132 _ _ (inW ha (by decide +kernel))).trans ((h123 _ _ (inW ha (by decide +kernel))).trans ((h114 _ _ (inW ha (by decide +kernel))).trans ((h105 _ _ (inW ha (by decide +kernel))).trans ((h96 _ _ (inW ha (by decide +kernel))).trans ((h87 _ _ (inW ha (by decide +kernel))).trans ((h78 _ _ (inW ha (by decide +kernel))).trans ((h69 _ _ (inW ha (by decide +kernel))).trans h42)))))))))) rfl rfl rfl ha (by decide +kernel) ?_
                                refine En_Ps 2 (pc' := 223) (lv' := [(0, .ref 3), (1, .ref a), (2, .int y34)]) (st' := [.int ((y36 + ((Int32.ofInt 1)))), .ref a]) rfl ?_
                                refine En_top (addI rfl (by decide : (Int32.ofInt 1).toInt = 1) (by omega) (by omega)) (fun z174 h175 => ?_)
                                refine En_put (j := 0) rfl rfl rfl ha (by decide +kernel) rfl (vI (l := 0) (u := 1601) (by decide +kernel) rfl (by omega) (by omega)) h168 h173 (by decide +kernel) (fun σ176 h177 h178 h179 h180 => ?_)
                                refine En_Ps 1 (pc' := 229) (lv' := [(2, .int ((y34 + Int32.ofInt 1))), (0, .ref 3), (1, .ref a)]) (st' := []) rfl ?_
                                refine En_lv1 (addI rfl (by decide : (Int32.ofInt 1).toInt = 1) (by omega) (by omega)) (fun z181 h182 => ?_)
                                refine En_Ps 1 (pc' := 25) (lv' := [(2, .int z181), (0, .ref 3), (1, .ref a)]) (st' := []) rfl ?_
                                refine En_lv (lv := [(0, .ref 3), (1, .ref a), (2, .int z181)]) ⟨rfl, rfl, rfl, trivial⟩ ?_
                                exact ih25 σ176 z181 z171 z174 y37 h177 h178 ((h180 _ _ (Or.inr (by decide))).trans h172) h179 ((h180 _ _ (Or.inr (by decide))).trans ((h169 _ _ (inW ha (by decide +kernel))).trans ((h141 _ _ (inW ha (by decide +kernel))).trans ((h132 _ _ (inW ha (by decide +kernel))).trans ((h123 _ _ (inW ha (by decide +kernel))).trans ((h114 _ _ (inW ha (by decide +kernel))).trans ((h105 _ _ (inW ha (by decide +kernel))).trans ((h96 _ _ (inW ha (by decide +kernel))).trans ((h87 _ _ (inW ha (by decide +kernel))).trans ((h78 _ _ (inW ha (by decide +kernel))).trans ((h69 _ _ (inW ha (by decide +kernel))).trans h43))))))))))) (by omega) (by omega) (by omega) (by omega) (by omega) (by omega) (by omega) (by omega) (by omega) (by omega) (by omega) (by omega) (by omega)
                            · refine En_Ps 2 (pc' := 188) (lv' := [(0, .ref 3), (1, .ref a), (2, .int y34)]) (st' := [.ref a, .ref 3]) rfl ?_
                              refine En_callV rfl rfl rfl rfl rfl rfl rfl rfl (by decide +kernel : TG 3 = 3) (by decide +kernel) rfl (c_61 σ130 h131 a ha y35 ((h132 _ _ (inW (by decide +kernel : TG 3 = 3) (by decide +kernel))).trans ((h123 _ _ (inW (by decide +kernel : TG 3 = 3) (by decide +kernel))).trans ((h114 _ _ (inW (by decide +kernel : TG 3 = 3) (by decide +kernel))).trans ((h105 _ _ (inW (by decide +kernel : TG 3 = 3) (by decide +kernel))).trans ((h96 _ _ (inW (by decide +kernel : TG 3 = 3) (by decide +kernel))).trans ((h87 _ _ (inW (by decide +kernel : TG 3 = 3) (by decide +kernel))).trans ((h78 _ _ (inW (by decide +kernel : TG 3 = 3) (by decide +kernel))).trans ((h69 _ _ (inW (by decide +kernel : TG 3 = 3) (by decide +kernel))).trans h41)))))))) y37 ((h132 _ _ (inW ha (by decide +kernel))).trans ((h123 _ _ (inW ha (by decide +kernel))).trans ((h114 _ _ (inW ha (by decide +kernel))).trans ((h105 _ _ (inW ha (by decide +kernel))).trans ((h96 _ _ (inW ha (by decide +kernel))).trans ((h87 _ _ (inW ha (by decide +kernel))).trans ((h78 _ _ (inW ha (by decide +kernel))).trans ((h69 _ _ (inW ha (by decide +kernel))).trans h43)))))))) (by omega)) (by decide) (by decide) (fun v184 σ185 h183 => ?_)
                              obtain ⟨h186, h187, z189, h190, rfl, h188⟩ := h183
                              have h191 := Fr_trans h135 h187 (by decide +kernel)
                              refine En_Ps 3 (pc' := 201) (lv' := [(0, .ref 3), (1, .ref a), (2, .int y34)]) (st' := [.ref 3, .ref 3]) rfl ?_
                              refine En_getI (j := 1) (l := 0) (u := 4) rfl rfl rfl (by decide +kernel : TG 3 = 3) (by decide +kernel) h186 (by decide +kernel) (fun z193 h192 h194 h195 => ?_)
                              refine En_Ps 1 (pc' := 205) (lv' := [(0, .ref 3), (1, .ref a), (2, .int y34)]) (st' := [.int ((Int32.ofInt 3)), .int z193, .ref 3]) rfl ?_
                              refine En_icNe _ rfl (by decide : (Int32.ofInt 3).toInt = 3) rfl (fun h196 => ?_) (fun h196 => ?_)
                              · refine En_Ps 1 (pc' := 213) (lv' := [(0, .ref 3), (1, .ref a), (2, .int y34)]) (st' := [.int ((Int32.ofInt 0)), .ref 3]) rfl ?_
                                have := (by decide : ((Int32.ofInt 0)).toInt = 0)
                                refine En_callV rfl rfl rfl rfl rfl rfl rfl rfl (by decide +kernel : TG 3 = 3) (by decide +kernel) rfl (c_59 σ185 h186 ((Int32.ofInt 0)) (geI (by decide : (Int32.ofInt 0).toInt = 0) (by omega)) (leI (by decide : (Int32.ofInt 0).toInt = 0) (by omega)) z189 h190) (by decide) (by decide) (fun v198 σ199 h197 => ?_)
                                obtain ⟨h200, h201, z203, h204, rfl, h202⟩ := h197
                                have h205 := Fr_trans h191 h201 (by decide +kernel)
                                refine En_Ps 2 (pc' := 218) (lv' := [(0, .ref 3), (1, .ref a), (2, .int y34)]) (st' := [.ref a, .ref a]) rfl ?_
                                refine En_getK (j := 0) ((h201 _ _ (inW ha (by decide +kernel))).trans ((h187 _ _ (inW ha (by decide +kernel))).trans ((h132 _ _ (inW ha (by decide +kernel))).trans ((h123 _ _ (inW ha (by decide +kernel))).trans ((h114 _ _ (inW ha (by decide +kernel))).trans ((h105 _ _ (inW ha (by decide +kernel))).trans ((h96 _ _ (inW ha (by decide +kernel))).trans ((h87 _ _ (inW ha (by decide +kernel))).trans ((h78 _ _ (inW ha (by decide +kernel))).trans ((h69 _ _ (inW ha (by decide +kernel))).trans h42)))))))))) rfl rfl rfl ha (by decide +kernel) ?_
                                refine En_Ps 2 (pc' := 223) (lv' := [(0, .ref 3), (1, .ref a), (2, .int y34)]) (st' := [.int ((y36 + ((Int32.ofInt 1)))), .ref a]) rfl ?_
                                refine En_top (addI rfl (by decide : (Int32.ofInt 1).toInt = 1) (by omega) (by omega)) (fun z206 h207 => ?_)
                                refine En_put (j := 0) rfl rfl rfl ha (by decide +kernel) rfl (vI (l := 0) (u := 1601) (by decide +kernel) rfl (by omega) (by omega)) h200 h205 (by decide +kernel) (fun σ208 h209 h210 h211 h212 => ?_)
                                refine En_Ps 1 (pc' := 229) (lv' := [(2, .int ((y34 + Int32.ofInt 1))), (0, .ref 3), (1, .ref a)]) (st' := []) rfl ?_
                                refine En_lv1 (addI rfl (by decide : (Int32.ofInt 1).toInt = 1) (by omega) (by omega)) (fun z213 h214 => ?_)
                                refine En_Ps 1 (pc' := 25) (lv' := [(2, .int z213), (0, .ref 3), (1, .ref a)]) (st' := []) rfl ?_
                                refine En_lv (lv := [(0, .ref 3), (1, .ref a), (2, .int z213)]) ⟨rfl, rfl, rfl, trivial⟩ ?_
                                exact ih25 σ208 z213 z203 z206 y37 h209 h210 ((h212 _ _ (Or.inr (by decide))).trans h204) h211 ((h212 _ _ (Or.inr (by decide))).trans ((h201 _ _ (inW ha (by decide +kernel))).trans ((h187 _ _ (inW ha (by decide +kernel))).trans ((h132 _ _ (inW ha (by decide +kernel))).trans ((h123 _ _ (inW ha (by decide +kernel))).trans ((h114 _ _ (inW ha (by decide +kernel))).trans ((h105 _ _ (inW ha (by decide +kernel))).trans ((h96 _ _ (inW ha (by decide +kernel))).trans ((h87 _ _ (inW ha (by decide +kernel))).trans ((h78 _ _ (inW ha (by decide +kernel))).trans ((h69 _ _ (inW ha (by decide +kernel))).trans h43))))))))))) (by omega) (by omega) (by omega) (by omega) (by omega) (by omega) (by omega) (by omega) (by omega) (by omega) (by omega) (by omega) (by omega)
                              · refine En_Ps 2 (pc' := 213) (lv' := [(0, .ref 3), (1, .ref a), (2, .int y34)]) (st' := [.int ((Int32.ofInt 1)), .ref 3]) rfl ?_
                                have := (by decide : ((Int32.ofInt 1)).toInt = 1)
                                refine En_callV rfl rfl rfl rfl rfl rfl rfl rfl (by decide +kernel : TG 3 = 3) (by decide +kernel) rfl (c_59 σ185 h186 ((Int32.ofInt 1)) (geI (by decide : (Int32.ofInt 1).toInt = 1) (by omega)) (leI (by decide : (Int32.ofInt 1).toInt = 1) (by omega)) z189 h190) (by decide) (by decide) (fun v216 σ217 h215 => ?_)
                                obtain ⟨h218, h219, z221, h222, rfl, h220⟩ := h215
                                have h223 := Fr_trans h191 h219 (by decide +kernel)
                                refine En_Ps 2 (pc' := 218) (lv' := [(0, .ref 3), (1, .ref a), (2, .int y34)]) (st' := [.ref a, .ref a]) rfl ?_
                                refine En_getK (j := 0) ((h219 _ _ (inW ha (by decide +kernel))).trans ((h187 _ _ (inW ha (by decide +kernel))).trans ((h132 _ _ (inW ha (by decide +kernel))).trans ((h123 _ _ (inW ha (by decide +kernel))).trans ((h114 _ _ (inW ha (by decide +kernel))).trans ((h105 _ _ (inW ha (by decide +kernel))).trans ((h96 _ _ (inW ha (by decide +kernel))).trans ((h87 _ _ (inW ha (by decide +kernel))).trans ((h78 _ _ (inW ha (by decide +kernel))).trans ((h69 _ _ (inW ha (by decide +kernel))).trans h42)))))))))) rfl rfl rfl ha (by decide +kernel) ?_
                                refine En_Ps 2 (pc' := 223) (lv' := [(0, .ref 3), (1, .ref a), (2, .int y34)]) (st' := [.int ((y36 + ((Int32.ofInt 1)))), .ref a]) rfl ?_
                                refine En_top (addI rfl (by decide : (Int32.ofInt 1).toInt = 1) (by omega) (by omega)) (fun z224 h225 => ?_)
                                refine En_put (j := 0) rfl rfl rfl ha (by decide +kernel) rfl (vI (l := 0) (u := 1601) (by decide +kernel) rfl (by omega) (by omega)) h218 h223 (by decide +kernel) (fun σ226 h227 h228 h229 h230 => ?_)
                                refine En_Ps 1 (pc' := 229) (lv' := [(2, .int ((y34 + Int32.ofInt 1))), (0, .ref 3), (1, .ref a)]) (st' := []) rfl ?_
                                refine En_lv1 (addI rfl (by decide : (Int32.ofInt 1).toInt = 1) (by omega) (by omega)) (fun z231 h232 => ?_)
                                refine En_Ps 1 (pc' := 25) (lv' := [(2, .int z231), (0, .ref 3), (1, .ref a)]) (st' := []) rfl ?_
                                refine En_lv (lv := [(0, .ref 3), (1, .ref a), (2, .int z231)]) ⟨rfl, rfl, rfl, trivial⟩ ?_
                                exact ih25 σ226 z231 z221 z224 y37 h227 h228 ((h230 _ _ (Or.inr (by decide))).trans h222) h229 ((h230 _ _ (Or.inr (by decide))).trans ((h219 _ _ (inW ha (by decide +kernel))).trans ((h187 _ _ (inW ha (by decide +kernel))).trans ((h132 _ _ (inW ha (by decide +kernel))).trans ((h123 _ _ (inW ha (by decide +kernel))).trans ((h114 _ _ (inW ha (by decide +kernel))).trans ((h105 _ _ (inW ha (by decide +kernel))).trans ((h96 _ _ (inW ha (by decide +kernel))).trans ((h87 _ _ (inW ha (by decide +kernel))).trans ((h78 _ _ (inW ha (by decide +kernel))).trans ((h69 _ _ (inW ha (by decide +kernel))).trans h43))))))))))) (by omega) (by omega) (by omega) (by omega) (by omega) (by omega) (by omega) (by omega) (by omega) (by omega) (by omega) (by omega) (by omega)
                          · refine En_Ps 2 (pc' := 171) (lv' := [(0, .ref 3), (1, .ref a), (2, .int y34)]) (st' := [.ref a, .ref 3]) rfl ?_
                            refine En_callV rfl rfl rfl rfl rfl rfl rfl rfl (by decide +kernel : TG 3 = 3) (by decide +kernel) rfl (c_62 σ121 h122 a ha y35 ((h123 _ _ (inW (by decide +kernel : TG 3 = 3) (by decide +kernel))).trans ((h114 _ _ (inW (by decide +kernel : TG 3 = 3) (by decide +kernel))).trans ((h105 _ _ (inW (by decide +kernel : TG 3 = 3) (by decide +kernel))).trans ((h96 _ _ (inW (by decide +kernel : TG 3 = 3) (by decide +kernel))).trans ((h87 _ _ (inW (by decide +kernel : TG 3 = 3) (by decide +kernel))).trans ((h78 _ _ (inW (by decide +kernel : TG 3 = 3) (by decide +kernel))).trans ((h69 _ _ (inW (by decide +kernel : TG 3 = 3) (by decide +kernel))).trans h41))))))) y37 ((h123 _ _ (inW ha (by decide +kernel))).trans ((h114 _ _ (inW ha (by decide +kernel))).trans ((h105 _ _ (inW ha (by decide +kernel))).trans ((h96 _ _ (inW ha (by decide +kernel))).trans ((h87 _ _ (inW ha (by decide +kernel))).trans ((h78 _ _ (inW ha (by decide +kernel))).trans ((h69 _ _ (inW ha (by decide +kernel))).trans h43))))))) (by omega)) (by decide) (by decide) (fun v234 σ235 h233 => ?_)
                            obtain ⟨h236, h237, z239, h240, rfl, h238⟩ := h233
                            have h241 := Fr_trans h126 h237 (by decide +kernel)
                            refine En_Ps 3 (pc' := 201) (lv' := [(0, .ref 3), (1, .ref a), (2, .int y34)]) (st' := [.ref 3, .ref 3]) rfl ?_
                            refine En_getI (j := 1) (l := 0) (u := 4) rfl rfl rfl (by decide +kernel : TG 3 = 3) (by decide +kernel) h236 (by decide +kernel) (fun z243 h242 h244 h245 => ?_)
                            refine En_Ps 1 (pc' := 205) (lv' := [(0, .ref 3), (1, .ref a), (2, .int y34)]) (st' := [.int ((Int32.ofInt 3)), .int z243, .ref 3]) rfl ?_
                            refine En_icNe _ rfl (by decide : (Int32.ofInt 3).toInt = 3) rfl (fun h246 => ?_) (fun h246 => ?_)
                            · refine En_Ps 1 (pc' := 213) (lv' := [(0, .ref 3), (1, .ref a), (2, .int y34)]) (st' := [.int ((Int32.ofInt 0)), .ref 3]) rfl ?_
                              have := (by decide : ((Int32.ofInt 0)).toInt = 0)
                              refine En_callV rfl rfl rfl rfl rfl rfl rfl rfl (by decide +kernel : TG 3 = 3) (by decide +kernel) rfl (c_59 σ235 h236 ((Int32.ofInt 0)) (geI (by decide : (Int32.ofInt 0).toInt = 0) (by omega)) (leI (by decide : (Int32.ofInt 0).toInt = 0) (by omega)) z239 h240) (by decide) (by decide) (fun v248 σ249 h247 => ?_)
                              obtain ⟨h250, h251, z253, h254, rfl, h252⟩ := h247
                              have h255 := Fr_trans h241 h251 (by decide +kernel)
                              refine En_Ps 2 (pc' := 218) (lv' := [(0, .ref 3), (1, .ref a), (2, .int y34)]) (st' := [.ref a, .ref a]) rfl ?_
                              refine En_getK (j := 0) ((h251 _ _ (inW ha (by decide +kernel))).trans ((h237 _ _ (inW ha (by decide +kernel))).trans ((h123 _ _ (inW ha (by decide +kernel))).trans ((h114 _ _ (inW ha (by decide +kernel))).trans ((h105 _ _ (inW ha (by decide +kernel))).trans ((h96 _ _ (inW ha (by decide +kernel))).trans ((h87 _ _ (inW ha (by decide +kernel))).trans ((h78 _ _ (inW ha (by decide +kernel))).trans ((h69 _ _ (inW ha (by decide +kernel))).trans h42))))))))) rfl rfl rfl ha (by decide +kernel) ?_
                              refine En_Ps 2 (pc' := 223) (lv' := [(0, .ref 3), (1, .ref a), (2, .int y34)]) (st' := [.int ((y36 + ((Int32.ofInt 1)))), .ref a]) rfl ?_
                              refine En_top (addI rfl (by decide : (Int32.ofInt 1).toInt = 1) (by omega) (by omega)) (fun z256 h257 => ?_)
                              refine En_put (j := 0) rfl rfl rfl ha (by decide +kernel) rfl (vI (l := 0) (u := 1601) (by decide +kernel) rfl (by omega) (by omega)) h250 h255 (by decide +kernel) (fun σ258 h259 h260 h261 h262 => ?_)
                              refine En_Ps 1 (pc' := 229) (lv' := [(2, .int ((y34 + Int32.ofInt 1))), (0, .ref 3), (1, .ref a)]) (st' := []) rfl ?_
                              refine En_lv1 (addI rfl (by decide : (Int32.ofInt 1).toInt = 1) (by omega) (by omega)) (fun z263 h264 => ?_)
                              refine En_Ps 1 (pc' := 25) (lv' := [(2, .int z263), (0, .ref 3), (1, .ref a)]) (st' := []) rfl ?_
                              refine En_lv (lv := [(0, .ref 3), (1, .ref a), (2, .int z263)]) ⟨rfl, rfl, rfl, trivial⟩ ?_
                              exact ih25 σ258 z263 z253 z256 y37 h259 h260 ((h262 _ _ (Or.inr (by decide))).trans h254) h261 ((h262 _ _ (Or.inr (by decide))).trans ((h251 _ _ (inW ha (by decide +kernel))).trans ((h237 _ _ (inW ha (by decide +kernel))).trans ((h123 _ _ (inW ha (by decide +kernel))).trans ((h114 _ _ (inW ha (by decide +kernel))).trans ((h105 _ _ (inW ha (by decide +kernel))).trans ((h96 _ _ (inW ha (by decide +kernel))).trans ((h87 _ _ (inW ha (by decide +kernel))).trans ((h78 _ _ (inW ha (by decide +kernel))).trans ((h69 _ _ (inW ha (by decide +kernel))).trans h43)))))))))) (by omega) (by omega) (by omega) (by omega) (by omega) (by omega) (by omega) (by omega) (by omega) (by omega) (by omega) (by omega) (by omega)
                            · refine En_Ps 2 (pc' := 213) (lv' := [(0, .ref 3), (1, .ref a), (2, .int y34)]) (st' := [.int ((Int32.ofInt 1)), .ref 3]) rfl ?_
                              have := (by decide : ((Int32.ofInt 1)).toInt = 1)
                              refine En_callV rfl rfl rfl rfl rfl rfl rfl rfl (by decide +kernel : TG 3 = 3) (by decide +kernel) rfl (c_59 σ235 h236 ((Int32.ofInt 1)) (geI (by decide : (Int32.ofInt 1).toInt = 1) (by omega)) (leI (by decide : (Int32.ofInt 1).toInt = 1) (by omega)) z239 h240) (by decide) (by decide) (fun v266 σ267 h265 => ?_)
                              obtain ⟨h268, h269, z271, h272, rfl, h270⟩ := h265
                              have h273 := Fr_trans h241 h269 (by decide +kernel)
                              refine En_Ps 2 (pc' := 218) (lv' := [(0, .ref 3), (1, .ref a), (2, .int y34)]) (st' := [.ref a, .ref a]) rfl ?_
                              refine En_getK (j := 0) ((h269 _ _ (inW ha (by decide +kernel))).trans ((h237 _ _ (inW ha (by decide +kernel))).trans ((h123 _ _ (inW ha (by decide +kernel))).trans ((h114 _ _ (inW ha (by decide +kernel))).trans ((h105 _ _ (inW ha (by decide +kernel))).trans ((h96 _ _ (inW ha (by decide +kernel))).trans ((h87 _ _ (inW ha (by decide +kernel))).trans ((h78 _ _ (inW ha (by decide +kernel))).trans ((h69 _ _ (inW ha (by decide +kernel))).trans h42))))))))) rfl rfl rfl ha (by decide +kernel) ?_
                              refine En_Ps 2 (pc' := 223) (lv' := [(0, .ref 3), (1, .ref a), (2, .int y34)]) (st' := [.int ((y36 + ((Int32.ofInt 1)))), .ref a]) rfl ?_
                              refine En_top (addI rfl (by decide : (Int32.ofInt 1).toInt = 1) (by omega) (by omega)) (fun z274 h275 => ?_)
                              refine En_put (j := 0) rfl rfl rfl ha (by decide +kernel) rfl (vI (l := 0) (u := 1601) (by decide +kernel) rfl (by omega) (by omega)) h268 h273 (by decide +kernel) (fun σ276 h277 h278 h279 h280 => ?_)
                              refine En_Ps 1 (pc' := 229) (lv' := [(2, .int ((y34 + Int32.ofInt 1))), (0, .ref 3), (1, .ref a)]) (st' := []) rfl ?_
                              refine En_lv1 (addI rfl (by decide : (Int32.ofInt 1).toInt = 1) (by omega) (by omega)) (fun z281 h282 => ?_)
                              refine En_Ps 1 (pc' := 25) (lv' := [(2, .int z281), (0, .ref 3), (1, .ref a)]) (st' := []) rfl ?_
                              refine En_lv (lv := [(0, .ref 3), (1, .ref a), (2, .int z281)]) ⟨rfl, rfl, rfl, trivial⟩ ?_
                              exact ih25 σ276 z281 z271 z274 y37 h277 h278 ((h280 _ _ (Or.inr (by decide))).trans h272) h279 ((h280 _ _ (Or.inr (by decide))).trans ((h269 _ _ (inW ha (by decide +kernel))).trans ((h237 _ _ (inW ha (by decide +kernel))).trans ((h123 _ _ (inW ha (by decide +kernel))).trans ((h114 _ _ (inW ha (by decide +kernel))).trans ((h105 _ _ (inW ha (by decide +kernel))).trans ((h96 _ _ (inW ha (by decide +kernel))).trans ((h87 _ _ (inW ha (by decide +kernel))).trans ((h78 _ _ (inW ha (by decide +kernel))).trans ((h69 _ _ (inW ha (by decide +kernel))).trans h43)))))))))) (by omega) (by omega) (by omega) (by omega) (by omega) (by omega) (by omega) (by omega) (by omega) (by omega) (by omega) (by omega) (by omega)
                        · refine En_Ps 2 (pc' := 154) (lv' := [(0, .ref 3), (1, .ref a), (2, .int y34)]) (st' := [.ref a, .ref 3]) rfl ?_
                          refine En_callV rfl rfl rfl rfl rfl rfl rfl rfl (by decide +kernel : TG 3 = 3) (by decide +kernel) rfl (c_66 σ112 h113 a ha y35 ((h114 _ _ (inW (by decide +kernel : TG 3 = 3) (by decide +kernel))).trans ((h105 _ _ (inW (by decide +kernel : TG 3 = 3) (by decide +kernel))).trans ((h96 _ _ (inW (by decide +kernel : TG 3 = 3) (by decide +kernel))).trans ((h87 _ _ (inW (by decide +kernel : TG 3 = 3) (by decide +kernel))).trans ((h78 _ _ (inW (by decide +kernel : TG 3 = 3) (by decide +kernel))).trans ((h69 _ _ (inW (by decide +kernel : TG 3 = 3) (by decide +kernel))).trans h41)))))) y37 ((h114 _ _ (inW ha (by decide +kernel))).trans ((h105 _ _ (inW ha (by decide +kernel))).trans ((h96 _ _ (inW ha (by decide +kernel))).trans ((h87 _ _ (inW ha (by decide +kernel))).trans ((h78 _ _ (inW ha (by decide +kernel))).trans ((h69 _ _ (inW ha (by decide +kernel))).trans h43)))))) (by omega)) (by decide) (by decide) (fun v284 σ285 h283 => ?_)
                          obtain ⟨h286, h287, z289, h290, rfl, h288⟩ := h283
                          have h291 := Fr_trans h117 h287 (by decide +kernel)
                          refine En_Ps 3 (pc' := 201) (lv' := [(0, .ref 3), (1, .ref a), (2, .int y34)]) (st' := [.ref 3, .ref 3]) rfl ?_
                          refine En_getI (j := 1) (l := 0) (u := 4) rfl rfl rfl (by decide +kernel : TG 3 = 3) (by decide +kernel) h286 (by decide +kernel) (fun z293 h292 h294 h295 => ?_)
                          refine En_Ps 1 (pc' := 205) (lv' := [(0, .ref 3), (1, .ref a), (2, .int y34)]) (st' := [.int ((Int32.ofInt 3)), .int z293, .ref 3]) rfl ?_
                          refine En_icNe _ rfl (by decide : (Int32.ofInt 3).toInt = 3) rfl (fun h296 => ?_) (fun h296 => ?_)
                          · refine En_Ps 1 (pc' := 213) (lv' := [(0, .ref 3), (1, .ref a), (2, .int y34)]) (st' := [.int ((Int32.ofInt 0)), .ref 3]) rfl ?_
                            have := (by decide : ((Int32.ofInt 0)).toInt = 0)
                            refine En_callV rfl rfl rfl rfl rfl rfl rfl rfl (by decide +kernel : TG 3 = 3) (by decide +kernel) rfl (c_59 σ285 h286 ((Int32.ofInt 0)) (geI (by decide : (Int32.ofInt 0).toInt = 0) (by omega)) (leI (by decide : (Int32.ofInt 0).toInt = 0) (by omega)) z289 h290) (by decide) (by decide) (fun v298 σ299 h297 => ?_)
                            obtain ⟨h300, h301, z303, h304, rfl, h302⟩ := h297
                            have h305 := Fr_trans h291 h301 (by decide +kernel)
                            refine En_Ps 2 (pc' := 218) (lv' := [(0, .ref 3), (1, .ref a), (2, .int y34)]) (st' := [.ref a, .ref a]) rfl ?_
                            refine En_getK (j := 0) ((h301 _ _ (inW ha (by decide +kernel))).trans ((h287 _ _ (inW ha (by decide +kernel))).trans ((h114 _ _ (inW ha (by decide +kernel))).trans ((h105 _ _ (inW ha (by decide +kernel))).trans ((h96 _ _ (inW ha (by decide +kernel))).trans ((h87 _ _ (inW ha (by decide +kernel))).trans ((h78 _ _ (inW ha (by decide +kernel))).trans ((h69 _ _ (inW ha (by decide +kernel))).trans h42)))))))) rfl rfl rfl ha (by decide +kernel) ?_
                            refine En_Ps 2 (pc' := 223) (lv' := [(0, .ref 3), (1, .ref a), (2, .int y34)]) (st' := [.int ((y36 + ((Int32.ofInt 1)))), .ref a]) rfl ?_
                            refine En_top (addI rfl (by decide : (Int32.ofInt 1).toInt = 1) (by omega) (by omega)) (fun z306 h307 => ?_)
                            refine En_put (j := 0) rfl rfl rfl ha (by decide +kernel) rfl (vI (l := 0) (u := 1601) (by decide +kernel) rfl (by omega) (by omega)) h300 h305 (by decide +kernel) (fun σ308 h309 h310 h311 h312 => ?_)
                            refine En_Ps 1 (pc' := 229) (lv' := [(2, .int ((y34 + Int32.ofInt 1))), (0, .ref 3), (1, .ref a)]) (st' := []) rfl ?_
                            refine En_lv1 (addI rfl (by decide : (Int32.ofInt 1).toInt = 1) (by omega) (by omega)) (fun z313 h314 => ?_)
                            refine En_Ps 1 (pc' := 25) (lv' := [(2, .int z313), (0, .ref 3), (1, .ref a)]) (st' := []) rfl ?_
                            refine En_lv (lv := [(0, .ref 3), (1, .ref a), (2, .int z313)]) ⟨rfl, rfl, rfl, trivial⟩ ?_
                            exact ih25 σ308 z313 z303 z306 y37 h309 h310 ((h312 _ _ (Or.inr (by decide))).trans h304) h311 ((h312 _ _ (Or.inr (by decide))).trans ((h301 _ _ (inW ha (by decide +kernel))).trans ((h287 _ _ (inW ha (by decide +kernel))).trans ((h114 _ _ (inW ha (by decide +kernel))).trans ((h105 _ _ (inW ha (by decide +kernel))).trans ((h96 _ _ (inW ha (by decide +kernel))).trans ((h87 _ _ (inW ha (by decide +kernel))).trans ((h78 _ _ (inW ha (by decide +kernel))).trans ((h69 _ _ (inW ha (by decide +kernel))).trans h43))))))))) (by omega) (by omega) (by omega) (by omega) (by omega) (by omega) (by omega) (by omega) (by omega) (by omega) (by omega) (by omega) (by omega)
                          · refine En_Ps 2 (pc' := 213) (lv' := [(0, .ref 3), (1, .ref a), (2, .int y34)]) (st' := [.int ((Int32.ofInt 1)), .ref 3]) rfl ?_
                            have := (by decide : ((Int32.ofInt 1)).toInt = 1)
                            refine En_callV rfl rfl rfl rfl rfl rfl rfl rfl (by decide +kernel : TG 3 = 3) (by decide +kernel) rfl (c_59 σ285 h286 ((Int32.ofInt 1)) (geI (by decide : (Int32.ofInt 1).toInt = 1) (by omega)) (leI (by decide : (Int32.ofInt 1).toInt = 1) (by omega)) z289 h290) (by decide) (by decide) (fun v316 σ317 h315 => ?_)
                            obtain ⟨h318, h319, z321, h322, rfl, h320⟩ := h315
                            have h323 := Fr_trans h291 h319 (by decide +kernel)
                            refine En_Ps 2 (pc' := 218) (lv' := [(0, .ref 3), (1, .ref a), (2, .int y34)]) (st' := [.ref a, .ref a]) rfl ?_
                            refine En_getK (j := 0) ((h319 _ _ (inW ha (by decide +kernel))).trans ((h287 _ _ (inW ha (by decide +kernel))).trans ((h114 _ _ (inW ha (by decide +kernel))).trans ((h105 _ _ (inW ha (by decide +kernel))).trans ((h96 _ _ (inW ha (by decide +kernel))).trans ((h87 _ _ (inW ha (by decide +kernel))).trans ((h78 _ _ (inW ha (by decide +kernel))).trans ((h69 _ _ (inW ha (by decide +kernel))).trans h42)))))))) rfl rfl rfl ha (by decide +kernel) ?_
                            refine En_Ps 2 (pc' := 223) (lv' := [(0, .ref 3), (1, .ref a), (2, .int y34)]) (st' := [.int ((y36 + ((Int32.ofInt 1)))), .ref a]) rfl ?_
                            refine En_top (addI rfl (by decide : (Int32.ofInt 1).toInt = 1) (by omega) (by omega)) (fun z324 h325 => ?_)
                            refine En_put (j := 0) rfl rfl rfl ha (by decide +kernel) rfl (vI (l := 0) (u := 1601) (by decide +kernel) rfl (by omega) (by omega)) h318 h323 (by decide +kernel) (fun σ326 h327 h328 h329 h330 => ?_)
                            refine En_Ps 1 (pc' := 229) (lv' := [(2, .int ((y34 + Int32.ofInt 1))), (0, .ref 3), (1, .ref a)]) (st' := []) rfl ?_
                            refine En_lv1 (addI rfl (by decide : (Int32.ofInt 1).toInt = 1) (by omega) (by omega)) (fun z331 h332 => ?_)
                            refine En_Ps 1 (pc' := 25) (lv' := [(2, .int z331), (0, .ref 3), (1, .ref a)]) (st' := []) rfl ?_
                            refine En_lv (lv := [(0, .ref 3), (1, .ref a), (2, .int z331)]) ⟨rfl, rfl, rfl, trivial⟩ ?_
                            exact ih25 σ326 z331 z321 z324 y37 h327 h328 ((h330 _ _ (Or.inr (by decide))).trans h322) h329 ((h330 _ _ (Or.inr (by decide))).trans ((h319 _ _ (inW ha (by decide +kernel))).trans ((h287 _ _ (inW ha (by decide +kernel))).trans ((h114 _ _ (inW ha (by decide +kernel))).trans ((h105 _ _ (inW ha (by decide +kernel))).trans ((h96 _ _ (inW ha (by decide +kernel))).trans ((h87 _ _ (inW ha (by decide +kernel))).trans ((h78 _ _ (inW ha (by decide +kernel))).trans ((h69 _ _ (inW ha (by decide +kernel))).trans h43))))))))) (by omega) (by omega) (by omega) (by omega) (by omega) (by omega) (by omega) (by omega) (by omega) (by omega) (by omega) (by omega) (by omega)
                      · refine En_Ps 2 (pc' := 137) (lv' := [(0, .ref 3), (1, .ref a), (2, .int y34)]) (st' := [.ref a, .ref 3]) rfl ?_
                        refine En_callV rfl rfl rfl rfl rfl rfl rfl rfl (by decide +kernel : TG 3 = 3) (by decide +kernel) rfl (c_68 σ103 h104 a ha y35 ((h105 _ _ (inW (by decide +kernel : TG 3 = 3) (by decide +kernel))).trans ((h96 _ _ (inW (by decide +kernel : TG 3 = 3) (by decide +kernel))).trans ((h87 _ _ (inW (by decide +kernel : TG 3 = 3) (by decide +kernel))).trans ((h78 _ _ (inW (by decide +kernel : TG 3 = 3) (by decide +kernel))).trans ((h69 _ _ (inW (by decide +kernel : TG 3 = 3) (by decide +kernel))).trans h41))))) y37 ((h105 _ _ (inW ha (by decide +kernel))).trans ((h96 _ _ (inW ha (by decide +kernel))).trans ((h87 _ _ (inW ha (by decide +kernel))).trans ((h78 _ _ (inW ha (by decide +kernel))).trans ((h69 _ _ (inW ha (by decide +kernel))).trans h43))))) (by omega)) (by decide) (by decide) (fun v334 σ335 h333 => ?_)
                        obtain ⟨h336, h337, z339, h340, rfl, h338⟩ := h333
                        have h341 := Fr_trans h108 h337 (by decide +kernel)
                        refine En_Ps 3 (pc' := 201) (lv' := [(0, .ref 3), (1, .ref a), (2, .int y34)]) (st' := [.ref 3, .ref 3]) rfl ?_
                        refine En_getI (j := 1) (l := 0) (u := 4) rfl rfl rfl (by decide +kernel : TG 3 = 3) (by decide +kernel) h336 (by decide +kernel) (fun z343 h342 h344 h345 => ?_)
                        refine En_Ps 1 (pc' := 205) (lv' := [(0, .ref 3), (1, .ref a), (2, .int y34)]) (st' := [.int ((Int32.ofInt 3)), .int z343, .ref 3]) rfl ?_
                        refine En_icNe _ rfl (by decide : (Int32.ofInt 3).toInt = 3) rfl (fun h346 => ?_) (fun h346 => ?_)
                        · refine En_Ps 1 (pc' := 213) (lv' := [(0, .ref 3), (1, .ref a), (2, .int y34)]) (st' := [.int ((Int32.ofInt 0)), .ref 3]) rfl ?_
                          have := (by decide : ((Int32.ofInt 0)).toInt = 0)
                          refine En_callV rfl rfl rfl rfl rfl rfl rfl rfl (by decide +kernel : TG 3 = 3) (by decide +kernel) rfl (c_59 σ335 h336 ((Int32.ofInt 0)) (geI (by decide : (Int32.ofInt 0).toInt = 0) (by omega)) (leI (by decide : (Int32.ofInt 0).toInt = 0) (by omega)) z339 h340) (by decide) (by decide) (fun v348 σ349 h347 => ?_)
                          obtain ⟨h350, h351, z353, h354, rfl, h352⟩ := h347
                          have h355 := Fr_trans h341 h351 (by decide +kernel)
                          refine En_Ps 2 (pc' := 218) (lv' := [(0, .ref 3), (1, .ref a), (2, .int y34)]) (st' := [.ref a, .ref a]) rfl ?_
                          refine En_getK (j := 0) ((h351 _ _ (inW ha (by decide +kernel))).trans ((h337 _ _ (inW ha (by decide +kernel))).trans ((h105 _ _ (inW ha (by decide +kernel))).trans ((h96 _ _ (inW ha (by decide +kernel))).trans ((h87 _ _ (inW ha (by decide +kernel))).trans ((h78 _ _ (inW ha (by decide +kernel))).trans ((h69 _ _ (inW ha (by decide +kernel))).trans h42))))))) rfl rfl rfl ha (by decide +kernel) ?_
                          refine En_Ps 2 (pc' := 223) (lv' := [(0, .ref 3), (1, .ref a), (2, .int y34)]) (st' := [.int ((y36 + ((Int32.ofInt 1)))), .ref a]) rfl ?_
                          refine En_top (addI rfl (by decide : (Int32.ofInt 1).toInt = 1) (by omega) (by omega)) (fun z356 h357 => ?_)
                          refine En_put (j := 0) rfl rfl rfl ha (by decide +kernel) rfl (vI (l := 0) (u := 1601) (by decide +kernel) rfl (by omega) (by omega)) h350 h355 (by decide +kernel) (fun σ358 h359 h360 h361 h362 => ?_)
                          refine En_Ps 1 (pc' := 229) (lv' := [(2, .int ((y34 + Int32.ofInt 1))), (0, .ref 3), (1, .ref a)]) (st' := []) rfl ?_
                          refine En_lv1 (addI rfl (by decide : (Int32.ofInt 1).toInt = 1) (by omega) (by omega)) (fun z363 h364 => ?_)
                          refine En_Ps 1 (pc' := 25) (lv' := [(2, .int z363), (0, .ref 3), (1, .ref a)]) (st' := []) rfl ?_
                          refine En_lv (lv := [(0, .ref 3), (1, .ref a), (2, .int z363)]) ⟨rfl, rfl, rfl, trivial⟩ ?_
                          exact ih25 σ358 z363 z353 z356 y37 h359 h360 ((h362 _ _ (Or.inr (by decide))).trans h354) h361 ((h362 _ _ (Or.inr (by decide))).trans ((h351 _ _ (inW ha (by decide +kernel))).trans ((h337 _ _ (inW ha (by decide +kernel))).trans ((h105 _ _ (inW ha (by decide +kernel))).trans ((h96 _ _ (inW ha (by decide +kernel))).trans ((h87 _ _ (inW ha (by decide +kernel))).trans ((h78 _ _ (inW ha (by decide +kernel))).trans ((h69 _ _ (inW ha (by decide +kernel))).trans h43)))))))) (by omega) (by omega) (by omega) (by omega) (by omega) (by omega) (by omega) (by omega) (by omega) (by omega) (by omega) (by omega) (by omega)
                        · refine En_Ps 2 (pc' := 213) (lv' := [(0, .ref 3), (1, .ref a), (2, .int y34)]) (st' := [.int ((Int32.ofInt 1)), .ref 3]) rfl ?_
                          have := (by decide : ((Int32.ofInt 1)).toInt = 1)
                          refine En_callV rfl rfl rfl rfl rfl rfl rfl rfl (by decide +kernel : TG 3 = 3) (by decide +kernel) rfl (c_59 σ335 h336 ((Int32.ofInt 1)) (geI (by decide : (Int32.ofInt 1).toInt = 1) (by omega)) (leI (by decide : (Int32.ofInt 1).toInt = 1) (by omega)) z339 h340) (by decide) (by decide) (fun v366 σ367 h365 => ?_)
                          obtain ⟨h368, h369, z371, h372, rfl, h370⟩ := h365
                          have h373 := Fr_trans h341 h369 (by decide +kernel)
                          refine En_Ps 2 (pc' := 218) (lv' := [(0, .ref 3), (1, .ref a), (2, .int y34)]) (st' := [.ref a, .ref a]) rfl ?_
                          refine En_getK (j := 0) ((h369 _ _ (inW ha (by decide +kernel))).trans ((h337 _ _ (inW ha (by decide +kernel))).trans ((h105 _ _ (inW ha (by decide +kernel))).trans ((h96 _ _ (inW ha (by decide +kernel))).trans ((h87 _ _ (inW ha (by decide +kernel))).trans ((h78 _ _ (inW ha (by decide +kernel))).trans ((h69 _ _ (inW ha (by decide +kernel))).trans h42))))))) rfl rfl rfl ha (by decide +kernel) ?_
                          refine En_Ps 2 (pc' := 223) (lv' := [(0, .ref 3), (1, .ref a), (2, .int y34)]) (st' := [.int ((y36 + ((Int32.ofInt 1)))), .ref a]) rfl ?_
                          refine En_top (addI rfl (by decide : (Int32.ofInt 1).toInt = 1) (by omega) (by omega)) (fun z374 h375 => ?_)
                          refine En_put (j := 0) rfl rfl rfl ha (by decide +kernel) rfl (vI (l := 0) (u := 1601) (by decide +kernel) rfl (by omega) (by omega)) h368 h373 (by decide +kernel) (fun σ376 h377 h378 h379 h380 => ?_)
                          refine En_Ps 1 (pc' := 229) (lv' := [(2, .int ((y34 + Int32.ofInt 1))), (0, .ref 3), (1, .ref a)]) (st' := []) rfl ?_
                          refine En_lv1 (addI rfl (by decide : (Int32.ofInt 1).toInt = 1) (by omega) (by omega)) (fun z381 h382 => ?_)
                          refine En_Ps 1 (pc' := 25) (lv' := [(2, .int z381), (0, .ref 3), (1, .ref a)]) (st' := []) rfl ?_
                          refine En_lv (lv := [(0, .ref 3), (1, .ref a), (2, .int z381)]) ⟨rfl, rfl, rfl, trivial⟩ ?_
                          exact ih25 σ376 z381 z371 z374 y37 h377 h378 ((h380 _ _ (Or.inr (by decide))).trans h372) h379 ((h380 _ _ (Or.inr (by decide))).trans ((h369 _ _ (inW ha (by decide +kernel))).trans ((h337 _ _ (inW ha (by decide +kernel))).trans ((h105 _ _ (inW ha (by decide +kernel))).trans ((h96 _ _ (inW ha (by decide +kernel))).trans ((h87 _ _ (inW ha (by decide +kernel))).trans ((h78 _ _ (inW ha (by decide +kernel))).trans ((h69 _ _ (inW ha (by decide +kernel))).trans h43)))))))) (by omega) (by omega) (by omega) (by omega) (by omega) (by omega) (by omega) (by omega) (by omega) (by omega) (by omega) (by omega) (by omega)
                    · refine En_Ps 2 (pc' := 120) (lv' := [(0, .ref 3), (1, .ref a), (2, .int y34)]) (st' := [.ref a, .ref 3]) rfl ?_
                      refine En_callV rfl rfl rfl rfl rfl rfl rfl rfl (by decide +kernel : TG 3 = 3) (by decide +kernel) rfl (c_70 σ94 h95 a ha y35 ((h96 _ _ (inW (by decide +kernel : TG 3 = 3) (by decide +kernel))).trans ((h87 _ _ (inW (by decide +kernel : TG 3 = 3) (by decide +kernel))).trans ((h78 _ _ (inW (by decide +kernel : TG 3 = 3) (by decide +kernel))).trans ((h69 _ _ (inW (by decide +kernel : TG 3 = 3) (by decide +kernel))).trans h41)))) y37 ((h96 _ _ (inW ha (by decide +kernel))).trans ((h87 _ _ (inW ha (by decide +kernel))).trans ((h78 _ _ (inW ha (by decide +kernel))).trans ((h69 _ _ (inW ha (by decide +kernel))).trans h43)))) (by omega)) (by decide) (by decide) (fun v384 σ385 h383 => ?_)
                      obtain ⟨h386, h387, z389, h390, rfl, h388⟩ := h383
                      have h391 := Fr_trans h99 h387 (by decide +kernel)
                      refine En_Ps 3 (pc' := 201) (lv' := [(0, .ref 3), (1, .ref a), (2, .int y34)]) (st' := [.ref 3, .ref 3]) rfl ?_
                      refine En_getI (j := 1) (l := 0) (u := 4) rfl rfl rfl (by decide +kernel : TG 3 = 3) (by decide +kernel) h386 (by decide +kernel) (fun z393 h392 h394 h395 => ?_)
                      refine En_Ps 1 (pc' := 205) (lv' := [(0, .ref 3), (1, .ref a), (2, .int y34)]) (st' := [.int ((Int32.ofInt 3)), .int z393, .ref 3]) rfl ?_
                      refine En_icNe _ rfl (by decide : (Int32.ofInt 3).toInt = 3) rfl (fun h396 => ?_) (fun h396 => ?_)
                      · refine En_Ps 1 (pc' := 213) (lv' := [(0, .ref 3), (1, .ref a), (2, .int y34)]) (st' := [.int ((Int32.ofInt 0)), .ref 3]) rfl ?_
                        have := (by decide : ((Int32.ofInt 0)).toInt = 0)
                        refine En_callV rfl rfl rfl rfl rfl rfl rfl rfl (by decide +kernel : TG 3 = 3) (by decide +kernel) rfl (c_59 σ385 h386 ((Int32.ofInt 0)) (geI (by decide : (Int32.ofInt 0).toInt = 0) (by omega)) (leI (by decide : (Int32.ofInt 0).toInt = 0) (by omega)) z389 h390) (by decide) (by decide) (fun v398 σ399 h397 => ?_)
                        obtain ⟨h400, h401, z403, h404, rfl, h402⟩ := h397
                        have h405 := Fr_trans h391 h401 (by decide +kernel)
                        refine En_Ps 2 (pc' := 218) (lv' := [(0, .ref 3), (1, .ref a), (2, .int y34)]) (st' := [.ref a, .ref a]) rfl ?_
                        refine En_getK (j := 0) ((h401 _ _ (inW ha (by decide +kernel))).trans ((h387 _ _ (inW ha (by decide +kernel))).trans ((h96 _ _ (inW ha (by decide +kernel))).trans ((h87 _ _ (inW ha (by decide +kernel))).trans ((h78 _ _ (inW ha (by decide +kernel))).trans ((h69 _ _ (inW ha (by decide +kernel))).trans h42)))))) rfl rfl rfl ha (by decide +kernel) ?_
                        refine En_Ps 2 (pc' := 223) (lv' := [(0, .ref 3), (1, .ref a), (2, .int y34)]) (st' := [.int ((y36 + ((Int32.ofInt 1)))), .ref a]) rfl ?_
                        refine En_top (addI rfl (by decide : (Int32.ofInt 1).toInt = 1) (by omega) (by omega)) (fun z406 h407 => ?_)
                        refine En_put (j := 0) rfl rfl rfl ha (by decide +kernel) rfl (vI (l := 0) (u := 1601) (by decide +kernel) rfl (by omega) (by omega)) h400 h405 (by decide +kernel) (fun σ408 h409 h410 h411 h412 => ?_)
                        refine En_Ps 1 (pc' := 229) (lv' := [(2, .int ((y34 + Int32.ofInt 1))), (0, .ref 3), (1, .ref a)]) (st' := []) rfl ?_
                        refine En_lv1 (addI rfl (by decide : (Int32.ofInt 1).toInt = 1) (by omega) (by omega)) (fun z413 h414 => ?_)
                        refine En_Ps 1 (pc' := 25) (lv' := [(2, .int z413), (0, .ref 3), (1, .ref a)]) (st' := []) rfl ?_
                        refine En_lv (lv := [(0, .ref 3), (1, .ref a), (2, .int z413)]) ⟨rfl, rfl, rfl, trivial⟩ ?_
                        exact ih25 σ408 z413 z403 z406 y37 h409 h410 ((h412 _ _ (Or.inr (by decide))).trans h404) h411 ((h412 _ _ (Or.inr (by decide))).trans ((h401 _ _ (inW ha (by decide +kernel))).trans ((h387 _ _ (inW ha (by decide +kernel))).trans ((h96 _ _ (inW ha (by decide +kernel))).trans ((h87 _ _ (inW ha (by decide +kernel))).trans ((h78 _ _ (inW ha (by decide +kernel))).trans ((h69 _ _ (inW ha (by decide +kernel))).trans h43))))))) (by omega) (by omega) (by omega) (by omega) (by omega) (by omega) (by omega) (by omega) (by omega) (by omega) (by omega) (by omega) (by omega)
                      · refine En_Ps 2 (pc' := 213) (lv' := [(0, .ref 3), (1, .ref a), (2, .int y34)]) (st' := [.int ((Int32.ofInt 1)), .ref 3]) rfl ?_
                        have := (by decide : ((Int32.ofInt 1)).toInt = 1)
                        refine En_callV rfl rfl rfl rfl rfl rfl rfl rfl (by decide +kernel : TG 3 = 3) (by decide +kernel) rfl (c_59 σ385 h386 ((Int32.ofInt 1)) (geI (by decide : (Int32.ofInt 1).toInt = 1) (by omega)) (leI (by decide : (Int32.ofInt 1).toInt = 1) (by omega)) z389 h390) (by decide) (by decide) (fun v416 σ417 h415 => ?_)
                        obtain ⟨h418, h419, z421, h422, rfl, h420⟩ := h415
                        have h423 := Fr_trans h391 h419 (by decide +kernel)
                        refine En_Ps 2 (pc' := 218) (lv' := [(0, .ref 3), (1, .ref a), (2, .int y34)]) (st' := [.ref a, .ref a]) rfl ?_
                        refine En_getK (j := 0) ((h419 _ _ (inW ha (by decide +kernel))).trans ((h387 _ _ (inW ha (by decide +kernel))).trans ((h96 _ _ (inW ha (by decide +kernel))).trans ((h87 _ _ (inW ha (by decide +kernel))).trans ((h78 _ _ (inW ha (by decide +kernel))).trans ((h69 _ _ (inW ha (by decide +kernel))).trans h42)))))) rfl rfl rfl ha (by decide +kernel) ?_
                        refine En_Ps 2 (pc' := 223) (lv' := [(0, .ref 3), (1, .ref a), (2, .int y34)]) (st' := [.int ((y36 + ((Int32.ofInt 1)))), .ref a]) rfl ?_
                        refine En_top (addI rfl (by decide : (Int32.ofInt 1).toInt = 1) (by omega) (by omega)) (fun z424 h425 => ?_)
                        refine En_put (j := 0) rfl rfl rfl ha (by decide +kernel) rfl (vI (l := 0) (u := 1601) (by decide +kernel) rfl (by omega) (by omega)) h418 h423 (by decide +kernel) (fun σ426 h427 h428 h429 h430 => ?_)
                        refine En_Ps 1 (pc' := 229) (lv' := [(2, .int ((y34 + Int32.ofInt 1))), (0, .ref 3), (1, .ref a)]) (st' := []) rfl ?_
                        refine En_lv1 (addI rfl (by decide : (Int32.ofInt 1).toInt = 1) (by omega) (by omega)) (fun z431 h432 => ?_)
                        refine En_Ps 1 (pc' := 25) (lv' := [(2, .int z431), (0, .ref 3), (1, .ref a)]) (st' := []) rfl ?_
                        refine En_lv (lv := [(0, .ref 3), (1, .ref a), (2, .int z431)]) ⟨rfl, rfl, rfl, trivial⟩ ?_
                        exact ih25 σ426 z431 z421 z424 y37 h427 h428 ((h430 _ _ (Or.inr (by decide))).trans h422) h429 ((h430 _ _ (Or.inr (by decide))).trans ((h419 _ _ (inW ha (by decide +kernel))).trans ((h387 _ _ (inW ha (by decide +kernel))).trans ((h96 _ _ (inW ha (by decide +kernel))).trans ((h87 _ _ (inW ha (by decide +kernel))).trans ((h78 _ _ (inW ha (by decide +kernel))).trans ((h69 _ _ (inW ha (by decide +kernel))).trans h43))))))) (by omega) (by omega) (by omega) (by omega) (by omega) (by omega) (by omega) (by omega) (by omega) (by omega) (by omega) (by omega) (by omega)
                  · refine En_Ps 2 (pc' := 103) (lv' := [(0, .ref 3), (1, .ref a), (2, .int y34)]) (st' := [.ref a, .ref 3]) rfl ?_
                    refine En_callV rfl rfl rfl rfl rfl rfl rfl rfl (by decide +kernel : TG 3 = 3) (by decide +kernel) rfl (c_64 σ85 h86 a ha y35 ((h87 _ _ (inW (by decide +kernel : TG 3 = 3) (by decide +kernel))).trans ((h78 _ _ (inW (by decide +kernel : TG 3 = 3) (by decide +kernel))).trans ((h69 _ _ (inW (by decide +kernel : TG 3 = 3) (by decide +kernel))).trans h41))) y37 ((h87 _ _ (inW ha (by decide +kernel))).trans ((h78 _ _ (inW ha (by decide +kernel))).trans ((h69 _ _ (inW ha (by decide +kernel))).trans h43))) (by omega)) (by decide) (by decide) (fun v434 σ435 h433 => ?_)
                    obtain ⟨h436, h437, z439, h440, rfl, h438⟩ := h433
                    have h441 := Fr_trans h90 h437 (by decide +kernel)
                    refine En_Ps 3 (pc' := 201) (lv' := [(0, .ref 3), (1, .ref a), (2, .int y34)]) (st' := [.ref 3, .ref 3]) rfl ?_
                    refine En_getI (j := 1) (l := 0) (u := 4) rfl rfl rfl (by decide +kernel : TG 3 = 3) (by decide +kernel) h436 (by decide +kernel) (fun z443 h442 h444 h445 => ?_)
                    refine En_Ps 1 (pc' := 205) (lv' := [(0, .ref 3), (1, .ref a), (2, .int y34)]) (st' := [.int ((Int32.ofInt 3)), .int z443, .ref 3]) rfl ?_
                    refine En_icNe _ rfl (by decide : (Int32.ofInt 3).toInt = 3) rfl (fun h446 => ?_) (fun h446 => ?_)
                    · refine En_Ps 1 (pc' := 213) (lv' := [(0, .ref 3), (1, .ref a), (2, .int y34)]) (st' := [.int ((Int32.ofInt 0)), .ref 3]) rfl ?_
                      have := (by decide : ((Int32.ofInt 0)).toInt = 0)
                      refine En_callV rfl rfl rfl rfl rfl rfl rfl rfl (by decide +kernel : TG 3 = 3) (by decide +kernel) rfl (c_59 σ435 h436 ((Int32.ofInt 0)) (geI (by decide : (Int32.ofInt 0).toInt = 0) (by omega)) (leI (by decide : (Int32.ofInt 0).toInt = 0) (by omega)) z439 h440) (by decide) (by decide) (fun v448 σ449 h447 => ?_)
                      obtain ⟨h450, h451, z453, h454, rfl, h452⟩ := h447
                      have h455 := Fr_trans h441 h451 (by decide +kernel)
                      refine En_Ps 2 (pc' := 218) (lv' := [(0, .ref 3), (1, .ref a), (2, .int y34)]) (st' := [.ref a, .ref a]) rfl ?_
                      refine En_getK (j := 0) ((h451 _ _ (inW ha (by decide +kernel))).trans ((h437 _ _ (inW ha (by decide +kernel))).trans ((h87 _ _ (inW ha (by decide +kernel))).trans ((h78 _ _ (inW ha (by decide +kernel))).trans ((h69 _ _ (inW ha (by decide +kernel))).trans h42))))) rfl rfl rfl ha (by decide +kernel) ?_
                      refine En_Ps 2 (pc' := 223) (lv' := [(0, .ref 3), (1, .ref a), (2, .int y34)]) (st' := [.int ((y36 + ((Int32.ofInt 1)))), .ref a]) rfl ?_
                      refine En_top (addI rfl (by decide : (Int32.ofInt 1).toInt = 1) (by omega) (by omega)) (fun z456 h457 => ?_)
                      refine En_put (j := 0) rfl rfl rfl ha (by decide +kernel) rfl (vI (l := 0) (u := 1601) (by decide +kernel) rfl (by omega) (by omega)) h450 h455 (by decide +kernel) (fun σ458 h459 h460 h461 h462 => ?_)
                      refine En_Ps 1 (pc' := 229) (lv' := [(2, .int ((y34 + Int32.ofInt 1))), (0, .ref 3), (1, .ref a)]) (st' := []) rfl ?_
                      refine En_lv1 (addI rfl (by decide : (Int32.ofInt 1).toInt = 1) (by omega) (by omega)) (fun z463 h464 => ?_)
                      refine En_Ps 1 (pc' := 25) (lv' := [(2, .int z463), (0, .ref 3), (1, .ref a)]) (st' := []) rfl ?_
                      refine En_lv (lv := [(0, .ref 3), (1, .ref a), (2, .int z463)]) ⟨rfl, rfl, rfl, trivial⟩ ?_
                      exact ih25 σ458 z463 z453 z456 y37 h459 h460 ((h462 _ _ (Or.inr (by decide))).trans h454) h461 ((h462 _ _ (Or.inr (by decide))).trans ((h451 _ _ (inW ha (by decide +kernel))).trans ((h437 _ _ (inW ha (by decide +kernel))).trans ((h87 _ _ (inW ha (by decide +kernel))).trans ((h78 _ _ (inW ha (by decide +kernel))).trans ((h69 _ _ (inW ha (by decide +kernel))).trans h43)))))) (by omega) (by omega) (by omega) (by omega) (by omega) (by omega) (by omega) (by omega) (by omega) (by omega) (by omega) (by omega) (by omega)
                    · refine En_Ps 2 (pc' := 213) (lv' := [(0, .ref 3), (1, .ref a), (2, .int y34)]) (st' := [.int ((Int32.ofInt 1)), .ref 3]) rfl ?_
                      have := (by decide : ((Int32.ofInt 1)).toInt = 1)
                      refine En_callV rfl rfl rfl rfl rfl rfl rfl rfl (by decide +kernel : TG 3 = 3) (by decide +kernel) rfl (c_59 σ435 h436 ((Int32.ofInt 1)) (geI (by decide : (Int32.ofInt 1).toInt = 1) (by omega)) (leI (by decide : (Int32.ofInt 1).toInt = 1) (by omega)) z439 h440) (by decide) (by decide) (fun v466 σ467 h465 => ?_)
                      obtain ⟨h468, h469, z471, h472, rfl, h470⟩ := h465
                      have h473 := Fr_trans h441 h469 (by decide +kernel)
                      refine En_Ps 2 (pc' := 218) (lv' := [(0, .ref 3), (1, .ref a), (2, .int y34)]) (st' := [.ref a, .ref a]) rfl ?_
                      refine En_getK (j := 0) ((h469 _ _ (inW ha (by decide +kernel))).trans ((h437 _ _ (inW ha (by decide +kernel))).trans ((h87 _ _ (inW ha (by decide +kernel))).trans ((h78 _ _ (inW ha (by decide +kernel))).trans ((h69 _ _ (inW ha (by decide +kernel))).trans h42))))) rfl rfl rfl ha (by decide +kernel) ?_
                      refine En_Ps 2 (pc' := 223) (lv' := [(0, .ref 3), (1, .ref a), (2, .int y34)]) (st' := [.int ((y36 + ((Int32.ofInt 1)))), .ref a]) rfl ?_
                      refine En_top (addI rfl (by decide : (Int32.ofInt 1).toInt = 1) (by omega) (by omega)) (fun z474 h475 => ?_)
                      refine En_put (j := 0) rfl rfl rfl ha (by decide +kernel) rfl (vI (l := 0) (u := 1601) (by decide +kernel) rfl (by omega) (by omega)) h468 h473 (by decide +kernel) (fun σ476 h477 h478 h479 h480 => ?_)
                      refine En_Ps 1 (pc' := 229) (lv' := [(2, .int ((y34 + Int32.ofInt 1))), (0, .ref 3), (1, .ref a)]) (st' := []) rfl ?_
                      refine En_lv1 (addI rfl (by decide : (Int32.ofInt 1).toInt = 1) (by omega) (by omega)) (fun z481 h482 => ?_)
                      refine En_Ps 1 (pc' := 25) (lv' := [(2, .int z481), (0, .ref 3), (1, .ref a)]) (st' := []) rfl ?_
                      refine En_lv (lv := [(0, .ref 3), (1, .ref a), (2, .int z481)]) ⟨rfl, rfl, rfl, trivial⟩ ?_
                      exact ih25 σ476 z481 z471 z474 y37 h477 h478 ((h480 _ _ (Or.inr (by decide))).trans h472) h479 ((h480 _ _ (Or.inr (by decide))).trans ((h469 _ _ (inW ha (by decide +kernel))).trans ((h437 _ _ (inW ha (by decide +kernel))).trans ((h87 _ _ (inW ha (by decide +kernel))).trans ((h78 _ _ (inW ha (by decide +kernel))).trans ((h69 _ _ (inW ha (by decide +kernel))).trans h43)))))) (by omega) (by omega) (by omega) (by omega) (by omega) (by omega) (by omega) (by omega) (by omega) (by omega) (by omega) (by omega) (by omega)
                · refine En_Ps 2 (pc' := 86) (lv' := [(0, .ref 3), (1, .ref a), (2, .int y34)]) (st' := [.ref a, .ref 3]) rfl ?_
                  refine En_callV rfl rfl rfl rfl rfl rfl rfl rfl (by decide +kernel : TG 3 = 3) (by decide +kernel) rfl (c_67 σ76 h77 a ha y35 ((h78 _ _ (inW (by decide +kernel : TG 3 = 3) (by decide +kernel))).trans ((h69 _ _ (inW (by decide +kernel : TG 3 = 3) (by decide +kernel))).trans h41)) y37 ((h78 _ _ (inW ha (by decide +kernel))).trans ((h69 _ _ (inW ha (by decide +kernel))).trans h43)) (by omega)) (by decide) (by decide) (fun v484 σ485 h483 => ?_)
                  obtain ⟨h486, h487, z489, h490, rfl, h488⟩ := h483
                  have h491 := Fr_trans h81 h487 (by decide +kernel)
                  refine En_Ps 3 (pc' := 201) (lv' := [(0, .ref 3), (1, .ref a), (2, .int y34)]) (st' := [.ref 3, .ref 3]) rfl ?_
                  refine En_getI (j := 1) (l := 0) (u := 4) rfl rfl rfl (by decide +kernel : TG 3 = 3) (by decide +kernel) h486 (by decide +kernel) (fun z493 h492 h494 h495 => ?_)
                  refine En_Ps 1 (pc' := 205) (lv' := [(0, .ref 3), (1, .ref a), (2, .int y34)]) (st' := [.int ((Int32.ofInt 3)), .int z493, .ref 3]) rfl ?_
                  refine En_icNe _ rfl (by decide : (Int32.ofInt 3).toInt = 3) rfl (fun h496 => ?_) (fun h496 => ?_)
                  · refine En_Ps 1 (pc' := 213) (lv' := [(0, .ref 3), (1, .ref a), (2, .int y34)]) (st' := [.int ((Int32.ofInt 0)), .ref 3]) rfl ?_
                    have := (by decide : ((Int32.ofInt 0)).toInt = 0)
                    refine En_callV rfl rfl rfl rfl rfl rfl rfl rfl (by decide +kernel : TG 3 = 3) (by decide +kernel) rfl (c_59 σ485 h486 ((Int32.ofInt 0)) (geI (by decide : (Int32.ofInt 0).toInt = 0) (by omega)) (leI (by decide : (Int32.ofInt 0).toInt = 0) (by omega)) z489 h490) (by decide) (by decide) (fun v498 σ499 h497 => ?_)
                    obtain ⟨h500, h501, z503, h504, rfl, h502⟩ := h497
                    have h505 := Fr_trans h491 h501 (by decide +kernel)
                    refine En_Ps 2 (pc' := 218) (lv' := [(0, .ref 3), (1, .ref a), (2, .int y34)]) (st' := [.ref a, .ref a]) rfl ?_
                    refine En_getK (j := 0) ((h501 _ _ (inW ha (by decide +kernel))).trans ((h487 _ _ (inW ha (by decide +kernel))).trans ((h78 _ _ (inW ha (by decide +kernel))).trans ((h69 _ _ (inW ha (by decide +kernel))).trans h42)))) rfl rfl rfl ha (by decide +kernel) ?_
                    refine En_Ps 2 (pc' := 223) (lv' := [(0, .ref 3), (1, .ref a), (2, .int y34)]) (st' := [.int ((y36 + ((Int32.ofInt 1)))), .ref a]) rfl ?_
                    refine En_top (addI rfl (by decide : (Int32.ofInt 1).toInt = 1) (by omega) (by omega)) (fun z506 h507 => ?_)
                    refine En_put (j := 0) rfl rfl rfl ha (by decide +kernel) rfl (vI (l := 0) (u := 1601) (by decide +kernel) rfl (by omega) (by omega)) h500 h505 (by decide +kernel) (fun σ508 h509 h510 h511 h512 => ?_)
                    refine En_Ps 1 (pc' := 229) (lv' := [(2, .int ((y34 + Int32.ofInt 1))), (0, .ref 3), (1, .ref a)]) (st' := []) rfl ?_
                    refine En_lv1 (addI rfl (by decide : (Int32.ofInt 1).toInt = 1) (by omega) (by omega)) (fun z513 h514 => ?_)
                    refine En_Ps 1 (pc' := 25) (lv' := [(2, .int z513), (0, .ref 3), (1, .ref a)]) (st' := []) rfl ?_
                    refine En_lv (lv := [(0, .ref 3), (1, .ref a), (2, .int z513)]) ⟨rfl, rfl, rfl, trivial⟩ ?_
                    exact ih25 σ508 z513 z503 z506 y37 h509 h510 ((h512 _ _ (Or.inr (by decide))).trans h504) h511 ((h512 _ _ (Or.inr (by decide))).trans ((h501 _ _ (inW ha (by decide +kernel))).trans ((h487 _ _ (inW ha (by decide +kernel))).trans ((h78 _ _ (inW ha (by decide +kernel))).trans ((h69 _ _ (inW ha (by decide +kernel))).trans h43))))) (by omega) (by omega) (by omega) (by omega) (by omega) (by omega) (by omega) (by omega) (by omega) (by omega) (by omega) (by omega) (by omega)
                  · refine En_Ps 2 (pc' := 213) (lv' := [(0, .ref 3), (1, .ref a), (2, .int y34)]) (st' := [.int ((Int32.ofInt 1)), .ref 3]) rfl ?_
                    have := (by decide : ((Int32.ofInt 1)).toInt = 1)
                    refine En_callV rfl rfl rfl rfl rfl rfl rfl rfl (by decide +kernel : TG 3 = 3) (by decide +kernel) rfl (c_59 σ485 h486 ((Int32.ofInt 1)) (geI (by decide : (Int32.ofInt 1).toInt = 1) (by omega)) (leI (by decide : (Int32.ofInt 1).toInt = 1) (by omega)) z489 h490) (by decide) (by decide) (fun v516 σ517 h515 => ?_)
                    obtain ⟨h518, h519, z521, h522, rfl, h520⟩ := h515
                    have h523 := Fr_trans h491 h519 (by decide +kernel)
                    refine En_Ps 2 (pc' := 218) (lv' := [(0, .ref 3), (1, .ref a), (2, .int y34)]) (st' := [.ref a, .ref a]) rfl ?_
                    refine En_getK (j := 0) ((h519 _ _ (inW ha (by decide +kernel))).trans ((h487 _ _ (inW ha (by decide +kernel))).trans ((h78 _ _ (inW ha (by decide +kernel))).trans ((h69 _ _ (inW ha (by decide +kernel))).trans h42)))) rfl rfl rfl ha (by decide +kernel) ?_
                    refine En_Ps 2 (pc' := 223) (lv' := [(0, .ref 3), (1, .ref a), (2, .int y34)]) (st' := [.int ((y36 + ((Int32.ofInt 1)))), .ref a]) rfl ?_
                    refine En_top (addI rfl (by decide : (Int32.ofInt 1).toInt = 1) (by omega) (by omega)) (fun z524 h525 => ?_)
                    refine En_put (j := 0) rfl rfl rfl ha (by decide +kernel) rfl (vI (l := 0) (u := 1601) (by decide +kernel) rfl (by omega) (by omega)) h518 h523 (by decide +kernel) (fun σ526 h527 h528 h529 h530 => ?_)
                    refine En_Ps 1 (pc' := 229) (lv' := [(2, .int ((y34 + Int32.ofInt 1))), (0, .ref 3), (1, .ref a)]) (st' := []) rfl ?_
                    refine En_lv1 (addI rfl (by decide : (Int32.ofInt 1).toInt = 1) (by omega) (by omega)) (fun z531 h532 => ?_)
                    refine En_Ps 1 (pc' := 25) (lv' := [(2, .int z531), (0, .ref 3), (1, .ref a)]) (st' := []) rfl ?_
                    refine En_lv (lv := [(0, .ref 3), (1, .ref a), (2, .int z531)]) ⟨rfl, rfl, rfl, trivial⟩ ?_
                    exact ih25 σ526 z531 z521 z524 y37 h527 h528 ((h530 _ _ (Or.inr (by decide))).trans h522) h529 ((h530 _ _ (Or.inr (by decide))).trans ((h519 _ _ (inW ha (by decide +kernel))).trans ((h487 _ _ (inW ha (by decide +kernel))).trans ((h78 _ _ (inW ha (by decide +kernel))).trans ((h69 _ _ (inW ha (by decide +kernel))).trans h43))))) (by omega) (by omega) (by omega) (by omega) (by omega) (by omega) (by omega) (by omega) (by omega) (by omega) (by omega) (by omega) (by omega)
              · refine En_Ps 2 (pc' := 69) (lv' := [(0, .ref 3), (1, .ref a), (2, .int y34)]) (st' := [.ref a, .ref 3]) rfl ?_
                refine En_callV rfl rfl rfl rfl rfl rfl rfl rfl (by decide +kernel : TG 3 = 3) (by decide +kernel) rfl (c_63 σ67 h68 a ha y35 ((h69 _ _ (inW (by decide +kernel : TG 3 = 3) (by decide +kernel))).trans h41) y37 ((h69 _ _ (inW ha (by decide +kernel))).trans h43) (by omega)) (by decide) (by decide) (fun v534 σ535 h533 => ?_)
                obtain ⟨h536, h537, z539, h540, rfl, h538⟩ := h533
                have h541 := Fr_trans h72 h537 (by decide +kernel)
                refine En_Ps 3 (pc' := 201) (lv' := [(0, .ref 3), (1, .ref a), (2, .int y34)]) (st' := [.ref 3, .ref 3]) rfl ?_
                refine En_getI (j := 1) (l := 0) (u := 4) rfl rfl rfl (by decide +kernel : TG 3 = 3) (by decide +kernel) h536 (by decide +kernel) (fun z543 h542 h544 h545 => ?_)
                refine En_Ps 1 (pc' := 205) (lv' := [(0, .ref 3), (1, .ref a), (2, .int y34)]) (st' := [.int ((Int32.ofInt 3)), .int z543, .ref 3]) rfl ?_
                refine En_icNe _ rfl (by decide : (Int32.ofInt 3).toInt = 3) rfl (fun h546 => ?_) (fun h546 => ?_)
                · refine En_Ps 1 (pc' := 213) (lv' := [(0, .ref 3), (1, .ref a), (2, .int y34)]) (st' := [.int ((Int32.ofInt 0)), .ref 3]) rfl ?_
                  have := (by decide : ((Int32.ofInt 0)).toInt = 0)
                  refine En_callV rfl rfl rfl rfl rfl rfl rfl rfl (by decide +kernel : TG 3 = 3) (by decide +kernel) rfl (c_59 σ535 h536 ((Int32.ofInt 0)) (geI (by decide : (Int32.ofInt 0).toInt = 0) (by omega)) (leI (by decide : (Int32.ofInt 0).toInt = 0) (by omega)) z539 h540) (by decide) (by decide) (fun v548 σ549 h547 => ?_)
                  obtain ⟨h550, h551, z553, h554, rfl, h552⟩ := h547
                  have h555 := Fr_trans h541 h551 (by decide +kernel)
                  refine En_Ps 2 (pc' := 218) (lv' := [(0, .ref 3), (1, .ref a), (2, .int y34)]) (st' := [.ref a, .ref a]) rfl ?_
                  refine En_getK (j := 0) ((h551 _ _ (inW ha (by decide +kernel))).trans ((h537 _ _ (inW ha (by decide +kernel))).trans ((h69 _ _ (inW ha (by decide +kernel))).trans h42))) rfl rfl rfl ha (by decide +kernel) ?_
                  refine En_Ps 2 (pc' := 223) (lv' := [(0, .ref 3), (1, .ref a), (2, .int y34)]) (st' := [.int ((y36 + ((Int32.ofInt 1)))), .ref a]) rfl ?_
                  refine En_top (addI rfl (by decide : (Int32.ofInt 1).toInt = 1) (by omega) (by omega)) (fun z556 h557 => ?_)
                  refine En_put (j := 0) rfl rfl rfl ha (by decide +kernel) rfl (vI (l := 0) (u := 1601) (by decide +kernel) rfl (by omega) (by omega)) h550 h555 (by decide +kernel) (fun σ558 h559 h560 h561 h562 => ?_)
                  refine En_Ps 1 (pc' := 229) (lv' := [(2, .int ((y34 + Int32.ofInt 1))), (0, .ref 3), (1, .ref a)]) (st' := []) rfl ?_
                  refine En_lv1 (addI rfl (by decide : (Int32.ofInt 1).toInt = 1) (by omega) (by omega)) (fun z563 h564 => ?_)
                  refine En_Ps 1 (pc' := 25) (lv' := [(2, .int z563), (0, .ref 3), (1, .ref a)]) (st' := []) rfl ?_
                  refine En_lv (lv := [(0, .ref 3), (1, .ref a), (2, .int z563)]) ⟨rfl, rfl, rfl, trivial⟩ ?_
                  exact ih25 σ558 z563 z553 z556 y37 h559 h560 ((h562 _ _ (Or.inr (by decide))).trans h554) h561 ((h562 _ _ (Or.inr (by decide))).trans ((h551 _ _ (inW ha (by decide +kernel))).trans ((h537 _ _ (inW ha (by decide +kernel))).trans ((h69 _ _ (inW ha (by decide +kernel))).trans h43)))) (by omega) (by omega) (by omega) (by omega) (by omega) (by omega) (by omega) (by omega) (by omega) (by omega) (by omega) (by omega) (by omega)
                · refine En_Ps 2 (pc' := 213) (lv' := [(0, .ref 3), (1, .ref a), (2, .int y34)]) (st' := [.int ((Int32.ofInt 1)), .ref 3]) rfl ?_
                  have := (by decide : ((Int32.ofInt 1)).toInt = 1)
                  refine En_callV rfl rfl rfl rfl rfl rfl rfl rfl (by decide +kernel : TG 3 = 3) (by decide +kernel) rfl (c_59 σ535 h536 ((Int32.ofInt 1)) (geI (by decide : (Int32.ofInt 1).toInt = 1) (by omega)) (leI (by decide : (Int32.ofInt 1).toInt = 1) (by omega)) z539 h540) (by decide) (by decide) (fun v566 σ567 h565 => ?_)
                  obtain ⟨h568, h569, z571, h572, rfl, h570⟩ := h565
                  have h573 := Fr_trans h541 h569 (by decide +kernel)
                  refine En_Ps 2 (pc' := 218) (lv' := [(0, .ref 3), (1, .ref a), (2, .int y34)]) (st' := [.ref a, .ref a]) rfl ?_
                  refine En_getK (j := 0) ((h569 _ _ (inW ha (by decide +kernel))).trans ((h537 _ _ (inW ha (by decide +kernel))).trans ((h69 _ _ (inW ha (by decide +kernel))).trans h42))) rfl rfl rfl ha (by decide +kernel) ?_
                  refine En_Ps 2 (pc' := 223) (lv' := [(0, .ref 3), (1, .ref a), (2, .int y34)]) (st' := [.int ((y36 + ((Int32.ofInt 1)))), .ref a]) rfl ?_
                  refine En_top (addI rfl (by decide : (Int32.ofInt 1).toInt = 1) (by omega) (by omega)) (fun z574 h575 => ?_)
                  refine En_put (j := 0) rfl rfl rfl ha (by decide +kernel) rfl (vI (l := 0) (u := 1601) (by decide +kernel) rfl (by omega) (by omega)) h568 h573 (by decide +kernel) (fun σ576 h577 h578 h579 h580 => ?_)
                  refine En_Ps 1 (pc' := 229) (lv' := [(2, .int ((y34 + Int32.ofInt 1))), (0, .ref 3), (1, .ref a)]) (st' := []) rfl ?_
                  refine En_lv1 (addI rfl (by decide : (Int32.ofInt 1).toInt = 1) (by omega) (by omega)) (fun z581 h582 => ?_)
                  refine En_Ps 1 (pc' := 25) (lv' := [(2, .int z581), (0, .ref 3), (1, .ref a)]) (st' := []) rfl ?_
                  refine En_lv (lv := [(0, .ref 3), (1, .ref a), (2, .int z581)]) ⟨rfl, rfl, rfl, trivial⟩ ?_
                  exact ih25 σ576 z581 z571 z574 y37 h577 h578 ((h580 _ _ (Or.inr (by decide))).trans h572) h579 ((h580 _ _ (Or.inr (by decide))).trans ((h569 _ _ (inW ha (by decide +kernel))).trans ((h537 _ _ (inW ha (by decide +kernel))).trans ((h69 _ _ (inW ha (by decide +kernel))).trans h43)))) (by omega) (by omega) (by omega) (by omega) (by omega) (by omega) (by omega) (by omega) (by omega) (by omega) (by omega) (by omega) (by omega)
            · refine En_Ps 2 (pc' := 52) (lv' := [(0, .ref 3), (1, .ref a), (2, .int y34)]) (st' := [.ref a, .ref 3]) rfl ?_
              refine En_callV rfl rfl rfl rfl rfl rfl rfl rfl (by decide +kernel : TG 3 = 3) (by decide +kernel) rfl (c_65 σ38 h39 a ha y35 h41) (by decide) (by decide) (fun v584 σ585 h583 => ?_)
              obtain ⟨h586, h587, z589, h590, z591, h592, rfl, h588⟩ := h583
              have h593 := Fr_trans h40 h587 (by decide +kernel)
              refine En_Ps 3 (pc' := 201) (lv' := [(0, .ref 3), (1, .ref a), (2, .int y34)]) (st' := [.ref 3, .ref 3]) rfl ?_
              refine En_getI (j := 1) (l := 0) (u := 4) rfl rfl rfl (by decide +kernel : TG 3 = 3) (by decide +kernel) h586 (by decide +kernel) (fun z595 h594 h596 h597 => ?_)
              refine En_Ps 1 (pc' := 205) (lv' := [(0, .ref 3), (1, .ref a), (2, .int y34)]) (st' := [.int ((Int32.ofInt 3)), .int z595, .ref 3]) rfl ?_
              refine En_icNe _ rfl (by decide : (Int32.ofInt 3).toInt = 3) rfl (fun h598 => ?_) (fun h598 => ?_)
              · refine En_Ps 1 (pc' := 213) (lv' := [(0, .ref 3), (1, .ref a), (2, .int y34)]) (st' := [.int ((Int32.ofInt 0)), .ref 3]) rfl ?_
                have := (by decide : ((Int32.ofInt 0)).toInt = 0)
                refine En_callV rfl rfl rfl rfl rfl rfl rfl rfl (by decide +kernel : TG 3 = 3) (by decide +kernel) rfl (c_59 σ585 h586 ((Int32.ofInt 0)) (geI (by decide : (Int32.ofInt 0).toInt = 0) (by omega)) (leI (by decide : (Int32.ofInt 0).toInt = 0) (by omega)) z589 h590) (by decide) (by decide) (fun v600 σ601 h599 => ?_)
                obtain ⟨h602, h603, z605, h606, rfl, h604⟩ := h599
                have h607 := Fr_trans h593 h603 (by decide +kernel)
                refine En_Ps 2 (pc' := 218) (lv' := [(0, .ref 3), (1, .ref a), (2, .int y34)]) (st' := [.ref a, .ref a]) rfl ?_
                refine En_getK (j := 0) ((h603 _ _ (inW ha (by decide +kernel))).trans ((h587 _ _ (inW ha (by decide +kernel))).trans h42)) rfl rfl rfl ha (by decide +kernel) ?_
                refine En_Ps 2 (pc' := 223) (lv' := [(0, .ref 3), (1, .ref a), (2, .int y34)]) (st' := [.int ((y36 + ((Int32.ofInt 1)))), .ref a]) rfl ?_
                refine En_top (addI rfl (by decide : (Int32.ofInt 1).toInt = 1) (by omega) (by omega)) (fun z608 h609 => ?_)
                refine En_put (j := 0) rfl rfl rfl ha (by decide +kernel) rfl (vI (l := 0) (u := 1601) (by decide +kernel) rfl (by omega) (by omega)) h602 h607 (by decide +kernel) (fun σ610 h611 h612 h613 h614 => ?_)
                refine En_Ps 1 (pc' := 229) (lv' := [(2, .int ((y34 + Int32.ofInt 1))), (0, .ref 3), (1, .ref a)]) (st' := []) rfl ?_
                refine En_lv1 (addI rfl (by decide : (Int32.ofInt 1).toInt = 1) (by omega) (by omega)) (fun z615 h616 => ?_)
                refine En_Ps 1 (pc' := 25) (lv' := [(2, .int z615), (0, .ref 3), (1, .ref a)]) (st' := []) rfl ?_
                refine En_lv (lv := [(0, .ref 3), (1, .ref a), (2, .int z615)]) ⟨rfl, rfl, rfl, trivial⟩ ?_
                exact ih25 σ610 z615 z605 z608 z591 h611 h612 ((h614 _ _ (Or.inr (by decide))).trans h606) h613 ((h614 _ _ (Or.inr (by decide))).trans ((h603 _ _ (inW ha (by decide +kernel))).trans h592)) (by omega) (by omega) (by omega) (by omega) (by omega) (by omega) (by omega) (by omega) (by omega) (by omega) (by omega) (by omega) (by omega)
              · refine En_Ps 2 (pc' := 213) (lv' := [(0, .ref 3), (1, .ref a), (2, .int y34)]) (st' := [.int ((Int32.ofInt 1)), .ref 3]) rfl ?_
                have := (by decide : ((Int32.ofInt 1)).toInt = 1)
                refine En_callV rfl rfl rfl rfl rfl rfl rfl rfl (by decide +kernel : TG 3 = 3) (by decide +kernel) rfl (c_59 σ585 h586 ((Int32.ofInt 1)) (geI (by decide : (Int32.ofInt 1).toInt = 1) (by omega)) (leI (by decide : (Int32.ofInt 1).toInt = 1) (by omega)) z589 h590) (by decide) (by decide) (fun v618 σ619 h617 => ?_)
                obtain ⟨h620, h621, z623, h624, rfl, h622⟩ := h617
                have h625 := Fr_trans h593 h621 (by decide +kernel)
                refine En_Ps 2 (pc' := 218) (lv' := [(0, .ref 3), (1, .ref a), (2, .int y34)]) (st' := [.ref a, .ref a]) rfl ?_
                refine En_getK (j := 0) ((h621 _ _ (inW ha (by decide +kernel))).trans ((h587 _ _ (inW ha (by decide +kernel))).trans h42)) rfl rfl rfl ha (by decide +kernel) ?_
                refine En_Ps 2 (pc' := 223) (lv' := [(0, .ref 3), (1, .ref a), (2, .int y34)]) (st' := [.int ((y36 + ((Int32.ofInt 1)))), .ref a]) rfl ?_
                refine En_top (addI rfl (by decide : (Int32.ofInt 1).toInt = 1) (by omega) (by omega)) (fun z626 h627 => ?_)
                refine En_put (j := 0) rfl rfl rfl ha (by decide +kernel) rfl (vI (l := 0) (u := 1601) (by decide +kernel) rfl (by omega) (by omega)) h620 h625 (by decide +kernel) (fun σ628 h629 h630 h631 h632 => ?_)
                refine En_Ps 1 (pc' := 229) (lv' := [(2, .int ((y34 + Int32.ofInt 1))), (0, .ref 3), (1, .ref a)]) (st' := []) rfl ?_
                refine En_lv1 (addI rfl (by decide : (Int32.ofInt 1).toInt = 1) (by omega) (by omega)) (fun z633 h634 => ?_)
                refine En_Ps 1 (pc' := 25) (lv' := [(2, .int z633), (0, .ref 3), (1, .ref a)]) (st' := []) rfl ?_
                refine En_lv (lv := [(0, .ref 3), (1, .ref a), (2, .int z633)]) ⟨rfl, rfl, rfl, trivial⟩ ?_
                exact ih25 σ628 z633 z623 z626 z591 h629 h630 ((h632 _ _ (Or.inr (by decide))).trans h624) h631 ((h632 _ _ (Or.inr (by decide))).trans ((h621 _ _ (inW ha (by decide +kernel))).trans h592)) (by omega) (by omega) (by omega) (by omega) (by omega) (by omega) (by omega) (by omega) (by omega) (by omega) (by omega) (by omega) (by omega)
  have := (by decide : (Int32.ofInt 0).toInt = 0)
  have := (by decide : (Int32.ofInt 0).toInt = 0)
  refine En_lv (lv := [(0, .ref 3), (1, .ref a), (2, .int ((Int32.ofInt 0)))]) ⟨rfl, rfl, rfl, trivial⟩ ?_
  exact key25 (Int.toNat (1601) + 1) σ29 ((Int32.ofInt 0)) ((Int32.ofInt 0)) z22 z24 h30 h33 ((h31 _ _ (inW (by decide +kernel : TG 3 = 3) (by decide +kernel))).trans ((h20 _ _ (inW (by decide +kernel : TG 3 = 3) (by decide +kernel))).trans ((h15 _ _ (Or.inr (by decide))).trans ((h10 _ _ (Or.inr (by decide))).trans h4)))) ((h31 _ _ (inW ha (by decide +kernel))).trans h23) ((h31 _ _ (inW ha (by decide +kernel))).trans h25) (by omega) (by omega) (by omega) (by omega) (by omega) (by omega) (by omega) (by omega) (by omega) (by omega) (by omega) (by omega) (by omega)
/-- DoorSchool$Rules.deedsOf(II)I -/
abbrev P_77 (σ0 : SG) (a : Int32) (b : Int32) : PO := fun v σ => WT σ ∧ Fr [] σ0 σ ∧ ∃ ret : Int32, v = some (.int ret) ∧ -ret.toInt ≤ 0 ∧ ret.toInt - 65535 ≤ 0
set_option maxRecDepth 10000 in
set_option maxHeartbeats 4000000 in
theorem c_77 (σ0 : SG) (hσ0 : WT σ0) (a : Int32) (b : Int32) : En 0 0 none mr_77 (P_77 σ0 a b) 0 [(0, .ref 4), (1, .int a), (2, .int b)] [] σ0 := by
  have hF0 : Fr [] σ0 σ0 := Fr_rfl
  refine En_Ps 4 (pc' := 5) (lv' := [(4, .int ((Int32.ofInt 0))), (3, .int ((Int32.ofInt 0))), (0, .ref 4), (1, .int a), (2, .int b)]) (st' := []) rfl ?_
  have key5 : ∀ (n5 : Nat) (σ3 : SG) (y1 : Int32) (y2 : Int32), WT σ3 → Fr [] σ0 σ3 → 0 ≤ y1.toInt → y1.toInt ≤ 65535 → 0 ≤ y2.toInt → y2.toInt ≤ 16 → -y2.toInt + 16 < (n5 : Int) → En 0 0 none mr_77 (P_77 σ0 a b) 5 [(0, .ref 4), (1, .int a), (2, .int b), (3, .int y1), (4, .int y2)] [] σ3 := by
    intro n5
    induction n5 with
    | zero =>
      intro σ3 y1 y2 h4 h5 h6 h7 h8 h9 h10
      exfalso; omega
    | succ n5 ih5 =>
      intro σ3 y1 y2 h4 h5 h6 h7 h8 h9 h10
      refine En_Ps 2 (pc' := 8) (lv' := [(0, .ref 4), (1, .int a), (2, .int b), (3, .int y1), (4, .int y2)]) (st' := [.ref 4, .int y2]) rfl ?_
      refine En_getI (j := 0) (l := 0) (u := 16) rfl rfl rfl (by decide +kernel : TG 4 = 4) (by decide +kernel) h4 (by decide +kernel) (fun z12 h11 h13 h14 => ?_)
      refine En_icGe _ rfl rfl rfl (fun h15 => ?_) (fun h15 => ?_)
      · refine En_Ps 1 (pc' := 36) (lv' := [(0, .ref 4), (1, .int a), (2, .int b), (3, .int y1), (4, .int y2)]) (st' := [.int y1]) rfl ?_
        exact En_ret (v := some (.int y1)) rfl rfl rfl ⟨h4, h5, y1, rfl, (by omega)⟩
      · refine En_Ps 3 (pc' := 18) (lv' := [(0, .ref 4), (1, .int a), (2, .int b), (3, .int y1), (4, .int y2)]) (st' := [.int ((y2 &&& a))]) rfl ?_
        refine En_rng (l := 0) (u := 15) (andx_rng rfl (by omega) (by omega)) (fun z16 h17 h18 => ?_)
        refine En_Ps 1 (pc' := 19) (lv' := [(0, .ref 4), (1, .int a), (2, .int b), (3, .int y1), (4, .int y2)]) (st' := [.int b, .int z16]) rfl ?_
        refine En_icNe _ rfl rfl rfl (fun h19 => ?_) (fun h19 => ?_)
        · refine En_Ps 1 (pc' := 32) (lv' := [(4, .int ((y2 + Int32.ofInt 1))), (0, .ref 4), (1, .int a), (2, .int b), (3, .int y1)]) (st' := []) rfl ?_
          refine En_lv1 (addI rfl (by decide : (Int32.ofInt 1).toInt = 1) (by omega) (by omega)) (fun z20 h21 => ?_)
          refine En_Ps 1 (pc' := 5) (lv' := [(4, .int z20), (0, .ref 4), (1, .int a), (2, .int b), (3, .int y1)]) (st' := []) rfl ?_
          refine En_lv (lv := [(0, .ref 4), (1, .int a), (2, .int b), (3, .int y1), (4, .int z20)]) ⟨rfl, rfl, rfl, rfl, rfl, trivial⟩ ?_
          exact ih5 σ3 y1 z20 h4 h5 (by omega) (by omega) (by omega) (by omega) (by omega)
        · refine En_Ps 4 (pc' := 27) (lv' := [(0, .ref 4), (1, .int a), (2, .int b), (3, .int y1), (4, .int y2)]) (st' := [.int ((((Int32.ofInt 1)) <<< (y2 &&& 31))), .int y1]) rfl ?_
          refine En_rng (shl1_p 15 rfl (by omega) (by omega) (by decide)) (fun z22 h23 h24 => ?_)
          refine En_Ps 1 (pc' := 28) (lv' := [(0, .ref 4), (1, .int a), (2, .int b), (3, .int y1), (4, .int y2)]) (st' := [.int ((y1 ||| z22))]) rfl ?_
          refine En_rng (l := 0) (u := 65535) (or_rng 16 rfl rfl (by omega) (by omega) (by omega) (by omega) (by decide)) (fun z25 h26 h27 => ?_)
          refine En_Ps 2 (pc' := 32) (lv' := [(4, .int ((y2 + Int32.ofInt 1))), (3, .int z25), (0, .ref 4), (1, .int a), (2, .int b)]) (st' := []) rfl ?_
          refine En_lv1 (addI rfl (by decide : (Int32.ofInt 1).toInt = 1) (by omega) (by omega)) (fun z28 h29 => ?_)
          refine En_Ps 1 (pc' := 5) (lv' := [(4, .int z28), (3, .int z25), (0, .ref 4), (1, .int a), (2, .int b)]) (st' := []) rfl ?_
          refine En_lv (lv := [(0, .ref 4), (1, .int a), (2, .int b), (3, .int z25), (4, .int z28)]) ⟨rfl, rfl, rfl, rfl, rfl, trivial⟩ ?_
          exact ih5 σ3 z25 z28 h4 h5 (by omega) (by omega) (by omega) (by omega) (by omega)
  have := (by decide : (Int32.ofInt 0).toInt = 0)
  have := (by decide : (Int32.ofInt 0).toInt = 0)
  refine En_lv (lv := [(0, .ref 4), (1, .int a), (2, .int b), (3, .int ((Int32.ofInt 0))), (4, .int ((Int32.ofInt 0)))]) ⟨rfl, rfl, rfl, rfl, rfl, trivial⟩ ?_
  exact key5 (Int.toNat (16) + 1) σ0 ((Int32.ofInt 0)) ((Int32.ofInt 0)) hσ0 hF0 (by omega) (by omega) (by omega) (by omega) (by omega)
/-- DoorSchool$Rules.addAllOf(I)V -/
abbrev P_76 (σ0 : SG) (a : Int32) : PO := fun v σ => WT σ ∧ Fr [(4, 1), (5, 0), (6, 0), (7, 0)] σ0 σ ∧ v = none ∧ True
set_option maxRecDepth 10000 in
set_option maxHeartbeats 4000000 in
theorem c_76 (σ0 : SG) (hσ0 : WT σ0) (a : Int32) (hl_a : 0 ≤ a.toInt) (hu_a : a.toInt ≤ 15) : En 1 24 none mr_76 (P_76 σ0 a) 0 [(0, .ref 4), (1, .int a)] [] σ0 := by
  have hF0 : Fr [(4, 1), (5, 0), (6, 0), (7, 0)] σ0 σ0 := Fr_rfl
  refine En_Ps 2 (pc' := 2) (lv' := [(2, .int ((Int32.ofInt 0))), (0, .ref 4), (1, .int a)]) (st' := []) rfl ?_
  have key2 : ∀ (n2 : Nat) (σ2 : SG) (y1 : Int32), WT σ2 → Fr [(4, 1), (5, 0), (6, 0), (7, 0)] σ0 σ2 → 0 ≤ y1.toInt → y1.toInt ≤ 16 → y1.toInt - a.toInt - 1 ≤ 0 → -y1.toInt + 16 < (n2 : Int) → En 1 24 none mr_76 (P_76 σ0 a) 2 [(0, .ref 4), (1, .int a), (2, .int y1)] [] σ2 := by
    intro n2
    induction n2 with
    | zero =>
      intro σ2 y1 h3 h4 h5 h6 h7 h8
      exfalso; omega
    | succ n2 ih2 =>
      intro σ2 y1 h3 h4 h5 h6 h7 h8
      refine En_Ps 2 (pc' := 4) (lv' := [(0, .ref 4), (1, .int a), (2, .int y1)]) (st' := [.int a, .int y1]) rfl ?_
      refine En_icGt _ rfl rfl rfl (fun h9 => ?_) (fun h9 => ?_)
      · exact En_ret (v := none) rfl rfl rfl ⟨h3, h4, rfl, trivial⟩
      · refine En_Ps 1 (pc' := 8) (lv' := [(0, .ref 4), (1, .int a), (2, .int y1)]) (st' := [.ref 4]) rfl ?_
        refine En_getI (j := 1) (l := 0) (u := 81) rfl rfl rfl (by decide +kernel : TG 4 = 4) (by decide +kernel) h3 (by decide +kernel) (fun z11 h10 h12 h13 => ?_)
        refine En_Ps 1 (pc' := 13) (lv' := [(0, .ref 4), (1, .int a), (2, .int y1)]) (st' := [.int (((Int8.ofInt 81).toInt32)), .int z11]) rfl ?_
        refine En_icGe _ rfl (by decide : ((Int8.ofInt 81).toInt32).toInt = 81) rfl (fun h14 => ?_) (fun h14 => ?_)
        · exact En_ret (v := none) rfl rfl rfl ⟨h3, h4, rfl, trivial⟩
        · refine En_Ps 4 (pc' := 20) (lv' := [(0, .ref 4), (1, .int a), (2, .int y1)]) (st' := [.int ((a ^^^ ((Int32.ofInt (-1))))), .int y1]) rfl ?_
          refine En_nam (fun z15 h16 => ?_)
          refine En_Ps 1 (pc' := 21) (lv' := [(0, .ref 4), (1, .int a), (2, .int y1)]) (st' := [.int ((y1 &&& z15))]) rfl ?_
          refine En_nam (fun z17 h18 => ?_)
          obtain ⟨h19, h20⟩ := andn_rng h18 rfl (by omega) (by omega : _ ≤ (15 : Int))
          refine En_iNe _ rfl rfl (fun h21 => ?_) (fun h21 => ?_)
          · refine En_Ps 1 (pc' := 72) (lv' := [(2, .int ((y1 + Int32.ofInt 1))), (0, .ref 4), (1, .int a)]) (st' := []) rfl ?_
            refine En_lv1 (addI rfl (by decide : (Int32.ofInt 1).toInt = 1) (by omega) (by omega)) (fun z22 h23 => ?_)
            refine En_Ps 1 (pc' := 2) (lv' := [(2, .int z22), (0, .ref 4), (1, .int a)]) (st' := []) rfl ?_
            refine En_lv (lv := [(0, .ref 4), (1, .int a), (2, .int z22)]) ⟨rfl, rfl, rfl, trivial⟩ ?_
            exact ih2 σ2 z22 h3 h4 (by omega) (by omega) (by omega) (by omega)
          · obtain ⟨h24, h25⟩ := andn_zero h18 h16 h21 rfl rfl (by omega)
            refine En_Ps 1 (pc' := 25) (lv' := [(0, .ref 4), (1, .int a), (2, .int y1)]) (st' := [.ref 4]) rfl ?_
            refine En_getU (j := 2) (u := 5) (g' := 5) (q := 0) rfl rfl rfl (by decide +kernel : TG 4 = 4) (by decide +kernel) h3 (by decide +kernel) (by decide +kernel) (fun h26 => ?_)
            refine En_Ps 1 (pc' := 29) (lv' := [(0, .ref 4), (1, .int a), (2, .int y1)]) (st' := [.ref 4, .ref 5]) rfl ?_
            refine En_getK (j := 1) h10 rfl rfl rfl (by decide +kernel : TG 4 = 4) (by decide +kernel) ?_
            refine En_Ps 1 (pc' := 33) (lv' := [(0, .ref 4), (1, .int a), (2, .int y1)]) (st' := [.int a, .int z11, .ref 5]) rfl ?_
            refine En_iast (l := 0) (u := 15) rfl rfl (by decide +kernel : TG 5 = 5) (by decide +kernel) (by omega) (lnI (by decide +kernel : LN _ = 81) (by omega)) (FTsgl (by decide +kernel)) (rngI rfl (by omega) (by omega)) h3 h4 (by decide +kernel) (fun σ28 h29 h30 h31 h32 => ?_)
            refine En_Ps 1 (pc' := 35) (lv' := [(0, .ref 4), (1, .int a), (2, .int y1)]) (st' := [.ref 4]) rfl ?_
            refine En_getU (j := 3) (u := 6) (g' := 6) (q := 0) rfl rfl rfl (by decide +kernel : TG 4 = 4) (by decide +kernel) h29 (by decide +kernel) (by decide +kernel) (fun h33 => ?_)
            refine En_Ps 1 (pc' := 39) (lv' := [(0, .ref 4), (1, .int a), (2, .int y1)]) (st' := [.ref 4, .ref 6]) rfl ?_
            refine En_getK (j := 1) ((h32 _ _ (Or.inl (neTG (by decide +kernel : TG 4 = 4) (by decide +kernel : TG 5 = 5) (by decide)))).trans h10) rfl rfl rfl (by decide +kernel : TG 4 = 4) (by decide +kernel) ?_
            refine En_Ps 1 (pc' := 43) (lv' := [(0, .ref 4), (1, .int a), (2, .int y1)]) (st' := [.int y1, .int z11, .ref 6]) rfl ?_
            refine En_iast (l := 0) (u := 15) rfl rfl (by decide +kernel : TG 6 = 6) (by decide +kernel) (by omega) (lnI (by decide +kernel : LN _ = 81) (by omega)) (FTsgl (by decide +kernel)) (rngI rfl (by omega) (by omega)) h29 h30 (by decide +kernel) (fun σ35 h36 h37 h38 h39 => ?_)
            refine En_Ps 1 (pc' := 45) (lv' := [(0, .ref 4), (1, .int a), (2, .int y1)]) (st' := [.ref 4]) rfl ?_
            refine En_getU (j := 4) (u := 7) (g' := 7) (q := 0) rfl rfl rfl (by decide +kernel : TG 4 = 4) (by decide +kernel) h36 (by decide +kernel) (by decide +kernel) (fun h40 => ?_)
            refine En_Ps 1 (pc' := 49) (lv' := [(0, .ref 4), (1, .int a), (2, .int y1)]) (st' := [.ref 4, .ref 7]) rfl ?_
            refine En_getK (j := 1) ((h39 _ _ (Or.inl (neTG (by decide +kernel : TG 4 = 4) (by decide +kernel : TG 6 = 6) (by decide)))).trans ((h32 _ _ (Or.inl (neTG (by decide +kernel : TG 4 = 4) (by decide +kernel : TG 5 = 5) (by decide)))).trans h10)) rfl rfl rfl (by decide +kernel : TG 4 = 4) (by decide +kernel) ?_
            refine En_Ps 3 (pc' := 55) (lv' := [(0, .ref 4), (1, .int a), (2, .int y1)]) (st' := [.int y1, .int a, .ref 4, .int z11, .ref 7]) rfl ?_
            refine En_callV rfl rfl rfl rfl rfl rfl rfl rfl (by decide +kernel : TG 4 = 4) (by decide +kernel) rfl (c_77 σ35 h36 a y1) (by decide) (by decide) (fun v43 σ44 h42 => ?_)
            obtain ⟨h45, h46, z48, rfl, h47⟩ := h42
            have h49 := Fr_trans h37 h46 (by decide +kernel)
            refine En_iast (l := (-2147483648)) (u := 2147483647) rfl rfl (by decide +kernel : TG 7 = 7) (by decide +kernel) (by omega) (lnI (by decide +kernel : LN _ = 81) (by omega)) (FTsgl (by decide +kernel)) (fullI _) h45 h49 (by decide +kernel) (fun σ50 h51 h52 h53 h54 => ?_)
            refine En_Ps 2 (pc' := 61) (lv' := [(0, .ref 4), (1, .int a), (2, .int y1)]) (st' := [.ref 4, .ref 4]) rfl ?_
            refine En_getK (j := 1) ((h54 _ _ (Or.inl (neTG (by decide +kernel : TG 4 = 4) (by decide +kernel : TG 7 = 7) (by decide)))).trans ((h46 _ _ (inW (by decide +kernel : TG 4 = 4) (by decide +kernel))).trans ((h39 _ _ (Or.inl (neTG (by decide +kernel : TG 4 = 4) (by decide +kernel : TG 6 = 6) (by decide)))).trans ((h32 _ _ (Or.inl (neTG (by decide +kernel : TG 4 = 4) (by decide +kernel : TG 5 = 5) (by decide)))).trans h10)))) rfl rfl rfl (by decide +kernel : TG 4 = 4) (by decide +kernel) ?_
            refine En_Ps 2 (pc' := 66) (lv' := [(0, .ref 4), (1, .int a), (2, .int y1)]) (st' := [.int ((z11 + ((Int32.ofInt 1)))), .ref 4]) rfl ?_
            refine En_top (addI rfl (by decide : (Int32.ofInt 1).toInt = 1) (by omega) (by omega)) (fun z55 h56 => ?_)
            refine En_put (j := 1) rfl rfl rfl (by decide +kernel : TG 4 = 4) (by decide +kernel) rfl (vI (l := 0) (u := 81) (by decide +kernel) rfl (by omega) (by omega)) h51 h52 (by decide +kernel) (fun σ57 h58 h59 h60 h61 => ?_)
            refine En_Ps 1 (pc' := 72) (lv' := [(2, .int ((y1 + Int32.ofInt 1))), (0, .ref 4), (1, .int a)]) (st' := []) rfl ?_
            refine En_lv1 (addI rfl (by decide : (Int32.ofInt 1).toInt = 1) (by omega) (by omega)) (fun z62 h63 => ?_)
            refine En_Ps 1 (pc' := 2) (lv' := [(2, .int z62), (0, .ref 4), (1, .int a)]) (st' := []) rfl ?_
            refine En_lv (lv := [(0, .ref 4), (1, .int a), (2, .int z62)]) ⟨rfl, rfl, rfl, trivial⟩ ?_
            exact ih2 σ57 z62 h58 h59 (by omega) (by omega) (by omega) (by omega)
  have := (by decide : (Int32.ofInt 0).toInt = 0)
  refine En_lv (lv := [(0, .ref 4), (1, .int a), (2, .int ((Int32.ofInt 0)))]) ⟨rfl, rfl, rfl, trivial⟩ ?_
  exact key2 (Int.toNat (16) + 1) σ0 ((Int32.ofInt 0)) hσ0 hF0 (by omega) (by omega) (by omega) (by omega)
/-- DoorSchool$Rules.howMany(II)I -/
abbrev P_79 (σ0 : SG) (a : Int32) (b : Int32) : PO := fun v σ => WT σ ∧ Fr [] σ0 σ ∧ ∃ ret : Int32, v = some (.int ret) ∧ -ret.toInt ≤ 0 ∧ ret.toInt - 81 ≤ 0
set_option maxRecDepth 10000 in
set_option maxHeartbeats 4000000 in
theorem c_79 (σ0 : SG) (hσ0 : WT σ0) (a : Int32) (b : Int32) : En 1 22 none mr_79 (P_79 σ0 a b) 0 [(0, .ref 4), (1, .int a), (2, .int b)] [] σ0 := by
  have hF0 : Fr [] σ0 σ0 := Fr_rfl
  refine En_Ps 4 (pc' := 5) (lv' := [(4, .int ((Int32.ofInt 0))), (3, .int ((Int32.ofInt 0))), (0, .ref 4), (1, .int a), (2, .int b)]) (st' := []) rfl ?_
  have key5 : ∀ (n5 : Nat) (σ3 : SG) (y1 : Int32) (y2 : Int32), WT σ3 → Fr [] σ0 σ3 → 0 ≤ y1.toInt → y1.toInt ≤ 81 → 0 ≤ y2.toInt → y2.toInt ≤ 81 → y1.toInt - y2.toInt ≤ 0 → -y2.toInt + 81 < (n5 : Int) → En 1 22 none mr_79 (P_79 σ0 a b) 5 [(0, .ref 4), (1, .int a), (2, .int b), (3, .int y1), (4, .int y2)] [] σ3 := by
    intro n5
    induction n5 with
    | zero =>
      intro σ3 y1 y2 h4 h5 h6 h7 h8 h9 h10 h11
      exfalso; omega
    | succ n5 ih5 =>
      intro σ3 y1 y2 h4 h5 h6 h7 h8 h9 h10 h11
      refine En_Ps 2 (pc' := 8) (lv' := [(0, .ref 4), (1, .int a), (2, .int b), (3, .int y1), (4, .int y2)]) (st' := [.ref 4, .int y2]) rfl ?_
      refine En_getI (j := 1) (l := 0) (u := 81) rfl rfl rfl (by decide +kernel : TG 4 = 4) (by decide +kernel) h4 (by decide +kernel) (fun z13 h12 h14 h15 => ?_)
      refine En_icGe _ rfl rfl rfl (fun h16 => ?_) (fun h16 => ?_)
      · refine En_Ps 1 (pc' := 39) (lv' := [(0, .ref 4), (1, .int a), (2, .int b), (3, .int y1), (4, .int y2)]) (st' := [.int y1]) rfl ?_
        exact En_ret (v := some (.int y1)) rfl rfl rfl ⟨h4, h5, y1, rfl, (by omega)⟩
      · refine En_Ps 1 (pc' := 15) (lv' := [(0, .ref 4), (1, .int a), (2, .int b), (3, .int y1), (4, .int y2)]) (st' := [.ref 4]) rfl ?_
        refine En_getU (j := 4) (u := 7) (g' := 7) (q := 0) rfl rfl rfl (by decide +kernel : TG 4 = 4) (by decide +kernel) h4 (by decide +kernel) (by decide +kernel) (fun h17 => ?_)
        refine En_Ps 1 (pc' := 20) (lv' := [(0, .ref 4), (1, .int a), (2, .int b), (3, .int y1), (4, .int y2)]) (st' := [.int y2, .ref 7]) rfl ?_
        refine En_iald (l := (-2147483648)) (u := 2147483647) rfl rfl (by decide +kernel : TG 7 = 7) (by decide +kernel) h4 (by omega) (lnI (by decide +kernel : LN _ = 81) (by omega)) (FTsgl (by decide +kernel)) (fun z20 h19 h21 h22 => ?_)
        refine En_Ps 2 (pc' := 23) (lv' := [(0, .ref 4), (1, .int a), (2, .int b), (3, .int y1), (4, .int y2)]) (st' := [.int b, .int a, .int z20]) rfl ?_
        refine En_callS rfl rfl rfl rfl rfl rfl rfl rfl rfl (c_100 σ3 h4 z20 a b) (by decide) (by decide) (fun v24 σ25 h23 => ?_)
        obtain ⟨h26, h27, z29, rfl, h28⟩ := h23
        have h30 := Fr_trans h5 h27 (by decide +kernel)
        refine En_iEq _ rfl rfl (fun h31 => ?_) (fun h31 => ?_)
        · refine En_Ps 1 (pc' := 35) (lv' := [(4, .int ((y2 + Int32.ofInt 1))), (0, .ref 4), (1, .int a), (2, .int b), (3, .int y1)]) (st' := []) rfl ?_
          refine En_lv1 (addI rfl (by decide : (Int32.ofInt 1).toInt = 1) (by omega) (by omega)) (fun z32 h33 => ?_)
          refine En_Ps 1 (pc' := 5) (lv' := [(4, .int z32), (0, .ref 4), (1, .int a), (2, .int b), (3, .int y1)]) (st' := []) rfl ?_
          refine En_lv (lv := [(0, .ref 4), (1, .int a), (2, .int b), (3, .int y1), (4, .int z32)]) ⟨rfl, rfl, rfl, rfl, rfl, trivial⟩ ?_
          exact ih5 σ25 y1 z32 h26 h30 (by omega) (by omega) (by omega) (by omega) (by omega) (by omega)
        · refine En_Ps 1 (pc' := 32) (lv' := [(3, .int ((y1 + Int32.ofInt 1))), (0, .ref 4), (1, .int a), (2, .int b), (4, .int y2)]) (st' := []) rfl ?_
          refine En_lv1 (addI rfl (by decide : (Int32.ofInt 1).toInt = 1) (by omega) (by omega)) (fun z34 h35 => ?_)
          refine En_Ps 1 (pc' := 35) (lv' := [(4, .int ((y2 + Int32.ofInt 1))), (3, .int z34), (0, .ref 4), (1, .int a), (2, .int b)]) (st' := []) rfl ?_
          refine En_lv1 (addI rfl (by decide : (Int32.ofInt 1).toInt = 1) (by omega) (by omega)) (fun z36 h37 => ?_)
          refine En_Ps 1 (pc' := 5) (lv' := [(4, .int z36), (3, .int z34), (0, .ref 4), (1, .int a), (2, .int b)]) (st' := []) rfl ?_
          refine En_lv (lv := [(0, .ref 4), (1, .int a), (2, .int b), (3, .int z34), (4, .int z36)]) ⟨rfl, rfl, rfl, rfl, rfl, trivial⟩ ?_
          exact ih5 σ25 z34 z36 h26 h30 (by omega) (by omega) (by omega) (by omega) (by omega) (by omega)
  have := (by decide : (Int32.ofInt 0).toInt = 0)
  have := (by decide : (Int32.ofInt 0).toInt = 0)
  refine En_lv (lv := [(0, .ref 4), (1, .int a), (2, .int b), (3, .int ((Int32.ofInt 0))), (4, .int ((Int32.ofInt 0)))]) ⟨rfl, rfl, rfl, rfl, rfl, trivial⟩ ?_
  exact key5 (Int.toNat (81) + 1) σ0 ((Int32.ofInt 0)) ((Int32.ofInt 0)) hσ0 hF0 (by omega) (by omega) (by omega) (by omega) (by omega) (by omega)
/-- DoorSchool$Rules.placeOf(I)I -/
abbrev P_81 (σ0 : SG) (a : Int32) : PO := fun v σ => WT σ ∧ Fr [] σ0 σ ∧ ∃ ret : Int32, v = some (.int ret) ∧ -ret.toInt - 1 ≤ 0 ∧ ret.toInt - 80 ≤ 0
set_option maxRecDepth 10000 in
set_option maxHeartbeats 4000000 in
theorem c_81 (σ0 : SG) (hσ0 : WT σ0) (a : Int32) : En 0 0 none mr_81 (P_81 σ0 a) 0 [(0, .ref 4), (1, .int a)] [] σ0 := by
  have hF0 : Fr [] σ0 σ0 := Fr_rfl
  refine En_Ps 2 (pc' := 2) (lv' := [(2, .int ((Int32.ofInt 0))), (0, .ref 4), (1, .int a)]) (st' := []) rfl ?_
  have key2 : ∀ (n2 : Nat) (σ2 : SG) (y1 : Int32), WT σ2 → Fr [] σ0 σ2 → 0 ≤ y1.toInt → y1.toInt ≤ 81 → -y1.toInt + 81 < (n2 : Int) → En 0 0 none mr_81 (P_81 σ0 a) 2 [(0, .ref 4), (1, .int a), (2, .int y1)] [] σ2 := by
    intro n2
    induction n2 with
    | zero =>
      intro σ2 y1 h3 h4 h5 h6 h7
      exfalso; omega
    | succ n2 ih2 =>
      intro σ2 y1 h3 h4 h5 h6 h7
      refine En_Ps 2 (pc' := 4) (lv' := [(0, .ref 4), (1, .int a), (2, .int y1)]) (st' := [.ref 4, .int y1]) rfl ?_
      refine En_getI (j := 1) (l := 0) (u := 81) rfl rfl rfl (by decide +kernel : TG 4 = 4) (by decide +kernel) h3 (by decide +kernel) (fun z9 h8 h10 h11 => ?_)
      refine En_icGe _ rfl rfl rfl (fun h12 => ?_) (fun h12 => ?_)
      · refine En_Ps 1 (pc' := 29) (lv' := [(0, .ref 4), (1, .int a), (2, .int y1)]) (st' := [.int ((Int32.ofInt (-1)))]) rfl ?_
        refine En_top (by decide : (Int32.ofInt (-1)).toInt = -1) (fun z13 h14 => ?_)
        exact En_ret (v := some (.int z13)) rfl rfl rfl ⟨h3, h4, z13, rfl, (by omega)⟩
      · refine En_Ps 1 (pc' := 11) (lv' := [(0, .ref 4), (1, .int a), (2, .int y1)]) (st' := [.ref 4]) rfl ?_
        refine En_getU (j := 4) (u := 7) (g' := 7) (q := 0) rfl rfl rfl (by decide +kernel : TG 4 = 4) (by decide +kernel) h3 (by decide +kernel) (by decide +kernel) (fun h15 => ?_)
        refine En_Ps 1 (pc' := 15) (lv' := [(0, .ref 4), (1, .int a), (2, .int y1)]) (st' := [.int y1, .ref 7]) rfl ?_
        refine En_iald (l := (-2147483648)) (u := 2147483647) rfl rfl (by decide +kernel : TG 7 = 7) (by decide +kernel) h3 (by omega) (lnI (by decide +kernel : LN _ = 81) (by omega)) (FTsgl (by decide +kernel)) (fun z18 h17 h19 h20 => ?_)
        refine En_Ps 1 (pc' := 17) (lv' := [(0, .ref 4), (1, .int a), (2, .int y1)]) (st' := [.int a, .int z18]) rfl ?_
        refine En_icNe _ rfl rfl rfl (fun h21 => ?_) (fun h21 => ?_)
        · refine En_Ps 1 (pc' := 25) (lv' := [(2, .int ((y1 + Int32.ofInt 1))), (0, .ref 4), (1, .int a)]) (st' := []) rfl ?_
          refine En_lv1 (addI rfl (by decide : (Int32.ofInt 1).toInt = 1) (by omega) (by omega)) (fun z22 h23 => ?_)
          refine En_Ps 1 (pc' := 2) (lv' := [(2, .int z22), (0, .ref 4), (1, .int a)]) (st' := []) rfl ?_
          refine En_lv (lv := [(0, .ref 4), (1, .int a), (2, .int z22)]) ⟨rfl, rfl, rfl, trivial⟩ ?_
          exact ih2 σ2 z22 h3 h4 (by omega) (by omega) (by omega)
        · refine En_Ps 1 (pc' := 21) (lv' := [(0, .ref 4), (1, .int a), (2, .int y1)]) (st' := [.int y1]) rfl ?_
          exact En_ret (v := some (.int y1)) rfl rfl rfl ⟨h3, h4, y1, rfl, (by omega)⟩
  have := (by decide : (Int32.ofInt 0).toInt = 0)
  refine En_lv (lv := [(0, .ref 4), (1, .int a), (2, .int ((Int32.ofInt 0)))]) ⟨rfl, rfl, rfl, trivial⟩ ?_
  exact key2 (Int.toNat (81) + 1) σ0 ((Int32.ofInt 0)) hσ0 hF0 (by omega) (by omega) (by omega)
