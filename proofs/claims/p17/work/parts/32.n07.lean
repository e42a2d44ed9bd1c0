/-- DoorSchool.gains(III)I -/
abbrev P_130x (σ0 : SG) (Wv : Int → Int) (a : Int32) (b : Int32) (c : Int32) (p : Nat) (sg : Int32) : PO := fun v σ => WT σ ∧ Fr [(20, 2), (21, 0), (22, 0)] σ0 σ ∧ ∃ ret : Int32, v = some (.int ret) ∧ -ret.toInt - 1000 ≤ 0 ∧ ret.toInt - 63 ≤ 0 ∧ (KN σ p Wv (act Wv) ∧ OUT σ0 σ p)
set_option maxRecDepth 10000 in
set_option maxHeartbeats 4000000 in
theorem c_130x {Wv : Int → Int} (σ0 : SG) (hσ0 : WT σ0) (a : Int32) (b : Int32) (c : Int32) (p : Nat) (hp : TG p = 18) (h_p : (σ0 0)[9]? = some (.ref p)) (sg : Int32) (h_sg : (σ0 p)[1]? = some (.int sg)) (hp0 : -sg.toInt ≤ 0) (hP : PLA p) (hX : FXP σ0 p) (hK : KN σ0 p Wv (act Wv)) (hB : WFw Wv) : En 5 118 none mr_130 (P_130x σ0 Wv a b c p sg) 0 [(0, .ref 0), (1, .int a), (2, .int b), (3, .int c)] [] σ0 := by
  obtain ⟨hl_sg, hu_sg⟩ := WT_int hσ0 (g := 18) hp (by decide +kernel) (l := (-1)) (u := 4) (by decide +kernel) h_sg
  have hF0 : Fr [(20, 2), (21, 0), (22, 0)] σ0 σ0 := Fr_rfl
  have t1 : Wv (0) = sg.toInt := KN_v hK (Or.inl (by decide)) (by omega) (by omega) (by rw [lcO_lt (by decide) (by decide), Nat.add_zero]) rfl h_sg
  obtain ⟨z3, h2, h4, h5⟩ := WT_peekI hσ0 hp (by decide +kernel : FT 18 3 = (0, 0, 4)) (by decide +kernel)
  have t6 : Wv (2) = z3.toInt := KN_v hK (Or.inl (by decide)) (by omega) (by omega) (by rw [lcO_lt (by decide) (by decide), Nat.add_zero]) rfl h2
  refine En_Ps 4 (pc' := 4) (lv' := [(0, .ref 0), (1, .int a), (2, .int b), (3, .int c)]) (st' := [.int c, .int b, .int a, .ref 0]) rfl ?_
  refine En_callV rfl rfl rfl rfl rfl rfl rfl rfl tgz_0 (by decide +kernel) rfl (c_144x σ0 hσ0 a b c p hp h_p sg h_sg (by omega) hP (FXP_fr hP hX hF0 (by decide +kernel)) hK) (by decide) (by decide) (fun v8 σ9 h7 => ?_)
  obtain ⟨h10, h11, z13, rfl, h12⟩ := h7
  have h14 := h12.2.2.2.2
  obtain rfl : σ0 = σ9 := Fr_nil h11
  have h15 := h14
  refine En_iEq _ rfl rfl (fun h16 => ?_) (fun h16 => ?_)
  · have h17 := Imp_m h12.2.2.1 (by omega)
    refine En_Ps 1 (pc' := 23) (lv' := [(0, .ref 0), (1, .int a), (2, .int b), (3, .int c)]) (st' := [.int (((Int16.ofInt (-1000)).toInt32))]) rfl ?_
    refine En_top (by decide : ((Int16.ofInt (-1000)).toInt32).toInt = -1000) (fun z18 h19 => ?_)
    exact En_ret (v := some (.int z18)) rfl rfl rfl ⟨hσ0, hF0, z18, rfl, ⟨by omega, by omega, ⟨hK, OUT_0⟩⟩⟩
  · have h20 := Imp_m h12.2.2.2.1 (by omega)
    have h21 : okL Wv a.toInt b.toInt c.toInt := by rcases h15 with q | q; exact q.2; exfalso; omega
    have := h21.1
    have := h21.2.1
    refine En_Ps 4 (pc' := 14) (lv' := [(0, .ref 0), (1, .int a), (2, .int b), (3, .int c)]) (st' := [.int c, .int b, .int a, .ref 0]) rfl ?_
    refine En_callV rfl rfl rfl rfl rfl rfl rfl rfl tgz_0 (by decide +kernel) rfl (c_129x σ0 hσ0 a b c (geI rfl (by omega)) (leI rfl (by omega)) (geI rfl (by omega)) (leI rfl (by omega)) (geI rfl (by omega)) (leI rfl (by omega)) p hp h_p sg h_sg (by omega) hP (FXP_fr hP hX hF0 (by decide +kernel)) hK hB (by omega)) (by decide) (by decide) (fun v23 σ24 h22 => ?_)
    obtain ⟨h25, h26, z28, rfl, h27⟩ := h22
    have h29 := h27.2.2
    have h30 := Fr_trans hF0 h26 (by decide +kernel)
    have h31 := h29.2
    refine En_Ps 1 (pc' := 23) (lv' := [(0, .ref 0), (1, .int a), (2, .int b), (3, .int c)]) (st' := [.int z28]) rfl ?_
    exact En_ret (v := some (.int z28)) rfl rfl rfl ⟨h25, h30, z28, rfl, ⟨by omega, by omega, ⟨h29.1, h31⟩⟩⟩
/-- DoorSchool.harden(I)I -/
abbrev P_135x (σ0 : SG) (Wv : Int → Int) (a : Int32) (p : Nat) (sg : Int32) : PO := fun v σ => WT σ ∧ Fr [(20, 2), (21, 0), (22, 0)] σ0 σ ∧ ∃ ret : Int32, v = some (.int ret) ∧ -ret.toInt - 2 ≤ 0 ∧ ret.toInt - 15 ≤ 0 ∧ Imp (-ret.toInt - 1 ≤ 0) (-a.toInt ≤ 0 ∧ a.toInt - 3 ≤ 0) ∧ Imp (-ret.toInt ≤ 0) (ret.toInt - 15 ≤ 0) ∧ Imp (-ret.toInt - 1 ≤ 0) (a.toInt - Wv 2 + 1 ≤ 0) ∧ (KN σ p Wv (act Wv) ∧ OUT σ0 σ p)
set_option maxRecDepth 10000 in
set_option maxHeartbeats 4000000 in
theorem c_135x {Wv : Int → Int} (σ0 : SG) (hσ0 : WT σ0) (a : Int32) (p : Nat) (hp : TG p = 18) (h_p : (σ0 0)[9]? = some (.ref p)) (sg : Int32) (h_sg : (σ0 p)[1]? = some (.int sg)) (hp0 : -sg.toInt ≤ 0) (hP : PLA p) (hX : FXP σ0 p) (hK : KN σ0 p Wv (act Wv)) (hB : WFw Wv) : En 5 116 none mr_135 (P_135x σ0 Wv a p sg) 0 [(0, .ref 0), (1, .int a)] [] σ0 := by
  obtain ⟨hl_sg, hu_sg⟩ := WT_int hσ0 (g := 18) hp (by decide +kernel) (l := (-1)) (u := 4) (by decide +kernel) h_sg
  have hF0 : Fr [(20, 2), (21, 0), (22, 0)] σ0 σ0 := Fr_rfl
  have t1 : Wv (0) = sg.toInt := KN_v hK (Or.inl (by decide)) (by omega) (by omega) (by rw [lcO_lt (by decide) (by decide), Nat.add_zero]) rfl h_sg
  obtain ⟨z3, h2, h4, h5⟩ := WT_peekI hσ0 hp (by decide +kernel : FT 18 3 = (0, 0, 4)) (by decide +kernel)
  have t6 : Wv (2) = z3.toInt := KN_v hK (Or.inl (by decide)) (by omega) (by omega) (by rw [lcO_lt (by decide) (by decide), Nat.add_zero]) rfl h2
  refine En_Ps 1 (pc' := 1) (lv' := [(0, .ref 0), (1, .int a)]) (st' := [.ref 0]) rfl ?_
  refine En_getK (j := 9) h_p rfl rfl rfl tgz_0 (by decide +kernel) ?_
  refine En_Ps 1 (pc' := 5) (lv' := [(0, .ref 0), (1, .int a)]) (st' := [.int a, .ref p]) rfl ?_
  refine En_callV rfl rfl rfl rfl rfl rfl rfl rfl hp (by decide +kernel) rfl (c_47x σ0 hσ0 p hp a z3 h2) (by decide) (by decide) (fun v8 σ9 h7 => ?_)
  obtain ⟨h10, h11, z13, rfl, h12⟩ := h7
  obtain rfl : σ0 = σ9 := Fr_nil h11
  have h14 := Imp_m h12.2.2.1
  have h15 := Imp_m h12.2.2.2.1
  have h16 := Imp_m h12.2.2.2.2.1
  have h17 := Imp_m h12.2.2.2.2.2
  refine En_iNe _ rfl rfl (fun h18 => ?_) (fun h18 => ?_)
  · have h19 := Imp_m h12.2.2.1 (by omega)
    have h20 := Imp_m h12.2.2.2.1 (by omega)
    have h21 := Imp_m h12.2.2.2.2.2 (by omega)
    refine En_Ps 4 (pc' := 18) (lv' := [(2, .int ((Int32.ofInt (-1)))), (0, .ref 0), (1, .int a)]) (st' := [.int a, .ref 0]) rfl ?_
    refine En_callV rfl rfl rfl rfl rfl rfl rfl rfl tgz_0 (by decide +kernel) rfl (c_126 σ0 hσ0 a (geI rfl (by omega)) (leI rfl (by omega)) p hp h_p sg h_sg (by omega)) (by decide) (by decide) (fun v23 σ24 h22 => ?_)
    obtain ⟨h25, h26, z28, rfl, h27⟩ := h22
    obtain rfl : σ0 = σ24 := Fr_nil h26
    refine En_callS rfl rfl rfl rfl rfl rfl rfl rfl rfl (c_7bx σ0 hσ0 z28) (by decide) (by decide) (fun v30 σ31 h29 => ?_)
    obtain ⟨h32, h33, z35, rfl, h34⟩ := h29
    obtain rfl : σ0 = σ31 := Fr_nil h33
    refine En_Ps 3 (pc' := 28) (lv' := [(4, .int ((Int32.ofInt 0))), (3, .int z35), (2, .int ((Int32.ofInt (-1)))), (0, .ref 0), (1, .int a)]) (st' := []) rfl ?_
    have key28 : ∀ (n28 : Nat) (σ39 : SG) (y36 : Int32) (y37 : Int32) (y38 : Int32), WT σ39 → Fr [(20, 2), (21, 0), (22, 0)] σ0 σ39 → (σ39 0)[9]? = some (.ref p) → (σ39 p)[1]? = some (.int sg) → (σ39 p)[3]? = some (.int z3) → (-1) ≤ y36.toInt → y36.toInt ≤ 15 → 0 ≤ y37.toInt → y37.toInt ≤ 63 → 0 ≤ y38.toInt → y38.toInt ≤ 16 → y36.toInt - y38.toInt + 1 ≤ 0 → -y38.toInt + 16 < (n28 : Int) → KN σ39 p Wv (act Wv) → OUT σ0 σ39 p → En 5 116 none mr_135 (P_135x σ0 Wv a p sg) 28 [(0, .ref 0), (1, .int a), (2, .int y36), (3, .int y37), (4, .int y38)] [] σ39 := by
      intro n28
      induction n28 with
      | zero =>
        intro σ39 y36 y37 y38 h40 h41 h42 h43 h44 h45 h46 h47 h48 h49 h50 h51 h52 h53 h54
        exfalso; omega
      | succ n28 ih28 =>
        intro σ39 y36 y37 y38 h40 h41 h42 h43 h44 h45 h46 h47 h48 h49 h50 h51 h52 h53 h54
        refine En_Ps 2 (pc' := 31) (lv' := [(0, .ref 0), (1, .int a), (2, .int y36), (3, .int y37), (4, .int y38)]) (st' := [.ref 0, .int y38]) rfl ?_
        refine En_getK (j := 9) h42 rfl rfl rfl tgz_0 (by decide +kernel) ?_
        refine En_callV rfl rfl rfl rfl rfl rfl rfl rfl hp (by decide +kernel) rfl (c_51x σ39 h40 p hp sg h43 (by omega)) (by decide) (by decide) (fun v56 σ57 h55 => ?_)
        obtain ⟨h58, h59, z61, rfl, h60⟩ := h55
        have h62 := h60.2.2
        obtain rfl : σ39 = σ57 := Fr_nil h59
        refine En_icGe _ rfl rfl rfl (fun h63 => ?_) (fun h63 => ?_)
        · refine En_Ps 1 (pc' := 68) (lv' := [(0, .ref 0), (1, .int a), (2, .int y36), (3, .int y37), (4, .int y38)]) (st' := [.int y36]) rfl ?_
          exact En_ret (v := some (.int y36)) rfl rfl rfl ⟨h40, h41, y36, rfl, ⟨by omega, by omega, fun _ => by omega, fun _ => by omega, fun _ => by omega, ⟨h53, h54⟩⟩⟩
        · refine En_Ps 3 (pc' := 44) (lv' := [(0, .ref 0), (1, .int a), (2, .int y36), (3, .int y37), (4, .int y38)]) (st' := [.int y38, .int a, .ref 0]) rfl ?_
          refine En_callV rfl rfl rfl rfl rfl rfl rfl rfl tgz_0 (by decide +kernel) rfl (c_127x σ39 h40 a y38 (geI rfl (by omega)) (leI rfl (by omega)) (geI rfl (by omega)) (leI rfl (by omega)) p hp h42 sg h43 (by omega) hP (FXP_fr hP hX h41 (by decide +kernel)) h53 hB (by omega)) (by decide) (by decide) (fun v65 σ66 h64 => ?_)
          obtain ⟨h67, h68, z70, rfl, h69⟩ := h64
          have h71 := h69.2.2
          have h72 := Fr_trans h41 h68 (by decide +kernel)
          have h73 := OUT_tr h54 h71.2
          refine En_Ps 3 (pc' := 52) (lv' := [(5, .int z70), (0, .ref 0), (1, .int a), (2, .int y36), (3, .int y37), (4, .int y38)]) (st' := [.int y37, .int z70]) rfl ?_
          refine En_icGe _ rfl rfl rfl (fun h74 => ?_) (fun h74 => ?_)
          · refine En_Ps 1 (pc' := 64) (lv' := [(4, .int ((y38 + Int32.ofInt 1))), (5, .int z70), (0, .ref 0), (1, .int a), (2, .int y36), (3, .int y37)]) (st' := []) rfl ?_
            refine En_lv1 (addI rfl (by decide : (Int32.ofInt 1).toInt = 1) (by omega) (by omega)) (fun z75 h76 => ?_)
            refine En_Ps 1 (pc' := 28) (lv' := [(4, .int z75), (5, .int z70), (0, .ref 0), (1, .int a), (2, .int y36), (3, .int y37)]) (st' := []) rfl ?_
            refine En_lv (lv := [(0, .ref 0), (1, .int a), (2, .int y36), (3, .int y37), (4, .int z75)]) ⟨rfl, rfl, rfl, rfl, rfl, trivial⟩ ?_
            exact ih28 σ66 y36 y37 z75 h67 h72 ((h68 _ _ (inW tgz_0 (by decide +kernel))).trans h42) ((h68 _ _ (inW hp (by decide +kernel))).trans h43) ((h68 _ _ (inW hp (by decide +kernel))).trans h44) (by omega) (by omega) (by omega) (by omega) (by omega) (by omega) (by omega) (by omega) (h71.1) (h73)
          · refine En_Ps 5 (pc' := 64) (lv' := [(4, .int ((y38 + Int32.ofInt 1))), (2, .int y38), (3, .int z70), (5, .int z70), (0, .ref 0), (1, .int a)]) (st' := []) rfl ?_
            refine En_lv1 (addI rfl (by decide : (Int32.ofInt 1).toInt = 1) (by omega) (by omega)) (fun z77 h78 => ?_)
            refine En_Ps 1 (pc' := 28) (lv' := [(4, .int z77), (2, .int y38), (3, .int z70), (5, .int z70), (0, .ref 0), (1, .int a)]) (st' := []) rfl ?_
            refine En_lv (lv := [(0, .ref 0), (1, .int a), (2, .int y38), (3, .int z70), (4, .int z77)]) ⟨rfl, rfl, rfl, rfl, rfl, trivial⟩ ?_
            exact ih28 σ66 y38 z70 z77 h67 h72 ((h68 _ _ (inW tgz_0 (by decide +kernel))).trans h42) ((h68 _ _ (inW hp (by decide +kernel))).trans h43) ((h68 _ _ (inW hp (by decide +kernel))).trans h44) (by omega) (by omega) (by omega) (by omega) (by omega) (by omega) (by omega) (by omega) (h71.1) (h73)
    have := (by decide : (Int32.ofInt (-1)).toInt = -1)
    have := (by decide : (Int32.ofInt 0).toInt = 0)
    refine En_lv (lv := [(0, .ref 0), (1, .int a), (2, .int ((Int32.ofInt (-1)))), (3, .int z35), (4, .int ((Int32.ofInt 0)))]) ⟨rfl, rfl, rfl, rfl, rfl, trivial⟩ ?_
    exact key28 (Int.toNat (16) + 1) σ0 ((Int32.ofInt (-1))) z35 ((Int32.ofInt 0)) hσ0 hF0 h_p h_sg h2 (by omega) (by omega) (by omega) (by omega) (by omega) (by omega) (by omega) (by omega) (hK) (OUT_0)
  · have h79 := Imp_m h12.2.2.2.2.1 (by omega)
    refine En_Ps 1 (pc' := 13) (lv' := [(0, .ref 0), (1, .int a)]) (st' := [.int (((Int8.ofInt (-2)).toInt32))]) rfl ?_
    refine En_top (by decide : ((Int8.ofInt (-2)).toInt32).toInt = -2) (fun z80 h81 => ?_)
    exact En_ret (v := some (.int z80)) rfl rfl rfl ⟨hσ0, hF0, z80, rfl, ⟨by omega, by omega, fun _ => by omega, fun _ => by omega, fun _ => by omega, ⟨hK, OUT_0⟩⟩⟩
/-- DoorSchool.help(I)I -/
abbrev P_136x (σ0 : SG) (Wv : Int → Int) (a : Int32) (p : Nat) (sg : Int32) : PO := fun v σ => WT σ ∧ Fr [(20, 2), (21, 0), (22, 0)] σ0 σ ∧ ∃ ret : Int32, v = some (.int ret) ∧ -ret.toInt - 2 ≤ 0 ∧ ret.toInt - 49 ≤ 0 ∧ (KN σ p Wv (act Wv) ∧ OUT σ0 σ p)
set_option maxRecDepth 10000 in
set_option maxHeartbeats 4000000 in
theorem c_136x {Wv : Int → Int} (σ0 : SG) (hσ0 : WT σ0) (a : Int32) (p : Nat) (hp : TG p = 18) (h_p : (σ0 0)[9]? = some (.ref p)) (sg : Int32) (h_sg : (σ0 p)[1]? = some (.int sg)) (hp0 : -sg.toInt ≤ 0) (hP : PLA p) (hX : FXP σ0 p) (hK : KN σ0 p Wv (act Wv)) (hB : WFw Wv) : En 5 118 none mr_136 (P_136x σ0 Wv a p sg) 0 [(0, .ref 0), (1, .int a)] [] σ0 := by
  obtain ⟨hl_sg, hu_sg⟩ := WT_int hσ0 (g := 18) hp (by decide +kernel) (l := (-1)) (u := 4) (by decide +kernel) h_sg
  have hF0 : Fr [(20, 2), (21, 0), (22, 0)] σ0 σ0 := Fr_rfl
  have t1 : Wv (0) = sg.toInt := KN_v hK (Or.inl (by decide)) (by omega) (by omega) (by rw [lcO_lt (by decide) (by decide), Nat.add_zero]) rfl h_sg
  obtain ⟨z3, h2, h4, h5⟩ := WT_peekI hσ0 hp (by decide +kernel : FT 18 3 = (0, 0, 4)) (by decide +kernel)
  have t6 : Wv (2) = z3.toInt := KN_v hK (Or.inl (by decide)) (by omega) (by omega) (by rw [lcO_lt (by decide) (by decide), Nat.add_zero]) rfl h2
  refine En_Ps 1 (pc' := 1) (lv' := [(0, .ref 0), (1, .int a)]) (st' := [.ref 0]) rfl ?_
  refine En_getK (j := 9) h_p rfl rfl rfl tgz_0 (by decide +kernel) ?_
  refine En_Ps 1 (pc' := 5) (lv' := [(0, .ref 0), (1, .int a)]) (st' := [.int a, .ref p]) rfl ?_
  refine En_callV rfl rfl rfl rfl rfl rfl rfl rfl hp (by decide +kernel) rfl (c_47x σ0 hσ0 p hp a z3 h2) (by decide) (by decide) (fun v8 σ9 h7 => ?_)
  obtain ⟨h10, h11, z13, rfl, h12⟩ := h7
  obtain rfl : σ0 = σ9 := Fr_nil h11
  have h14 := Imp_m h12.2.2.1
  have h15 := Imp_m h12.2.2.2.1
  have h16 := Imp_m h12.2.2.2.2.1
  have h17 := Imp_m h12.2.2.2.2.2
  refine En_iNe _ rfl rfl (fun h18 => ?_) (fun h18 => ?_)
  · have h19 := Imp_m h12.2.2.1 (by omega)
    have h20 := Imp_m h12.2.2.2.1 (by omega)
    have h21 := Imp_m h12.2.2.2.2.2 (by omega)
    refine En_Ps 6 (pc' := 21) (lv' := [(4, .int ((Int32.ofInt 0))), (3, .int ((Int32.ofInt 0))), (2, .int ((Int32.ofInt (-1)))), (0, .ref 0), (1, .int a)]) (st' := []) rfl ?_
    have key21 : ∀ (n21 : Nat) (σ25 : SG) (y22 : Int32) (y23 : Int32) (y24 : Int32), WT σ25 → Fr [(20, 2), (21, 0), (22, 0)] σ0 σ25 → (σ25 0)[9]? = some (.ref p) → (σ25 p)[1]? = some (.int sg) → (σ25 p)[3]? = some (.int z3) → (-1) ≤ y22.toInt → y22.toInt ≤ 50 → 0 ≤ y23.toInt → y23.toInt ≤ 63 → 0 ≤ y24.toInt → y24.toInt ≤ 50 → y22.toInt - y24.toInt + 1 ≤ 0 → -y24.toInt + 50 < (n21 : Int) → KN σ25 p Wv (act Wv) → OUT σ0 σ25 p → En 5 118 none mr_136 (P_136x σ0 Wv a p sg) 21 [(0, .ref 0), (1, .int a), (2, .int y22), (3, .int y23), (4, .int y24)] [] σ25 := by
      intro n21
      induction n21 with
      | zero =>
        intro σ25 y22 y23 y24 h26 h27 h28 h29 h30 h31 h32 h33 h34 h35 h36 h37 h38 h39 h40
        exfalso; omega
      | succ n21 ih21 =>
        intro σ25 y22 y23 y24 h26 h27 h28 h29 h30 h31 h32 h33 h34 h35 h36 h37 h38 h39 h40
        refine En_Ps 3 (pc' := 25) (lv' := [(0, .ref 0), (1, .int a), (2, .int y22), (3, .int y23), (4, .int y24)]) (st' := [.ref 0, .int ((Int32.ofInt 2)), .int y24]) rfl ?_
        refine En_getK (j := 9) h28 rfl rfl rfl tgz_0 (by decide +kernel) ?_
        refine En_callV rfl rfl rfl rfl rfl rfl rfl rfl hp (by decide +kernel) rfl (c_51x σ25 h26 p hp sg h29 (by omega)) (by decide) (by decide) (fun v42 σ43 h41 => ?_)
        obtain ⟨h44, h45, z47, rfl, h46⟩ := h41
        have h48 := h46.2.2
        obtain rfl : σ25 = σ43 := Fr_nil h45
        refine En_Ps 1 (pc' := 32) (lv' := [(0, .ref 0), (1, .int a), (2, .int y22), (3, .int y23), (4, .int y24)]) (st' := [.int ((((Int32.ofInt 2)) * z47)), .int y24]) rfl ?_
        refine En_top (mulI (by decide : (Int32.ofInt 2).toInt = 2) rfl (Z := 2 * z47.toInt) (by omega) (by omega) (by omega)) (fun z49 h50 => ?_)
        refine En_icGe _ rfl rfl rfl (fun h51 => ?_) (fun h51 => ?_)
        · refine En_Ps 1 (pc' := 69) (lv' := [(0, .ref 0), (1, .int a), (2, .int y22), (3, .int y23), (4, .int y24)]) (st' := [.int y22]) rfl ?_
          exact En_ret (v := some (.int y22)) rfl rfl rfl ⟨h26, h27, y22, rfl, ⟨by omega, by omega, ⟨h39, h40⟩⟩⟩
        · refine En_Ps 4 (pc' := 40) (lv' := [(0, .ref 0), (1, .int a), (2, .int y22), (3, .int y23), (4, .int y24)]) (st' := [.int ((Int32.ofInt 2)), .int y24, .int a, .ref 0]) rfl ?_
          refine En_idiv (c := 2) rfl rfl (by decide : (Int32.ofInt 2).toInt = 2) (by omega) (by decide) (fun z52 h53 => ?_)
          refine En_Ps 2 (pc' := 44) (lv' := [(0, .ref 0), (1, .int a), (2, .int y22), (3, .int y23), (4, .int y24)]) (st' := [.int ((Int32.ofInt 2)), .int y24, .int z52, .int a, .ref 0]) rfl ?_
          refine En_irem (c := 2) rfl rfl (by decide : (Int32.ofInt 2).toInt = 2) (by omega) (by decide) (fun z54 h55 => ?_)
          refine En_callV rfl rfl rfl rfl rfl rfl rfl rfl tgz_0 (by decide +kernel) rfl (c_129x σ25 h26 a z52 z54 (geI rfl (by omega)) (leI rfl (by omega)) (geI rfl (by omega)) (leI rfl (by omega)) (geI rfl (by omega)) (leI rfl (by omega)) p hp h28 sg h29 (by omega) hP (FXP_fr hP hX h27 (by decide +kernel)) h39 hB (by omega)) (by decide) (by decide) (fun v57 σ58 h56 => ?_)
          obtain ⟨h59, h60, z62, rfl, h61⟩ := h56
          have h63 := h61.2.2
          have h64 := Fr_trans h27 h60 (by decide +kernel)
          have h65 := OUT_tr h40 h63.2
          refine En_Ps 3 (pc' := 53) (lv' := [(5, .int z62), (0, .ref 0), (1, .int a), (2, .int y22), (3, .int y23), (4, .int y24)]) (st' := [.int y23, .int z62]) rfl ?_
          refine En_icLe _ rfl rfl rfl (fun h66 => ?_) (fun h66 => ?_)
          · refine En_Ps 1 (pc' := 65) (lv' := [(4, .int ((y24 + Int32.ofInt 1))), (5, .int z62), (0, .ref 0), (1, .int a), (2, .int y22), (3, .int y23)]) (st' := []) rfl ?_
            refine En_lv1 (addI rfl (by decide : (Int32.ofInt 1).toInt = 1) (by omega) (by omega)) (fun z67 h68 => ?_)
            refine En_Ps 1 (pc' := 21) (lv' := [(4, .int z67), (5, .int z62), (0, .ref 0), (1, .int a), (2, .int y22), (3, .int y23)]) (st' := []) rfl ?_
            refine En_lv (lv := [(0, .ref 0), (1, .int a), (2, .int y22), (3, .int y23), (4, .int z67)]) ⟨rfl, rfl, rfl, rfl, rfl, trivial⟩ ?_
            exact ih21 σ58 y22 y23 z67 h59 h64 ((h60 _ _ (inW tgz_0 (by decide +kernel))).trans h28) ((h60 _ _ (inW hp (by decide +kernel))).trans h29) ((h60 _ _ (inW hp (by decide +kernel))).trans h30) (by omega) (by omega) (by omega) (by omega) (by omega) (by omega) (by omega) (by omega) (h63.1) (h65)
          · refine En_Ps 5 (pc' := 65) (lv' := [(4, .int ((y24 + Int32.ofInt 1))), (2, .int y24), (3, .int z62), (5, .int z62), (0, .ref 0), (1, .int a)]) (st' := []) rfl ?_
            refine En_lv1 (addI rfl (by decide : (Int32.ofInt 1).toInt = 1) (by omega) (by omega)) (fun z69 h70 => ?_)
            refine En_Ps 1 (pc' := 21) (lv' := [(4, .int z69), (2, .int y24), (3, .int z62), (5, .int z62), (0, .ref 0), (1, .int a)]) (st' := []) rfl ?_
            refine En_lv (lv := [(0, .ref 0), (1, .int a), (2, .int y24), (3, .int z62), (4, .int z69)]) ⟨rfl, rfl, rfl, rfl, rfl, trivial⟩ ?_
            exact ih21 σ58 y24 z62 z69 h59 h64 ((h60 _ _ (inW tgz_0 (by decide +kernel))).trans h28) ((h60 _ _ (inW hp (by decide +kernel))).trans h29) ((h60 _ _ (inW hp (by decide +kernel))).trans h30) (by omega) (by omega) (by omega) (by omega) (by omega) (by omega) (by omega) (by omega) (h63.1) (h65)
    have := (by decide : (Int32.ofInt (-1)).toInt = -1)
    have := (by decide : (Int32.ofInt 0).toInt = 0)
    have := (by decide : (Int32.ofInt 0).toInt = 0)
    refine En_lv (lv := [(0, .ref 0), (1, .int a), (2, .int ((Int32.ofInt (-1)))), (3, .int ((Int32.ofInt 0))), (4, .int ((Int32.ofInt 0)))]) ⟨rfl, rfl, rfl, rfl, rfl, trivial⟩ ?_
    exact key21 (Int.toNat (50) + 1) σ0 ((Int32.ofInt (-1))) ((Int32.ofInt 0)) ((Int32.ofInt 0)) hσ0 hF0 h_p h_sg h2 (by omega) (by omega) (by omega) (by omega) (by omega) (by omega) (by omega) (by omega) (hK) (OUT_0)
  · have h71 := Imp_m h12.2.2.2.2.1 (by omega)
    refine En_Ps 1 (pc' := 13) (lv' := [(0, .ref 0), (1, .int a)]) (st' := [.int (((Int8.ofInt (-2)).toInt32))]) rfl ?_
    refine En_top (by decide : ((Int8.ofInt (-2)).toInt32).toInt = -2) (fun z72 h73 => ?_)
    exact En_ret (v := some (.int z72)) rfl rfl rfl ⟨hσ0, hF0, z72, rfl, ⟨by omega, by omega, ⟨hK, OUT_0⟩⟩⟩
/-- DoorSchool.idle(I)I -/
abbrev P_141x (σ0 : SG) (Wv : Int → Int) (a : Int32) (p : Nat) (sg : Int32) : PO := fun v σ => WT σ ∧ Fr [(20, 2), (21, 0), (22, 0)] σ0 σ ∧ ∃ ret : Int32, v = some (.int ret) ∧ -ret.toInt - 2 ≤ 0 ∧ ret.toInt - 65535 ≤ 0 ∧ (KN σ p Wv (act Wv) ∧ OUT σ0 σ p)
set_option maxRecDepth 10000 in
set_option maxHeartbeats 4000000 in
theorem c_141x {Wv : Int → Int} (σ0 : SG) (hσ0 : WT σ0) (a : Int32) (p : Nat) (hp : TG p = 18) (h_p : (σ0 0)[9]? = some (.ref p)) (sg : Int32) (h_sg : (σ0 p)[1]? = some (.int sg)) (hp0 : -sg.toInt ≤ 0) (hP : PLA p) (hX : FXP σ0 p) (hK : KN σ0 p Wv (act Wv)) (hB : WFw Wv) : En 4 92 none mr_141 (P_141x σ0 Wv a p sg) 0 [(0, .ref 0), (1, .int a)] [] σ0 := by
  obtain ⟨hl_sg, hu_sg⟩ := WT_int hσ0 (g := 18) hp (by decide +kernel) (l := (-1)) (u := 4) (by decide +kernel) h_sg
  have hF0 : Fr [(20, 2), (21, 0), (22, 0)] σ0 σ0 := Fr_rfl
  have t1 : Wv (0) = sg.toInt := KN_v hK (Or.inl (by decide)) (by omega) (by omega) (by rw [lcO_lt (by decide) (by decide), Nat.add_zero]) rfl h_sg
  obtain ⟨z3, h2, h4, h5⟩ := WT_peekI hσ0 hp (by decide +kernel : FT 18 3 = (0, 0, 4)) (by decide +kernel)
  have t6 : Wv (2) = z3.toInt := KN_v hK (Or.inl (by decide)) (by omega) (by omega) (by rw [lcO_lt (by decide) (by decide), Nat.add_zero]) rfl h2
  refine En_Ps 1 (pc' := 1) (lv' := [(0, .ref 0), (1, .int a)]) (st' := [.ref 0]) rfl ?_
  refine En_getK (j := 9) h_p rfl rfl rfl tgz_0 (by decide +kernel) ?_
  refine En_Ps 1 (pc' := 5) (lv' := [(0, .ref 0), (1, .int a)]) (st' := [.int a, .ref p]) rfl ?_
  refine En_callV rfl rfl rfl rfl rfl rfl rfl rfl hp (by decide +kernel) rfl (c_47x σ0 hσ0 p hp a z3 h2) (by decide) (by decide) (fun v8 σ9 h7 => ?_)
  obtain ⟨h10, h11, z13, rfl, h12⟩ := h7
  obtain rfl : σ0 = σ9 := Fr_nil h11
  have h14 := Imp_m h12.2.2.1
  have h15 := Imp_m h12.2.2.2.1
  have h16 := Imp_m h12.2.2.2.2.1
  have h17 := Imp_m h12.2.2.2.2.2
  refine En_iNe _ rfl rfl (fun h18 => ?_) (fun h18 => ?_)
  · have h19 := Imp_m h12.2.2.1 (by omega)
    have h20 := Imp_m h12.2.2.2.1 (by omega)
    have h21 := Imp_m h12.2.2.2.2.2 (by omega)
    refine En_Ps 1 (pc' := 15) (lv' := [(0, .ref 0), (1, .int a)]) (st' := [.ref 0]) rfl ?_
    refine En_getK (j := 9) h_p rfl rfl rfl tgz_0 (by decide +kernel) ?_
    refine En_getR (j := 4) (g' := 19) (u := 0) rfl rfl rfl hp (by decide +kernel) hσ0 (by decide +kernel) (fun a23 h22 ha23 => ?_)
    have t24 : a23 = p + 1 := ref_uniq h22 (FXP_fr hP hX hF0 (by decide +kernel)).1
    refine En_Ps 1 (pc' := 22) (lv' := [(0, .ref 0), (1, .int a)]) (st' := [.int a, .ref a23]) rfl ?_
    refine En_aald (g' := 28) (u := 0) rfl rfl ha23 (by decide +kernel) hσ0 (by omega) (lnI (by decide +kernel : LN _ = 4) (by omega)) (FTsgl (by decide +kernel)) (fun a26 h25 ha26 => ?_)
    have t27 : a26 = p + 10 + 4 * (a.toInt).toNat := DRe (d := a.toInt) (FXP_fr hP hX hF0 (by decide +kernel)) t24 h25 (by omega) (by omega)
    have t28 := lc_d (d := a.toInt) (by omega) (by omega)
    refine En_getR (j := 0) (g' := 20) (u := 0) rfl rfl rfl ha26 (by decide +kernel) hσ0 (by decide +kernel) (fun a30 h29 ha30 => ?_)
    have t31 : a30 = p + 11 + 4 * (a.toInt).toNat := DLc (d := a.toInt) (FXP_fr hP hX hF0 (by decide +kernel)) t27 h29 (by omega) (by omega)
    obtain ⟨a33, h32, ha33⟩ := WT_peekR (g := 20) (j := 0) (g' := 21) (u := 0) hσ0 ha30 (by decide +kernel) (by decide +kernel)
    have t34 : a33 = p + 12 + 4 * (a.toInt).toNat := DKk (d := a.toInt) (FXP_fr hP hX hF0 (by decide +kernel)) t31 h32 (by omega) (by omega)
    obtain ⟨a36, h35, ha36⟩ := WT_peekR (g := 20) (j := 1) (g' := 22) (u := 0) hσ0 ha30 (by decide +kernel) (by decide +kernel)
    have t37 : a36 = p + 13 + 4 * (a.toInt).toNat := DKo (d := a.toInt) (FXP_fr hP hX hF0 (by decide +kernel)) t31 h35 (by omega) (by omega)
    obtain ⟨z39, h38, h40, h41⟩ := WT_peekI hσ0 ha30 (by decide +kernel : FT 20 2 = (0, 0, 13)) (by decide +kernel)
    have t42 : Wv (12 + 4 * (a.toInt)) = z39.toInt := KN_v hK (Or.inr (Or.inl ⟨by omega, by omega, by omega⟩)) (by omega) (by omega) (by omega) (by omega) h38
    have h43 := hB.2.2.2.2.2.2 a.toInt (by omega) (by omega)
    have : z39.toInt ≤ 12 := by omega
    refine En_Ps 3 (pc' := 29) (lv' := [(2, .ref a30), (0, .ref 0), (1, .int a)]) (st' := [.int a, .ref 0]) rfl ?_
    refine En_callV rfl rfl rfl rfl rfl rfl rfl rfl tgz_0 (by decide +kernel) rfl (c_114 σ0 hσ0 a (geI rfl (by omega)) (leI rfl (by omega)) p hp h_p sg h_sg (by omega)) (by decide) (by decide) (fun v45 σ46 h44 => ?_)
    obtain ⟨h47, h48, z50, rfl, h49⟩ := h44
    obtain rfl : σ0 = σ46 := Fr_nil h48
    refine En_Ps 2 (pc' := 34) (lv' := [(3, .int z50), (2, .ref a30), (0, .ref 0), (1, .int a)]) (st' := [.ref a30]) rfl ?_
    refine En_getK (j := 2) h38 rfl rfl rfl ha30 (by decide +kernel) ?_
    refine En_Ps 5 (pc' := 45) (lv' := [(6, .int ((Int32.ofInt 0))), (5, .int ((Int32.ofInt 0))), (4, .int z39), (3, .int z50), (2, .ref a30), (0, .ref 0), (1, .int a)]) (st' := []) rfl ?_
    have key45 : ∀ (n45 : Nat) (σ54 : SG) (y51 : Int32) (y52 : Int32) (y53 : Int32), WT σ54 → Fr [(20, 2), (21, 0), (22, 0)] σ0 σ54 → (σ54 0)[9]? = some (.ref p) → (σ54 p)[1]? = some (.int sg) → (σ54 p)[3]? = some (.int z3) → (σ54 p)[4]? = some (.ref a23) → (σ54 a23)[(a.toInt).toNat]? = some (.ref a26) → (σ54 a26)[0]? = some (.ref a30) → (σ54 a30)[0]? = some (.ref a33) → (σ54 a30)[1]? = some (.ref a36) → (σ54 a30)[2]? = some (.int y53) → 0 ≤ y51.toInt → y51.toInt ≤ 65535 → 0 ≤ y52.toInt → y52.toInt ≤ 12 → 0 ≤ y53.toInt → y53.toInt ≤ 12 → y53.toInt - z39.toInt ≤ 0 → z39.toInt - y53.toInt ≤ 0 → y52.toInt - y53.toInt ≤ 0 → z39.toInt - y52.toInt < (n45 : Int) → KN σ54 p Wv (act Wv) → OUT σ0 σ54 p → En 4 92 none mr_141 (P_141x σ0 Wv a p sg) 45 [(0, .ref 0), (1, .int a), (2, .ref a30), (3, .int z50), (4, .int z39), (5, .int y51), (6, .int y52)] [] σ54 := by
      intro n45
      induction n45 with
      | zero =>
        intro σ54 y51 y52 y53 h55 h56 h57 h58 h59 h60 h61 h62 h63 h64 h65 h66 h67 h68 h69 h70 h71 h72 h73 h74 h75 h76 h77
        exfalso; omega
      | succ n45 ih45 =>
        intro σ54 y51 y52 y53 h55 h56 h57 h58 h59 h60 h61 h62 h63 h64 h65 h66 h67 h68 h69 h70 h71 h72 h73 h74 h75 h76 h77
        refine En_Ps 2 (pc' := 49) (lv' := [(0, .ref 0), (1, .int a), (2, .ref a30), (3, .int z50), (4, .int z39), (5, .int y51), (6, .int y52)]) (st' := [.int z39, .int y52]) rfl ?_
        refine En_icGe _ rfl rfl rfl (fun h78 => ?_) (fun h78 => ?_)
        · refine En_Ps 1 (pc' := 112) (lv' := [(0, .ref 0), (1, .int a), (2, .ref a30), (3, .int z50), (4, .int z39), (5, .int y51), (6, .int y52)]) (st' := [.int y51]) rfl ?_
          exact En_ret (v := some (.int y51)) rfl rfl rfl ⟨h55, h56, y51, rfl, ⟨by omega, by omega, ⟨h76, h77⟩⟩⟩
        · refine En_Ps 1 (pc' := 53) (lv' := [(0, .ref 0), (1, .int a), (2, .ref a30), (3, .int z50), (4, .int z39), (5, .int y51), (6, .int y52)]) (st' := [.ref a30]) rfl ?_
          refine En_getK (j := 0) h63 rfl rfl rfl ha30 (by decide +kernel) ?_
          refine En_Ps 1 (pc' := 58) (lv' := [(0, .ref 0), (1, .int a), (2, .ref a30), (3, .int z50), (4, .int z39), (5, .int y51), (6, .int y52)]) (st' := [.int y52, .ref a33]) rfl ?_
          refine En_iald (l := 0) (u := 15) rfl rfl ha33 (by decide +kernel) h55 (by omega) (lnI (by decide +kernel : LN _ = 13) (by omega)) (FTsgl (by decide +kernel)) (fun z80 h79 h81 h82 => ?_)
          have t83 := lc_l (d := a.toInt) (m := y52.toInt) (by omega) (by omega) (by omega) (by omega)
          have t84 : Wv (26 + 24 * (a.toInt) + 2 * (y52.toInt)) = z80.toInt := KN_v h76 (act_lk (d := a.toInt) (m := y52.toInt) (by omega) (by omega) (by omega) (by omega) (by omega) (by omega)) (by omega) (by omega) (by omega) (by omega) h79
          refine En_Ps 2 (pc' := 62) (lv' := [(7, .int z80), (0, .ref 0), (1, .int a), (2, .ref a30), (3, .int z50), (4, .int z39), (5, .int y51), (6, .int y52)]) (st' := [.ref a30]) rfl ?_
          refine En_getK (j := 1) h64 rfl rfl rfl ha30 (by decide +kernel) ?_
          refine En_Ps 1 (pc' := 67) (lv' := [(7, .int z80), (0, .ref 0), (1, .int a), (2, .ref a30), (3, .int z50), (4, .int z39), (5, .int y51), (6, .int y52)]) (st' := [.int y52, .ref a36]) rfl ?_
          refine En_iald (l := 0) (u := 1) rfl rfl ha36 (by decide +kernel) h55 (by omega) (lnI (by decide +kernel : LN _ = 13) (by omega)) (FTsgl (by decide +kernel)) (fun z86 h85 h87 h88 => ?_)
          have t89 := lc_l (d := a.toInt) (m := y52.toInt) (by omega) (by omega) (by omega) (by omega)
          have t90 : Wv (26 + 24 * (a.toInt) + 2 * (y52.toInt) + 1) = z86.toInt := KN_v h76 (act_lo (d := a.toInt) (m := y52.toInt) (by omega) (by omega) (by omega) (by omega) (by omega) (by omega)) (by omega) (by omega) (by omega) (by omega) h85
          refine En_Ps 1 (pc' := 70) (lv' := [(8, .int z86), (7, .int z80), (0, .ref 0), (1, .int a), (2, .ref a30), (3, .int z50), (4, .int z39), (5, .int y51), (6, .int y52)]) (st' := []) rfl ?_
          have h91 : ci σ54 a30 2 = y53.toInt := ci_at (j := 2) h65 rfl
          have h92 : z80.toInt = ci σ54 a33 (y52.toInt) := (ci_at h79 rfl).symm
          have h93 : z86.toInt = ci σ54 a36 (y52.toInt) := (ci_at h85 rfl).symm
          refine En_Ps 2 (pc' := 73) (lv' := [(8, .int z86), (7, .int z80), (0, .ref 0), (1, .int a), (2, .ref a30), (3, .int z50), (4, .int z39), (5, .int y51), (6, .int y52)]) (st' := [.int y52, .ref a30]) rfl ?_
          refine En_callV rfl rfl rfl rfl rfl rfl rfl rfl ha30 (by decide +kernel) rfl (c_41bx σ54 h55 a30 ha30 y52 (geI rfl (by omega)) (leI rfl (by omega)) a33 ha33 h63 a36 ha36 h64 y53 h65 (by omega)) (by decide) (by decide) (fun v95 σ96 h94 => ?_)
          obtain ⟨h97, h98, z100, h101, rfl, h99⟩ := h94
          have h102 := h99.2.2.2.2.2.2
          have h103 := Fr_trans h56 h98 (by decide +kernel)
          refine En_Ps 2 (pc' := 78) (lv' := [(8, .int z86), (7, .int z80), (0, .ref 0), (1, .int a), (2, .ref a30), (3, .int z50), (4, .int z39), (5, .int y51), (6, .int y52)]) (st' := [.int a, .ref 0]) rfl ?_
          refine En_callV rfl rfl rfl rfl rfl rfl rfl rfl tgz_0 (by decide +kernel) rfl (c_114 σ96 h97 a (geI rfl (by omega)) (leI rfl (by omega)) p hp ((h98 _ _ (inW tgz_0 (by decide +kernel))).trans h57) sg ((h98 _ _ (inW hp (by decide +kernel))).trans h58) (by omega)) (by decide) (by decide) (fun v105 σ106 h104 => ?_)
          obtain ⟨h107, h108, z110, rfl, h109⟩ := h104
          obtain rfl : σ96 = σ106 := Fr_nil h108
          refine En_Ps 1 (pc' := 82) (lv' := [(8, .int z86), (7, .int z80), (0, .ref 0), (1, .int a), (2, .ref a30), (3, .int z50), (4, .int z39), (5, .int y51), (6, .int y52)]) (st' := [.int z50, .int z110]) rfl ?_
          refine En_icNe _ rfl rfl rfl (fun h111 => ?_) (fun h111 => ?_)
          · refine En_Ps 4 (pc' := 101) (lv' := [(8, .int z86), (7, .int z80), (0, .ref 0), (1, .int a), (2, .ref a30), (3, .int z50), (4, .int z39), (5, .int y51), (6, .int y52)]) (st' := [.int z86, .int z80, .int y52, .ref a30]) rfl ?_
            refine En_callV rfl rfl rfl rfl rfl rfl rfl rfl ha30 (by decide +kernel) rfl (c_38bx σ96 h97 a30 ha30 y52 z80 z86 (geI rfl (by omega)) (leI rfl (by omega)) (geI rfl (by omega)) (leI rfl (by omega)) (geI rfl (by omega)) (leI rfl (by omega)) a33 ha33 ((h98 _ _ (inW ha30 (by decide +kernel))).trans h63) a36 ha36 ((h98 _ _ (inW ha30 (by decide +kernel))).trans h64) z100 h101 (by omega) (by omega)) (by decide) (by decide) (fun v113 σ114 h112 => ?_)
            obtain ⟨h115, h116, z118, h119, rfl, h117⟩ := h112
            have h120 := h117.2.2.2.2
            have h121 := Fr_trans h103 h116 (by decide +kernel)
            have h122 := KN_tp h76 h102 h120 (by omega) h91 h92 h93 (by omega) (by omega) (by omega) (by omega) (by omega)
            have h123 := OUT_tr h77 h122.2
            refine En_Ps 1 (pc' := 107) (lv' := [(6, .int ((y52 + Int32.ofInt 1))), (8, .int z86), (7, .int z80), (0, .ref 0), (1, .int a), (2, .ref a30), (3, .int z50), (4, .int z39), (5, .int y51)]) (st' := []) rfl ?_
            refine En_lv1 (addI rfl (by decide : (Int32.ofInt 1).toInt = 1) (by omega) (by omega)) (fun z124 h125 => ?_)
            refine En_Ps 1 (pc' := 45) (lv' := [(6, .int z124), (8, .int z86), (7, .int z80), (0, .ref 0), (1, .int a), (2, .ref a30), (3, .int z50), (4, .int z39), (5, .int y51)]) (st' := []) rfl ?_
            refine En_lv (lv := [(0, .ref 0), (1, .int a), (2, .ref a30), (3, .int z50), (4, .int z39), (5, .int y51), (6, .int z124)]) ⟨rfl, rfl, rfl, rfl, rfl, rfl, rfl, trivial⟩ ?_
            exact ih45 σ114 y51 z124 z118 h115 h121 ((h116 _ _ (inW tgz_0 (by decide +kernel))).trans ((h98 _ _ (inW tgz_0 (by decide +kernel))).trans h57)) ((h116 _ _ (inW hp (by decide +kernel))).trans ((h98 _ _ (inW hp (by decide +kernel))).trans h58)) ((h116 _ _ (inW hp (by decide +kernel))).trans ((h98 _ _ (inW hp (by decide +kernel))).trans h59)) ((h116 _ _ (inW hp (by decide +kernel))).trans ((h98 _ _ (inW hp (by decide +kernel))).trans h60)) ((h116 _ _ (inWa ha23 (by decide +kernel))).trans ((h98 _ _ (inWa ha23 (by decide +kernel))).trans h61)) ((h116 _ _ (inW ha26 (by decide +kernel))).trans ((h98 _ _ (inW ha26 (by decide +kernel))).trans h62)) ((h116 _ _ (inW ha30 (by decide +kernel))).trans ((h98 _ _ (inW ha30 (by decide +kernel))).trans h63)) ((h116 _ _ (inW ha30 (by decide +kernel))).trans ((h98 _ _ (inW ha30 (by decide +kernel))).trans h64)) h119 (by omega) (by omega) (by omega) (by omega) (by omega) (by omega) (by omega) (by omega) (by omega) (by omega) (h122.1) (h123)
          · refine En_Ps 4 (pc' := 91) (lv' := [(8, .int z86), (7, .int z80), (0, .ref 0), (1, .int a), (2, .ref a30), (3, .int z50), (4, .int z39), (5, .int y51), (6, .int y52)]) (st' := [.int ((((Int32.ofInt 1)) <<< (y52 &&& 31))), .int y51]) rfl ?_
            refine En_rng (shl1_p 11 rfl (by omega) (by omega) (by decide)) (fun z126 h127 h128 => ?_)
            refine En_Ps 1 (pc' := 92) (lv' := [(8, .int z86), (7, .int z80), (0, .ref 0), (1, .int a), (2, .ref a30), (3, .int z50), (4, .int z39), (5, .int y51), (6, .int y52)]) (st' := [.int ((y51 ||| z126))]) rfl ?_
            refine En_rng (l := 0) (u := 65535) (or_rng 16 rfl rfl (by omega) (by omega) (by omega) (by omega) (by decide)) (fun z129 h130 h131 => ?_)
            refine En_Ps 5 (pc' := 101) (lv' := [(5, .int z129), (8, .int z86), (7, .int z80), (0, .ref 0), (1, .int a), (2, .ref a30), (3, .int z50), (4, .int z39), (6, .int y52)]) (st' := [.int z86, .int z80, .int y52, .ref a30]) rfl ?_
            refine En_callV rfl rfl rfl rfl rfl rfl rfl rfl ha30 (by decide +kernel) rfl (c_38bx σ96 h97 a30 ha30 y52 z80 z86 (geI rfl (by omega)) (leI rfl (by omega)) (geI rfl (by omega)) (leI rfl (by omega)) (geI rfl (by omega)) (leI rfl (by omega)) a33 ha33 ((h98 _ _ (inW ha30 (by decide +kernel))).trans h63) a36 ha36 ((h98 _ _ (inW ha30 (by decide +kernel))).trans h64) z100 h101 (by omega) (by omega)) (by decide) (by decide) (fun v133 σ134 h132 => ?_)
            obtain ⟨h135, h136, z138, h139, rfl, h137⟩ := h132
            have h140 := h137.2.2.2.2
            have h141 := Fr_trans h103 h136 (by decide +kernel)
            have h142 := KN_tp h76 h102 h140 (by omega) h91 h92 h93 (by omega) (by omega) (by omega) (by omega) (by omega)
            have h143 := OUT_tr h77 h142.2
            refine En_Ps 1 (pc' := 107) (lv' := [(6, .int ((y52 + Int32.ofInt 1))), (5, .int z129), (8, .int z86), (7, .int z80), (0, .ref 0), (1, .int a), (2, .ref a30), (3, .int z50), (4, .int z39)]) (st' := []) rfl ?_
            refine En_lv1 (addI rfl (by decide : (Int32.ofInt 1).toInt = 1) (by omega) (by omega)) (fun z144 h145 => ?_)
            refine En_Ps 1 (pc' := 45) (lv' := [(6, .int z144), (5, .int z129), (8, .int z86), (7, .int z80), (0, .ref 0), (1, .int a), (2, .ref a30), (3, .int z50), (4, .int z39)]) (st' := []) rfl ?_
            refine En_lv (lv := [(0, .ref 0), (1, .int a), (2, .ref a30), (3, .int z50), (4, .int z39), (5, .int z129), (6, .int z144)]) ⟨rfl, rfl, rfl, rfl, rfl, rfl, rfl, trivial⟩ ?_
            exact ih45 σ134 z129 z144 z138 h135 h141 ((h136 _ _ (inW tgz_0 (by decide +kernel))).trans ((h98 _ _ (inW tgz_0 (by decide +kernel))).trans h57)) ((h136 _ _ (inW hp (by decide +kernel))).trans ((h98 _ _ (inW hp (by decide +kernel))).trans h58)) ((h136 _ _ (inW hp (by decide +kernel))).trans ((h98 _ _ (inW hp (by decide +kernel))).trans h59)) ((h136 _ _ (inW hp (by decide +kernel))).trans ((h98 _ _ (inW hp (by decide +kernel))).trans h60)) ((h136 _ _ (inWa ha23 (by decide +kernel))).trans ((h98 _ _ (inWa ha23 (by decide +kernel))).trans h61)) ((h136 _ _ (inW ha26 (by decide +kernel))).trans ((h98 _ _ (inW ha26 (by decide +kernel))).trans h62)) ((h136 _ _ (inW ha30 (by decide +kernel))).trans ((h98 _ _ (inW ha30 (by decide +kernel))).trans h63)) ((h136 _ _ (inW ha30 (by decide +kernel))).trans ((h98 _ _ (inW ha30 (by decide +kernel))).trans h64)) h139 (by omega) (by omega) (by omega) (by omega) (by omega) (by omega) (by omega) (by omega) (by omega) (by omega) (h142.1) (h143)
    have := (by decide : (Int32.ofInt 0).toInt = 0)
    have := (by decide : (Int32.ofInt 0).toInt = 0)
    refine En_lv (lv := [(0, .ref 0), (1, .int a), (2, .ref a30), (3, .int z50), (4, .int z39), (5, .int ((Int32.ofInt 0))), (6, .int ((Int32.ofInt 0)))]) ⟨rfl, rfl, rfl, rfl, rfl, rfl, rfl, trivial⟩ ?_
    exact key45 (Int.toNat (z39.toInt) + 1) σ0 ((Int32.ofInt 0)) ((Int32.ofInt 0)) z39 hσ0 hF0 h_p h_sg h2 h22 h25 h29 h32 h35 h38 (by omega) (by omega) (by omega) (by omega) (by omega) (by omega) (by omega) (by omega) (by omega) (by omega) (hK) (OUT_0)
  · have h146 := Imp_m h12.2.2.2.2.1 (by omega)
    refine En_Ps 1 (pc' := 13) (lv' := [(0, .ref 0), (1, .int a)]) (st' := [.int (((Int8.ofInt (-2)).toInt32))]) rfl ?_
    refine En_top (by decide : ((Int8.ofInt (-2)).toInt32).toInt = -2) (fun z147 h148 => ?_)
    exact En_ret (v := some (.int z147)) rfl rfl rfl ⟨hσ0, hF0, z147, rfl, ⟨by omega, by omega, ⟨hK, OUT_0⟩⟩⟩
/-- DoorSchool.image(I)I -/
abbrev P_142x (σ0 : SG) (a : Int32) (p : Nat) (sg : Int32) : PO := fun v σ => WT σ ∧ Fr [(20, 2), (21, 0), (22, 0), (23, 0), (24, 0), (25, 0), (26, 0), (27, 0), (28, 1), (28, 2), (28, 3), (30, 0), (31, 0), (31, 1), (31, 2), (31, 3), (31, 6), (31, 7), (31, 8), (31, 11), (31, 14)] σ0 σ ∧ ∃ ret : Int32, v = some (.int ret) ∧ -ret.toInt - 2 ≤ 0 ∧ ret.toInt ≤ 0 ∧ Imp (-a.toInt ≤ 0 ∧ a.toInt - 2 ≤ 0) (ret.toInt ≤ 0 ∧ -ret.toInt ≤ 0) ∧ Imp (a.toInt + 1 ≤ 0) (ret.toInt + 2 ≤ 0 ∧ -ret.toInt - 2 ≤ 0) ∧ Imp (-a.toInt + 3 ≤ 0) (ret.toInt + 2 ≤ 0 ∧ -ret.toInt - 2 ≤ 0) ∧ IMC σ0 σ p a.toInt
set_option maxRecDepth 10000 in
set_option maxHeartbeats 4000000 in
theorem c_142x (σ0 : SG) (hσ0 : WT σ0) (a : Int32) (p : Nat) (hp : TG p = 18) (h_p : (σ0 0)[9]? = some (.ref p)) (sg : Int32) (h_sg : (σ0 p)[1]? = some (.int sg)) (hp0 : -sg.toInt ≤ 0) (hP : PLA p) (hX : FXP σ0 p) (hM : IMX σ0) : En 4 124 none mr_142 (P_142x σ0 a p sg) 0 [(0, .ref 0), (1, .int a)] [] σ0 := by
  obtain ⟨hl_sg, hu_sg⟩ := WT_int hσ0 (g := 18) hp (by decide +kernel) (l := (-1)) (u := 4) (by decide +kernel) h_sg
  have hF0 : Fr [(20, 2), (21, 0), (22, 0), (23, 0), (24, 0), (25, 0), (26, 0), (27, 0), (28, 1), (28, 2), (28, 3), (30, 0), (31, 0), (31, 1), (31, 2), (31, 3), (31, 6), (31, 7), (31, 8), (31, 11), (31, 14)] σ0 σ0 := Fr_rfl
  refine En_Ps 1 (pc' := 1) (lv' := [(0, .ref 0), (1, .int a)]) (st' := [.int a]) rfl ?_
  refine En_iLt _ rfl rfl (fun h1 => ?_) (fun h1 => ?_)
  · refine En_Ps 1 (pc' := 11) (lv' := [(0, .ref 0), (1, .int a)]) (st' := [.int (((Int8.ofInt (-2)).toInt32))]) rfl ?_
    refine En_top (by decide : ((Int8.ofInt (-2)).toInt32).toInt = -2) (fun z2 h3 => ?_)
    exact En_ret (v := some (.int z2)) rfl rfl rfl ⟨hσ0, hF0, z2, rfl, ⟨by omega, by omega, fun _ => by omega, fun _ => by omega, fun _ => by omega, IMC_no (by omega)⟩⟩
  · refine En_Ps 2 (pc' := 6) (lv' := [(0, .ref 0), (1, .int a)]) (st' := [.int ((Int32.ofInt 3)), .int a]) rfl ?_
    refine En_icLt _ rfl (by decide : (Int32.ofInt 3).toInt = 3) rfl (fun h4 => ?_) (fun h4 => ?_)
    · refine En_Ps 1 (pc' := 13) (lv' := [(0, .ref 0), (1, .int a)]) (st' := [.ref 0]) rfl ?_
      refine En_getU (j := 7) (u := 70) (g' := 29) (q := 0) rfl rfl rfl tgz_0 (by decide +kernel) hσ0 (by decide +kernel) (by decide +kernel) (fun h5 => ?_)
      refine En_Ps 1 (pc' := 17) (lv' := [(0, .ref 0), (1, .int a)]) (st' := [.int a, .ref 70]) rfl ?_
      refine En_aald (g' := 31) (u := 0) rfl rfl tgz_70 (by decide +kernel) hσ0 (by omega) (lnI (by decide +kernel : LN _ = 3) (by omega)) (FTsgl (by decide +kernel)) (fun a8 h7 ha8 => ?_)
      have h9 : a8 = 72 + 26 * (a.toInt).toNat := ref_uniq h7 (hM (a.toInt).toNat (by omega)).1
      refine En_Ps 1 (pc' := 19) (lv' := [(0, .ref 0), (1, .int a)]) (st' := [.ref 0, .ref a8]) rfl ?_
      refine En_getK (j := 9) h_p rfl rfl rfl tgz_0 (by decide +kernel) ?_
      refine En_callV rfl rfl rfl rfl rfl rfl rfl rfl ha8 (by decide +kernel) rfl (c_53ax σ0 hσ0 a8 ha8 p hp sg h_sg (by omega) (by rw [h9]; exact (SEP_i (by omega) hP).1) (by rw [h9]; exact (hM (a.toInt).toNat (by omega)).2) hX) (by decide) (by decide) (fun v11 σ12 h10 => ?_)
      obtain ⟨h13, h14, rfl, h15⟩ := h10
      have h16 := h15
      have h17 := Fr_trans hF0 h14 (by decide +kernel)
      refine En_Ps 1 (pc' := 26) (lv' := [(0, .ref 0), (1, .int a)]) (st' := [.ref 0]) rfl ?_
      refine En_getU (j := 8) (u := 71) (g' := 30) (q := 0) rfl rfl rfl tgz_0 (by decide +kernel) h13 (by decide +kernel) (by decide +kernel) (fun h18 => ?_)
      refine En_Ps 2 (pc' := 31) (lv' := [(0, .ref 0), (1, .int a)]) (st' := [.int ((Int32.ofInt 1)), .int a, .ref 71]) rfl ?_
      refine En_bast (l := 0) (u := 1) rfl rfl tgz_71 (by decide +kernel) (narZ (by decide : (Int32.ofInt 1).toInt = 1) (by omega) (by omega)) (by omega) (lnI (by decide +kernel : LN _ = 3) (by omega)) (FTsgl (by decide +kernel)) (rngI (by decide : (Int32.ofInt 1).toInt = 1) (by omega) (by omega)) h13 h17 (by decide +kernel) (fun σ20 h21 h22 h23 h24 => ?_)
      refine En_Ps 1 (pc' := 33) (lv' := [(0, .ref 0), (1, .int a)]) (st' := [.int ((Int32.ofInt 0))]) rfl ?_
      refine En_top (by decide : (Int32.ofInt 0).toInt = 0) (fun z25 h26 => ?_)
      exact En_ret (v := some (.int z25)) rfl rfl rfl ⟨h21, h22, z25, rfl, ⟨by omega, by omega, fun _ => by omega, fun _ => by omega, fun _ => by omega, IMC_ok (by omega) (by omega) h16 h9 h23 h24 (by decide)⟩⟩
    · refine En_Ps 1 (pc' := 11) (lv' := [(0, .ref 0), (1, .int a)]) (st' := [.int (((Int8.ofInt (-2)).toInt32))]) rfl ?_
      refine En_top (by decide : ((Int8.ofInt (-2)).toInt32).toInt = -2) (fun z27 h28 => ?_)
      exact En_ret (v := some (.int z27)) rfl rfl rfl ⟨hσ0, hF0, z27, rfl, ⟨by omega, by omega, fun _ => by omega, fun _ => by omega, fun _ => by omega, IMC_no (by omega)⟩⟩
/-- DoorSchool.left(I)I -/
abbrev P_152x (σ0 : SG) (Wv : Int → Int) (a : Int32) (p : Nat) (sg : Int32) : PO := fun v σ => WT σ ∧ Fr [(20, 2), (21, 0), (22, 0)] σ0 σ ∧ ∃ ret : Int32, v = some (.int ret) ∧ -ret.toInt - 2 ≤ 0 ∧ ret.toInt - 63 ≤ 0 ∧ (KN σ p Wv (act Wv) ∧ OUT σ0 σ p)
set_option maxRecDepth 10000 in
set_option maxHeartbeats 4000000 in
theorem c_152x {Wv : Int → Int} (σ0 : SG) (hσ0 : WT σ0) (a : Int32) (p : Nat) (hp : TG p = 18) (h_p : (σ0 0)[9]? = some (.ref p)) (sg : Int32) (h_sg : (σ0 p)[1]? = some (.int sg)) (hp0 : -sg.toInt ≤ 0) (hP : PLA p) (hX : FXP σ0 p) (hK : KN σ0 p Wv (act Wv)) (hB : WFw Wv) : En 6 141 none mr_152 (P_152x σ0 Wv a p sg) 0 [(0, .ref 0), (1, .int a)] [] σ0 := by
  obtain ⟨hl_sg, hu_sg⟩ := WT_int hσ0 (g := 18) hp (by decide +kernel) (l := (-1)) (u := 4) (by decide +kernel) h_sg
  have hF0 : Fr [(20, 2), (21, 0), (22, 0)] σ0 σ0 := Fr_rfl
  have t1 : Wv (0) = sg.toInt := KN_v hK (Or.inl (by decide)) (by omega) (by omega) (by rw [lcO_lt (by decide) (by decide), Nat.add_zero]) rfl h_sg
  obtain ⟨z3, h2, h4, h5⟩ := WT_peekI hσ0 hp (by decide +kernel : FT 18 3 = (0, 0, 4)) (by decide +kernel)
  have t6 : Wv (2) = z3.toInt := KN_v hK (Or.inl (by decide)) (by omega) (by omega) (by rw [lcO_lt (by decide) (by decide), Nat.add_zero]) rfl h2
  refine En_Ps 2 (pc' := 2) (lv' := [(0, .ref 0), (1, .int a)]) (st' := [.int a, .ref 0]) rfl ?_
  refine En_callV rfl rfl rfl rfl rfl rfl rfl rfl tgz_0 (by decide +kernel) rfl (c_135x σ0 hσ0 a p hp h_p sg h_sg (by omega) hP (FXP_fr hP hX hF0 (by decide +kernel)) hK hB) (by decide) (by decide) (fun v8 σ9 h7 => ?_)
  obtain ⟨h10, h11, z13, rfl, h12⟩ := h7
  have h14 := h12.2.2.2.2.2
  have h15 := Fr_trans hF0 h11 (by decide +kernel)
  have h16 := h14.2
  refine En_Ps 3 (pc' := 9) (lv' := [(2, .int z13), (0, .ref 0), (1, .int a)]) (st' := [.int (((Int8.ofInt (-2)).toInt32)), .int z13]) rfl ?_
  refine En_icNe _ rfl (by decide : ((Int8.ofInt (-2)).toInt32).toInt = -2) rfl (fun h17 => ?_) (fun h17 => ?_)
  · have h18 := Imp_m h12.2.2.1 (by omega)
    have h19 := Imp_m h12.2.2.2.2.1 (by omega)
    refine En_Ps 2 (pc' := 17) (lv' := [(2, .int z13), (0, .ref 0), (1, .int a)]) (st' := [.int ((Int32.ofInt (-1))), .int z13]) rfl ?_
    refine En_icNe _ rfl (by decide : (Int32.ofInt (-1)).toInt = -1) rfl (fun h20 => ?_) (fun h20 => ?_)
    · have h21 := Imp_m h12.2.2.2.1 (by omega)
      refine En_Ps 3 (pc' := 34) (lv' := [(2, .int z13), (0, .ref 0), (1, .int a)]) (st' := [.int z13, .int a, .ref 0]) rfl ?_
      refine En_callV rfl rfl rfl rfl rfl rfl rfl rfl tgz_0 (by decide +kernel) rfl (c_127x σ9 h10 a z13 (geI rfl (by omega)) (leI rfl (by omega)) (geI rfl (by omega)) (leI rfl (by omega)) p hp ((h11 _ _ (inW tgz_0 (by decide +kernel))).trans h_p) sg ((h11 _ _ (inW hp (by decide +kernel))).trans h_sg) (by omega) hP (FXP_fr hP hX h15 (by decide +kernel)) h14.1 hB (by omega)) (by decide) (by decide) (fun v23 σ24 h22 => ?_)
      obtain ⟨h25, h26, z28, rfl, h27⟩ := h22
      have h29 := h27.2.2
      have h30 := Fr_trans h15 h26 (by decide +kernel)
      have h31 := OUT_tr h16 h29.2
      exact En_ret (v := some (.int z28)) rfl rfl rfl ⟨h25, h30, z28, rfl, ⟨by omega, by omega, ⟨h29.1, h31⟩⟩⟩
    · refine En_Ps 2 (pc' := 22) (lv' := [(2, .int z13), (0, .ref 0), (1, .int a)]) (st' := [.int a, .ref 0]) rfl ?_
      refine En_callV rfl rfl rfl rfl rfl rfl rfl rfl tgz_0 (by decide +kernel) rfl (c_126 σ9 h10 a (geI rfl (by omega)) (leI rfl (by omega)) p hp ((h11 _ _ (inW tgz_0 (by decide +kernel))).trans h_p) sg ((h11 _ _ (inW hp (by decide +kernel))).trans h_sg) (by omega)) (by decide) (by decide) (fun v33 σ34 h32 => ?_)
      obtain ⟨h35, h36, z38, rfl, h37⟩ := h32
      obtain rfl : σ9 = σ34 := Fr_nil h36
      refine En_callS rfl rfl rfl rfl rfl rfl rfl rfl rfl (c_7bx σ9 h10 z38) (by decide) (by decide) (fun v40 σ41 h39 => ?_)
      obtain ⟨h42, h43, z45, rfl, h44⟩ := h39
      obtain rfl : σ9 = σ41 := Fr_nil h43
      refine En_Ps 1 (pc' := 37) (lv' := [(2, .int z13), (0, .ref 0), (1, .int a)]) (st' := [.int z45]) rfl ?_
      exact En_ret (v := some (.int z45)) rfl rfl rfl ⟨h10, h15, z45, rfl, ⟨by omega, by omega, ⟨h14.1, h16⟩⟩⟩
  · refine En_Ps 1 (pc' := 14) (lv' := [(2, .int z13), (0, .ref 0), (1, .int a)]) (st' := [.int (((Int8.ofInt (-2)).toInt32))]) rfl ?_
    refine En_top (by decide : ((Int8.ofInt (-2)).toInt32).toInt = -2) (fun z46 h47 => ?_)
    exact En_ret (v := some (.int z46)) rfl rfl rfl ⟨h10, h15, z46, rfl, ⟨by omega, by omega, ⟨h14.1, h16⟩⟩⟩
/-- DoorSchool.owns(II)I -/
abbrev P_161x (σ0 : SG) (Wv : Int → Int) (a : Int32) (b : Int32) (p : Nat) (sg : Int32) : PO := fun v σ => WT σ ∧ Fr [(18, 6), (18, 7)] σ0 σ ∧ ∃ ret : Int32, v = some (.int ret) ∧ -ret.toInt - 2 ≤ 0 ∧ ret.toInt - 65535 ≤ 0 ∧ (KN σ p (owW Wv a.toInt b.toInt) (act (owW Wv a.toInt b.toInt)) ∧ OUT σ0 σ p)
set_option maxRecDepth 10000 in
set_option maxHeartbeats 4000000 in
theorem c_161x {Wv : Int → Int} (σ0 : SG) (hσ0 : WT σ0) (a : Int32) (b : Int32) (p : Nat) (hp : TG p = 18) (h_p : (σ0 0)[9]? = some (.ref p)) (sg : Int32) (h_sg : (σ0 p)[1]? = some (.int sg)) (hp0 : -sg.toInt ≤ 0) (hP : PLA p) (hX : FXP σ0 p) (hK : KN σ0 p Wv (act Wv)) : En 3 63 none mr_161 (P_161x σ0 Wv a b p sg) 0 [(0, .ref 0), (1, .int a), (2, .int b)] [] σ0 := by
  obtain ⟨hl_sg, hu_sg⟩ := WT_int hσ0 (g := 18) hp (by decide +kernel) (l := (-1)) (u := 4) (by decide +kernel) h_sg
  have hF0 : Fr [(18, 6), (18, 7)] σ0 σ0 := Fr_rfl
  have t1 : Wv (0) = sg.toInt := KN_v hK (Or.inl (by decide)) (by omega) (by omega) (by rw [lcO_lt (by decide) (by decide), Nat.add_zero]) rfl h_sg
  refine En_Ps 1 (pc' := 1) (lv' := [(0, .ref 0), (1, .int a), (2, .int b)]) (st' := [.ref 0]) rfl ?_
  refine En_getK (j := 9) h_p rfl rfl rfl tgz_0 (by decide +kernel) ?_
  refine En_Ps 2 (pc' := 6) (lv' := [(0, .ref 0), (1, .int a), (2, .int b)]) (st' := [.int b, .int a, .ref p]) rfl ?_
  obtain ⟨z3, h2, h4, h5⟩ := WT_peekI hσ0 hp (by decide +kernel : FT 18 0 = (0, 0, 1601)) (by decide +kernel)
  have t6 : Wv (7) = z3.toInt := KN_v hK (Or.inl (by decide)) (by omega) (by omega) (by rw [lcO_lt (by decide) (by decide), Nat.add_zero]) rfl h2
  refine En_callV rfl rfl rfl rfl rfl rfl rfl rfl hp (by decide +kernel) rfl (c_50x σ0 hσ0 p hp a b z3 h2 sg h_sg (by omega)) (by decide) (by decide) (fun v8 σ9 h7 => ?_)
  obtain ⟨h10, h11, z13, rfl, h12⟩ := h7
  have h14 := h12.2.2.2
  obtain rfl : σ0 = σ9 := Fr_nil h11
  have h15 := h14
  have h16 : pI (Wv 0) = pI (sg.toInt) := by rw [t1]
  refine En_iNe _ rfl rfl (fun h17 => ?_) (fun h17 => ?_)
  · have h18 := Imp_m h12.2.2.1 (by omega)
    refine En_Ps 1 (pc' := 16) (lv' := [(0, .ref 0), (1, .int a), (2, .int b)]) (st' := [.ref 0]) rfl ?_
    refine En_callV rfl rfl rfl rfl rfl rfl rfl rfl tgz_0 (by decide +kernel) rfl (c_160 σ0 hσ0 p hp h_p sg h_sg (by omega)) (by decide) (by decide) (fun v20 σ21 h19 => ?_)
    obtain ⟨h22, h23, z25, rfl, h24⟩ := h19
    obtain rfl : σ0 = σ21 := Fr_nil h23
    refine En_Ps 2 (pc' := 21) (lv' := [(3, .int z25), (0, .ref 0), (1, .int a), (2, .int b)]) (st' := [.ref 0]) rfl ?_
    refine En_getK (j := 9) h_p rfl rfl rfl tgz_0 (by decide +kernel) ?_
    refine En_Ps 1 (pc' := 25) (lv' := [(3, .int z25), (0, .ref 0), (1, .int a), (2, .int b)]) (st' := [.int a, .ref p]) rfl ?_
    refine En_put (j := 6) rfl rfl rfl hp (by decide +kernel) rfl (vI (l := 0) (u := 15) (by decide +kernel) rfl (by omega) (by omega)) hσ0 hF0 (by decide +kernel) (fun σ26 h27 h28 h29 h30 => ?_)
    refine En_Ps 1 (pc' := 29) (lv' := [(3, .int z25), (0, .ref 0), (1, .int a), (2, .int b)]) (st' := [.ref 0]) rfl ?_
    refine En_getK (j := 9) ((h30 _ _ (Or.inr (by decide))).trans h_p) rfl rfl rfl tgz_0 (by decide +kernel) ?_
    refine En_Ps 1 (pc' := 33) (lv' := [(3, .int z25), (0, .ref 0), (1, .int a), (2, .int b)]) (st' := [.int b, .ref p]) rfl ?_
    refine En_put (j := 7) rfl rfl rfl hp (by decide +kernel) rfl (vI (l := 0) (u := 15) (by decide +kernel) rfl (by omega) (by omega)) h27 h28 (by decide +kernel) (fun σ31 h32 h33 h34 h35 => ?_)
    refine En_Ps 1 (pc' := 37) (lv' := [(3, .int z25), (0, .ref 0), (1, .int a), (2, .int b)]) (st' := [.int z25]) rfl ?_
    exact En_ret (v := some (.int z25)) rfl rfl rfl ⟨h32, h33, z25, rfl, ⟨by omega, by omega, (by rw [owW_y (by omega)]; exact KN_two hK (PLA_B hP) h29 h30 h34 h35)⟩⟩
  · refine En_Ps 1 (pc' := 14) (lv' := [(0, .ref 0), (1, .int a), (2, .int b)]) (st' := [.int (((Int8.ofInt (-2)).toInt32))]) rfl ?_
    refine En_top (by decide : ((Int8.ofInt (-2)).toInt32).toInt = -2) (fun z36 h37 => ?_)
    exact En_ret (v := some (.int z36)) rfl rfl rfl ⟨hσ0, hF0, z36, rfl, ⟨by omega, by omega, (by rw [owW_n (by omega)]; exact ⟨hK, OUT_0⟩)⟩⟩
/-- DoorSchool.row(III)I -/
abbrev P_165x (σ0 : SG) (a : Int32) (b : Int32) (c : Int32) (p : Nat) (sg : Int32) : PO := fun v σ => WT σ ∧ Fr [(33, 1), (33, 2), (33, 3), (34, 0)] σ0 σ ∧ ∃ ret : Int32, v = some (.int ret) ∧ -ret.toInt - 3 ≤ 0 ∧ ret.toInt ≤ 0 ∧ Imp (-a.toInt ≤ 0 ∧ a.toInt - 3 ≤ 0 ∧ -b.toInt ≤ 0 ∧ b.toInt - 3 ≤ 0 ∧ c.toInt - 60 ≤ 0 ∧ -c.toInt ≤ 0) (ret.toInt ≤ 0 ∧ -ret.toInt ≤ 0) ∧ Imp (-a.toInt ≤ 0 ∧ a.toInt - 3 ≤ 0 ∧ -b.toInt ≤ 0 ∧ b.toInt - 3 ≤ 0 ∧ c.toInt - 60 ≤ 0 ∧ c.toInt + 1 ≤ 0) (ret.toInt + 3 ≤ 0 ∧ -ret.toInt - 3 ≤ 0) ∧ Imp (a.toInt + 1 ≤ 0) (ret.toInt + 2 ≤ 0 ∧ -ret.toInt - 2 ≤ 0) ∧ Imp (-a.toInt + 4 ≤ 0) (ret.toInt + 2 ≤ 0 ∧ -ret.toInt - 2 ≤ 0) ∧ Imp (b.toInt + 1 ≤ 0) (ret.toInt + 2 ≤ 0 ∧ -ret.toInt - 2 ≤ 0) ∧ Imp (-b.toInt + 4 ≤ 0) (ret.toInt + 2 ≤ 0 ∧ -ret.toInt - 2 ≤ 0) ∧ Imp (-c.toInt + 61 ≤ 0) (ret.toInt + 2 ≤ 0 ∧ -ret.toInt - 2 ≤ 0)
set_option maxRecDepth 10000 in
set_option maxHeartbeats 4000000 in
theorem c_165x (σ0 : SG) (hσ0 : WT σ0) (a : Int32) (b : Int32) (c : Int32) (p : Nat) (hp : TG p = 18) (h_p : (σ0 0)[9]? = some (.ref p)) (sg : Int32) (h_sg : (σ0 p)[1]? = some (.int sg)) (hp0 : -sg.toInt ≤ 0) : En 2 46 none mr_165 (P_165x σ0 a b c p sg) 0 [(0, .ref 0), (1, .int a), (2, .int b), (3, .int c)] [] σ0 := by
  obtain ⟨hl_sg, hu_sg⟩ := WT_int hσ0 (g := 18) hp (by decide +kernel) (l := (-1)) (u := 4) (by decide +kernel) h_sg
  have hF0 : Fr [(33, 1), (33, 2), (33, 3), (34, 0)] σ0 σ0 := Fr_rfl
  refine En_Ps 1 (pc' := 1) (lv' := [(0, .ref 0), (1, .int a), (2, .int b), (3, .int c)]) (st' := [.int a]) rfl ?_
  refine En_callS rfl rfl rfl rfl rfl rfl rfl rfl rfl (c_147 σ0 hσ0 a) (by decide) (by decide) (fun v2 σ3 h1 => ?_)
  obtain ⟨h4, h5, z7, rfl, h6⟩ := h1
  have h8 := Fr_trans hF0 h5 (by decide +kernel)
  refine En_iEq _ rfl rfl (fun h9 => ?_) (fun h9 => ?_)
  · refine En_Ps 1 (pc' := 24) (lv' := [(0, .ref 0), (1, .int a), (2, .int b), (3, .int c)]) (st' := [.int (((Int8.ofInt (-2)).toInt32))]) rfl ?_
    refine En_top (by decide : ((Int8.ofInt (-2)).toInt32).toInt = -2) (fun z10 h11 => ?_)
    exact En_ret (v := some (.int z10)) rfl rfl rfl ⟨h4, h8, z10, rfl, ⟨by omega, by omega, fun _ => by omega, fun _ => by omega, fun _ => by omega, fun _ => by omega, fun _ => by omega, fun _ => by omega, fun _ => by omega⟩⟩
  · refine En_Ps 1 (pc' := 8) (lv' := [(0, .ref 0), (1, .int a), (2, .int b), (3, .int c)]) (st' := [.int b]) rfl ?_
    refine En_iLt _ rfl rfl (fun h12 => ?_) (fun h12 => ?_)
    · refine En_Ps 1 (pc' := 24) (lv' := [(0, .ref 0), (1, .int a), (2, .int b), (3, .int c)]) (st' := [.int (((Int8.ofInt (-2)).toInt32))]) rfl ?_
      refine En_top (by decide : ((Int8.ofInt (-2)).toInt32).toInt = -2) (fun z13 h14 => ?_)
      exact En_ret (v := some (.int z13)) rfl rfl rfl ⟨h4, h8, z13, rfl, ⟨by omega, by omega, fun _ => by omega, fun _ => by omega, fun _ => by omega, fun _ => by omega, fun _ => by omega, fun _ => by omega, fun _ => by omega⟩⟩
    · refine En_Ps 2 (pc' := 13) (lv' := [(0, .ref 0), (1, .int a), (2, .int b), (3, .int c)]) (st' := [.int ((Int32.ofInt 4)), .int b]) rfl ?_
      refine En_icGe _ rfl (by decide : (Int32.ofInt 4).toInt = 4) rfl (fun h15 => ?_) (fun h15 => ?_)
      · refine En_Ps 1 (pc' := 24) (lv' := [(0, .ref 0), (1, .int a), (2, .int b), (3, .int c)]) (st' := [.int (((Int8.ofInt (-2)).toInt32))]) rfl ?_
        refine En_top (by decide : ((Int8.ofInt (-2)).toInt32).toInt = -2) (fun z16 h17 => ?_)
        exact En_ret (v := some (.int z16)) rfl rfl rfl ⟨h4, h8, z16, rfl, ⟨by omega, by omega, fun _ => by omega, fun _ => by omega, fun _ => by omega, fun _ => by omega, fun _ => by omega, fun _ => by omega, fun _ => by omega⟩⟩
      · refine En_Ps 2 (pc' := 19) (lv' := [(0, .ref 0), (1, .int a), (2, .int b), (3, .int c)]) (st' := [.int (((Int8.ofInt 60).toInt32)), .int c]) rfl ?_
        refine En_icLe _ rfl (by decide : ((Int8.ofInt 60).toInt32).toInt = 60) rfl (fun h18 => ?_) (fun h18 => ?_)
        · refine En_Ps 1 (pc' := 26) (lv' := [(0, .ref 0), (1, .int a), (2, .int b), (3, .int c)]) (st' := [.int c]) rfl ?_
          refine En_iGe _ rfl rfl (fun h19 => ?_) (fun h19 => ?_)
          · refine En_Ps 1 (pc' := 33) (lv' := [(0, .ref 0), (1, .int a), (2, .int b), (3, .int c)]) (st' := [.ref 0]) rfl ?_
            refine En_getU (j := 6) (u := 150) (g' := 32) (q := 0) rfl rfl rfl tgz_0 (by decide +kernel) h4 (by decide +kernel) (by decide +kernel) (fun h20 => ?_)
            refine En_Ps 1 (pc' := 37) (lv' := [(0, .ref 0), (1, .int a), (2, .int b), (3, .int c)]) (st' := [.int a, .ref 150]) rfl ?_
            refine En_aald (g' := 33) (u := 0) rfl rfl tgz_150 (by decide +kernel) h4 (by omega) (lnI (by decide +kernel : LN _ = 4) (by omega)) (FTsgl (by decide +kernel)) (fun a23 h22 ha23 => ?_)
            refine En_Ps 2 (pc' := 40) (lv' := [(0, .ref 0), (1, .int a), (2, .int b), (3, .int c)]) (st' := [.int c, .int b, .ref a23]) rfl ?_
            refine En_callV rfl rfl rfl rfl rfl rfl rfl rfl ha23 (by decide +kernel) rfl (c_84 σ3 h4 a23 ha23 b c (geI rfl (by omega)) (leI rfl (by omega)) (geI rfl (by omega)) (leI rfl (by omega))) (by decide) (by decide) (fun v25 σ26 h24 => ?_)
            obtain ⟨h27, h28, rfl, h29⟩ := h24
            have h30 := Fr_trans h8 h28 (by decide +kernel)
            refine En_Ps 1 (pc' := 44) (lv' := [(0, .ref 0), (1, .int a), (2, .int b), (3, .int c)]) (st' := [.int ((Int32.ofInt 0))]) rfl ?_
            refine En_top (by decide : (Int32.ofInt 0).toInt = 0) (fun z31 h32 => ?_)
            exact En_ret (v := some (.int z31)) rfl rfl rfl ⟨h27, h30, z31, rfl, ⟨by omega, by omega, fun _ => by omega, fun _ => by omega, fun _ => by omega, fun _ => by omega, fun _ => by omega, fun _ => by omega, fun _ => by omega⟩⟩
          · refine En_Ps 1 (pc' := 31) (lv' := [(0, .ref 0), (1, .int a), (2, .int b), (3, .int c)]) (st' := [.int (((Int8.ofInt (-3)).toInt32))]) rfl ?_
            refine En_top (by decide : ((Int8.ofInt (-3)).toInt32).toInt = -3) (fun z33 h34 => ?_)
            exact En_ret (v := some (.int z33)) rfl rfl rfl ⟨h4, h8, z33, rfl, ⟨by omega, by omega, fun _ => by omega, fun _ => by omega, fun _ => by omega, fun _ => by omega, fun _ => by omega, fun _ => by omega, fun _ => by omega⟩⟩
        · refine En_Ps 1 (pc' := 24) (lv' := [(0, .ref 0), (1, .int a), (2, .int b), (3, .int c)]) (st' := [.int (((Int8.ofInt (-2)).toInt32))]) rfl ?_
          refine En_top (by decide : ((Int8.ofInt (-2)).toInt32).toInt = -2) (fun z35 h36 => ?_)
          exact En_ret (v := some (.int z35)) rfl rfl rfl ⟨h4, h8, z35, rfl, ⟨by omega, by omega, fun _ => by omega, fun _ => by omega, fun _ => by omega, fun _ => by omega, fun _ => by omega, fun _ => by omega, fun _ => by omega⟩⟩
/-- DoorSchool.school()I -/
abbrev P_169x (σ0 : SG) (By : Int → Int) (Nb : Int) (p : Nat) (sg : Int32) (p2 : Nat) : PO := fun v σ => WT σ ∧ Fr [(0, 9), (0, 10), (1, 1), (3, 1), (3, 2), (3, 3), (3, 4), (3, 5), (3, 6), (4, 0), (4, 1), (5, 0), (6, 0), (7, 0), (18, 0), (18, 1), (18, 2), (18, 3), (18, 6), (18, 7), (18, 8), (18, 11), (18, 14), (20, 2), (21, 0), (22, 0), (23, 0), (24, 0), (25, 0), (26, 0), (28, 1), (28, 2), (28, 3)] σ0 σ ∧ ∃ m1 : Int32, (σ 1)[1]? = some (.int m1) ∧ ∃ ret : Int32, v = some (.int ret) ∧ OUT σ0 σ p2 ∧ -ret.toInt - 4 ≤ 0 ∧ ret.toInt - 1601 ≤ 0 ∧ -m1.toInt ≤ 0 ∧ m1.toInt ≤ 0 ∧ m1.toInt ≤ 0 ∧ -m1.toInt ≤ 0 ∧ ((INVc σ ∧ SCC By Nb σ ret.toInt) ∧ SPL By Nb σ p p2 ∧ RSC By Nb σ0 σ p2)
set_option maxRecDepth 10000 in
set_option maxHeartbeats 4000000 in
theorem c_169x {By : Int → Int} {Nb : Int} (σ0 : SG) (hσ0 : WT σ0) (p : Nat) (hp : TG p = 18) (h_p : (σ0 0)[9]? = some (.ref p)) (sg : Int32) (h_sg : (σ0 p)[1]? = some (.int sg)) (p2 : Nat) (hp2 : TG p2 = 18) (h_p2 : (σ0 0)[10]? = some (.ref p2)) (hp0 : -sg.toInt ≤ 0) (hne : p ≠ p2) (hB : TPc By Nb σ0) (hP2 : PLA p2) (hX2 : FXP σ0 p2) : En 8 181 none mr_169 (P_169x σ0 By Nb p sg p2) 0 [(0, .ref 0)] [] σ0 := by
  obtain ⟨hl_sg, hu_sg⟩ := WT_int hσ0 (g := 18) hp (by decide +kernel) (l := (-1)) (u := 4) (by decide +kernel) h_sg
  have hF0 : Fr [(0, 9), (0, 10), (1, 1), (3, 1), (3, 2), (3, 3), (3, 4), (3, 5), (3, 6), (4, 0), (4, 1), (5, 0), (6, 0), (7, 0), (18, 0), (18, 1), (18, 2), (18, 3), (18, 6), (18, 7), (18, 8), (18, 11), (18, 14), (20, 2), (21, 0), (22, 0), (23, 0), (24, 0), (25, 0), (26, 0), (28, 1), (28, 2), (28, 3)] σ0 σ0 := Fr_rfl
  refine En_Ps 1 (pc' := 1) (lv' := [(0, .ref 0)]) (st' := [.ref 0]) rfl ?_
  refine En_getU (j := 1) (u := 3) (g' := 3) (q := 0) rfl rfl rfl tgz_0 (by decide +kernel) hσ0 (by decide +kernel) (by decide +kernel) (fun h1 => ?_)
  refine En_Ps 1 (pc' := 5) (lv' := [(0, .ref 0)]) (st' := [.ref 0, .ref 3]) rfl ?_
  refine En_getK (j := 10) h_p2 rfl rfl rfl tgz_0 (by decide +kernel) ?_
  refine En_callV rfl rfl rfl rfl rfl rfl rfl rfl tgz_3 (by decide +kernel) rfl (c_60x σ0 hσ0 p2 hp2 hB hP2 hX2) (by decide) (by decide) (fun v4 σ5 h3 => ?_)
  obtain ⟨h6, h7, z9, h10, z11, h12, rfl, h8⟩ := h3
  have h13 := h8.2.2.2.2.2.2
  have h14 := Fr_trans hF0 h7 (by decide +kernel)
  have h15 := RSAM_tr (RSAM_0 (σ := σ0)) (RSAM_fr h7 (by decide +kernel))
  have o16 : OUT σ0 σ5 p2 := OUT_tr OUT_0 h8.1
  obtain ⟨z18, h17, h19, h20⟩ := WT_peekI h6 hp2 (by decide +kernel : FT 18 0 = (0, 0, 1601)) (by decide +kernel)
  obtain ⟨z22, h21, h23, h24⟩ := WT_peekI h6 tgz_3 (by decide +kernel : FT 3 6 = (0, (-1), 1600)) (by decide +kernel)
  have h25 := CT_k h13.2.1 h10
  have h26 : (fRead By Nb 1601 S00).1 = 0 → (fRead By Nb 1601 S00).2.2.2 7 = z18.toInt := fun zz => KN_v (h13.2.2 zz) (Or.inl (by decide)) (by decide) (by decide) (by rw [lcO_lt (by decide) (by decide), Nat.add_zero]) (by decide) h17
  have h27 : (fRead By Nb 1601 S00).2.1 = z22.toInt := h13.2.1.2.2.1.symm.trans (ci_at (j := 6) h21 rfl)
  have h28 : ((fRead By Nb 1601 S00).1 = 0 → KN σ5 p2 (fRead By Nb 1601 S00).2.2.2 (act (fRead By Nb 1601 S00).2.2.2)) := h13.2.2
  refine En_Ps 1 (pc' := 12) (lv' := [(0, .ref 0)]) (st' := [.ref 0]) rfl ?_
  refine En_getU (j := 0) (u := 1) (g' := 1) (q := 0) rfl rfl rfl tgz_0 (by decide +kernel) h6 (by decide +kernel) (by decide +kernel) (fun h29 => ?_)
  refine En_Ps 1 (pc' := 16) (lv' := [(0, .ref 0)]) (st' := [.int ((Int32.ofInt 0)), .ref 1]) rfl ?_
  refine En_put (j := 1) rfl rfl rfl tgz_1 (by decide +kernel) rfl (vI (l := 0) (u := 1600) (by decide +kernel) (by decide : (Int32.ofInt 0).toInt = 0) (by omega) (by omega)) h6 h14 (by decide +kernel) (fun σ31 h32 h33 h34 h35 => ?_)
  have h36 : ((fRead By Nb 1601 S00).1 = 0 → KN σ31 p2 (fRead By Nb 1601 S00).2.2.2 (act (fRead By Nb 1601 S00).2.2.2)) := fun zz => KN_ne (h28 zz) h35 (by have := hP2; unfold PLA at this; omega)
  have h37 := RSAM_ne h15 h35 (by decide)
  have o38 : OUT σ0 σ31 p2 := OUT_pn o16 h35 tgz_1 (by decide)
  refine En_Ps 1 (pc' := 20) (lv' := [(0, .ref 0)]) (st' := [.ref 0]) rfl ?_
  refine En_getK (j := 1) ((h35 _ _ (Or.inl (neTG tgz_0 tgz_1 (by decide)))).trans ((h7 _ _ (inW tgz_0 (by decide +kernel))).trans h1)) rfl rfl rfl tgz_0 (by decide +kernel) ?_
  refine En_getK (j := 5) ((h35 _ _ (Or.inr (by decide))).trans h10) rfl rfl rfl tgz_3 (by decide +kernel) ?_
  refine En_iEq _ rfl rfl (fun h39 => ?_) (fun h39 => ?_)
  · refine En_Ps 1 (pc' := 33) (lv' := [(0, .ref 0)]) (st' := [.ref 0]) rfl ?_
    refine En_getK (j := 9) ((h35 _ _ (Or.inr (by decide))).trans ((h7 _ _ (inW tgz_0 (by decide +kernel))).trans h_p)) rfl rfl rfl tgz_0 (by decide +kernel) ?_
    refine En_Ps 3 (pc' := 39) (lv' := [(1, .ref p), (0, .ref 0)]) (st' := [.ref 0, .ref 0]) rfl ?_
    refine En_getK (j := 10) ((h35 _ _ (Or.inr (by decide))).trans ((h7 _ _ (inW tgz_0 (by decide +kernel))).trans h_p2)) rfl rfl rfl tgz_0 (by decide +kernel) ?_
    refine En_put (j := 9) rfl rfl rfl tgz_0 (by decide +kernel) rfl (vR (g' := 18) (u := 0) (by decide +kernel) hp2) h32 h33 (by decide +kernel) (fun σ40 h41 h42 h43 h44 => ?_)
    have h45 : ((fRead By Nb 1601 S00).1 = 0 → KN σ40 p2 (fRead By Nb 1601 S00).2.2.2 (act (fRead By Nb 1601 S00).2.2.2)) := fun zz => KN_ne (h36 zz) h44 (by have := hP2; unfold PLA at this; omega)
    have h46 := RSAM_ne h37 h44 (by decide)
    have o47 : OUT σ0 σ40 p2 := OUT_pn o38 h44 tgz_0 (by decide)
    refine En_Ps 2 (pc' := 47) (lv' := [(1, .ref p), (0, .ref 0)]) (st' := [.ref p, .ref 0]) rfl ?_
    refine En_put (j := 10) rfl rfl rfl tgz_0 (by decide +kernel) rfl (vR (g' := 18) (u := 0) (by decide +kernel) hp) h41 h42 (by decide +kernel) (fun σ48 h49 h50 h51 h52 => ?_)
    have h53 : ((fRead By Nb 1601 S00).1 = 0 → KN σ48 p2 (fRead By Nb 1601 S00).2.2.2 (act (fRead By Nb 1601 S00).2.2.2)) := fun zz => KN_ne (h45 zz) h52 (by have := hP2; unfold PLA at this; omega)
    have h54 := RSAM_ne h46 h52 (by decide)
    have o55 : OUT σ0 σ48 p2 := OUT_pn o47 h52 tgz_0 (by decide)
    refine En_Ps 1 (pc' := 51) (lv' := [(1, .ref p), (0, .ref 0)]) (st' := [.ref 0]) rfl ?_
    refine En_getU (j := 2) (u := 4) (g' := 4) (q := 0) rfl rfl rfl tgz_0 (by decide +kernel) h49 (by decide +kernel) (by decide +kernel) (fun h56 => ?_)
    refine En_Ps 1 (pc' := 55) (lv' := [(1, .ref p), (0, .ref 0)]) (st' := [.ref 0, .ref 4]) rfl ?_
    refine En_getK (j := 9) ((h52 _ _ (Or.inr (by decide))).trans h43) rfl rfl rfl tgz_0 (by decide +kernel) ?_
    refine En_getK (j := 1) ((h52 _ _ (Or.inr (by decide))).trans ((h44 _ _ (Or.inr (by decide))).trans ((h35 _ _ (Or.inl (neTG hp2 tgz_1 (by decide)))).trans h12))) rfl rfl rfl hp2 (by decide +kernel) ?_
    refine En_callV rfl rfl rfl rfl rfl rfl rfl rfl tgz_4 (by decide +kernel) rfl (c_82x σ48 h49 z11 (geI rfl (by omega)) (leI rfl (by omega))) (by decide) (by decide) (fun v59 σ60 h58 => ?_)
    obtain ⟨h61, h62, rfl, h63⟩ := h58
    have h64 := h63
    have h65 := Fr_trans h50 h62 (by decide +kernel)
    have h66 : ((fRead By Nb 1601 S00).1 = 0 → KN σ60 p2 (fRead By Nb 1601 S00).2.2.2 (act (fRead By Nb 1601 S00).2.2.2)) := fun zz => KN_fr hP2 (h53 zz) h62 (by decide +kernel)
    have o67 : OUT σ0 σ60 p2 := OUT_fr o55 h62 (by decide +kernel)
    refine En_Ps 1 (pc' := 65) (lv' := [(1, .ref p), (0, .ref 0)]) (st' := [.ref 0]) rfl ?_
    refine En_getK (j := 9) ((h62 _ _ (inW tgz_0 (by decide +kernel))).trans ((h52 _ _ (Or.inr (by decide))).trans h43)) rfl rfl rfl tgz_0 (by decide +kernel) ?_
    refine En_getK (j := 0) ((h62 _ _ (inW hp2 (by decide +kernel))).trans ((h52 _ _ (Or.inr (by decide))).trans ((h44 _ _ (Or.inr (by decide))).trans ((h35 _ _ (Or.inr (by decide))).trans h17)))) rfl rfl rfl hp2 (by decide +kernel) ?_
    have := (by decide : (Int32.ofInt 0).toInt = 0)
    exact En_ret (v := some (.int z18)) rfl rfl rfl ⟨h61, h65, (Int32.ofInt 0), ((h62 _ _ (inW tgz_1 (by decide +kernel))).trans ((h52 _ _ (Or.inr (by decide))).trans ((h44 _ _ (Or.inr (by decide))).trans h34))), z18, rfl, ⟨o67, by omega, by omega, by omega, by omega, by omega, by omega, ⟨⟨⟨p2, p, z11, hp2, hp, ((h62 _ _ (inW tgz_0 (by decide +kernel))).trans ((h52 _ _ (Or.inr (by decide))).trans h43)), ((h62 _ _ (inW tgz_0 (by decide +kernel))).trans h51), (fun e => hne e.symm), ((h62 _ _ (inW hp2 (by decide +kernel))).trans ((h52 _ _ (Or.inr (by decide))).trans ((h44 _ _ (Or.inr (by decide))).trans ((h35 _ _ (Or.inl (neTG hp2 tgz_1 (by decide)))).trans h12)))), (by omega)⟩, ⟨(ci_at (j := 5) ((h62 _ _ (inW tgz_3 (by decide +kernel))).trans ((h52 _ _ (Or.inr (by decide))).trans ((h44 _ _ (Or.inr (by decide))).trans ((h35 _ _ (Or.inr (by decide))).trans h10)))) rfl).trans (by omega), (ci_at (j := 6) ((h62 _ _ (inW tgz_3 (by decide +kernel))).trans ((h52 _ _ (Or.inr (by decide))).trans ((h44 _ _ (Or.inr (by decide))).trans ((h35 _ _ (Or.inr (by decide))).trans h21)))) rfl).trans (by omega), fun zz => by omega, fun zz => by omega⟩⟩, ⟨fun zz => absurd (by omega) zz, fun zz => ⟨((h62 _ _ (inW tgz_0 (by decide +kernel))).trans ((h52 _ _ (Or.inr (by decide))).trans h43)), h66 zz⟩⟩, ⟨fun _ => (RULx_eq h64 (ci_at (j := 1) ((h62 _ _ (inW hp2 (by decide +kernel))).trans ((h52 _ _ (Or.inr (by decide))).trans ((h44 _ _ (Or.inr (by decide))).trans ((h35 _ _ (Or.inl (neTG hp2 tgz_1 (by decide)))).trans h12)))) rfl)), fun zz => absurd (by omega) zz⟩⟩⟩⟩
  · refine En_Ps 1 (pc' := 31) (lv' := [(0, .ref 0)]) (st' := [.int (((Int8.ofInt (-4)).toInt32))]) rfl ?_
    have := (by decide : (Int32.ofInt 0).toInt = 0)
    refine En_top (by decide : ((Int8.ofInt (-4)).toInt32).toInt = -4) (fun z68 h69 => ?_)
    exact En_ret (v := some (.int z68)) rfl rfl rfl ⟨h32, h33, (Int32.ofInt 0), h34, z68, rfl, ⟨o38, by omega, by omega, by omega, by omega, by omega, by omega, ⟨⟨⟨p, p2, sg, hp, hp2, ((h35 _ _ (Or.inr (by decide))).trans ((h7 _ _ (inW tgz_0 (by decide +kernel))).trans h_p)), ((h35 _ _ (Or.inr (by decide))).trans ((h7 _ _ (inW tgz_0 (by decide +kernel))).trans h_p2)), hne, ((h35 _ _ (Or.inl (neTG hp tgz_1 (by decide)))).trans (((h13.1 p hp hne)).trans h_sg)), (by omega)⟩, ⟨(ci_at (j := 5) ((h35 _ _ (Or.inr (by decide))).trans h10) rfl).trans (by omega), (ci_at (j := 6) ((h35 _ _ (Or.inr (by decide))).trans h21) rfl).trans (by omega), fun zz => by omega, fun zz => by omega⟩⟩, ⟨fun _ => ((h35 _ _ (Or.inr (by decide))).trans ((h7 _ _ (inW tgz_0 (by decide +kernel))).trans h_p)), fun zz => absurd zz (by omega)⟩, ⟨fun zz => absurd zz (by omega), fun _ => h37⟩⟩⟩⟩
/-- DoorSchool.teach(III)I -/
abbrev P_174x (σ0 : SG) (Wv : Int → Int) (a : Int32) (b : Int32) (c : Int32) (p : Nat) (sg : Int32) : PO := fun v σ => WT σ ∧ Fr [(18, 14), (20, 2), (21, 0), (22, 0), (27, 0)] σ0 σ ∧ ∃ ret : Int32, v = some (.int ret) ∧ -ret.toInt - 5 ≤ 0 ∧ ret.toInt - 12 ≤ 0 ∧ (ret.toInt = tcR Wv a.toInt b.toInt c.toInt ∧ KN σ p (tcW Wv a.toInt b.toInt c.toInt) (act (tcW Wv a.toInt b.toInt c.toInt)) ∧ OUT σ0 σ p)
set_option maxRecDepth 10000 in
set_option maxHeartbeats 4000000 in
theorem c_174x {Wv : Int → Int} (σ0 : SG) (hσ0 : WT σ0) (a : Int32) (b : Int32) (c : Int32) (p : Nat) (hp : TG p = 18) (h_p : (σ0 0)[9]? = some (.ref p)) (sg : Int32) (h_sg : (σ0 p)[1]? = some (.int sg)) (hp0 : -sg.toInt ≤ 0) (hP : PLA p) (hX : FXP σ0 p) (hK : KN σ0 p Wv (act Wv)) : En 3 64 none mr_174 (P_174x σ0 Wv a b c p sg) 0 [(0, .ref 0), (1, .int a), (2, .int b), (3, .int c)] [] σ0 := by
  obtain ⟨hl_sg, hu_sg⟩ := WT_int hσ0 (g := 18) hp (by decide +kernel) (l := (-1)) (u := 4) (by decide +kernel) h_sg
  have hF0 : Fr [(18, 14), (20, 2), (21, 0), (22, 0), (27, 0)] σ0 σ0 := Fr_rfl
  have t1 : Wv (0) = sg.toInt := KN_v hK (Or.inl (by decide)) (by omega) (by omega) (by rw [lcO_lt (by decide) (by decide), Nat.add_zero]) rfl h_sg
  refine En_Ps 4 (pc' := 4) (lv' := [(0, .ref 0), (1, .int a), (2, .int b), (3, .int c)]) (st' := [.int c, .int b, .int a, .ref 0]) rfl ?_
  refine En_callV rfl rfl rfl rfl rfl rfl rfl rfl tgz_0 (by decide +kernel) rfl (c_144x σ0 hσ0 a b c p hp h_p sg h_sg (by omega) hP (FXP_fr hP hX hF0 (by decide +kernel)) hK) (by decide) (by decide) (fun v3 σ4 h2 => ?_)
  obtain ⟨h5, h6, z8, rfl, h7⟩ := h2
  have h9 := h7.2.2.2.2
  obtain rfl : σ0 = σ4 := Fr_nil h6
  have h10 := h9
  refine En_iNe _ rfl rfl (fun h11 => ?_) (fun h11 => ?_)
  · have h12 := Imp_m h7.2.2.2.1 (by omega)
    have h13 : okL Wv a.toInt b.toInt c.toInt := by rcases h10 with q | q; exact q.2; exfalso; omega
    have h14 := h13.1
    have h15 := h13.2.1
    refine En_Ps 1 (pc' := 14) (lv' := [(0, .ref 0), (1, .int a), (2, .int b), (3, .int c)]) (st' := [.ref 0]) rfl ?_
    refine En_getK (j := 9) h_p rfl rfl rfl tgz_0 (by decide +kernel) ?_
    refine En_getR (j := 4) (g' := 19) (u := 0) rfl rfl rfl hp (by decide +kernel) hσ0 (by decide +kernel) (fun a17 h16 ha17 => ?_)
    have t18 : a17 = p + 1 := ref_uniq h16 (FXP_fr hP hX hF0 (by decide +kernel)).1
    obtain ⟨z20, h19, h21, h22⟩ := WT_peekI hσ0 hp (by decide +kernel : FT 18 3 = (0, 0, 4)) (by decide +kernel)
    have t23 : Wv (2) = z20.toInt := KN_v hK (Or.inl (by decide)) (by omega) (by omega) (by rw [lcO_lt (by decide) (by decide), Nat.add_zero]) rfl h19
    refine En_Ps 1 (pc' := 21) (lv' := [(0, .ref 0), (1, .int a), (2, .int b), (3, .int c)]) (st' := [.int a, .ref a17]) rfl ?_
    refine En_aald (g' := 28) (u := 0) rfl rfl ha17 (by decide +kernel) hσ0 (by omega) (lnI (by decide +kernel : LN _ = 4) (by omega)) (FTsgl (by decide +kernel)) (fun a25 h24 ha25 => ?_)
    have t26 : a25 = p + 10 + 4 * (a.toInt).toNat := DRe (d := a.toInt) (FXP_fr hP hX hF0 (by decide +kernel)) t18 h24 (by omega) (by omega)
    have t27 := lc_d (d := a.toInt) (by omega) (by omega)
    refine En_getR (j := 0) (g' := 20) (u := 0) rfl rfl rfl ha25 (by decide +kernel) hσ0 (by decide +kernel) (fun a29 h28 ha29 => ?_)
    have t30 : a29 = p + 11 + 4 * (a.toInt).toNat := DLc (d := a.toInt) (FXP_fr hP hX hF0 (by decide +kernel)) t26 h28 (by omega) (by omega)
    refine En_Ps 2 (pc' := 29) (lv' := [(4, .ref a29), (0, .ref 0), (1, .int a), (2, .int b), (3, .int c)]) (st' := [.ref a29]) rfl ?_
    refine En_getI (j := 2) (l := 0) (u := 13) rfl rfl rfl ha29 (by decide +kernel) hσ0 (by decide +kernel) (fun z32 h31 h33 h34 => ?_)
    have t35 : Wv (12 + 4 * (a.toInt)) = z32.toInt := KN_v hK (Or.inr (Or.inl ⟨by omega, by omega, by omega⟩)) (by omega) (by omega) (by omega) (by omega) h31
    refine En_Ps 1 (pc' := 34) (lv' := [(4, .ref a29), (0, .ref 0), (1, .int a), (2, .int b), (3, .int c)]) (st' := [.int (((Int8.ofInt 12).toInt32)), .int z32]) rfl ?_
    refine En_icLt _ rfl (by decide : ((Int8.ofInt 12).toInt32).toInt = 12) rfl (fun h36 => ?_) (fun h36 => ?_)
    · refine En_Ps 1 (pc' := 41) (lv' := [(4, .ref a29), (0, .ref 0), (1, .int a), (2, .int b), (3, .int c)]) (st' := [.ref 0]) rfl ?_
      refine En_getK (j := 9) h_p rfl rfl rfl tgz_0 (by decide +kernel) ?_
      refine En_getI (j := 14) (l := 0) (u := 60) rfl rfl rfl hp (by decide +kernel) hσ0 (by decide +kernel) (fun z38 h37 h39 h40 => ?_)
      have t41 : Wv (6) = z38.toInt := KN_v hK (Or.inl (by decide)) (by omega) (by omega) (by rw [lcO_lt (by decide) (by decide), Nat.add_zero]) rfl h37
      refine En_Ps 1 (pc' := 49) (lv' := [(4, .ref a29), (0, .ref 0), (1, .int a), (2, .int b), (3, .int c)]) (st' := [.int (((Int8.ofInt 60).toInt32)), .int z38]) rfl ?_
      refine En_icLt _ rfl (by decide : ((Int8.ofInt 60).toInt32).toInt = 60) rfl (fun h42 => ?_) (fun h42 => ?_)
      · refine En_Ps 3 (pc' := 59) (lv' := [(4, .ref a29), (0, .ref 0), (1, .int a), (2, .int b), (3, .int c)]) (st' := [.int c, .int b, .ref a29]) rfl ?_
        obtain ⟨a44, h43, ha44⟩ := WT_peekR (g := 20) (j := 0) (g' := 21) (u := 0) hσ0 ha29 (by decide +kernel) (by decide +kernel)
        have t45 : a44 = p + 12 + 4 * (a.toInt).toNat := DKk (d := a.toInt) (FXP_fr hP hX hF0 (by decide +kernel)) t30 h43 (by omega) (by omega)
        obtain ⟨a47, h46, ha47⟩ := WT_peekR (g := 20) (j := 1) (g' := 22) (u := 0) hσ0 ha29 (by decide +kernel) (by decide +kernel)
        have t48 : a47 = p + 13 + 4 * (a.toInt).toNat := DKo (d := a.toInt) (FXP_fr hP hX hF0 (by decide +kernel)) t30 h46 (by omega) (by omega)
        refine En_callV rfl rfl rfl rfl rfl rfl rfl rfl ha29 (by decide +kernel) rfl (c_31x σ0 hσ0 a29 ha29 b c (geI rfl (by omega)) (leI rfl (by omega)) (geI rfl (by omega)) (leI rfl (by omega)) a44 ha44 h43 a47 ha47 h46 z32 h31 (by omega)) (by decide) (by decide) (fun v50 σ51 h49 => ?_)
        obtain ⟨h52, h53, z55, h56, rfl, h54⟩ := h49
        have h57 := h54.2.2.2.2
        have h58 := Fr_trans hF0 h53 (by decide +kernel)
        refine En_Ps 1 (pc' := 63) (lv' := [(4, .ref a29), (0, .ref 0), (1, .int a), (2, .int b), (3, .int c)]) (st' := [.ref 0]) rfl ?_
        refine En_getK (j := 9) ((h53 _ _ (inW tgz_0 (by decide +kernel))).trans h_p) rfl rfl rfl tgz_0 (by decide +kernel) ?_
        refine En_getR (j := 15) (g' := 27) (u := 0) rfl rfl rfl hp (by decide +kernel) h52 (by decide +kernel) (fun a60 h59 ha60 => ?_)
        have t61 : a60 = p + 9 := ref_uniq h59 (FXP_fr hP hX h58 (by decide +kernel)).2.2.2.2.2.2.1
        refine En_Ps 1 (pc' := 70) (lv' := [(4, .ref a29), (0, .ref 0), (1, .int a), (2, .int b), (3, .int c)]) (st' := [.ref 0, .ref a60]) rfl ?_
        refine En_getK (j := 9) ((h53 _ _ (inW tgz_0 (by decide +kernel))).trans h_p) rfl rfl rfl tgz_0 (by decide +kernel) ?_
        refine En_getK (j := 14) ((h53 _ _ (inW hp (by decide +kernel))).trans h37) rfl rfl rfl hp (by decide +kernel) ?_
        refine En_Ps 1 (pc' := 77) (lv' := [(4, .ref a29), (0, .ref 0), (1, .int a), (2, .int b), (3, .int c)]) (st' := [.int a, .int z38, .ref a60]) rfl ?_
        refine En_iast (l := 0) (u := 3) rfl rfl ha60 (by decide +kernel) (by omega) (lnI (by decide +kernel : LN _ = 60) (by omega)) (FTsgl (by decide +kernel)) (rngI rfl (by omega) (by omega)) h52 h58 (by decide +kernel) (fun σ62 h63 h64 h65 h66 => ?_)
        refine En_Ps 1 (pc' := 79) (lv' := [(4, .ref a29), (0, .ref 0), (1, .int a), (2, .int b), (3, .int c)]) (st' := [.ref 0]) rfl ?_
        refine En_getK (j := 9) ((h66 _ _ (Or.inl (neTG tgz_0 ha60 (by decide)))).trans ((h53 _ _ (inW tgz_0 (by decide +kernel))).trans h_p)) rfl rfl rfl tgz_0 (by decide +kernel) ?_
        refine En_Ps 1 (pc' := 83) (lv' := [(4, .ref a29), (0, .ref 0), (1, .int a), (2, .int b), (3, .int c)]) (st' := [.ref p, .ref p]) rfl ?_
        refine En_getK (j := 14) ((h66 _ _ (Or.inl (neTG hp ha60 (by decide)))).trans ((h53 _ _ (inW hp (by decide +kernel))).trans h37)) rfl rfl rfl hp (by decide +kernel) ?_
        refine En_Ps 2 (pc' := 88) (lv' := [(4, .ref a29), (0, .ref 0), (1, .int a), (2, .int b), (3, .int c)]) (st' := [.int ((z38 + ((Int32.ofInt 1)))), .ref p]) rfl ?_
        refine En_top (addI rfl (by decide : (Int32.ofInt 1).toInt = 1) (by omega) (by omega)) (fun z67 h68 => ?_)
        refine En_put (j := 14) rfl rfl rfl hp (by decide +kernel) rfl (vI (l := 0) (u := 60) (by decide +kernel) rfl (by omega) (by omega)) h63 h64 (by decide +kernel) (fun σ69 h70 h71 h72 h73 => ?_)
        refine En_Ps 1 (pc' := 93) (lv' := [(4, .ref a29), (0, .ref 0), (1, .int a), (2, .int b), (3, .int c)]) (st' := [.ref a29]) rfl ?_
        refine En_getK (j := 2) ((h73 _ _ (Or.inr (by decide))).trans ((h66 _ _ (Or.inl (neTG ha29 ha60 (by decide)))).trans h56)) rfl rfl rfl ha29 (by decide +kernel) ?_
        exact En_ret (v := some (.int z55)) rfl rfl rfl ⟨h70, h71, z55, rfl, ⟨by omega, by omega, (by rw [tcW_y h13 (by omega) (by omega)]; exact ⟨tcR_y h13 (by omega) (by omega) (by omega), KN_teach hK (PLA_B hP) t35 t41 h57 rfl rfl h65 h66 h72 h73 t30 t45 t48 t61 rfl (by omega) (by omega) (by omega) (by omega) (by omega) (by omega) (by omega)⟩)⟩⟩
      · refine En_Ps 1 (pc' := 54) (lv' := [(4, .ref a29), (0, .ref 0), (1, .int a), (2, .int b), (3, .int c)]) (st' := [.int (((Int8.ofInt (-5)).toInt32))]) rfl ?_
        refine En_top (by decide : ((Int8.ofInt (-5)).toInt32).toInt = -5) (fun z74 h75 => ?_)
        exact En_ret (v := some (.int z74)) rfl rfl rfl ⟨hσ0, hF0, z74, rfl, ⟨by omega, by omega, (by rw [tcW_n (fun q => by omega)]; exact ⟨tcR_5 h13 (by omega) (by omega) (by omega), hK, OUT_0⟩)⟩⟩
    · refine En_Ps 1 (pc' := 39) (lv' := [(4, .ref a29), (0, .ref 0), (1, .int a), (2, .int b), (3, .int c)]) (st' := [.int (((Int8.ofInt (-3)).toInt32))]) rfl ?_
      refine En_top (by decide : ((Int8.ofInt (-3)).toInt32).toInt = -3) (fun z76 h77 => ?_)
      exact En_ret (v := some (.int z76)) rfl rfl rfl ⟨hσ0, hF0, z76, rfl, ⟨by omega, by omega, (by rw [tcW_n (fun q => by omega)]; exact ⟨tcR_3 h13 (by omega) (by omega), hK, OUT_0⟩)⟩⟩
  · have h78 := Imp_m h7.2.2.1 (by omega)
    refine En_Ps 1 (pc' := 12) (lv' := [(0, .ref 0), (1, .int a), (2, .int b), (3, .int c)]) (st' := [.int (((Int8.ofInt (-2)).toInt32))]) rfl ?_
    refine En_top (by decide : ((Int8.ofInt (-2)).toInt32).toInt = -2) (fun z79 h80 => ?_)
    exact En_ret (v := some (.int z79)) rfl rfl rfl ⟨hσ0, hF0, z79, rfl, ⟨by omega, by omega, (by have q0 : ¬ okL Wv a.toInt b.toInt c.toInt := (by rcases h10 with q | q; exfalso; omega; exact q.2); rw [tcW_n (fun q => q0 q.1)]; exact ⟨tcR_2 q0 (by omega), hK, OUT_0⟩)⟩⟩

