/-- DoorSchool.back(I)I -/
abbrev P_105x (σ0 : SG) (a : Int32) (p : Nat) (sg : Int32) (p2 : Nat) : PO := fun v σ => WT σ ∧ Fr [(4, 0), (4, 1), (5, 0), (6, 0), (7, 0), (18, 0), (18, 1), (18, 2), (18, 3), (18, 6), (18, 7), (18, 8), (18, 11), (18, 14), (20, 2), (21, 0), (22, 0), (23, 0), (24, 0), (25, 0), (26, 0), (27, 0), (28, 1), (28, 2), (28, 3)] σ0 σ ∧ ∃ ret : Int32, v = some (.int ret) ∧ -ret.toInt - 6 ≤ 0 ∧ ret.toInt ≤ 0 ∧ (INVc σ ∧ BCK (ci σ0 71 a.toInt) a.toInt ret.toInt ∧ BKC σ0 σ p a.toInt (ci σ0 71 a.toInt) ∧ RBK σ0 σ p a.toInt (ci σ0 71 a.toInt))
set_option maxRecDepth 10000 in
set_option maxHeartbeats 4000000 in
theorem c_105x (σ0 : SG) (hσ0 : WT σ0) (a : Int32) (p : Nat) (hp : TG p = 18) (h_p : (σ0 0)[9]? = some (.ref p)) (sg : Int32) (h_sg : (σ0 p)[1]? = some (.int sg)) (p2 : Nat) (hp2 : TG p2 = 18) (h_p2 : (σ0 0)[10]? = some (.ref p2)) (hp0 : -sg.toInt ≤ 0) (hne : p ≠ p2) (hP : PLA p) (hX : FXP σ0 p) (hM : IMX σ0) : En 4 124 none mr_105 (P_105x σ0 a p sg p2) 0 [(0, .ref 0), (1, .int a)] [] σ0 := by
  obtain ⟨hl_sg, hu_sg⟩ := WT_int hσ0 (g := 18) hp (by decide +kernel) (l := (-1)) (u := 4) (by decide +kernel) h_sg
  have hF0 : Fr [(4, 0), (4, 1), (5, 0), (6, 0), (7, 0), (18, 0), (18, 1), (18, 2), (18, 3), (18, 6), (18, 7), (18, 8), (18, 11), (18, 14), (20, 2), (21, 0), (22, 0), (23, 0), (24, 0), (25, 0), (26, 0), (27, 0), (28, 1), (28, 2), (28, 3)] σ0 σ0 := Fr_rfl
  refine En_Ps 1 (pc' := 1) (lv' := [(0, .ref 0), (1, .int a)]) (st' := [.int a]) rfl ?_
  refine En_iLt _ rfl rfl (fun h1 => ?_) (fun h1 => ?_)
  · refine En_Ps 1 (pc' := 11) (lv' := [(0, .ref 0), (1, .int a)]) (st' := [.int (((Int8.ofInt (-2)).toInt32))]) rfl ?_
    refine En_top (by decide : ((Int8.ofInt (-2)).toInt32).toInt = -2) (fun z2 h3 => ?_)
    exact En_ret (v := some (.int z2)) rfl rfl rfl ⟨hσ0, hF0, z2, rfl, ⟨by omega, by omega, ⟨⟨p, p2, sg, hp, hp2, h_p, h_p2, hne, h_sg, (by omega)⟩, BCK_2 (by omega) (by omega), BKC_no (by omega), ⟨fun _ _ _ => by exfalso; omega, fun _ => RSAM_0⟩⟩⟩⟩
  · refine En_Ps 2 (pc' := 6) (lv' := [(0, .ref 0), (1, .int a)]) (st' := [.int ((Int32.ofInt 3)), .int a]) rfl ?_
    refine En_icLt _ rfl (by decide : (Int32.ofInt 3).toInt = 3) rfl (fun h4 => ?_) (fun h4 => ?_)
    · refine En_Ps 1 (pc' := 13) (lv' := [(0, .ref 0), (1, .int a)]) (st' := [.ref 0]) rfl ?_
      refine En_getU (j := 8) (u := 71) (g' := 30) (q := 0) rfl rfl rfl (by decide +kernel : TG 0 = 0) (by decide +kernel) hσ0 (by decide +kernel) (by decide +kernel) (fun h5 => ?_)
      refine En_Ps 1 (pc' := 17) (lv' := [(0, .ref 0), (1, .int a)]) (st' := [.int a, .ref 71]) rfl ?_
      refine En_bald (l := 0) (u := 1) rfl rfl (by decide +kernel : TG 71 = 30) (by decide +kernel) hσ0 (by omega) (lnI (by decide +kernel : LN _ = 3) (by omega)) (FTsgl (by decide +kernel)) (fun z8 h7 h9 h10 => ?_)
      have h11 := ci_at h7 (rfl : a.toInt = a.toInt)
      refine En_iNe _ rfl rfl (fun h12 => ?_) (fun h12 => ?_)
      · refine En_Ps 1 (pc' := 25) (lv' := [(0, .ref 0), (1, .int a)]) (st' := [.ref 0]) rfl ?_
        refine En_getK (j := 9) h_p rfl rfl rfl (by decide +kernel : TG 0 = 0) (by decide +kernel) ?_
        refine En_Ps 1 (pc' := 29) (lv' := [(0, .ref 0), (1, .int a)]) (st' := [.ref 0, .ref p]) rfl ?_
        refine En_getU (j := 7) (u := 70) (g' := 29) (q := 0) rfl rfl rfl (by decide +kernel : TG 0 = 0) (by decide +kernel) hσ0 (by decide +kernel) (by decide +kernel) (fun h13 => ?_)
        refine En_Ps 1 (pc' := 33) (lv' := [(0, .ref 0), (1, .int a)]) (st' := [.int a, .ref 70, .ref p]) rfl ?_
        refine En_aald (g' := 31) (u := 0) rfl rfl (by decide +kernel : TG 70 = 29) (by decide +kernel) hσ0 (by omega) (lnI (by decide +kernel : LN _ = 3) (by omega)) (FTsgl (by decide +kernel)) (fun a16 h15 ha16 => ?_)
        have h17 : a16 = 72 + 26 * (a.toInt).toNat := ref_uniq h15 (hM (a.toInt).toNat (by omega)).1
        refine En_callV rfl rfl rfl rfl rfl rfl rfl rfl hp (by decide +kernel) rfl (c_53bx σ0 hσ0 p hp a16 ha16 (by rw [h17]; exact (SEP_i (by omega) hP).2) hX (by rw [h17]; exact (hM (a.toInt).toNat (by omega)).2)) (by decide) (by decide) (fun v19 σ20 h18 => ?_)
        obtain ⟨h21, h22, z24, h25, rfl, h23⟩ := h18
        have h26 := h23.2.2
        have h27 := Fr_trans hF0 h22 (by decide +kernel)
        refine En_Ps 1 (pc' := 38) (lv' := [(0, .ref 0), (1, .int a)]) (st' := [.ref 0]) rfl ?_
        refine En_getU (j := 2) (u := 4) (g' := 4) (q := 0) rfl rfl rfl (by decide +kernel : TG 0 = 0) (by decide +kernel) h21 (by decide +kernel) (by decide +kernel) (fun h29 => ?_)
        refine En_Ps 1 (pc' := 42) (lv' := [(0, .ref 0), (1, .int a)]) (st' := [.ref 0, .ref 4]) rfl ?_
        refine En_getK (j := 9) ((h22 _ _ (inW (by decide +kernel : TG 0 = 0) (by decide +kernel))).trans h_p) rfl rfl rfl (by decide +kernel : TG 0 = 0) (by decide +kernel) ?_
        refine En_getK (j := 1) h25 rfl rfl rfl hp (by decide +kernel) ?_
        refine En_callV rfl rfl rfl rfl rfl rfl rfl rfl (by decide +kernel : TG 4 = 4) (by decide +kernel) rfl (c_82x σ20 h21 z24 (geI rfl (by omega)) (leI rfl (by omega))) (by decide) (by decide) (fun v32 σ33 h31 => ?_)
        obtain ⟨h34, h35, rfl, h36⟩ := h31
        have h37 := h36
        have h38 := Fr_trans h27 h35 (by decide +kernel)
        refine En_Ps 1 (pc' := 52) (lv' := [(0, .ref 0), (1, .int a)]) (st' := [.int ((Int32.ofInt 0))]) rfl ?_
        refine En_top (by decide : (Int32.ofInt 0).toInt = 0) (fun z39 h40 => ?_)
        exact En_ret (v := some (.int z39)) rfl rfl rfl ⟨h34, h38, z39, rfl, ⟨by omega, by omega, ⟨⟨p, p2, z24, hp, hp2, ((h35 _ _ (inW (by decide +kernel : TG 0 = 0) (by decide +kernel))).trans ((h22 _ _ (inW (by decide +kernel : TG 0 = 0) (by decide +kernel))).trans h_p)), ((h35 _ _ (inW (by decide +kernel : TG 0 = 0) (by decide +kernel))).trans ((h22 _ _ (inW (by decide +kernel : TG 0 = 0) (by decide +kernel))).trans h_p2)), hne, ((h35 _ _ (inW hp (by decide +kernel))).trans h25), (by omega)⟩, BCK_0 (by omega) (by omega) (by omega) (by omega), BKC_ok (by omega) (by omega) (by omega) h26 h17 h35 (by decide +kernel) (PLA_B hP), ⟨fun _ _ _ => (RULx_eq h37 (ci_at (j := 1) ((h35 _ _ (inW hp (by decide +kernel))).trans h25) rfl)), fun _ => by exfalso; omega⟩⟩⟩⟩
      · refine En_Ps 1 (pc' := 23) (lv' := [(0, .ref 0), (1, .int a)]) (st' := [.int (((Int8.ofInt (-6)).toInt32))]) rfl ?_
        refine En_top (by decide : ((Int8.ofInt (-6)).toInt32).toInt = -6) (fun z41 h42 => ?_)
        exact En_ret (v := some (.int z41)) rfl rfl rfl ⟨hσ0, hF0, z41, rfl, ⟨by omega, by omega, ⟨⟨p, p2, sg, hp, hp2, h_p, h_p2, hne, h_sg, (by omega)⟩, BCK_6 (by omega) (by omega) (by omega) (by omega), BKC_no (by omega), ⟨fun _ _ _ => by exfalso; omega, fun _ => RSAM_0⟩⟩⟩⟩
    · refine En_Ps 1 (pc' := 11) (lv' := [(0, .ref 0), (1, .int a)]) (st' := [.int (((Int8.ofInt (-2)).toInt32))]) rfl ?_
      refine En_top (by decide : ((Int8.ofInt (-2)).toInt32).toInt = -2) (fun z43 h44 => ?_)
      exact En_ret (v := some (.int z43)) rfl rfl rfl ⟨hσ0, hF0, z43, rfl, ⟨by omega, by omega, ⟨⟨p, p2, sg, hp, hp2, h_p, h_p2, hne, h_sg, (by omega)⟩, BCK_2 (by omega) (by omega), BKC_no (by omega), ⟨fun _ _ _ => by exfalso; omega, fun _ => RSAM_0⟩⟩⟩⟩
/-- DoorSchool.marksFor(I)I -/
abbrev P_156x (σ0 : SG) (Wv : Int → Int) (gd : Int) (a : Int32) (p : Nat) (sg : Int32) : PO := fun v σ => WT σ ∧ Fr [] σ0 σ ∧ ∃ ret : Int32, v = some (.int ret) ∧ -ret.toInt ≤ 0 ∧ ret.toInt - 16 ≤ 0 ∧ ret.toInt = mkN Wv a.toInt
set_option maxRecDepth 10000 in
set_option maxHeartbeats 4000000 in
theorem c_156x {Wv : Int → Int} {gd : Int} (σ0 : SG) (hσ0 : WT σ0) (a : Int32) (hl_a : 0 ≤ a.toInt) (hu_a : a.toInt ≤ 65535) (p : Nat) (hp : TG p = 18) (h_p : (σ0 0)[9]? = some (.ref p)) (sg : Int32) (h_sg : (σ0 p)[1]? = some (.int sg)) (hp0 : -sg.toInt ≤ 0) (hP : PLA p) (hX : FXP σ0 p) (hKd : KN σ0 p Wv (actD Wv gd)) (hB : WFw Wv) : En 2 44 none mr_156 (P_156x σ0 Wv gd a p sg) 0 [(0, .ref 0), (1, .int a)] [] σ0 := by
  obtain ⟨hl_sg, hu_sg⟩ := WT_int hσ0 (g := 18) hp (by decide +kernel) (l := (-1)) (u := 4) (by decide +kernel) h_sg
  have hF0 : Fr [] σ0 σ0 := Fr_rfl
  have t1 : Wv (0) = sg.toInt := KN_v hKd (Or.inl (by decide)) (by omega) (by omega) (by rw [lcO_lt (by decide) (by decide), Nat.add_zero]) rfl h_sg
  obtain ⟨z3, h2, h4, h5⟩ := WT_peekI hσ0 hp (by decide +kernel : FT 18 3 = (0, 0, 4)) (by decide +kernel)
  have t6 : Wv (2) = z3.toInt := KN_v hKd (Or.inl (by decide)) (by omega) (by omega) (by rw [lcO_lt (by decide) (by decide), Nat.add_zero]) rfl h2
  have h7 := hB.2.2.1
  have h8 := hB.1
  have h9 := hB.2.1
  have h10 := hB.2.2.2.1
  refine En_Ps 1 (pc' := 1) (lv' := [(0, .ref 0), (1, .int a)]) (st' := [.ref 0]) rfl ?_
  refine En_getK (j := 9) h_p rfl rfl rfl (by decide +kernel : TG 0 = 0) (by decide +kernel) ?_
  refine En_getR (j := 5) (g' := 20) (u := 0) rfl rfl rfl hp (by decide +kernel) hσ0 (by decide +kernel) (fun a12 h11 ha12 => ?_)
  have t13 : a12 = p + 2 := ref_uniq h11 (FXP_fr hP hX hF0 (by decide +kernel)).2.1
  refine En_Ps 1 (pc' := 8) (lv' := [(0, .ref 0), (1, .int a)]) (st' := [.int a, .ref a12]) rfl ?_
  obtain ⟨a15, h14, ha15⟩ := WT_peekR (g := 20) (j := 0) (g' := 21) (u := 0) hσ0 ha12 (by decide +kernel) (by decide +kernel)
  have t16 : a15 = p + 3 := EKk (FXP_fr hP hX hF0 (by decide +kernel)) t13 h14
  obtain ⟨a18, h17, ha18⟩ := WT_peekR (g := 20) (j := 1) (g' := 22) (u := 0) hσ0 ha12 (by decide +kernel) (by decide +kernel)
  have t19 : a18 = p + 4 := EKo (FXP_fr hP hX hF0 (by decide +kernel)) t13 h17
  obtain ⟨z21, h20, h22, h23⟩ := WT_peekI hσ0 ha12 (by decide +kernel : FT 20 2 = (0, 0, 13)) (by decide +kernel)
  have t24 : Wv (3) = z21.toInt := KN_v hKd (Or.inl (by decide)) (by omega) (by omega) (by rw [lcO_3]; omega) (by decide) h20
  refine En_callV rfl rfl rfl rfl rfl rfl rfl rfl ha12 (by decide +kernel) rfl (c_32x σ0 hσ0 a12 ha12 a (geI rfl (by omega)) (leI rfl (by omega)) a15 ha15 h14 a18 ha18 h17 z21 h20) (by decide) (by decide) (fun v26 σ27 h25 => ?_)
  obtain ⟨h28, h29, z31, rfl, h30⟩ := h25
  have h32 := h30.2.2
  obtain rfl : σ0 = σ27 := Fr_nil h29
  refine En_callS rfl rfl rfl rfl rfl rfl rfl rfl rfl (c_7bx σ0 hσ0 z31 (geI rfl (by omega)) (leI rfl (by omega))) (by decide) (by decide) (fun v34 σ35 h33 => ?_)
  obtain ⟨h36, h37, z39, rfl, h38⟩ := h33
  have h40 := h38.2.2
  obtain rfl : σ0 = σ35 := Fr_nil h37
  exact En_ret (v := some (.int z39)) rfl rfl rfl ⟨hσ0, hF0, z39, rfl, ⟨by omega, by omega, mkN_of t24.symm (by omega) (KN_ekD hKd t24.symm (by omega) t16) (KN_eoD hKd t24.symm (by omega) t19) h32 h40⟩⟩
/-- DoorSchool.best()I -/
abbrev P_107x (σ0 : SG) (Wv : Int → Int) (p : Nat) (sg : Int32) : PO := fun v σ => WT σ ∧ Fr [] σ0 σ ∧ ∃ ret : Int32, v = some (.int ret) ∧ -ret.toInt - 2 ≤ 0 ∧ ret.toInt - 3 ≤ 0 ∧ ret.toInt = bsR Wv
set_option maxRecDepth 10000 in
set_option maxHeartbeats 4000000 in
theorem c_107x {Wv : Int → Int} (σ0 : SG) (hσ0 : WT σ0) (p : Nat) (hp : TG p = 18) (h_p : (σ0 0)[9]? = some (.ref p)) (sg : Int32) (h_sg : (σ0 p)[1]? = some (.int sg)) (hp0 : -sg.toInt ≤ 0) (hP : PLA p) (hX : FXP σ0 p) (hK : KN σ0 p Wv (act Wv)) (hB : WFw Wv) (hT : TWN Wv) (hQ : 0 < Wv 7 → RULx σ0 (Wv 0)) (hq : QX Wv) : En 4 92 none mr_107 (P_107x σ0 Wv p sg) 0 [(0, .ref 0)] [] σ0 := by
  obtain ⟨hl_sg, hu_sg⟩ := WT_int hσ0 (g := 18) hp (by decide +kernel) (l := (-1)) (u := 4) (by decide +kernel) h_sg
  have hF0 : Fr [] σ0 σ0 := Fr_rfl
  have t1 : Wv (0) = sg.toInt := KN_v hK (Or.inl (by decide)) (by omega) (by omega) (by rw [lcO_lt (by decide) (by decide), Nat.add_zero]) rfl h_sg
  obtain ⟨z3, h2, h4, h5⟩ := WT_peekI hσ0 hp (by decide +kernel : FT 18 3 = (0, 0, 4)) (by decide +kernel)
  have t6 : Wv (2) = z3.toInt := KN_v hK (Or.inl (by decide)) (by omega) (by omega) (by rw [lcO_lt (by decide) (by decide), Nat.add_zero]) rfl h2
  have h7 := hB.2.2.1
  have h8 := hB.1
  have h9 := hB.2.1
  have h10 := hB.2.2.2.1
  refine En_Ps 1 (pc' := 1) (lv' := [(0, .ref 0)]) (st' := [.ref 0]) rfl ?_
  refine En_getK (j := 9) h_p rfl rfl rfl (by decide +kernel : TG 0 = 0) (by decide +kernel) ?_
  obtain ⟨z12, h11, h13, h14⟩ := WT_peekI hσ0 hp (by decide +kernel : FT 18 0 = (0, 0, 1601)) (by decide +kernel)
  have t15 : Wv (7) = z12.toInt := KN_v hK (Or.inl (by decide)) (by omega) (by omega) (by rw [lcO_lt (by decide) (by decide), Nat.add_zero]) rfl h11
  refine En_callV rfl rfl rfl rfl rfl rfl rfl rfl hp (by decide +kernel) rfl (c_43x σ0 hσ0 p hp z12 h11) (by decide) (by decide) (fun v17 σ18 h16 => ?_)
  obtain ⟨h19, h20, z22, rfl, h21⟩ := h16
  obtain rfl : σ0 = σ18 := Fr_nil h20
  have h23 := Imp_m h21.2.2.1
  have h24 := Imp_m h21.2.2.2
  refine En_iNe _ rfl rfl (fun h25 => ?_) (fun h25 => ?_)
  · have h26 := Imp_m h21.2.2.1 (by omega)
    have h27 := Imp_m h21.2.2.2 (by omega)
    refine En_Ps 6 (pc' := 19) (lv' := [(3, .int ((Int32.ofInt 0))), (2, .int ((Int32.ofInt (-1)))), (1, .int ((Int32.ofInt (-1)))), (0, .ref 0)]) (st' := []) rfl ?_
    have key19 : ∀ (n19 : Nat) (y28 : Int32) (y29 : Int32) (y30 : Int32), (-1) ≤ y28.toInt → y28.toInt ≤ 3 → (-1) ≤ y29.toInt → y29.toInt ≤ 16 → 0 ≤ y30.toInt → y30.toInt ≤ 4 → y30.toInt - z3.toInt ≤ 0 → y28.toInt - y30.toInt + 1 ≤ 0 → z3.toInt - y30.toInt < (n19 : Int) → BSI Wv y28.toInt y29.toInt y30.toInt → y30.toInt ≤ Wv 2 → En 4 92 none mr_107 (P_107x σ0 Wv p sg) 19 [(0, .ref 0), (1, .int y28), (2, .int y29), (3, .int y30)] [] σ0 := by
      intro n19
      induction n19 with
      | zero =>
        intro y28 y29 y30 h34 h35 h36 h37 h38 h39 h40 h41 h42 h43 h44
        exfalso; omega
      | succ n19 ih19 =>
        intro y28 y29 y30 h34 h35 h36 h37 h38 h39 h40 h41 h42 h43 h44
        refine En_Ps 2 (pc' := 21) (lv' := [(0, .ref 0), (1, .int y28), (2, .int y29), (3, .int y30)]) (st' := [.ref 0, .int y30]) rfl ?_
        refine En_getK (j := 9) h_p rfl rfl rfl (by decide +kernel : TG 0 = 0) (by decide +kernel) ?_
        refine En_getK (j := 3) h2 rfl rfl rfl hp (by decide +kernel) ?_
        refine En_icGe _ rfl rfl rfl (fun h45 => ?_) (fun h45 => ?_)
        · refine En_Ps 1 (pc' := 59) (lv' := [(0, .ref 0), (1, .int y28), (2, .int y29), (3, .int y30)]) (st' := [.int y28]) rfl ?_
          exact En_ret (v := some (.int y28)) rfl rfl rfl ⟨hσ0, hF0, y28, rfl, ⟨by omega, by omega, bsR_y (by omega) rfl (i := y30.toInt) (by omega) h43.1⟩⟩
        · refine En_Ps 3 (pc' := 33) (lv' := [(0, .ref 0), (1, .int y28), (2, .int y29), (3, .int y30)]) (st' := [.int y30, .ref 0, .ref 0]) rfl ?_
          refine En_callV rfl rfl rfl rfl rfl rfl rfl rfl (by decide +kernel : TG 0 = 0) (by decide +kernel) rfl (c_114ax σ0 hσ0 y30 (geI rfl (by omega)) (leI rfl (by omega)) p hp h_p sg h_sg (by omega) hP (FXP_fr hP hX hF0 (by decide +kernel)) hK hB hT (by omega) (hQ (hq (by omega)))) (by decide) (by decide) (fun v47 σ48 h46 => ?_)
          obtain ⟨h49, h50, z52, rfl, h51⟩ := h46
          have h53 := h51.2.2
          obtain rfl : σ0 = σ48 := Fr_nil h50
          refine En_callV rfl rfl rfl rfl rfl rfl rfl rfl (by decide +kernel : TG 0 = 0) (by decide +kernel) rfl (c_156x σ0 hσ0 z52 (geI rfl (by omega)) (leI rfl (by omega)) p hp h_p sg h_sg (by omega) hP (FXP_fr hP hX hF0 (by decide +kernel)) (KN_aD (d := 4) hK) hB) (by decide) (by decide) (fun v55 σ56 h54 => ?_)
          obtain ⟨h57, h58, z60, rfl, h59⟩ := h54
          have h61 := h59.2.2
          obtain rfl : σ0 = σ56 := Fr_nil h58
          refine En_Ps 3 (pc' := 44) (lv' := [(4, .int z60), (0, .ref 0), (1, .int y28), (2, .int y29), (3, .int y30)]) (st' := [.int y29, .int z60]) rfl ?_
          refine En_icLe _ rfl rfl rfl (fun h62 => ?_) (fun h62 => ?_)
          · refine En_Ps 1 (pc' := 55) (lv' := [(3, .int ((y30 + Int32.ofInt 1))), (4, .int z60), (0, .ref 0), (1, .int y28), (2, .int y29)]) (st' := []) rfl ?_
            refine En_lv1 (addI rfl (by decide : (Int32.ofInt 1).toInt = 1) (by omega) (by omega)) (fun z63 h64 => ?_)
            refine En_Ps 1 (pc' := 19) (lv' := [(3, .int z63), (4, .int z60), (0, .ref 0), (1, .int y28), (2, .int y29)]) (st' := []) rfl ?_
            refine En_lv (lv := [(0, .ref 0), (1, .int y28), (2, .int y29), (3, .int z63)]) ⟨rfl, rfl, rfl, rfl, trivial⟩ ?_
            exact ih19 y28 y29 z63 (by omega) (by omega) (by omega) (by omega) (by omega) (by omega) (by omega) (by omega) (by omega) ((by first | exact BSI_y h43 (by omega) (h61.trans (congrArg (mkN Wv) h53)) (by omega) (by omega) (by omega) (by omega) | exact BSI_n h43 (by omega) (h61.trans (congrArg (mkN Wv) h53)) (by omega) (by omega) (by omega) (by omega))) ((by omega))
          · refine En_Ps 5 (pc' := 55) (lv' := [(3, .int ((y30 + Int32.ofInt 1))), (1, .int y30), (2, .int z60), (4, .int z60), (0, .ref 0)]) (st' := []) rfl ?_
            refine En_lv1 (addI rfl (by decide : (Int32.ofInt 1).toInt = 1) (by omega) (by omega)) (fun z65 h66 => ?_)
            refine En_Ps 1 (pc' := 19) (lv' := [(3, .int z65), (1, .int y30), (2, .int z60), (4, .int z60), (0, .ref 0)]) (st' := []) rfl ?_
            refine En_lv (lv := [(0, .ref 0), (1, .int y30), (2, .int z60), (3, .int z65)]) ⟨rfl, rfl, rfl, rfl, trivial⟩ ?_
            exact ih19 y30 z60 z65 (by omega) (by omega) (by omega) (by omega) (by omega) (by omega) (by omega) (by omega) (by omega) ((by first | exact BSI_y h43 (by omega) (h61.trans (congrArg (mkN Wv) h53)) (by omega) (by omega) (by omega) (by omega) | exact BSI_n h43 (by omega) (h61.trans (congrArg (mkN Wv) h53)) (by omega) (by omega) (by omega) (by omega))) ((by omega))
    have := (by decide : (Int32.ofInt (-1)).toInt = -1)
    have := (by decide : (Int32.ofInt (-1)).toInt = -1)
    have := (by decide : (Int32.ofInt 0).toInt = 0)
    refine En_lv (lv := [(0, .ref 0), (1, .int ((Int32.ofInt (-1)))), (2, .int ((Int32.ofInt (-1)))), (3, .int ((Int32.ofInt 0)))]) ⟨rfl, rfl, rfl, rfl, trivial⟩ ?_
    exact key19 (Int.toNat (z3.toInt) + 1) ((Int32.ofInt (-1))) ((Int32.ofInt (-1))) ((Int32.ofInt 0)) (by omega) (by omega) (by omega) (by omega) (by omega) (by omega) (by omega) (by omega) (by omega) (BSI_0 (by omega) (by omega) (by omega)) ((by omega))
  · refine En_Ps 1 (pc' := 12) (lv' := [(0, .ref 0)]) (st' := [.int (((Int8.ofInt (-2)).toInt32))]) rfl ?_
    refine En_top (by decide : ((Int8.ofInt (-2)).toInt32).toInt = -2) (fun z67 h68 => ?_)
    exact En_ret (v := some (.int z67)) rfl rfl rfl ⟨hσ0, hF0, z67, rfl, ⟨by omega, by omega, bsR_n (by omega) (by omega)⟩⟩
/-- DoorSchool.copy(II)I -/
abbrev P_109x (σ0 : SG) (Wv : Int → Int) (a : Int32) (b : Int32) (p : Nat) (sg : Int32) : PO := fun v σ => WT σ ∧ Fr [(28, 3)] σ0 σ ∧ ∃ ret : Int32, v = some (.int ret) ∧ -ret.toInt - 5 ≤ 0 ∧ ret.toInt - 3 ≤ 0 ∧ (KN σ p (cyW Wv a.toInt b.toInt) (act (cyW Wv a.toInt b.toInt)) ∧ OUT σ0 σ p)
set_option maxRecDepth 10000 in
set_option maxHeartbeats 4000000 in
theorem c_109x {Wv : Int → Int} (σ0 : SG) (hσ0 : WT σ0) (a : Int32) (b : Int32) (p : Nat) (hp : TG p = 18) (h_p : (σ0 0)[9]? = some (.ref p)) (sg : Int32) (h_sg : (σ0 p)[1]? = some (.int sg)) (hp0 : -sg.toInt ≤ 0) (hP : PLA p) (hX : FXP σ0 p) (hK : KN σ0 p Wv (act Wv)) : En 1 22 none mr_109 (P_109x σ0 Wv a b p sg) 0 [(0, .ref 0), (1, .int a), (2, .int b)] [] σ0 := by
  obtain ⟨hl_sg, hu_sg⟩ := WT_int hσ0 (g := 18) hp (by decide +kernel) (l := (-1)) (u := 4) (by decide +kernel) h_sg
  have hF0 : Fr [(28, 3)] σ0 σ0 := Fr_rfl
  have t1 : Wv (0) = sg.toInt := KN_v hK (Or.inl (by decide)) (by omega) (by omega) (by rw [lcO_lt (by decide) (by decide), Nat.add_zero]) rfl h_sg
  obtain ⟨z3, h2, h4, h5⟩ := WT_peekI hσ0 hp (by decide +kernel : FT 18 3 = (0, 0, 4)) (by decide +kernel)
  have t6 : Wv (2) = z3.toInt := KN_v hK (Or.inl (by decide)) (by omega) (by omega) (by rw [lcO_lt (by decide) (by decide), Nat.add_zero]) rfl h2
  refine En_Ps 1 (pc' := 1) (lv' := [(0, .ref 0), (1, .int a), (2, .int b)]) (st' := [.ref 0]) rfl ?_
  refine En_getK (j := 9) h_p rfl rfl rfl (by decide +kernel : TG 0 = 0) (by decide +kernel) ?_
  refine En_Ps 1 (pc' := 5) (lv' := [(0, .ref 0), (1, .int a), (2, .int b)]) (st' := [.int a, .ref p]) rfl ?_
  refine En_callV rfl rfl rfl rfl rfl rfl rfl rfl hp (by decide +kernel) rfl (c_47x σ0 hσ0 p hp a z3 h2) (by decide) (by decide) (fun v8 σ9 h7 => ?_)
  obtain ⟨h10, h11, z13, rfl, h12⟩ := h7
  obtain rfl : σ0 = σ9 := Fr_nil h11
  have h14 := Imp_m h12.2.2.1
  have h15 := Imp_m h12.2.2.2.1
  have h16 := Imp_m h12.2.2.2.2.1
  have h17 := Imp_m h12.2.2.2.2.2
  refine En_iEq _ rfl rfl (fun h18 => ?_) (fun h18 => ?_)
  · have h19 := Imp_m h12.2.2.2.2.1 (by omega)
    refine En_Ps 1 (pc' := 34) (lv' := [(0, .ref 0), (1, .int a), (2, .int b)]) (st' := [.int (((Int8.ofInt (-2)).toInt32))]) rfl ?_
    refine En_top (by decide : ((Int8.ofInt (-2)).toInt32).toInt = -2) (fun z20 h21 => ?_)
    exact En_ret (v := some (.int z20)) rfl rfl rfl ⟨hσ0, hF0, z20, rfl, ⟨by omega, by omega, (by rw [cyW_n (by omega)]; exact ⟨hK, OUT_0⟩)⟩⟩
  · have h22 := Imp_m h12.2.2.1 (by omega)
    have h23 := Imp_m h12.2.2.2.1 (by omega)
    have h24 := Imp_m h12.2.2.2.2.2 (by omega)
    refine En_Ps 2 (pc' := 13) (lv' := [(0, .ref 0), (1, .int a), (2, .int b)]) (st' := [.int a, .int b]) rfl ?_
    refine En_icEq _ rfl rfl rfl (fun h25 => ?_) (fun h25 => ?_)
    · refine En_Ps 1 (pc' := 34) (lv' := [(0, .ref 0), (1, .int a), (2, .int b)]) (st' := [.int (((Int8.ofInt (-2)).toInt32))]) rfl ?_
      refine En_top (by decide : ((Int8.ofInt (-2)).toInt32).toInt = -2) (fun z26 h27 => ?_)
      exact En_ret (v := some (.int z26)) rfl rfl rfl ⟨hσ0, hF0, z26, rfl, ⟨by omega, by omega, (by rw [cyW_n (by omega)]; exact ⟨hK, OUT_0⟩)⟩⟩
    · refine En_Ps 2 (pc' := 18) (lv' := [(0, .ref 0), (1, .int a), (2, .int b)]) (st' := [.int ((Int32.ofInt (-1))), .int b]) rfl ?_
      refine En_icEq _ rfl (by decide : (Int32.ofInt (-1)).toInt = -1) rfl (fun h28 => ?_) (fun h28 => ?_)
      · refine En_Ps 1 (pc' := 36) (lv' := [(0, .ref 0), (1, .int a), (2, .int b)]) (st' := [.ref 0]) rfl ?_
        refine En_getK (j := 9) h_p rfl rfl rfl (by decide +kernel : TG 0 = 0) (by decide +kernel) ?_
        refine En_Ps 1 (pc' := 40) (lv' := [(0, .ref 0), (1, .int a), (2, .int b)]) (st' := [.int a, .ref p]) rfl ?_
        refine En_callV rfl rfl rfl rfl rfl rfl rfl rfl hp (by decide +kernel) rfl (c_45x σ0 hσ0 p hp a hP (FXP_fr hP hX hF0 (by decide +kernel)) hK) (by decide) (by decide) (fun v30 σ31 h29 => ?_)
        obtain ⟨h32, h33, z35, rfl, h34⟩ := h29
        have h36 := h34.2.2.2
        obtain rfl : σ0 = σ31 := Fr_nil h33
        have h37 : z35.toInt = cpI Wv a.toInt := h36
        refine En_iNe _ rfl rfl (fun h38 => ?_) (fun h38 => ?_)
        · have h39 := Imp_m h34.2.2.1 (by omega)
          refine En_Ps 1 (pc' := 69) (lv' := [(0, .ref 0), (1, .int a), (2, .int b)]) (st' := [.int (((Int8.ofInt (-5)).toInt32))]) rfl ?_
          refine En_top (by decide : ((Int8.ofInt (-5)).toInt32).toInt = -5) (fun z40 h41 => ?_)
          exact En_ret (v := some (.int z40)) rfl rfl rfl ⟨hσ0, hF0, z40, rfl, ⟨by omega, by omega, (by rw [cyW_n (by omega)]; exact ⟨hK, OUT_0⟩)⟩⟩
        · refine En_Ps 2 (pc' := 48) (lv' := [(0, .ref 0), (1, .int a), (2, .int b)]) (st' := [.int ((Int32.ofInt (-1))), .int b]) rfl ?_
          refine En_icEq _ rfl (by decide : (Int32.ofInt (-1)).toInt = -1) rfl (fun h42 => ?_) (fun hx => by exfalso; omega)
          refine En_Ps 1 (pc' := 71) (lv' := [(0, .ref 0), (1, .int a), (2, .int b)]) (st' := [.ref 0]) rfl ?_
          refine En_getK (j := 9) h_p rfl rfl rfl (by decide +kernel : TG 0 = 0) (by decide +kernel) ?_
          refine En_getR (j := 4) (g' := 19) (u := 0) rfl rfl rfl hp (by decide +kernel) hσ0 (by decide +kernel) (fun a44 h43 ha44 => ?_)
          have t45 : a44 = p + 1 := ref_uniq h43 (FXP_fr hP hX hF0 (by decide +kernel)).1
          refine En_Ps 1 (pc' := 78) (lv' := [(0, .ref 0), (1, .int a), (2, .int b)]) (st' := [.int a, .ref a44]) rfl ?_
          refine En_aald (g' := 28) (u := 0) rfl rfl ha44 (by decide +kernel) hσ0 (by omega) (lnI (by decide +kernel : LN _ = 4) (by omega)) (FTsgl (by decide +kernel)) (fun a47 h46 ha47 => ?_)
          have t48 : a47 = p + 10 + 4 * (a.toInt).toNat := DRe (d := a.toInt) (FXP_fr hP hX hF0 (by decide +kernel)) t45 h46 (by omega) (by omega)
          have t49 := lc_d (d := a.toInt) (by omega) (by omega)
          refine En_getI (j := 3) (l := (-1)) (u := 3) rfl rfl rfl ha47 (by decide +kernel) hσ0 (by decide +kernel) (fun z51 h50 h52 h53 => ?_)
          have t54 : Wv (13 + 4 * (a.toInt)) = z51.toInt := KN_v hK (Or.inr (Or.inl ⟨by omega, by omega, by omega⟩)) (by omega) (by omega) (by omega) (by omega) h50
          refine En_Ps 2 (pc' := 84) (lv' := [(3, .int z51), (0, .ref 0), (1, .int a), (2, .int b)]) (st' := [.ref 0]) rfl ?_
          refine En_getK (j := 9) h_p rfl rfl rfl (by decide +kernel : TG 0 = 0) (by decide +kernel) ?_
          refine En_getK (j := 4) h43 rfl rfl rfl hp (by decide +kernel) ?_
          refine En_Ps 1 (pc' := 91) (lv' := [(3, .int z51), (0, .ref 0), (1, .int a), (2, .int b)]) (st' := [.int a, .ref a44]) rfl ?_
          refine En_aald (g' := 28) (u := 0) rfl rfl ha44 (by decide +kernel) hσ0 (by omega) (lnI (by decide +kernel : LN _ = 4) (by omega)) (FTsgl (by decide +kernel)) (fun a56 h55 ha56 => ?_)
          have t57 : a56 = p + 10 + 4 * (a.toInt).toNat := DRe (d := a.toInt) (FXP_fr hP hX hF0 (by decide +kernel)) t45 h55 (by omega) (by omega)
          have t58 := lc_d (d := a.toInt) (by omega) (by omega)
          refine En_Ps 1 (pc' := 93) (lv' := [(3, .int z51), (0, .ref 0), (1, .int a), (2, .int b)]) (st' := [.int b, .ref a56]) rfl ?_
          refine En_put (j := 3) rfl rfl rfl ha56 (by decide +kernel) rfl (vI (l := (-1)) (u := 3) (by decide +kernel) rfl (by omega) (by omega)) hσ0 hF0 (by decide +kernel) (fun σ59 h60 h61 h62 h63 => ?_)
          refine En_Ps 1 (pc' := 97) (lv' := [(3, .int z51), (0, .ref 0), (1, .int a), (2, .int b)]) (st' := [.int z51]) rfl ?_
          exact En_ret (v := some (.int z51)) rfl rfl rfl ⟨h60, h61, z51, rfl, ⟨by omega, by omega, (by have l := lc_d (d := a.toInt) (by omega) (by omega); rw [cyW_y (by omega)]; exact KN_one hK (PLA_B hP) (i := 13 + 4 * a.toInt) (v := b.toInt) h62 h63 (by omega) (by omega) ⟨by omega, by omega⟩ rfl (by omega) (Or.inr (Or.inl ⟨by omega, by omega, by omega⟩)))⟩⟩
      · refine En_Ps 1 (pc' := 22) (lv' := [(0, .ref 0), (1, .int a), (2, .int b)]) (st' := [.ref 0]) rfl ?_
        refine En_getK (j := 9) h_p rfl rfl rfl (by decide +kernel : TG 0 = 0) (by decide +kernel) ?_
        refine En_Ps 1 (pc' := 26) (lv' := [(0, .ref 0), (1, .int a), (2, .int b)]) (st' := [.int b, .ref p]) rfl ?_
        refine En_callV rfl rfl rfl rfl rfl rfl rfl rfl hp (by decide +kernel) rfl (c_47x σ0 hσ0 p hp b z3 h2) (by decide) (by decide) (fun v65 σ66 h64 => ?_)
        obtain ⟨h67, h68, z70, rfl, h69⟩ := h64
        obtain rfl : σ0 = σ66 := Fr_nil h68
        have h71 := Imp_m h69.2.2.1
        have h72 := Imp_m h69.2.2.2.1
        have h73 := Imp_m h69.2.2.2.2.1
        have h74 := Imp_m h69.2.2.2.2.2
        refine En_iNe _ rfl rfl (fun h75 => ?_) (fun h75 => ?_)
        · have h76 := Imp_m h69.2.2.1 (by omega)
          have h77 := Imp_m h69.2.2.2.1 (by omega)
          have h78 := Imp_m h69.2.2.2.2.2 (by omega)
          refine En_Ps 1 (pc' := 36) (lv' := [(0, .ref 0), (1, .int a), (2, .int b)]) (st' := [.ref 0]) rfl ?_
          refine En_getK (j := 9) h_p rfl rfl rfl (by decide +kernel : TG 0 = 0) (by decide +kernel) ?_
          refine En_Ps 1 (pc' := 40) (lv' := [(0, .ref 0), (1, .int a), (2, .int b)]) (st' := [.int a, .ref p]) rfl ?_
          refine En_callV rfl rfl rfl rfl rfl rfl rfl rfl hp (by decide +kernel) rfl (c_45x σ0 hσ0 p hp a hP (FXP_fr hP hX hF0 (by decide +kernel)) hK) (by decide) (by decide) (fun v80 σ81 h79 => ?_)
          obtain ⟨h82, h83, z85, rfl, h84⟩ := h79
          have h86 := h84.2.2.2
          obtain rfl : σ0 = σ81 := Fr_nil h83
          have h87 : z85.toInt = cpI Wv a.toInt := h86
          refine En_iNe _ rfl rfl (fun h88 => ?_) (fun h88 => ?_)
          · have h89 := Imp_m h84.2.2.1 (by omega)
            refine En_Ps 1 (pc' := 69) (lv' := [(0, .ref 0), (1, .int a), (2, .int b)]) (st' := [.int (((Int8.ofInt (-5)).toInt32))]) rfl ?_
            refine En_top (by decide : ((Int8.ofInt (-5)).toInt32).toInt = -5) (fun z90 h91 => ?_)
            exact En_ret (v := some (.int z90)) rfl rfl rfl ⟨hσ0, hF0, z90, rfl, ⟨by omega, by omega, (by rw [cyW_n (by omega)]; exact ⟨hK, OUT_0⟩)⟩⟩
          · refine En_Ps 2 (pc' := 48) (lv' := [(0, .ref 0), (1, .int a), (2, .int b)]) (st' := [.int ((Int32.ofInt (-1))), .int b]) rfl ?_
            refine En_icEq _ rfl (by decide : (Int32.ofInt (-1)).toInt = -1) rfl (fun hx => by exfalso; omega) (fun h92 => ?_)
            refine En_Ps 1 (pc' := 52) (lv' := [(0, .ref 0), (1, .int a), (2, .int b)]) (st' := [.ref 0]) rfl ?_
            refine En_getK (j := 9) h_p rfl rfl rfl (by decide +kernel : TG 0 = 0) (by decide +kernel) ?_
            refine En_getR (j := 4) (g' := 19) (u := 0) rfl rfl rfl hp (by decide +kernel) hσ0 (by decide +kernel) (fun a94 h93 ha94 => ?_)
            have t95 : a94 = p + 1 := ref_uniq h93 (FXP_fr hP hX hF0 (by decide +kernel)).1
            refine En_Ps 1 (pc' := 59) (lv' := [(0, .ref 0), (1, .int a), (2, .int b)]) (st' := [.int b, .ref a94]) rfl ?_
            refine En_aald (g' := 28) (u := 0) rfl rfl ha94 (by decide +kernel) hσ0 (by omega) (lnI (by decide +kernel : LN _ = 4) (by omega)) (FTsgl (by decide +kernel)) (fun a97 h96 ha97 => ?_)
            have t98 : a97 = p + 10 + 4 * (b.toInt).toNat := DRe (d := b.toInt) (FXP_fr hP hX hF0 (by decide +kernel)) t95 h96 (by omega) (by omega)
            have t99 := lc_d (d := b.toInt) (by omega) (by omega)
            refine En_getI (j := 3) (l := (-1)) (u := 3) rfl rfl rfl ha97 (by decide +kernel) hσ0 (by decide +kernel) (fun z101 h100 h102 h103 => ?_)
            have t104 : Wv (13 + 4 * (b.toInt)) = z101.toInt := KN_v hK (Or.inr (Or.inl ⟨by omega, by omega, by omega⟩)) (by omega) (by omega) (by omega) (by omega) h100
            refine En_Ps 1 (pc' := 64) (lv' := [(0, .ref 0), (1, .int a), (2, .int b)]) (st' := [.int ((Int32.ofInt (-1))), .int z101]) rfl ?_
            refine En_icEq _ rfl (by decide : (Int32.ofInt (-1)).toInt = -1) rfl (fun h105 => ?_) (fun h105 => ?_)
            · refine En_Ps 1 (pc' := 71) (lv' := [(0, .ref 0), (1, .int a), (2, .int b)]) (st' := [.ref 0]) rfl ?_
              refine En_getK (j := 9) h_p rfl rfl rfl (by decide +kernel : TG 0 = 0) (by decide +kernel) ?_
              refine En_getK (j := 4) h93 rfl rfl rfl hp (by decide +kernel) ?_
              refine En_Ps 1 (pc' := 78) (lv' := [(0, .ref 0), (1, .int a), (2, .int b)]) (st' := [.int a, .ref a94]) rfl ?_
              refine En_aald (g' := 28) (u := 0) rfl rfl ha94 (by decide +kernel) hσ0 (by omega) (lnI (by decide +kernel : LN _ = 4) (by omega)) (FTsgl (by decide +kernel)) (fun a107 h106 ha107 => ?_)
              have t108 : a107 = p + 10 + 4 * (a.toInt).toNat := DRe (d := a.toInt) (FXP_fr hP hX hF0 (by decide +kernel)) t95 h106 (by omega) (by omega)
              have t109 := lc_d (d := a.toInt) (by omega) (by omega)
              refine En_getI (j := 3) (l := (-1)) (u := 3) rfl rfl rfl ha107 (by decide +kernel) hσ0 (by decide +kernel) (fun z111 h110 h112 h113 => ?_)
              have t114 : Wv (13 + 4 * (a.toInt)) = z111.toInt := KN_v hK (Or.inr (Or.inl ⟨by omega, by omega, by omega⟩)) (by omega) (by omega) (by omega) (by omega) h110
              refine En_Ps 2 (pc' := 84) (lv' := [(3, .int z111), (0, .ref 0), (1, .int a), (2, .int b)]) (st' := [.ref 0]) rfl ?_
              refine En_getK (j := 9) h_p rfl rfl rfl (by decide +kernel : TG 0 = 0) (by decide +kernel) ?_
              refine En_getK (j := 4) h93 rfl rfl rfl hp (by decide +kernel) ?_
              refine En_Ps 1 (pc' := 91) (lv' := [(3, .int z111), (0, .ref 0), (1, .int a), (2, .int b)]) (st' := [.int a, .ref a94]) rfl ?_
              refine En_aald (g' := 28) (u := 0) rfl rfl ha94 (by decide +kernel) hσ0 (by omega) (lnI (by decide +kernel : LN _ = 4) (by omega)) (FTsgl (by decide +kernel)) (fun a116 h115 ha116 => ?_)
              have t117 : a116 = p + 10 + 4 * (a.toInt).toNat := DRe (d := a.toInt) (FXP_fr hP hX hF0 (by decide +kernel)) t95 h115 (by omega) (by omega)
              have t118 := lc_d (d := a.toInt) (by omega) (by omega)
              refine En_Ps 1 (pc' := 93) (lv' := [(3, .int z111), (0, .ref 0), (1, .int a), (2, .int b)]) (st' := [.int b, .ref a116]) rfl ?_
              refine En_put (j := 3) rfl rfl rfl ha116 (by decide +kernel) rfl (vI (l := (-1)) (u := 3) (by decide +kernel) rfl (by omega) (by omega)) hσ0 hF0 (by decide +kernel) (fun σ119 h120 h121 h122 h123 => ?_)
              refine En_Ps 1 (pc' := 97) (lv' := [(3, .int z111), (0, .ref 0), (1, .int a), (2, .int b)]) (st' := [.int z111]) rfl ?_
              exact En_ret (v := some (.int z111)) rfl rfl rfl ⟨h120, h121, z111, rfl, ⟨by omega, by omega, (by have l := lc_d (d := a.toInt) (by omega) (by omega); rw [cyW_y (by omega)]; exact KN_one hK (PLA_B hP) (i := 13 + 4 * a.toInt) (v := b.toInt) h122 h123 (by omega) (by omega) ⟨by omega, by omega⟩ rfl (by omega) (Or.inr (Or.inl ⟨by omega, by omega, by omega⟩)))⟩⟩
            · refine En_Ps 1 (pc' := 69) (lv' := [(0, .ref 0), (1, .int a), (2, .int b)]) (st' := [.int (((Int8.ofInt (-5)).toInt32))]) rfl ?_
              refine En_top (by decide : ((Int8.ofInt (-5)).toInt32).toInt = -5) (fun z124 h125 => ?_)
              exact En_ret (v := some (.int z124)) rfl rfl rfl ⟨hσ0, hF0, z124, rfl, ⟨by omega, by omega, (by rw [cyW_n (by omega)]; exact ⟨hK, OUT_0⟩)⟩⟩
        · have h126 := Imp_m h69.2.2.2.2.1 (by omega)
          refine En_Ps 1 (pc' := 34) (lv' := [(0, .ref 0), (1, .int a), (2, .int b)]) (st' := [.int (((Int8.ofInt (-2)).toInt32))]) rfl ?_
          refine En_top (by decide : ((Int8.ofInt (-2)).toInt32).toInt = -2) (fun z127 h128 => ?_)
          exact En_ret (v := some (.int z127)) rfl rfl rfl ⟨hσ0, hF0, z127, rfl, ⟨by omega, by omega, (by rw [cyW_n (by omega)]; exact ⟨hK, OUT_0⟩)⟩⟩
/-- DoorSchool.deeds(I)I -/
abbrev P_112x (σ0 : SG) (Wv : Int → Int) (a : Int32) (p : Nat) (sg : Int32) : PO := fun v σ => WT σ ∧ Fr [] σ0 σ ∧ ∃ ret : Int32, v = some (.int ret) ∧ -ret.toInt - 2 ≤ 0 ∧ ret.toInt - 65535 ≤ 0 ∧ ret.toInt = dsR Wv a.toInt
set_option maxRecDepth 10000 in
set_option maxHeartbeats 4000000 in
theorem c_112x {Wv : Int → Int} (σ0 : SG) (hσ0 : WT σ0) (a : Int32) (p : Nat) (hp : TG p = 18) (h_p : (σ0 0)[9]? = some (.ref p)) (sg : Int32) (h_sg : (σ0 p)[1]? = some (.int sg)) (hp0 : -sg.toInt ≤ 0) (hP : PLA p) (hX : FXP σ0 p) (hK : KN σ0 p Wv (act Wv)) (hB : WFw Wv) (hT : TWN Wv) (hQ : 0 < Wv 7 → RULx σ0 (Wv 0)) (hq : QX Wv) : En 4 92 none mr_112 (P_112x σ0 Wv a p sg) 0 [(0, .ref 0), (1, .int a)] [] σ0 := by
  obtain ⟨hl_sg, hu_sg⟩ := WT_int hσ0 (g := 18) hp (by decide +kernel) (l := (-1)) (u := 4) (by decide +kernel) h_sg
  have hF0 : Fr [] σ0 σ0 := Fr_rfl
  have t1 : Wv (0) = sg.toInt := KN_v hK (Or.inl (by decide)) (by omega) (by omega) (by rw [lcO_lt (by decide) (by decide), Nat.add_zero]) rfl h_sg
  obtain ⟨z3, h2, h4, h5⟩ := WT_peekI hσ0 hp (by decide +kernel : FT 18 3 = (0, 0, 4)) (by decide +kernel)
  have t6 : Wv (2) = z3.toInt := KN_v hK (Or.inl (by decide)) (by omega) (by omega) (by rw [lcO_lt (by decide) (by decide), Nat.add_zero]) rfl h2
  have h7 := hB.2.2.1
  refine En_Ps 1 (pc' := 1) (lv' := [(0, .ref 0), (1, .int a)]) (st' := [.ref 0]) rfl ?_
  refine En_getK (j := 9) h_p rfl rfl rfl (by decide +kernel : TG 0 = 0) (by decide +kernel) ?_
  refine En_Ps 1 (pc' := 5) (lv' := [(0, .ref 0), (1, .int a)]) (st' := [.int a, .ref p]) rfl ?_
  refine En_callV rfl rfl rfl rfl rfl rfl rfl rfl hp (by decide +kernel) rfl (c_47x σ0 hσ0 p hp a z3 h2) (by decide) (by decide) (fun v9 σ10 h8 => ?_)
  obtain ⟨h11, h12, z14, rfl, h13⟩ := h8
  obtain rfl : σ0 = σ10 := Fr_nil h12
  have h15 := Imp_m h13.2.2.1
  have h16 := Imp_m h13.2.2.2.1
  have h17 := Imp_m h13.2.2.2.2.1
  have h18 := Imp_m h13.2.2.2.2.2
  refine En_iEq _ rfl rfl (fun h19 => ?_) (fun h19 => ?_)
  · have h20 := Imp_m h13.2.2.2.2.1 (by omega)
    refine En_Ps 1 (pc' := 21) (lv' := [(0, .ref 0), (1, .int a)]) (st' := [.int (((Int8.ofInt (-2)).toInt32))]) rfl ?_
    refine En_top (by decide : ((Int8.ofInt (-2)).toInt32).toInt = -2) (fun z21 h22 => ?_)
    exact En_ret (v := some (.int z21)) rfl rfl rfl ⟨hσ0, hF0, z21, rfl, ⟨by omega, by omega, dsR_n (by omega) (by omega)⟩⟩
  · have h23 := Imp_m h13.2.2.1 (by omega)
    have h24 := Imp_m h13.2.2.2.1 (by omega)
    have h25 := Imp_m h13.2.2.2.2.2 (by omega)
    refine En_Ps 2 (pc' := 13) (lv' := [(0, .ref 0), (1, .int a)]) (st' := [.int a, .ref 0]) rfl ?_
    refine En_callV rfl rfl rfl rfl rfl rfl rfl rfl (by decide +kernel : TG 0 = 0) (by decide +kernel) rfl (c_114ax σ0 hσ0 a (geI rfl (by omega)) (leI rfl (by omega)) p hp h_p sg h_sg (by omega) hP (FXP_fr hP hX hF0 (by decide +kernel)) hK hB hT (by omega) (hQ (hq (by omega)))) (by decide) (by decide) (fun v27 σ28 h26 => ?_)
    obtain ⟨h29, h30, z32, rfl, h31⟩ := h26
    have h33 := h31.2.2
    obtain rfl : σ0 = σ28 := Fr_nil h30
    refine En_Ps 1 (pc' := 21) (lv' := [(0, .ref 0), (1, .int a)]) (st' := [.int z32]) rfl ?_
    exact En_ret (v := some (.int z32)) rfl rfl rfl ⟨hσ0, hF0, z32, rfl, ⟨by omega, by omega, dsR_y (by omega) (by omega) h33⟩⟩
/-- DoorSchool.does(II)I -/
abbrev P_113x (σ0 : SG) (Wv : Int → Int) (a : Int32) (b : Int32) (p : Nat) (sg : Int32) : PO := fun v σ => WT σ ∧ Fr [] σ0 σ ∧ ∃ ret : Int32, v = some (.int ret) ∧ -ret.toInt - 2 ≤ 0 ∧ ret.toInt - 65535 ≤ 0 ∧ ret.toInt = dfR Wv a.toInt b.toInt
set_option maxRecDepth 10000 in
set_option maxHeartbeats 4000000 in
theorem c_113x {Wv : Int → Int} (σ0 : SG) (hσ0 : WT σ0) (a : Int32) (b : Int32) (p : Nat) (hp : TG p = 18) (h_p : (σ0 0)[9]? = some (.ref p)) (sg : Int32) (h_sg : (σ0 p)[1]? = some (.int sg)) (hp0 : -sg.toInt ≤ 0) (hP : PLA p) (hX : FXP σ0 p) (hK : KN σ0 p Wv (act Wv)) (hB : WFw Wv) (hT : TWN Wv) (hQ : 0 < Wv 7 → RULx σ0 (Wv 0)) (hq : QX Wv) : En 3 63 none mr_113 (P_113x σ0 Wv a b p sg) 0 [(0, .ref 0), (1, .int a), (2, .int b)] [] σ0 := by
  obtain ⟨hl_sg, hu_sg⟩ := WT_int hσ0 (g := 18) hp (by decide +kernel) (l := (-1)) (u := 4) (by decide +kernel) h_sg
  have hF0 : Fr [] σ0 σ0 := Fr_rfl
  have t1 : Wv (0) = sg.toInt := KN_v hK (Or.inl (by decide)) (by omega) (by omega) (by rw [lcO_lt (by decide) (by decide), Nat.add_zero]) rfl h_sg
  obtain ⟨z3, h2, h4, h5⟩ := WT_peekI hσ0 hp (by decide +kernel : FT 18 3 = (0, 0, 4)) (by decide +kernel)
  have t6 : Wv (2) = z3.toInt := KN_v hK (Or.inl (by decide)) (by omega) (by omega) (by rw [lcO_lt (by decide) (by decide), Nat.add_zero]) rfl h2
  have h7 := hB.2.2.1
  have h8 := hB.1
  have h9 := hB.2.1
  refine En_Ps 1 (pc' := 1) (lv' := [(0, .ref 0), (1, .int a), (2, .int b)]) (st' := [.ref 0]) rfl ?_
  refine En_getK (j := 9) h_p rfl rfl rfl (by decide +kernel : TG 0 = 0) (by decide +kernel) ?_
  refine En_Ps 2 (pc' := 6) (lv' := [(0, .ref 0), (1, .int a), (2, .int b)]) (st' := [.int b, .int a, .ref p]) rfl ?_
  obtain ⟨z11, h10, h12, h13⟩ := WT_peekI hσ0 hp (by decide +kernel : FT 18 0 = (0, 0, 1601)) (by decide +kernel)
  have t14 : Wv (7) = z11.toInt := KN_v hK (Or.inl (by decide)) (by omega) (by omega) (by rw [lcO_lt (by decide) (by decide), Nat.add_zero]) rfl h10
  refine En_callV rfl rfl rfl rfl rfl rfl rfl rfl hp (by decide +kernel) rfl (c_50x σ0 hσ0 p hp a b z11 h10 sg h_sg (by omega)) (by decide) (by decide) (fun v16 σ17 h15 => ?_)
  obtain ⟨h18, h19, z21, rfl, h20⟩ := h15
  have h22 := h20.2.2.2
  obtain rfl : σ0 = σ17 := Fr_nil h19
  have h23 := h22
  have h24 : pI (Wv 0) = pI (sg.toInt) := by rw [t1]
  refine En_iEq _ rfl rfl (fun h25 => ?_) (fun h25 => ?_)
  · refine En_Ps 1 (pc' := 26) (lv' := [(0, .ref 0), (1, .int a), (2, .int b)]) (st' := [.int (((Int8.ofInt (-2)).toInt32))]) rfl ?_
    refine En_top (by decide : ((Int8.ofInt (-2)).toInt32).toInt = -2) (fun z26 h27 => ?_)
    exact En_ret (v := some (.int z26)) rfl rfl rfl ⟨hσ0, hF0, z26, rfl, ⟨by omega, by omega, dfR_n (fun ⟨q1, q2, q3, q4, q5, q6⟩ => by omega) (by omega)⟩⟩
  · have h28 := Imp_m h20.2.2.1 (by omega)
    have h29 := pI_rng (s := Wv 0) (by omega) (by omega)
    have h30 : 0 ≤ a.toInt ∧ a.toInt ≤ 15 := by omega
    have h31 : 0 ≤ b.toInt ∧ b.toInt ≤ 15 := by omega
    obtain ⟨z33, h32, h34, h35⟩ := WT_peekI hσ0 (by decide +kernel : TG 4 = 4) (by decide +kernel : FT 4 0 = (0, 0, 16)) (by decide +kernel)
    have h36 : z33.toInt = pI (Wv 0) := (ci_at (j := 0) h32 rfl).symm.trans (hQ (by omega)).1
    refine En_Ps 1 (pc' := 13) (lv' := [(0, .ref 0), (1, .int a), (2, .int b)]) (st' := [.ref 0]) rfl ?_
    refine En_getU (j := 2) (u := 4) (g' := 4) (q := 0) rfl rfl rfl (by decide +kernel : TG 0 = 0) (by decide +kernel) hσ0 (by decide +kernel) (by decide +kernel) (fun h37 => ?_)
    refine En_Ps 2 (pc' := 18) (lv' := [(0, .ref 0), (1, .int a), (2, .int b)]) (st' := [.int b, .int a, .ref 4]) rfl ?_
    refine En_callV rfl rfl rfl rfl rfl rfl rfl rfl (by decide +kernel : TG 4 = 4) (by decide +kernel) rfl (c_77ax σ0 hσ0 a b (geI rfl (by omega)) (leI rfl (by omega)) z33 h32) (by decide) (by decide) (fun v40 σ41 h39 => ?_)
    obtain ⟨h42, h43, z45, rfl, h44⟩ := h39
    have h46 := h44.2.2
    obtain rfl : σ0 = σ41 := Fr_nil h43
    refine En_Ps 1 (pc' := 26) (lv' := [(0, .ref 0), (1, .int a), (2, .int b)]) (st' := [.int z45]) rfl ?_
    exact En_ret (v := some (.int z45)) rfl rfl rfl ⟨hσ0, hF0, z45, rfl, ⟨by omega, by omega, dfR_y ⟨by omega, by omega, by omega, by omega, by omega, by omega⟩ h36 h46⟩⟩
/-- DoorSchool.doneInStorm(II)I -/
abbrev P_115x (σ0 : SG) (Wv : Int → Int) (a : Int32) (b : Int32) (p : Nat) (sg : Int32) : PO := fun v σ => WT σ ∧ Fr [] σ0 σ ∧ ∃ ret : Int32, v = some (.int ret) ∧ -ret.toInt ≤ 0 ∧ ret.toInt - 65535 ≤ 0 ∧ ret.toInt = STD Wv a.toInt b.toInt
set_option maxRecDepth 10000 in
set_option maxHeartbeats 4000000 in
theorem c_115x {Wv : Int → Int} (σ0 : SG) (hσ0 : WT σ0) (a : Int32) (b : Int32) (hl_a : 0 ≤ a.toInt) (hu_a : a.toInt ≤ 2147483647) (hl_b : 0 ≤ b.toInt) (hu_b : b.toInt ≤ 3) (p : Nat) (hp : TG p = 18) (h_p : (σ0 0)[9]? = some (.ref p)) (sg : Int32) (h_sg : (σ0 p)[1]? = some (.int sg)) (hp0 : -sg.toInt ≤ 0) (hP : PLA p) (hX : FXP σ0 p) (hK : KN σ0 p Wv (act Wv)) (hB : WFw Wv) (hT : TWN Wv) (hR : RULx σ0 (Wv 0)) (hd : b.toInt < Wv 2) : En 4 92 none mr_115 (P_115x σ0 Wv a b p sg) 0 [(0, .ref 0), (1, .int a), (2, .int b)] [] σ0 := by
  obtain ⟨hl_sg, hu_sg⟩ := WT_int hσ0 (g := 18) hp (by decide +kernel) (l := (-1)) (u := 4) (by decide +kernel) h_sg
  have hF0 : Fr [] σ0 σ0 := Fr_rfl
  have t1 : Wv (0) = sg.toInt := KN_v hK (Or.inl (by decide)) (by omega) (by omega) (by rw [lcO_lt (by decide) (by decide), Nat.add_zero]) rfl h_sg
  obtain ⟨z3, h2, h4, h5⟩ := WT_peekI hσ0 hp (by decide +kernel : FT 18 3 = (0, 0, 4)) (by decide +kernel)
  have t6 : Wv (2) = z3.toInt := KN_v hK (Or.inl (by decide)) (by omega) (by omega) (by rw [lcO_lt (by decide) (by decide), Nat.add_zero]) rfl h2
  have h7 := hB.2.2.1
  have h8 := hB.1
  have h9 := hB.2.1
  have h10 := hB.2.2.2.1
  have h11 := pI_rng (s := Wv 0) (by omega) (by omega)
  refine En_Ps 5 (pc' := 5) (lv' := [(3, .long a.toInt64), (0, .ref 0), (1, .int a), (2, .int b)]) (st' := [.int b, .ref 0]) rfl ?_
  refine En_callV rfl rfl rfl rfl rfl rfl rfl rfl (by decide +kernel : TG 0 = 0) (by decide +kernel) rfl (c_114ax σ0 hσ0 b (geI rfl (by omega)) (leI rfl (by omega)) p hp h_p sg h_sg (by omega) hP (FXP_fr hP hX hF0 (by decide +kernel)) hK hB hT (by omega) hR) (by decide) (by decide) (fun v13 σ14 h12 => ?_)
  obtain ⟨h15, h16, z18, rfl, h17⟩ := h12
  have h19 := h17.2.2
  obtain rfl : σ0 = σ14 := Fr_nil h16
  refine En_Ps 3 (pc' := 13) (lv' := [(6, .int ((Int32.ofInt 0))), (5, .int z18), (3, .long a.toInt64), (0, .ref 0), (1, .int a), (2, .int b)]) (st' := []) rfl ?_
  have key13 : ∀ (n13 : Nat) (y20 : Int64) (y21 : Int32) (y22 : Int32), 0 ≤ y20.toInt → y20.toInt ≤ 2147483647 → 0 ≤ y21.toInt → y21.toInt ≤ 65535 → 0 ≤ y22.toInt → y22.toInt ≤ 16 → -y22.toInt + 16 < (n13 : Int) → y20.toInt = STX a.toInt (y22.toInt).toNat → y21.toInt = xN (DDw Wv b.toInt) (AAS (STQ a.toInt (Wv (11 + 4 * b.toInt))) (y22.toInt).toNat) → y22.toInt ≤ pI (Wv 0) → En 4 92 none mr_115 (P_115x σ0 Wv a b p sg) 13 [(0, .ref 0), (1, .int a), (2, .int b), (3, .long y20), (5, .int y21), (6, .int y22)] [] σ0 := by
    intro n13
    induction n13 with
    | zero =>
      intro y20 y21 y22 h26 h27 h28 h29 h30 h31 h32 h33 h34 h35
      exfalso; omega
    | succ n13 ih13 =>
      intro y20 y21 y22 h26 h27 h28 h29 h30 h31 h32 h33 h34 h35
      refine En_Ps 2 (pc' := 16) (lv' := [(0, .ref 0), (1, .int a), (2, .int b), (3, .long y20), (5, .int y21), (6, .int y22)]) (st' := [.ref 0, .int y22]) rfl ?_
      refine En_getK (j := 9) h_p rfl rfl rfl (by decide +kernel : TG 0 = 0) (by decide +kernel) ?_
      refine En_callV rfl rfl rfl rfl rfl rfl rfl rfl hp (by decide +kernel) rfl (c_51x σ0 hσ0 p hp sg h_sg (by omega)) (by decide) (by decide) (fun v37 σ38 h36 => ?_)
      obtain ⟨h39, h40, z42, rfl, h41⟩ := h36
      have h43 := h41.2.2
      obtain rfl : σ0 = σ38 := Fr_nil h40
      have h44 := h43
      have h45 : pI (Wv 0) = pI (sg.toInt) := by rw [t1]
      refine En_icGe _ rfl rfl rfl (fun h46 => ?_) (fun h46 => ?_)
      · refine En_Ps 1 (pc' := 82) (lv' := [(0, .ref 0), (1, .int a), (2, .int b), (3, .long y20), (5, .int y21), (6, .int y22)]) (st' := [.int y21]) rfl ?_
        exact En_ret (v := some (.int y21)) rfl rfl rfl ⟨hσ0, hF0, y21, rfl, ⟨by omega, by omega, STD_of rfl (i := y22.toInt) (by omega) h34⟩⟩
      · refine En_Ps 3 (pc' := 30) (lv' := [(0, .ref 0), (1, .int a), (2, .int b), (3, .long y20), (5, .int y21), (6, .int y22)]) (st' := [.long ((((1103515245 : Int64)) * y20))]) rfl ?_
        refine En_topL (mulL (by decide : (1103515245 : Int64).toInt = 1103515245) rfl (Z := 1103515245 * y20.toInt) (by omega) (by omega) (by omega)) (fun z47 h48 => ?_)
        refine En_Ps 2 (pc' := 34) (lv' := [(0, .ref 0), (1, .int a), (2, .int b), (3, .long y20), (5, .int y21), (6, .int y22)]) (st' := [.long ((z47 + ((12345 : Int64))))]) rfl ?_
        refine En_topL (addL rfl (by decide : (12345 : Int64).toInt = 12345) (by omega) (by omega)) (fun z49 h50 => ?_)
        refine En_Ps 1 (pc' := 37) (lv' := [(0, .ref 0), (1, .int a), (2, .int b), (3, .long y20), (5, .int y21), (6, .int y22)]) (st' := [.long ((2147483648 : Int64)), .long z49]) rfl ?_
        refine En_lrem (c := 2147483648) rfl rfl (by decide : (2147483648 : Int64).toInt = 2147483648) (by omega) (by decide) (fun z51 h52 => ?_)
        refine En_Ps 1 (pc' := 39) (lv' := [(3, .long z51), (0, .ref 0), (1, .int a), (2, .int b), (5, .int y21), (6, .int y22)]) (st' := []) rfl ?_
        have h53 : z51.toInt = STX a.toInt (y22.toInt + 1).toNat := STX_s (by omega) h33 (by omega) rfl
        refine En_Ps 2 (pc' := 43) (lv' := [(3, .long z51), (0, .ref 0), (1, .int a), (2, .int b), (5, .int y21), (6, .int y22)]) (st' := [.long ((65536 : Int64)), .long z51]) rfl ?_
        refine En_ldiv (c := 65536) rfl rfl (by decide : (65536 : Int64).toInt = 65536) (by omega) (by decide) (fun z54 h55 => ?_)
        refine En_Ps 1 (pc' := 47) (lv' := [(3, .long z51), (0, .ref 0), (1, .int a), (2, .int b), (5, .int y21), (6, .int y22)]) (st' := [.long ((100 : Int64)), .long z54]) rfl ?_
        refine En_lrem (c := 100) rfl rfl (by decide : (100 : Int64).toInt = 100) (by omega) (by decide) (fun z56 h57 => ?_)
        refine En_Ps 1 (pc' := 49) (lv' := [(3, .long z51), (0, .ref 0), (1, .int a), (2, .int b), (5, .int y21), (6, .int y22)]) (st' := [.ref 0, .long z56]) rfl ?_
        refine En_getK (j := 9) h_p rfl rfl rfl (by decide +kernel : TG 0 = 0) (by decide +kernel) ?_
        refine En_getR (j := 4) (g' := 19) (u := 0) rfl rfl rfl hp (by decide +kernel) hσ0 (by decide +kernel) (fun a59 h58 ha59 => ?_)
        have t60 : a59 = p + 1 := ref_uniq h58 (FXP_fr hP hX hF0 (by decide +kernel)).1
        refine En_Ps 1 (pc' := 56) (lv' := [(3, .long z51), (0, .ref 0), (1, .int a), (2, .int b), (5, .int y21), (6, .int y22)]) (st' := [.int b, .ref a59, .long z56]) rfl ?_
        refine En_aald (g' := 28) (u := 0) rfl rfl ha59 (by decide +kernel) hσ0 (by omega) (lnI (by decide +kernel : LN _ = 4) (by omega)) (FTsgl (by decide +kernel)) (fun a62 h61 ha62 => ?_)
        have t63 : a62 = p + 10 + 4 * (b.toInt).toNat := DRe (d := b.toInt) (FXP_fr hP hX hF0 (by decide +kernel)) t60 h61 (by omega) (by omega)
        have t64 := lc_d (d := b.toInt) (by omega) (by omega)
        refine En_getI (j := 2) (l := 0) (u := 50) rfl rfl rfl ha62 (by decide +kernel) hσ0 (by decide +kernel) (fun z66 h65 h67 h68 => ?_)
        have t69 : Wv (11 + 4 * (b.toInt)) = z66.toInt := KN_v hK (Or.inr (Or.inl ⟨by omega, by omega, by omega⟩)) (by omega) (by omega) (by omega) (by omega) h65
        refine En_Ps 2 (pc' := 62) (lv' := [(3, .long z51), (0, .ref 0), (1, .int a), (2, .int b), (5, .int y21), (6, .int y22)]) (st' := [.int (lg_cmp z56 z66.toInt64)]) rfl ?_
        refine En_lgGe _ rfl (i2lI rfl) rfl (fun h70 => ?_) (fun h70 => ?_)
        · refine En_Ps 1 (pc' := 77) (lv' := [(6, .int ((y22 + Int32.ofInt 1))), (3, .long z51), (0, .ref 0), (1, .int a), (2, .int b), (5, .int y21)]) (st' := []) rfl ?_
          refine En_lv1 (addI rfl (by decide : (Int32.ofInt 1).toInt = 1) (by omega) (by omega)) (fun z71 h72 => ?_)
          refine En_Ps 1 (pc' := 13) (lv' := [(6, .int z71), (3, .long z51), (0, .ref 0), (1, .int a), (2, .int b), (5, .int y21)]) (st' := []) rfl ?_
          refine En_lv (lv := [(0, .ref 0), (1, .int a), (2, .int b), (3, .long z51), (5, .int y21), (6, .int z71)]) ⟨rfl, rfl, rfl, rfl, rfl, rfl, trivial⟩ ?_
          exact ih13 z51 y21 z71 (by omega) (by omega) (by omega) (by omega) (by omega) (by omega) (by omega) ((STX_s (by omega) h33 (by omega) (by omega))) (xas_n (by omega) h34 (STQ_n (by omega) h53 (q := z56.toInt) (by omega) t69 (by omega)) (by omega) (by omega)) ((by omega))
        · refine En_Ps 4 (pc' := 71) (lv' := [(3, .long z51), (0, .ref 0), (1, .int a), (2, .int b), (5, .int y21), (6, .int y22)]) (st' := [.int ((((Int32.ofInt 1)) <<< (y22 &&& 31))), .int y21]) rfl ?_
          refine En_nam (fun z73 h74 => ?_)
          have h75 : z73.toInt = pI y22.toInt := shl_v h74 rfl (by omega) (by omega)
          have := pI_pos y22.toInt
          have : pI y22.toInt ≤ 32768 := pI_mono (Y := 15) (by omega)
          refine En_Ps 1 (pc' := 72) (lv' := [(3, .long z51), (0, .ref 0), (1, .int a), (2, .int b), (5, .int y21), (6, .int y22)]) (st' := [.int ((y21 ^^^ z73))]) rfl ?_
          refine En_nam (fun z76 h77 => ?_)
          have h78 : z76.toInt = xN y21.toInt z73.toInt := xor_v h77 rfl rfl (by omega) (by omega)
          have := xN_lt (X := y21.toInt) (Y := z73.toInt) 16 (by omega) (by omega) (Int.lt_of_le_of_lt (by omega : _ ≤ (65535 : Int)) (by decide)) (Int.lt_of_le_of_lt (by omega : _ ≤ (65535 : Int)) (by decide))
          have two16 : ((2 ^ 16 : Nat) : Int) = 65536 := by decide
          refine En_Ps 2 (pc' := 77) (lv' := [(6, .int ((y22 + Int32.ofInt 1))), (5, .int z76), (3, .long z51), (0, .ref 0), (1, .int a), (2, .int b)]) (st' := []) rfl ?_
          refine En_lv1 (addI rfl (by decide : (Int32.ofInt 1).toInt = 1) (by omega) (by omega)) (fun z79 h80 => ?_)
          refine En_Ps 1 (pc' := 13) (lv' := [(6, .int z79), (5, .int z76), (3, .long z51), (0, .ref 0), (1, .int a), (2, .int b)]) (st' := []) rfl ?_
          refine En_lv (lv := [(0, .ref 0), (1, .int a), (2, .int b), (3, .long z51), (5, .int z76), (6, .int z79)]) ⟨rfl, rfl, rfl, rfl, rfl, rfl, trivial⟩ ?_
          exact ih13 z51 z76 z79 (by omega) (by omega) (by omega) (by omega) (by omega) (by omega) (by omega) ((STX_s (by omega) h33 (by omega) (by omega))) (xas_y (by omega) h34 (STQ_y (by omega) h53 (q := z56.toInt) (by omega) t69 (by omega)) (q := z73.toInt) (by omega) (by omega) (by omega)) ((by omega))
  have : a.toInt64.toInt = a.toInt := (i2lI rfl)
  have := (by decide : (Int32.ofInt 0).toInt = 0)
  refine En_lv (lv := [(0, .ref 0), (1, .int a), (2, .int b), (3, .long a.toInt64), (5, .int z18), (6, .int ((Int32.ofInt 0)))]) ⟨rfl, rfl, rfl, rfl, rfl, rfl, trivial⟩ ?_
  exact key13 (Int.toNat (16) + 1) a.toInt64 z18 ((Int32.ofInt 0)) (by omega) (by omega) (by omega) (by omega) (by omega) (by omega) (by omega) (STX_0 (by omega) (by omega)) (xas_0 h19 (by omega) (by omega)) ((by omega))
/-- DoorSchool.door(II)I -/
abbrev P_116x (σ0 : SG) (Wv : Int → Int) (a : Int32) (b : Int32) (p : Nat) (sg : Int32) : PO := fun v σ => WT σ ∧ Fr [] σ0 σ ∧ ∃ ret : Int32, v = some (.int ret) ∧ -ret.toInt - 2 ≤ 0 ∧ ret.toInt - 50 ≤ 0 ∧ ret.toInt = doR Wv a.toInt b.toInt
set_option maxRecDepth 10000 in
set_option maxHeartbeats 4000000 in
theorem c_116x {Wv : Int → Int} (σ0 : SG) (hσ0 : WT σ0) (a : Int32) (b : Int32) (p : Nat) (hp : TG p = 18) (h_p : (σ0 0)[9]? = some (.ref p)) (sg : Int32) (h_sg : (σ0 p)[1]? = some (.int sg)) (hp0 : -sg.toInt ≤ 0) (hP : PLA p) (hX : FXP σ0 p) (hK : KN σ0 p Wv (act Wv)) : En 1 21 none mr_116 (P_116x σ0 Wv a b p sg) 0 [(0, .ref 0), (1, .int a), (2, .int b)] [] σ0 := by
  obtain ⟨hl_sg, hu_sg⟩ := WT_int hσ0 (g := 18) hp (by decide +kernel) (l := (-1)) (u := 4) (by decide +kernel) h_sg
  have hF0 : Fr [] σ0 σ0 := Fr_rfl
  have t1 : Wv (0) = sg.toInt := KN_v hK (Or.inl (by decide)) (by omega) (by omega) (by rw [lcO_lt (by decide) (by decide), Nat.add_zero]) rfl h_sg
  refine En_Ps 1 (pc' := 1) (lv' := [(0, .ref 0), (1, .int a), (2, .int b)]) (st' := [.ref 0]) rfl ?_
  refine En_getK (j := 9) h_p rfl rfl rfl (by decide +kernel : TG 0 = 0) (by decide +kernel) ?_
  refine En_Ps 1 (pc' := 5) (lv' := [(0, .ref 0), (1, .int a), (2, .int b)]) (st' := [.int a, .ref p]) rfl ?_
  obtain ⟨z3, h2, h4, h5⟩ := WT_peekI hσ0 hp (by decide +kernel : FT 18 3 = (0, 0, 4)) (by decide +kernel)
  have t6 : Wv (2) = z3.toInt := KN_v hK (Or.inl (by decide)) (by omega) (by omega) (by rw [lcO_lt (by decide) (by decide), Nat.add_zero]) rfl h2
  refine En_callV rfl rfl rfl rfl rfl rfl rfl rfl hp (by decide +kernel) rfl (c_47x σ0 hσ0 p hp a z3 h2) (by decide) (by decide) (fun v8 σ9 h7 => ?_)
  obtain ⟨h10, h11, z13, rfl, h12⟩ := h7
  obtain rfl : σ0 = σ9 := Fr_nil h11
  have h14 := Imp_m h12.2.2.1
  have h15 := Imp_m h12.2.2.2.1
  have h16 := Imp_m h12.2.2.2.2.1
  have h17 := Imp_m h12.2.2.2.2.2
  refine En_iNe _ rfl rfl (fun h18 => ?_) (fun h18 => ?_)
  · have h19 := Imp_m h12.2.2.1 (by omega)
    have h20 := Imp_m h12.2.2.2.1 (by omega)
    have h21 := Imp_m h12.2.2.2.2.2 (by omega)
    refine En_Ps 1 (pc' := 15) (lv' := [(0, .ref 0), (1, .int a), (2, .int b)]) (st' := [.ref 0]) rfl ?_
    refine En_getK (j := 9) h_p rfl rfl rfl (by decide +kernel : TG 0 = 0) (by decide +kernel) ?_
    refine En_getR (j := 4) (g' := 19) (u := 0) rfl rfl rfl hp (by decide +kernel) hσ0 (by decide +kernel) (fun a23 h22 ha23 => ?_)
    have t24 : a23 = p + 1 := ref_uniq h22 (FXP_fr hP hX hF0 (by decide +kernel)).1
    refine En_Ps 1 (pc' := 22) (lv' := [(0, .ref 0), (1, .int a), (2, .int b)]) (st' := [.int a, .ref a23]) rfl ?_
    refine En_aald (g' := 28) (u := 0) rfl rfl ha23 (by decide +kernel) hσ0 (by omega) (lnI (by decide +kernel : LN _ = 4) (by omega)) (FTsgl (by decide +kernel)) (fun a26 h25 ha26 => ?_)
    have t27 : a26 = p + 10 + 4 * (a.toInt).toNat := DRe (d := a.toInt) (FXP_fr hP hX hF0 (by decide +kernel)) t24 h25 (by omega) (by omega)
    have t28 := lc_d (d := a.toInt) (by omega) (by omega)
    refine En_Ps 2 (pc' := 25) (lv' := [(3, .ref a26), (0, .ref 0), (1, .int a), (2, .int b)]) (st' := [.int b]) rfl ?_
    rcases (show b.toInt = 0 ∨ b.toInt = 1 ∨ b.toInt = 2 ∨ b.toInt = 3 ∨ b.toInt < 0 ∨ 3 < b.toInt by omega) with h29 | h29 | h29 | h29 | h29 | h29
    · refine En_swI (t := 56) (n := 0) rfl h29 rfl (by decide +kernel) ?_
      refine En_Ps 1 (pc' := 57) (lv' := [(3, .ref a26), (0, .ref 0), (1, .int a), (2, .int b)]) (st' := [.ref a26]) rfl ?_
      refine En_getI (j := 1) (l := 0) (u := 2) rfl rfl rfl ha26 (by decide +kernel) hσ0 (by decide +kernel) (fun z31 h30 h32 h33 => ?_)
      have t34 : Wv (10 + 4 * (a.toInt)) = z31.toInt := KN_v hK (Or.inr (Or.inl ⟨by omega, by omega, by omega⟩)) (by omega) (by omega) (by omega) (by omega) h30
      exact En_ret (v := some (.int z31)) rfl rfl rfl ⟨hσ0, hF0, z31, rfl, ⟨by omega, by omega, (by have e := doR_y (w := Wv) (d := a.toInt) (q := b.toInt) (by omega) (by omega) t34; omega)⟩⟩
    · refine En_swI (t := 61) (n := 1) rfl h29 rfl (by decide +kernel) ?_
      refine En_Ps 1 (pc' := 62) (lv' := [(3, .ref a26), (0, .ref 0), (1, .int a), (2, .int b)]) (st' := [.ref a26]) rfl ?_
      refine En_getI (j := 2) (l := 0) (u := 50) rfl rfl rfl ha26 (by decide +kernel) hσ0 (by decide +kernel) (fun z36 h35 h37 h38 => ?_)
      have t39 : Wv (11 + 4 * (a.toInt)) = z36.toInt := KN_v hK (Or.inr (Or.inl ⟨by omega, by omega, by omega⟩)) (by omega) (by omega) (by omega) (by omega) h35
      exact En_ret (v := some (.int z36)) rfl rfl rfl ⟨hσ0, hF0, z36, rfl, ⟨by omega, by omega, (by have e := doR_y (w := Wv) (d := a.toInt) (q := b.toInt) (by omega) (by omega) t39; omega)⟩⟩
    · refine En_swI (t := 66) (n := 2) rfl h29 rfl (by decide +kernel) ?_
      refine En_Ps 1 (pc' := 67) (lv' := [(3, .ref a26), (0, .ref 0), (1, .int a), (2, .int b)]) (st' := [.ref a26]) rfl ?_
      refine En_getR (j := 0) (g' := 20) (u := 0) rfl rfl rfl ha26 (by decide +kernel) hσ0 (by decide +kernel) (fun a41 h40 ha41 => ?_)
      have t42 : a41 = p + 11 + 4 * (a.toInt).toNat := DLc (d := a.toInt) (FXP_fr hP hX hF0 (by decide +kernel)) t27 h40 (by omega) (by omega)
      refine En_getI (j := 2) (l := 0) (u := 13) rfl rfl rfl ha41 (by decide +kernel) hσ0 (by decide +kernel) (fun z44 h43 h45 h46 => ?_)
      have t47 : Wv (12 + 4 * (a.toInt)) = z44.toInt := KN_v hK (Or.inr (Or.inl ⟨by omega, by omega, by omega⟩)) (by omega) (by omega) (by omega) (by omega) h43
      exact En_ret (v := some (.int z44)) rfl rfl rfl ⟨hσ0, hF0, z44, rfl, ⟨by omega, by omega, (by have e := doR_y (w := Wv) (d := a.toInt) (q := b.toInt) (by omega) (by omega) t47; omega)⟩⟩
    · refine En_swI (t := 74) (n := 3) rfl h29 rfl (by decide +kernel) ?_
      refine En_Ps 1 (pc' := 75) (lv' := [(3, .ref a26), (0, .ref 0), (1, .int a), (2, .int b)]) (st' := [.ref a26]) rfl ?_
      refine En_getI (j := 3) (l := (-1)) (u := 3) rfl rfl rfl ha26 (by decide +kernel) hσ0 (by decide +kernel) (fun z49 h48 h50 h51 => ?_)
      have t52 : Wv (13 + 4 * (a.toInt)) = z49.toInt := KN_v hK (Or.inr (Or.inl ⟨by omega, by omega, by omega⟩)) (by omega) (by omega) (by omega) (by omega) h48
      exact En_ret (v := some (.int z49)) rfl rfl rfl ⟨hσ0, hF0, z49, rfl, ⟨by omega, by omega, (by have e := doR_y (w := Wv) (d := a.toInt) (q := b.toInt) (by omega) (by omega) t52; omega)⟩⟩
    · refine En_swO (t := 79) rfl (by omega) rfl (by decide +kernel) ?_
      refine En_Ps 1 (pc' := 81) (lv' := [(3, .ref a26), (0, .ref 0), (1, .int a), (2, .int b)]) (st' := [.int (((Int8.ofInt (-2)).toInt32))]) rfl ?_
      refine En_top (by decide : ((Int8.ofInt (-2)).toInt32).toInt = -2) (fun z53 h54 => ?_)
      exact En_ret (v := some (.int z53)) rfl rfl rfl ⟨hσ0, hF0, z53, rfl, ⟨by omega, by omega, (by have e := doR_n (w := Wv) (d := a.toInt) (q := b.toInt) (by omega); omega)⟩⟩
    · refine En_swO (t := 79) rfl (by omega) rfl (by decide +kernel) ?_
      refine En_Ps 1 (pc' := 81) (lv' := [(3, .ref a26), (0, .ref 0), (1, .int a), (2, .int b)]) (st' := [.int (((Int8.ofInt (-2)).toInt32))]) rfl ?_
      refine En_top (by decide : ((Int8.ofInt (-2)).toInt32).toInt = -2) (fun z55 h56 => ?_)
      exact En_ret (v := some (.int z55)) rfl rfl rfl ⟨hσ0, hF0, z55, rfl, ⟨by omega, by omega, (by have e := doR_n (w := Wv) (d := a.toInt) (q := b.toInt) (by omega); omega)⟩⟩
  · have h57 := Imp_m h12.2.2.2.2.1 (by omega)
    refine En_Ps 1 (pc' := 13) (lv' := [(0, .ref 0), (1, .int a), (2, .int b)]) (st' := [.int (((Int8.ofInt (-2)).toInt32))]) rfl ?_
    refine En_top (by decide : ((Int8.ofInt (-2)).toInt32).toInt = -2) (fun z58 h59 => ?_)
    exact En_ret (v := some (.int z58)) rfl rfl rfl ⟨hσ0, hF0, z58, rfl, ⟨by omega, by omega, (by have e := doR_n (w := Wv) (d := a.toInt) (q := b.toInt) (by omega); omega)⟩⟩
/-- DoorSchool.end(I)I -/
abbrev P_118x (σ0 : SG) (a : Int32) (p : Nat) (sg : Int32) (m : Int32) : PO := fun v σ => WT σ ∧ Fr [(1, 1)] σ0 σ ∧ ∃ m1 : Int32, (σ 1)[1]? = some (.int m1) ∧ ∃ ret : Int32, v = some (.int ret) ∧ -ret.toInt - 1 ≤ 0 ∧ ret.toInt - 1600 ≤ 0 ∧ -m1.toInt ≤ 0 ∧ m1.toInt - 1600 ≤ 0 ∧ -m1.toInt + sg.toInt - 4 ≤ 0 ∧ m1.toInt - sg.toInt - 1600 ≤ 0 ∧ -m1.toInt + m.toInt - 1600 ≤ 0 ∧ m1.toInt - m.toInt ≤ 0 ∧ Imp (-a.toInt ≤ 0 ∧ a.toInt - m.toInt ≤ 0) (m1.toInt - a.toInt ≤ 0 ∧ -m1.toInt + a.toInt ≤ 0 ∧ ret.toInt - a.toInt ≤ 0 ∧ -ret.toInt + a.toInt ≤ 0) ∧ Imp (a.toInt + 1 ≤ 0) (m1.toInt - m.toInt ≤ 0 ∧ -m1.toInt + m.toInt ≤ 0 ∧ ret.toInt + 1 ≤ 0 ∧ -ret.toInt - 1 ≤ 0) ∧ Imp (m.toInt - a.toInt + 1 ≤ 0) (m1.toInt - m.toInt ≤ 0 ∧ -m1.toInt + m.toInt ≤ 0 ∧ ret.toInt + 1 ≤ 0 ∧ -ret.toInt - 1 ≤ 0)
set_option maxRecDepth 10000 in
set_option maxHeartbeats 4000000 in
theorem c_118x (σ0 : SG) (hσ0 : WT σ0) (a : Int32) (p : Nat) (hp : TG p = 18) (h_p : (σ0 0)[9]? = some (.ref p)) (sg : Int32) (h_sg : (σ0 p)[1]? = some (.int sg)) (m : Int32) (h_m : (σ0 1)[1]? = some (.int m)) (hp0 : -sg.toInt ≤ 0) : En 0 0 none mr_118 (P_118x σ0 a p sg m) 0 [(0, .ref 0), (1, .int a)] [] σ0 := by
  obtain ⟨hl_sg, hu_sg⟩ := WT_int hσ0 (g := 18) hp (by decide +kernel) (l := (-1)) (u := 4) (by decide +kernel) h_sg
  obtain ⟨hl_m, hu_m⟩ := WT_int hσ0 (g := 1) (by decide +kernel) (by decide +kernel) (l := 0) (u := 1600) (by decide +kernel) h_m
  have hF0 : Fr [(1, 1)] σ0 σ0 := Fr_rfl
  refine En_Ps 1 (pc' := 1) (lv' := [(0, .ref 0), (1, .int a)]) (st' := [.int a]) rfl ?_
  refine En_iLt _ rfl rfl (fun h1 => ?_) (fun h1 => ?_)
  · refine En_Ps 1 (pc' := 16) (lv' := [(0, .ref 0), (1, .int a)]) (st' := [.int ((Int32.ofInt (-1)))]) rfl ?_
    refine En_top (by decide : (Int32.ofInt (-1)).toInt = -1) (fun z2 h3 => ?_)
    exact En_ret (v := some (.int z2)) rfl rfl rfl ⟨hσ0, hF0, m, h_m, z2, rfl, ⟨by omega, by omega, by omega, by omega, by omega, by omega, by omega, by omega, fun _ => by omega, fun _ => by omega, fun _ => by omega⟩⟩
  · refine En_Ps 2 (pc' := 6) (lv' := [(0, .ref 0), (1, .int a)]) (st' := [.ref 0, .int a]) rfl ?_
    refine En_getU (j := 0) (u := 1) (g' := 1) (q := 0) rfl rfl rfl (by decide +kernel : TG 0 = 0) (by decide +kernel) hσ0 (by decide +kernel) (by decide +kernel) (fun h4 => ?_)
    refine En_getK (j := 1) h_m rfl rfl rfl (by decide +kernel : TG 1 = 1) (by decide +kernel) ?_
    refine En_icLe _ rfl rfl rfl (fun h6 => ?_) (fun h6 => ?_)
    · refine En_Ps 1 (pc' := 18) (lv' := [(0, .ref 0), (1, .int a)]) (st' := [.ref 0]) rfl ?_
      refine En_getK (j := 0) h4 rfl rfl rfl (by decide +kernel : TG 0 = 0) (by decide +kernel) ?_
      refine En_Ps 1 (pc' := 22) (lv' := [(0, .ref 0), (1, .int a)]) (st' := [.int a, .ref 1]) rfl ?_
      refine En_put (j := 1) rfl rfl rfl (by decide +kernel : TG 1 = 1) (by decide +kernel) rfl (vI (l := 0) (u := 1600) (by decide +kernel) rfl (by omega) (by omega)) hσ0 hF0 (by decide +kernel) (fun σ7 h8 h9 h10 h11 => ?_)
      refine En_Ps 1 (pc' := 26) (lv' := [(0, .ref 0), (1, .int a)]) (st' := [.int a]) rfl ?_
      exact En_ret (v := some (.int a)) rfl rfl rfl ⟨h8, h9, a, h10, a, rfl, ⟨by omega, by omega, by omega, by omega, by omega, by omega, by omega, by omega, fun _ => by omega, fun _ => by omega, fun _ => by omega⟩⟩
    · refine En_Ps 1 (pc' := 16) (lv' := [(0, .ref 0), (1, .int a)]) (st' := [.int ((Int32.ofInt (-1)))]) rfl ?_
      refine En_top (by decide : (Int32.ofInt (-1)).toInt = -1) (fun z12 h13 => ?_)
      exact En_ret (v := some (.int z12)) rfl rfl rfl ⟨hσ0, hF0, m, h_m, z12, rfl, ⟨by omega, by omega, by omega, by omega, by omega, by omega, by omega, by omega, fun _ => by omega, fun _ => by omega, fun _ => by omega⟩⟩
/-- DoorSchool.isZeroOrOne(I)Z -/
abbrev P_149x (σ0 : SG) (a : Int32) : PO := fun v σ => WT σ ∧ Fr [] σ0 σ ∧ ∃ ret : Int32, v = some (.int ret) ∧ -ret.toInt ≤ 0 ∧ ret.toInt - 1 ≤ 0 ∧ Imp (ret.toInt - 1 ≤ 0 ∧ -ret.toInt + 1 ≤ 0) (-a.toInt ≤ 0 ∧ a.toInt - 1 ≤ 0) ∧ ((ret.toInt = 1 ∧ (a.toInt = 0 ∨ a.toInt = 1)) ∨ (ret.toInt = 0 ∧ a.toInt ≠ 0 ∧ a.toInt ≠ 1))
set_option maxRecDepth 10000 in
set_option maxHeartbeats 4000000 in
theorem c_149x (σ0 : SG) (hσ0 : WT σ0) (a : Int32) : En 0 0 none mr_149 (P_149x σ0 a) 0 [(0, .int a)] [] σ0 := by
  have hF0 : Fr [] σ0 σ0 := Fr_rfl
  refine En_Ps 1 (pc' := 1) (lv' := [(0, .int a)]) (st' := [.int a]) rfl ?_
  refine En_iEq _ rfl rfl (fun h1 => ?_) (fun h1 => ?_)
  · refine En_Ps 2 (pc' := 14) (lv' := [(0, .int a)]) (st' := [.int ((Int32.ofInt 1))]) rfl ?_
    refine En_top (by decide : (Int32.ofInt 1).toInt = 1) (fun z2 h3 => ?_)
    exact En_ret (v := some (.int z2)) rfl rfl (retZ rfl rfl (by omega) (by omega)) ⟨hσ0, hF0, z2, rfl, ⟨by omega, by omega, fun _ => by omega, (by omega)⟩⟩
  · refine En_Ps 2 (pc' := 6) (lv' := [(0, .int a)]) (st' := [.int ((Int32.ofInt 1)), .int a]) rfl ?_
    refine En_icNe _ rfl (by decide : (Int32.ofInt 1).toInt = 1) rfl (fun h4 => ?_) (fun h4 => ?_)
    · refine En_Ps 1 (pc' := 14) (lv' := [(0, .int a)]) (st' := [.int ((Int32.ofInt 0))]) rfl ?_
      refine En_top (by decide : (Int32.ofInt 0).toInt = 0) (fun z5 h6 => ?_)
      exact En_ret (v := some (.int z5)) rfl rfl (retZ rfl rfl (by omega) (by omega)) ⟨hσ0, hF0, z5, rfl, ⟨by omega, by omega, fun _ => by omega, (by omega)⟩⟩
    · refine En_Ps 2 (pc' := 14) (lv' := [(0, .int a)]) (st' := [.int ((Int32.ofInt 1))]) rfl ?_
      refine En_top (by decide : (Int32.ofInt 1).toInt = 1) (fun z7 h8 => ?_)
      exact En_ret (v := some (.int z7)) rfl rfl (retZ rfl rfl (by omega) (by omega)) ⟨hσ0, hF0, z7, rfl, ⟨by omega, by omega, fun _ => by omega, (by omega)⟩⟩
/-- DoorSchool.exam(II)I -/
abbrev P_120x (σ0 : SG) (Wv : Int → Int) (a : Int32) (b : Int32) (p : Nat) (sg : Int32) : PO := fun v σ => WT σ ∧ Fr [] σ0 σ ∧ ∃ ret : Int32, v = some (.int ret) ∧ -ret.toInt - 2 ≤ 0 ∧ ret.toInt - 15 ≤ 0 ∧ ret.toInt = exR Wv a.toInt b.toInt
set_option maxRecDepth 10000 in
set_option maxHeartbeats 4000000 in
theorem c_120x {Wv : Int → Int} (σ0 : SG) (hσ0 : WT σ0) (a : Int32) (b : Int32) (p : Nat) (hp : TG p = 18) (h_p : (σ0 0)[9]? = some (.ref p)) (sg : Int32) (h_sg : (σ0 p)[1]? = some (.int sg)) (hp0 : -sg.toInt ≤ 0) (hP : PLA p) (hX : FXP σ0 p) (hK : KN σ0 p Wv (act Wv)) (hB : WFw Wv) : En 1 20 none mr_120 (P_120x σ0 Wv a b p sg) 0 [(0, .ref 0), (1, .int a), (2, .int b)] [] σ0 := by
  obtain ⟨hl_sg, hu_sg⟩ := WT_int hσ0 (g := 18) hp (by decide +kernel) (l := (-1)) (u := 4) (by decide +kernel) h_sg
  have hF0 : Fr [] σ0 σ0 := Fr_rfl
  have t1 : Wv (0) = sg.toInt := KN_v hK (Or.inl (by decide)) (by omega) (by omega) (by rw [lcO_lt (by decide) (by decide), Nat.add_zero]) rfl h_sg
  have h2 := hB.2.2.2.1
  refine En_Ps 1 (pc' := 1) (lv' := [(0, .ref 0), (1, .int a), (2, .int b)]) (st' := [.int a]) rfl ?_
  refine En_iLt _ rfl rfl (fun h3 => ?_) (fun h3 => ?_)
  · refine En_Ps 1 (pc' := 27) (lv' := [(0, .ref 0), (1, .int a), (2, .int b)]) (st' := [.int (((Int8.ofInt (-2)).toInt32))]) rfl ?_
    refine En_top (by decide : ((Int8.ofInt (-2)).toInt32).toInt = -2) (fun z4 h5 => ?_)
    exact En_ret (v := some (.int z4)) rfl rfl rfl ⟨hσ0, hF0, z4, rfl, ⟨by omega, by omega, (by have e := exR_n (w := Wv) (d := a.toInt) (q := b.toInt) (by omega); omega)⟩⟩
  · refine En_Ps 2 (pc' := 6) (lv' := [(0, .ref 0), (1, .int a), (2, .int b)]) (st' := [.ref 0, .int a]) rfl ?_
    refine En_getK (j := 9) h_p rfl rfl rfl (by decide +kernel : TG 0 = 0) (by decide +kernel) ?_
    refine En_getR (j := 5) (g' := 20) (u := 0) rfl rfl rfl hp (by decide +kernel) hσ0 (by decide +kernel) (fun a7 h6 ha7 => ?_)
    have t8 : a7 = p + 2 := ref_uniq h6 (FXP_fr hP hX hF0 (by decide +kernel)).2.1
    refine En_getI (j := 2) (l := 0) (u := 13) rfl rfl rfl ha7 (by decide +kernel) hσ0 (by decide +kernel) (fun z10 h9 h11 h12 => ?_)
    have t13 : Wv (3) = z10.toInt := KN_v hK (Or.inl (by decide)) (by omega) (by omega) (by rw [lcO_3]; omega) (by decide) h9
    refine En_icGe _ rfl rfl rfl (fun h14 => ?_) (fun h14 => ?_)
    · refine En_Ps 1 (pc' := 27) (lv' := [(0, .ref 0), (1, .int a), (2, .int b)]) (st' := [.int (((Int8.ofInt (-2)).toInt32))]) rfl ?_
      refine En_top (by decide : ((Int8.ofInt (-2)).toInt32).toInt = -2) (fun z15 h16 => ?_)
      exact En_ret (v := some (.int z15)) rfl rfl rfl ⟨hσ0, hF0, z15, rfl, ⟨by omega, by omega, (by have e := exR_n (w := Wv) (d := a.toInt) (q := b.toInt) (by omega); omega)⟩⟩
    · refine En_Ps 1 (pc' := 19) (lv' := [(0, .ref 0), (1, .int a), (2, .int b)]) (st' := [.int b]) rfl ?_
      refine En_callS rfl rfl rfl rfl rfl rfl rfl rfl rfl (c_149x σ0 hσ0 b) (by decide) (by decide) (fun v18 σ19 h17 => ?_)
      obtain ⟨h20, h21, z23, rfl, h22⟩ := h17
      have h24 := h22.2.2.2
      obtain rfl : σ0 = σ19 := Fr_nil h21
      have h25 := Imp_m h22.2.2.1
      refine En_iNe _ rfl rfl (fun h26 => ?_) (fun h26 => ?_)
      · have h27 := Imp_m h22.2.2.1 (by omega)
        refine En_Ps 1 (pc' := 29) (lv' := [(0, .ref 0), (1, .int a), (2, .int b)]) (st' := [.int b]) rfl ?_
        refine En_iNe _ rfl rfl (fun h28 => ?_) (fun h28 => ?_)
        · refine En_Ps 1 (pc' := 48) (lv' := [(0, .ref 0), (1, .int a), (2, .int b)]) (st' := [.ref 0]) rfl ?_
          refine En_getK (j := 9) h_p rfl rfl rfl (by decide +kernel : TG 0 = 0) (by decide +kernel) ?_
          refine En_getK (j := 5) h6 rfl rfl rfl hp (by decide +kernel) ?_
          refine En_getR (j := 1) (g' := 22) (u := 0) rfl rfl rfl ha7 (by decide +kernel) hσ0 (by decide +kernel) (fun a30 h29 ha30 => ?_)
          have t31 : a30 = p + 4 := EKo (FXP_fr hP hX hF0 (by decide +kernel)) t8 h29
          refine En_Ps 1 (pc' := 58) (lv' := [(0, .ref 0), (1, .int a), (2, .int b)]) (st' := [.int a, .ref a30]) rfl ?_
          refine En_iald (l := 0) (u := 1) rfl rfl ha30 (by decide +kernel) hσ0 (by omega) (lnI (by decide +kernel : LN _ = 13) (by omega)) (FTsgl (by decide +kernel)) (fun z33 h32 h34 h35 => ?_)
          have t36 := lc_e (m := a.toInt) (by omega) (by omega)
          have t37 : Wv (122 + 2 * (a.toInt) + 1) = z33.toInt := KN_v hK (Or.inr (Or.inr (Or.inr (Or.inl ⟨by omega, by omega, by omega⟩)))) (by omega) (by omega) (by omega) (by omega) h32
          exact En_ret (v := some (.int z33)) rfl rfl rfl ⟨hσ0, hF0, z33, rfl, ⟨by omega, by omega, (by have e := exR_y (w := Wv) (d := a.toInt) (q := b.toInt) (by omega) (by omega) t37; omega)⟩⟩
        · refine En_Ps 1 (pc' := 33) (lv' := [(0, .ref 0), (1, .int a), (2, .int b)]) (st' := [.ref 0]) rfl ?_
          refine En_getK (j := 9) h_p rfl rfl rfl (by decide +kernel : TG 0 = 0) (by decide +kernel) ?_
          refine En_getK (j := 5) h6 rfl rfl rfl hp (by decide +kernel) ?_
          refine En_getR (j := 0) (g' := 21) (u := 0) rfl rfl rfl ha7 (by decide +kernel) hσ0 (by decide +kernel) (fun a39 h38 ha39 => ?_)
          have t40 : a39 = p + 3 := EKk (FXP_fr hP hX hF0 (by decide +kernel)) t8 h38
          refine En_Ps 1 (pc' := 43) (lv' := [(0, .ref 0), (1, .int a), (2, .int b)]) (st' := [.int a, .ref a39]) rfl ?_
          refine En_iald (l := 0) (u := 15) rfl rfl ha39 (by decide +kernel) hσ0 (by omega) (lnI (by decide +kernel : LN _ = 13) (by omega)) (FTsgl (by decide +kernel)) (fun z42 h41 h43 h44 => ?_)
          have t45 := lc_e (m := a.toInt) (by omega) (by omega)
          have t46 : Wv (122 + 2 * (a.toInt)) = z42.toInt := KN_v hK (Or.inr (Or.inr (Or.inr (Or.inl ⟨by omega, by omega, by omega⟩)))) (by omega) (by omega) (by omega) (by omega) h41
          refine En_Ps 1 (pc' := 59) (lv' := [(0, .ref 0), (1, .int a), (2, .int b)]) (st' := [.int z42]) rfl ?_
          exact En_ret (v := some (.int z42)) rfl rfl rfl ⟨hσ0, hF0, z42, rfl, ⟨by omega, by omega, (by have e := exR_y (w := Wv) (d := a.toInt) (q := b.toInt) (by omega) (by omega) t46; omega)⟩⟩
      · refine En_Ps 1 (pc' := 27) (lv' := [(0, .ref 0), (1, .int a), (2, .int b)]) (st' := [.int (((Int8.ofInt (-2)).toInt32))]) rfl ?_
        refine En_top (by decide : ((Int8.ofInt (-2)).toInt32).toInt = -2) (fun z47 h48 => ?_)
        exact En_ret (v := some (.int z47)) rfl rfl rfl ⟨hσ0, hF0, z47, rfl, ⟨by omega, by omega, (by have e := exR_n (w := Wv) (d := a.toInt) (q := b.toInt) (by omega); omega)⟩⟩

