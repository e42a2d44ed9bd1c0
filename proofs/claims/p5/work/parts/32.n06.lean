/-- DoorSchool.back(I)I -/
abbrev P_105x (σ0 : SG) (a : Int32) (p : Nat) (sg : Int32) (p2 : Nat) : PO := fun v σ => WT σ ∧ Fr [(4, 0), (4, 1), (5, 0), (6, 0), (7, 0), (18, 0), (18, 1), (18, 2), (18, 3), (18, 6), (18, 7), (18, 8), (18, 11), (18, 14), (20, 2), (21, 0), (22, 0), (23, 0), (24, 0), (25, 0), (26, 0), (27, 0), (28, 1), (28, 2), (28, 3)] σ0 σ ∧ ∃ ret : Int32, v = some (.int ret) ∧ -ret.toInt - 6 ≤ 0 ∧ ret.toInt ≤ 0 ∧ INVc σ
set_option maxRecDepth 10000 in
set_option maxHeartbeats 4000000 in
theorem c_105x (σ0 : SG) (hσ0 : WT σ0) (a : Int32) (p : Nat) (hp : TG p = 18) (h_p : (σ0 0)[9]? = some (.ref p)) (sg : Int32) (h_sg : (σ0 p)[1]? = some (.int sg)) (p2 : Nat) (hp2 : TG p2 = 18) (h_p2 : (σ0 0)[10]? = some (.ref p2)) (hp0 : -sg.toInt ≤ 0) (hne : p ≠ p2) : En 4 124 none mr_105 (P_105x σ0 a p sg p2) 0 [(0, .ref 0), (1, .int a)] [] σ0 := by
  obtain ⟨hl_sg, hu_sg⟩ := WT_int hσ0 (g := 18) hp (by decide +kernel) (l := (-1)) (u := 4) (by decide +kernel) h_sg
  have hF0 : Fr [(4, 0), (4, 1), (5, 0), (6, 0), (7, 0), (18, 0), (18, 1), (18, 2), (18, 3), (18, 6), (18, 7), (18, 8), (18, 11), (18, 14), (20, 2), (21, 0), (22, 0), (23, 0), (24, 0), (25, 0), (26, 0), (27, 0), (28, 1), (28, 2), (28, 3)] σ0 σ0 := Fr_rfl
  refine En_Ps 1 (pc' := 1) (lv' := [(0, .ref 0), (1, .int a)]) (st' := [.int a]) rfl ?_
  refine En_iLt _ rfl rfl (fun h1 => ?_) (fun h1 => ?_)
  · refine En_Ps 1 (pc' := 11) (lv' := [(0, .ref 0), (1, .int a)]) (st' := [.int (((Int8.ofInt (-2)).toInt32))]) rfl ?_
    refine En_top (by decide : ((Int8.ofInt (-2)).toInt32).toInt = -2) (fun z2 h3 => ?_)
    exact En_ret (v := some (.int z2)) rfl rfl rfl ⟨hσ0, hF0, z2, rfl, ⟨by omega, by omega, ⟨p, p2, sg, hp, hp2, h_p, h_p2, hne, h_sg, (by omega)⟩⟩⟩
  · refine En_Ps 2 (pc' := 6) (lv' := [(0, .ref 0), (1, .int a)]) (st' := [.int ((Int32.ofInt 3)), .int a]) rfl ?_
    refine En_icLt _ rfl (by decide : (Int32.ofInt 3).toInt = 3) rfl (fun h4 => ?_) (fun h4 => ?_)
    · refine En_Ps 1 (pc' := 13) (lv' := [(0, .ref 0), (1, .int a)]) (st' := [.ref 0]) rfl ?_
      refine En_getU (j := 8) (u := 71) (g' := 30) (q := 0) rfl rfl rfl (by decide +kernel : TG 0 = 0) (by decide +kernel) hσ0 (by decide +kernel) (by decide +kernel) (fun h5 => ?_)
      refine En_Ps 1 (pc' := 17) (lv' := [(0, .ref 0), (1, .int a)]) (st' := [.int a, .ref 71]) rfl ?_
      refine En_bald (l := 0) (u := 1) rfl rfl (by decide +kernel : TG 71 = 30) (by decide +kernel) hσ0 (by omega) (lnI (by decide +kernel : LN _ = 3) (by omega)) (FTsgl (by decide +kernel)) (fun z8 h7 h9 h10 => ?_)
      refine En_iNe _ rfl rfl (fun h11 => ?_) (fun h11 => ?_)
      · refine En_Ps 1 (pc' := 25) (lv' := [(0, .ref 0), (1, .int a)]) (st' := [.ref 0]) rfl ?_
        refine En_getK (j := 9) h_p rfl rfl rfl (by decide +kernel : TG 0 = 0) (by decide +kernel) ?_
        refine En_Ps 1 (pc' := 29) (lv' := [(0, .ref 0), (1, .int a)]) (st' := [.ref 0, .ref p]) rfl ?_
        refine En_getU (j := 7) (u := 70) (g' := 29) (q := 0) rfl rfl rfl (by decide +kernel : TG 0 = 0) (by decide +kernel) hσ0 (by decide +kernel) (by decide +kernel) (fun h12 => ?_)
        refine En_Ps 1 (pc' := 33) (lv' := [(0, .ref 0), (1, .int a)]) (st' := [.int a, .ref 70, .ref p]) rfl ?_
        refine En_aald (g' := 31) (u := 0) rfl rfl (by decide +kernel : TG 70 = 29) (by decide +kernel) hσ0 (by omega) (lnI (by decide +kernel : LN _ = 3) (by omega)) (FTsgl (by decide +kernel)) (fun a15 h14 ha15 => ?_)
        refine En_callV rfl rfl rfl rfl rfl rfl rfl rfl hp (by decide +kernel) rfl (c_53b σ0 hσ0 p hp a15 ha15) (by decide) (by decide) (fun v17 σ18 h16 => ?_)
        obtain ⟨h19, h20, z22, h23, rfl, h21⟩ := h16
        have h24 := Fr_trans hF0 h20 (by decide +kernel)
        refine En_Ps 1 (pc' := 38) (lv' := [(0, .ref 0), (1, .int a)]) (st' := [.ref 0]) rfl ?_
        refine En_getU (j := 2) (u := 4) (g' := 4) (q := 0) rfl rfl rfl (by decide +kernel : TG 0 = 0) (by decide +kernel) h19 (by decide +kernel) (by decide +kernel) (fun h25 => ?_)
        refine En_Ps 1 (pc' := 42) (lv' := [(0, .ref 0), (1, .int a)]) (st' := [.ref 0, .ref 4]) rfl ?_
        refine En_getK (j := 9) ((h20 _ _ (inW (by decide +kernel : TG 0 = 0) (by decide +kernel))).trans h_p) rfl rfl rfl (by decide +kernel : TG 0 = 0) (by decide +kernel) ?_
        refine En_getK (j := 1) h23 rfl rfl rfl hp (by decide +kernel) ?_
        refine En_callV rfl rfl rfl rfl rfl rfl rfl rfl (by decide +kernel : TG 4 = 4) (by decide +kernel) rfl (c_82 σ18 h19 z22 (geI rfl (by omega)) (leI rfl (by omega))) (by decide) (by decide) (fun v28 σ29 h27 => ?_)
        obtain ⟨h30, h31, rfl, h32⟩ := h27
        have h33 := Fr_trans h24 h31 (by decide +kernel)
        refine En_Ps 1 (pc' := 52) (lv' := [(0, .ref 0), (1, .int a)]) (st' := [.int ((Int32.ofInt 0))]) rfl ?_
        refine En_top (by decide : (Int32.ofInt 0).toInt = 0) (fun z34 h35 => ?_)
        exact En_ret (v := some (.int z34)) rfl rfl rfl ⟨h30, h33, z34, rfl, ⟨by omega, by omega, ⟨p, p2, z22, hp, hp2, ((h31 _ _ (inW (by decide +kernel : TG 0 = 0) (by decide +kernel))).trans ((h20 _ _ (inW (by decide +kernel : TG 0 = 0) (by decide +kernel))).trans h_p)), ((h31 _ _ (inW (by decide +kernel : TG 0 = 0) (by decide +kernel))).trans ((h20 _ _ (inW (by decide +kernel : TG 0 = 0) (by decide +kernel))).trans h_p2)), hne, ((h31 _ _ (inW hp (by decide +kernel))).trans h23), (by omega)⟩⟩⟩
      · refine En_Ps 1 (pc' := 23) (lv' := [(0, .ref 0), (1, .int a)]) (st' := [.int (((Int8.ofInt (-6)).toInt32))]) rfl ?_
        refine En_top (by decide : ((Int8.ofInt (-6)).toInt32).toInt = -6) (fun z36 h37 => ?_)
        exact En_ret (v := some (.int z36)) rfl rfl rfl ⟨hσ0, hF0, z36, rfl, ⟨by omega, by omega, ⟨p, p2, sg, hp, hp2, h_p, h_p2, hne, h_sg, (by omega)⟩⟩⟩
    · refine En_Ps 1 (pc' := 11) (lv' := [(0, .ref 0), (1, .int a)]) (st' := [.int (((Int8.ofInt (-2)).toInt32))]) rfl ?_
      refine En_top (by decide : ((Int8.ofInt (-2)).toInt32).toInt = -2) (fun z38 h39 => ?_)
      exact En_ret (v := some (.int z38)) rfl rfl rfl ⟨hσ0, hF0, z38, rfl, ⟨by omega, by omega, ⟨p, p2, sg, hp, hp2, h_p, h_p2, hne, h_sg, (by omega)⟩⟩⟩
/-- DoorSchool.end(I)I -/
abbrev P_118x (σ0 : SG) (a : Int32) (p : Nat) (sg : Int32) (m : Int32) : PO := fun v σ => WT σ ∧ Fr [(1, 1)] σ0 σ ∧ ∃ m1 : Int32, (σ 1)[1]? = some (.int m1) ∧ ∃ ret : Int32, v = some (.int ret) ∧ -ret.toInt - 1 ≤ 0 ∧ ret.toInt - 1600 ≤ 0 ∧ -m1.toInt ≤ 0 ∧ m1.toInt - 1600 ≤ 0 ∧ -m1.toInt + sg.toInt - 4 ≤ 0 ∧ m1.toInt - sg.toInt - 1600 ≤ 0 ∧ -m1.toInt + m.toInt - 1600 ≤ 0 ∧ m1.toInt - m.toInt ≤ 0 ∧ Imp (-a.toInt ≤ 0 ∧ a.toInt - m.toInt ≤ 0) (m1.toInt - a.toInt ≤ 0 ∧ -m1.toInt + a.toInt ≤ 0 ∧ ret.toInt - a.toInt ≤ 0 ∧ -ret.toInt + a.toInt ≤ 0) ∧ Imp (a.toInt + 1 ≤ 0) (m1.toInt - m.toInt ≤ 0 ∧ -m1.toInt + m.toInt ≤ 0 ∧ ret.toInt + 1 ≤ 0 ∧ -ret.toInt - 1 ≤ 0) ∧ Imp (m.toInt - a.toInt + 1 ≤ 0) (m1.toInt - m.toInt ≤ 0 ∧ -m1.toInt + m.toInt ≤ 0 ∧ ret.toInt + 1 ≤ 0 ∧ -ret.toInt - 1 ≤ 0)
set_option maxRecDepth 10000 in
set_option maxHeartbeats 4000000 in
theorem c_118x (σ0 : SG) (hσ0 : WT σ0) (a : Int32) (p : Nat) (hp : TG p = 18) (h_p : (σ0 0)[9]? = some (.ref p)) (sg : Int32) (h_sg : (σ0 p)[1]? = some (.int sg)) (m : Int32) (h_m : (σ0 1)[1]? = some (.int m)) (hp0 : -sg.toInt ≤ 0) : En 0 0 none mr_118 (P_118x σ0 a p sg m) 0 [(0, .ref 0), (1, .int a)] [] σ0 := by
  obtain ⟨hl_sg, hu_sg⟩ := WT_int hσ0 (g := 18) hp (by decide +kernel) (l := (-1)) (u := 4) (by decide +kernel) h_sg
  obtain ⟨hl_m, hu_m⟩ := WT_int hσ0 (g := 1) (by decide +kernel) (by decide +kernel) (l := 0) (u := 1600) (by decide +kernel) h_m
  have hF0 : Fr [(1, 1)] σ0 σ0 := Fr_rfl
  refine En_Ps 1 (pc' := 1) (lv' := [(0, .ref 0), (1, .int a)]) (st' := [.int a]) rfl ?_
  refine En_iLt _ rfl rfl (fun h1 => ?_) (fun h1 => ?_)
  · refine En_Ps 1 (pc' := 16) (lv' := [(0, .ref 0), (1, .int a)]) (st' := [.int ((Int32.ofInt (-1)))]) rfl ?_
    refine En_top (by decide : (Int32.ofInt (-1)).toInt = -1) (fun z2 h3 => ?_)
    exact En_ret (v := some (.int z2)) rfl rfl rfl ⟨hσ0, hF0, m, h_m, z2, rfl, ⟨by omega, by omega, by omega, by omega, by omega, by omega, by omega, by omega, fun _ => by omega, fun _ => by omega, fun _ => by omega⟩⟩
  · refine En_Ps 2 (pc' := 6) (lv' := [(0, .ref 0), (1, .int a)]) (st' := [.ref 0, .int a]) rfl ?_
    refine En_getU (j := 0) (u := 1) (g' := 1) (q := 0) rfl rfl rfl (by decide +kernel : TG 0 = 0) (by decide +kernel) hσ0 (by decide +kernel) (by decide +kernel) (fun h4 => ?_)
    refine En_getK (j := 1) h_m rfl rfl rfl (by decide +kernel : TG 1 = 1) (by decide +kernel) ?_
    refine En_icLe _ rfl rfl rfl (fun h6 => ?_) (fun h6 => ?_)
    · refine En_Ps 1 (pc' := 18) (lv' := [(0, .ref 0), (1, .int a)]) (st' := [.ref 0]) rfl ?_
      refine En_getK (j := 0) h4 rfl rfl rfl (by decide +kernel : TG 0 = 0) (by decide +kernel) ?_
      refine En_Ps 1 (pc' := 22) (lv' := [(0, .ref 0), (1, .int a)]) (st' := [.int a, .ref 1]) rfl ?_
      refine En_put (j := 1) rfl rfl rfl (by decide +kernel : TG 1 = 1) (by decide +kernel) rfl (vI (l := 0) (u := 1600) (by decide +kernel) rfl (by omega) (by omega)) hσ0 hF0 (by decide +kernel) (fun σ7 h8 h9 h10 h11 => ?_)
      refine En_Ps 1 (pc' := 26) (lv' := [(0, .ref 0), (1, .int a)]) (st' := [.int a]) rfl ?_
      exact En_ret (v := some (.int a)) rfl rfl rfl ⟨h8, h9, a, h10, a, rfl, ⟨by omega, by omega, by omega, by omega, by omega, by omega, by omega, by omega, fun _ => by omega, fun _ => by omega, fun _ => by omega⟩⟩
    · refine En_Ps 1 (pc' := 16) (lv' := [(0, .ref 0), (1, .int a)]) (st' := [.int ((Int32.ofInt (-1)))]) rfl ?_
      refine En_top (by decide : (Int32.ofInt (-1)).toInt = -1) (fun z12 h13 => ?_)
      exact En_ret (v := some (.int z12)) rfl rfl rfl ⟨hσ0, hF0, m, h_m, z12, rfl, ⟨by omega, by omega, by omega, by omega, by omega, by omega, by omega, by omega, fun _ => by omega, fun _ => by omega, fun _ => by omega⟩⟩
/-- DoorSchool.fault(I)I -/
abbrev P_121x (σ0 : SG) (a : Int32) (p : Nat) (sg : Int32) (fk : Int32) (fp : Int32) : PO := fun v σ => WT σ ∧ Fr [] σ0 σ ∧ ∃ ret : Int32, v = some (.int ret) ∧ -ret.toInt - 1 ≤ 0 ∧ ret.toInt - 1600 ≤ 0 ∧ Imp (a.toInt ≤ 0 ∧ -a.toInt ≤ 0) (ret.toInt - fk.toInt ≤ 0 ∧ -ret.toInt + fk.toInt ≤ 0) ∧ Imp (a.toInt - 1 ≤ 0 ∧ -a.toInt + 1 ≤ 0) (ret.toInt - fp.toInt ≤ 0 ∧ -ret.toInt + fp.toInt ≤ 0) ∧ Imp (a.toInt + 1 ≤ 0) (ret.toInt + 1 ≤ 0 ∧ -ret.toInt - 1 ≤ 0) ∧ Imp (-a.toInt + 2 ≤ 0) (ret.toInt + 1 ≤ 0 ∧ -ret.toInt - 1 ≤ 0)
set_option maxRecDepth 10000 in
set_option maxHeartbeats 4000000 in
theorem c_121x (σ0 : SG) (hσ0 : WT σ0) (a : Int32) (p : Nat) (hp : TG p = 18) (h_p : (σ0 0)[9]? = some (.ref p)) (sg : Int32) (h_sg : (σ0 p)[1]? = some (.int sg)) (fk : Int32) (h_fk : (σ0 3)[5]? = some (.int fk)) (fp : Int32) (h_fp : (σ0 3)[6]? = some (.int fp)) (hp0 : -sg.toInt ≤ 0) : En 0 0 none mr_121 (P_121x σ0 a p sg fk fp) 0 [(0, .ref 0), (1, .int a)] [] σ0 := by
  obtain ⟨hl_sg, hu_sg⟩ := WT_int hσ0 (g := 18) hp (by decide +kernel) (l := (-1)) (u := 4) (by decide +kernel) h_sg
  obtain ⟨hl_fk, hu_fk⟩ := WT_int hσ0 (g := 3) (by decide +kernel) (by decide +kernel) (l := 0) (u := 3) (by decide +kernel) h_fk
  obtain ⟨hl_fp, hu_fp⟩ := WT_int hσ0 (g := 3) (by decide +kernel) (by decide +kernel) (l := (-1)) (u := 1600) (by decide +kernel) h_fp
  have hF0 : Fr [] σ0 σ0 := Fr_rfl
  refine En_Ps 1 (pc' := 1) (lv' := [(0, .ref 0), (1, .int a)]) (st' := [.int a]) rfl ?_
  refine En_iNe _ rfl rfl (fun h1 => ?_) (fun h1 => ?_)
  · refine En_Ps 2 (pc' := 14) (lv' := [(0, .ref 0), (1, .int a)]) (st' := [.int ((Int32.ofInt 1)), .int a]) rfl ?_
    refine En_icNe _ rfl (by decide : (Int32.ofInt 1).toInt = 1) rfl (fun h2 => ?_) (fun h2 => ?_)
    · refine En_Ps 1 (pc' := 28) (lv' := [(0, .ref 0), (1, .int a)]) (st' := [.int ((Int32.ofInt (-1)))]) rfl ?_
      refine En_top (by decide : (Int32.ofInt (-1)).toInt = -1) (fun z3 h4 => ?_)
      exact En_ret (v := some (.int z3)) rfl rfl rfl ⟨hσ0, hF0, z3, rfl, ⟨by omega, by omega, fun _ => by omega, fun _ => by omega, fun _ => by omega, fun _ => by omega⟩⟩
    · refine En_Ps 1 (pc' := 18) (lv' := [(0, .ref 0), (1, .int a)]) (st' := [.ref 0]) rfl ?_
      refine En_getU (j := 1) (u := 3) (g' := 3) (q := 0) rfl rfl rfl (by decide +kernel : TG 0 = 0) (by decide +kernel) hσ0 (by decide +kernel) (by decide +kernel) (fun h5 => ?_)
      refine En_getK (j := 6) h_fp rfl rfl rfl (by decide +kernel : TG 3 = 3) (by decide +kernel) ?_
      refine En_Ps 1 (pc' := 28) (lv' := [(0, .ref 0), (1, .int a)]) (st' := [.int fp]) rfl ?_
      exact En_ret (v := some (.int fp)) rfl rfl rfl ⟨hσ0, hF0, fp, rfl, ⟨by omega, by omega, fun _ => by omega, fun _ => by omega, fun _ => by omega, fun _ => by omega⟩⟩
  · refine En_Ps 1 (pc' := 5) (lv' := [(0, .ref 0), (1, .int a)]) (st' := [.ref 0]) rfl ?_
    refine En_getU (j := 1) (u := 3) (g' := 3) (q := 0) rfl rfl rfl (by decide +kernel : TG 0 = 0) (by decide +kernel) hσ0 (by decide +kernel) (by decide +kernel) (fun h7 => ?_)
    refine En_getK (j := 5) h_fk rfl rfl rfl (by decide +kernel : TG 3 = 3) (by decide +kernel) ?_
    exact En_ret (v := some (.int fk)) rfl rfl rfl ⟨hσ0, hF0, fk, rfl, ⟨by omega, by omega, fun _ => by omega, fun _ => by omega, fun _ => by omega, fun _ => by omega⟩⟩
/-- DoorSchool.feed(IIIII)I -/
abbrev P_122x (σ0 : SG) (a : Int32) (b : Int32) (c : Int32) (d : Int32) (e : Int32) (p : Nat) (sg : Int32) (m : Int32) : PO := fun v σ => WT σ ∧ Fr [(1, 1), (2, 0)] σ0 σ ∧ ∃ m1 : Int32, (σ 1)[1]? = some (.int m1) ∧ ∃ ret : Int32, v = some (.int ret) ∧ -ret.toInt - 1 ≤ 0 ∧ ret.toInt - 1600 ≤ 0 ∧ -m1.toInt + 20 ≤ 0 ∧ m1.toInt - 1600 ≤ 0 ∧ -m1.toInt + sg.toInt + 16 ≤ 0 ∧ m1.toInt - sg.toInt - 1600 ≤ 0 ∧ -m1.toInt + m.toInt ≤ 0 ∧ m1.toInt - m.toInt - 20 ≤ 0 ∧ Imp (m.toInt - 1580 ≤ 0) (m1.toInt - m.toInt - 20 ≤ 0 ∧ -m1.toInt + m.toInt + 20 ≤ 0 ∧ ret.toInt - m1.toInt ≤ 0 ∧ -ret.toInt + m1.toInt ≤ 0) ∧ Imp (-m.toInt + 1581 ≤ 0) (m1.toInt - m.toInt ≤ 0 ∧ -m1.toInt + m.toInt ≤ 0 ∧ ret.toInt + 1 ≤ 0 ∧ -ret.toInt - 1 ≤ 0) ∧ ((m.toInt ≤ 1580 → FDP σ0 σ 2 m.toInt 20 a b c d e) ∧ (1580 < m.toInt → ∀ i : Int, ci σ 2 i = ci σ0 2 i))
set_option maxRecDepth 10000 in
set_option maxHeartbeats 4000000 in
theorem c_122x (σ0 : SG) (hσ0 : WT σ0) (a : Int32) (b : Int32) (c : Int32) (d : Int32) (e : Int32) (p : Nat) (hp : TG p = 18) (h_p : (σ0 0)[9]? = some (.ref p)) (sg : Int32) (h_sg : (σ0 p)[1]? = some (.int sg)) (m : Int32) (h_m : (σ0 1)[1]? = some (.int m)) (hp0 : -sg.toInt ≤ 0) : En 1 22 none mr_122 (P_122x σ0 a b c d e p sg m) 0 [(0, .ref 0), (1, .int a), (2, .int b), (3, .int c), (4, .int d), (5, .int e)] [] σ0 := by
  obtain ⟨hl_sg, hu_sg⟩ := WT_int hσ0 (g := 18) hp (by decide +kernel) (l := (-1)) (u := 4) (by decide +kernel) h_sg
  obtain ⟨hl_m, hu_m⟩ := WT_int hσ0 (g := 1) (by decide +kernel) (by decide +kernel) (l := 0) (u := 1600) (by decide +kernel) h_m
  have hF0 : Fr [(1, 1), (2, 0)] σ0 σ0 := Fr_rfl
  refine En_Ps 1 (pc' := 1) (lv' := [(0, .ref 0), (1, .int a), (2, .int b), (3, .int c), (4, .int d), (5, .int e)]) (st' := [.ref 0]) rfl ?_
  refine En_getU (j := 0) (u := 1) (g' := 1) (q := 0) rfl rfl rfl (by decide +kernel : TG 0 = 0) (by decide +kernel) hσ0 (by decide +kernel) (by decide +kernel) (fun h1 => ?_)
  refine En_getK (j := 1) h_m rfl rfl rfl (by decide +kernel : TG 1 = 1) (by decide +kernel) ?_
  refine En_Ps 2 (pc' := 10) (lv' := [(0, .ref 0), (1, .int a), (2, .int b), (3, .int c), (4, .int d), (5, .int e)]) (st' := [.int ((m + (((Int8.ofInt 20).toInt32))))]) rfl ?_
  refine En_top (addI rfl (by decide : ((Int8.ofInt 20).toInt32).toInt = 20) (by omega) (by omega)) (fun z3 h4 => ?_)
  refine En_Ps 1 (pc' := 13) (lv' := [(0, .ref 0), (1, .int a), (2, .int b), (3, .int c), (4, .int d), (5, .int e)]) (st' := [.int (((Int16.ofInt 1600).toInt32)), .int z3]) rfl ?_
  refine En_icLe _ rfl (by decide : ((Int16.ofInt 1600).toInt32).toInt = 1600) rfl (fun h5 => ?_) (fun h5 => ?_)
  · refine En_Ps 1 (pc' := 19) (lv' := [(0, .ref 0), (1, .int a), (2, .int b), (3, .int c), (4, .int d), (5, .int e)]) (st' := [.ref 0]) rfl ?_
    refine En_getK (j := 0) h1 rfl rfl rfl (by decide +kernel : TG 0 = 0) (by decide +kernel) ?_
    refine En_Ps 1 (pc' := 23) (lv' := [(0, .ref 0), (1, .int a), (2, .int b), (3, .int c), (4, .int d), (5, .int e)]) (st' := [.int a, .ref 1]) rfl ?_
    refine En_callV rfl rfl rfl rfl rfl rfl rfl rfl (by decide +kernel : TG 1 = 1) (by decide +kernel) rfl (c_90x σ0 hσ0 a m h_m) (by decide) (by decide) (fun v7 σ8 h6 => ?_)
    obtain ⟨h9, h10, z12, h13, rfl, h11⟩ := h6
    have h14 := h11.2.2.2.2.2
    have h15 := Fr_trans hF0 h10 (by decide +kernel)
    have h16 := Imp_m h11.2.2.2.2.1 (by omega)
    refine En_Ps 1 (pc' := 27) (lv' := [(0, .ref 0), (1, .int a), (2, .int b), (3, .int c), (4, .int d), (5, .int e)]) (st' := [.ref 0]) rfl ?_
    refine En_getK (j := 0) ((h10 _ _ (inW (by decide +kernel : TG 0 = 0) (by decide +kernel))).trans h1) rfl rfl rfl (by decide +kernel : TG 0 = 0) (by decide +kernel) ?_
    refine En_Ps 1 (pc' := 31) (lv' := [(0, .ref 0), (1, .int a), (2, .int b), (3, .int c), (4, .int d), (5, .int e)]) (st' := [.int b, .ref 1]) rfl ?_
    refine En_callV rfl rfl rfl rfl rfl rfl rfl rfl (by decide +kernel : TG 1 = 1) (by decide +kernel) rfl (c_90x σ8 h9 b z12 h13) (by decide) (by decide) (fun v18 σ19 h17 => ?_)
    obtain ⟨h20, h21, z23, h24, rfl, h22⟩ := h17
    have h25 := h22.2.2.2.2.2
    have h26 := Fr_trans h15 h21 (by decide +kernel)
    have h27 := Imp_m h22.2.2.2.2.1 (by omega)
    refine En_Ps 1 (pc' := 35) (lv' := [(0, .ref 0), (1, .int a), (2, .int b), (3, .int c), (4, .int d), (5, .int e)]) (st' := [.ref 0]) rfl ?_
    refine En_getK (j := 0) ((h21 _ _ (inW (by decide +kernel : TG 0 = 0) (by decide +kernel))).trans ((h10 _ _ (inW (by decide +kernel : TG 0 = 0) (by decide +kernel))).trans h1)) rfl rfl rfl (by decide +kernel : TG 0 = 0) (by decide +kernel) ?_
    refine En_Ps 1 (pc' := 39) (lv' := [(0, .ref 0), (1, .int a), (2, .int b), (3, .int c), (4, .int d), (5, .int e)]) (st' := [.int c, .ref 1]) rfl ?_
    refine En_callV rfl rfl rfl rfl rfl rfl rfl rfl (by decide +kernel : TG 1 = 1) (by decide +kernel) rfl (c_90x σ19 h20 c z23 h24) (by decide) (by decide) (fun v29 σ30 h28 => ?_)
    obtain ⟨h31, h32, z34, h35, rfl, h33⟩ := h28
    have h36 := h33.2.2.2.2.2
    have h37 := Fr_trans h26 h32 (by decide +kernel)
    have h38 := Imp_m h33.2.2.2.2.1 (by omega)
    refine En_Ps 1 (pc' := 43) (lv' := [(0, .ref 0), (1, .int a), (2, .int b), (3, .int c), (4, .int d), (5, .int e)]) (st' := [.ref 0]) rfl ?_
    refine En_getK (j := 0) ((h32 _ _ (inW (by decide +kernel : TG 0 = 0) (by decide +kernel))).trans ((h21 _ _ (inW (by decide +kernel : TG 0 = 0) (by decide +kernel))).trans ((h10 _ _ (inW (by decide +kernel : TG 0 = 0) (by decide +kernel))).trans h1))) rfl rfl rfl (by decide +kernel : TG 0 = 0) (by decide +kernel) ?_
    refine En_Ps 1 (pc' := 48) (lv' := [(0, .ref 0), (1, .int a), (2, .int b), (3, .int c), (4, .int d), (5, .int e)]) (st' := [.int d, .ref 1]) rfl ?_
    refine En_callV rfl rfl rfl rfl rfl rfl rfl rfl (by decide +kernel : TG 1 = 1) (by decide +kernel) rfl (c_90x σ30 h31 d z34 h35) (by decide) (by decide) (fun v40 σ41 h39 => ?_)
    obtain ⟨h42, h43, z45, h46, rfl, h44⟩ := h39
    have h47 := h44.2.2.2.2.2
    have h48 := Fr_trans h37 h43 (by decide +kernel)
    have h49 := Imp_m h44.2.2.2.2.1 (by omega)
    refine En_Ps 1 (pc' := 52) (lv' := [(0, .ref 0), (1, .int a), (2, .int b), (3, .int c), (4, .int d), (5, .int e)]) (st' := [.ref 0]) rfl ?_
    refine En_getK (j := 0) ((h43 _ _ (inW (by decide +kernel : TG 0 = 0) (by decide +kernel))).trans ((h32 _ _ (inW (by decide +kernel : TG 0 = 0) (by decide +kernel))).trans ((h21 _ _ (inW (by decide +kernel : TG 0 = 0) (by decide +kernel))).trans ((h10 _ _ (inW (by decide +kernel : TG 0 = 0) (by decide +kernel))).trans h1)))) rfl rfl rfl (by decide +kernel : TG 0 = 0) (by decide +kernel) ?_
    refine En_Ps 1 (pc' := 57) (lv' := [(0, .ref 0), (1, .int a), (2, .int b), (3, .int c), (4, .int d), (5, .int e)]) (st' := [.int e, .ref 1]) rfl ?_
    refine En_callV rfl rfl rfl rfl rfl rfl rfl rfl (by decide +kernel : TG 1 = 1) (by decide +kernel) rfl (c_90x σ41 h42 e z45 h46) (by decide) (by decide) (fun v51 σ52 h50 => ?_)
    obtain ⟨h53, h54, z56, h57, rfl, h55⟩ := h50
    have h58 := h55.2.2.2.2.2
    have h59 := Fr_trans h48 h54 (by decide +kernel)
    have h60 := Imp_m h55.2.2.2.2.1 (by omega)
    refine En_Ps 1 (pc' := 61) (lv' := [(0, .ref 0), (1, .int a), (2, .int b), (3, .int c), (4, .int d), (5, .int e)]) (st' := [.ref 0]) rfl ?_
    refine En_getK (j := 0) ((h54 _ _ (inW (by decide +kernel : TG 0 = 0) (by decide +kernel))).trans ((h43 _ _ (inW (by decide +kernel : TG 0 = 0) (by decide +kernel))).trans ((h32 _ _ (inW (by decide +kernel : TG 0 = 0) (by decide +kernel))).trans ((h21 _ _ (inW (by decide +kernel : TG 0 = 0) (by decide +kernel))).trans ((h10 _ _ (inW (by decide +kernel : TG 0 = 0) (by decide +kernel))).trans h1))))) rfl rfl rfl (by decide +kernel : TG 0 = 0) (by decide +kernel) ?_
    refine En_getK (j := 1) h57 rfl rfl rfl (by decide +kernel : TG 1 = 1) (by decide +kernel) ?_
    exact En_ret (v := some (.int z56)) rfl rfl rfl ⟨h53, h59, z56, h57, z56, rfl, ⟨by omega, by omega, by omega, by omega, by omega, by omega, by omega, by omega, fun _ => by omega, fun _ => by omega, ⟨fun _ => FDP_5 (by omega) (APB_d h14 (by omega) (by omega)) (APB_d h25 (by omega) (by omega)) (APB_d h36 (by omega) (by omega)) (APB_d h47 (by omega) (by omega)) (APB_d h58 (by omega) (by omega)), fun h => absurd h (by omega)⟩⟩⟩
  · refine En_Ps 1 (pc' := 17) (lv' := [(0, .ref 0), (1, .int a), (2, .int b), (3, .int c), (4, .int d), (5, .int e)]) (st' := [.int ((Int32.ofInt (-1)))]) rfl ?_
    refine En_top (by decide : (Int32.ofInt (-1)).toInt = -1) (fun z61 h62 => ?_)
    exact En_ret (v := some (.int z61)) rfl rfl rfl ⟨hσ0, hF0, m, h_m, z61, rfl, ⟨by omega, by omega, by omega, by omega, by omega, by omega, by omega, by omega, fun _ => by omega, fun _ => by omega, ⟨fun h => absurd h (by omega), fun _ _ => rfl⟩⟩⟩
/-- DoorSchool.image(I)I -/
abbrev P_142x (σ0 : SG) (a : Int32) (p : Nat) (sg : Int32) : PO := fun v σ => WT σ ∧ Fr [(20, 2), (21, 0), (22, 0), (23, 0), (24, 0), (25, 0), (26, 0), (27, 0), (28, 1), (28, 2), (28, 3), (30, 0), (31, 0), (31, 1), (31, 2), (31, 3), (31, 6), (31, 7), (31, 8), (31, 11), (31, 14)] σ0 σ ∧ ∃ ret : Int32, v = some (.int ret) ∧ -ret.toInt - 2 ≤ 0 ∧ ret.toInt ≤ 0 ∧ Imp (-a.toInt ≤ 0 ∧ a.toInt - 2 ≤ 0) (ret.toInt ≤ 0 ∧ -ret.toInt ≤ 0) ∧ Imp (a.toInt + 1 ≤ 0) (ret.toInt + 2 ≤ 0 ∧ -ret.toInt - 2 ≤ 0) ∧ Imp (-a.toInt + 3 ≤ 0) (ret.toInt + 2 ≤ 0 ∧ -ret.toInt - 2 ≤ 0)
set_option maxRecDepth 10000 in
set_option maxHeartbeats 4000000 in
theorem c_142x (σ0 : SG) (hσ0 : WT σ0) (a : Int32) (p : Nat) (hp : TG p = 18) (h_p : (σ0 0)[9]? = some (.ref p)) (sg : Int32) (h_sg : (σ0 p)[1]? = some (.int sg)) (hp0 : -sg.toInt ≤ 0) : En 4 124 none mr_142 (P_142x σ0 a p sg) 0 [(0, .ref 0), (1, .int a)] [] σ0 := by
  obtain ⟨hl_sg, hu_sg⟩ := WT_int hσ0 (g := 18) hp (by decide +kernel) (l := (-1)) (u := 4) (by decide +kernel) h_sg
  have hF0 : Fr [(20, 2), (21, 0), (22, 0), (23, 0), (24, 0), (25, 0), (26, 0), (27, 0), (28, 1), (28, 2), (28, 3), (30, 0), (31, 0), (31, 1), (31, 2), (31, 3), (31, 6), (31, 7), (31, 8), (31, 11), (31, 14)] σ0 σ0 := Fr_rfl
  refine En_Ps 1 (pc' := 1) (lv' := [(0, .ref 0), (1, .int a)]) (st' := [.int a]) rfl ?_
  refine En_iLt _ rfl rfl (fun h1 => ?_) (fun h1 => ?_)
  · refine En_Ps 1 (pc' := 11) (lv' := [(0, .ref 0), (1, .int a)]) (st' := [.int (((Int8.ofInt (-2)).toInt32))]) rfl ?_
    refine En_top (by decide : ((Int8.ofInt (-2)).toInt32).toInt = -2) (fun z2 h3 => ?_)
    exact En_ret (v := some (.int z2)) rfl rfl rfl ⟨hσ0, hF0, z2, rfl, ⟨by omega, by omega, fun _ => by omega, fun _ => by omega, fun _ => by omega⟩⟩
  · refine En_Ps 2 (pc' := 6) (lv' := [(0, .ref 0), (1, .int a)]) (st' := [.int ((Int32.ofInt 3)), .int a]) rfl ?_
    refine En_icLt _ rfl (by decide : (Int32.ofInt 3).toInt = 3) rfl (fun h4 => ?_) (fun h4 => ?_)
    · refine En_Ps 1 (pc' := 13) (lv' := [(0, .ref 0), (1, .int a)]) (st' := [.ref 0]) rfl ?_
      refine En_getU (j := 7) (u := 70) (g' := 29) (q := 0) rfl rfl rfl (by decide +kernel : TG 0 = 0) (by decide +kernel) hσ0 (by decide +kernel) (by decide +kernel) (fun h5 => ?_)
      refine En_Ps 1 (pc' := 17) (lv' := [(0, .ref 0), (1, .int a)]) (st' := [.int a, .ref 70]) rfl ?_
      refine En_aald (g' := 31) (u := 0) rfl rfl (by decide +kernel : TG 70 = 29) (by decide +kernel) hσ0 (by omega) (lnI (by decide +kernel : LN _ = 3) (by omega)) (FTsgl (by decide +kernel)) (fun a8 h7 ha8 => ?_)
      refine En_Ps 1 (pc' := 19) (lv' := [(0, .ref 0), (1, .int a)]) (st' := [.ref 0, .ref a8]) rfl ?_
      refine En_getK (j := 9) h_p rfl rfl rfl (by decide +kernel : TG 0 = 0) (by decide +kernel) ?_
      refine En_callV rfl rfl rfl rfl rfl rfl rfl rfl ha8 (by decide +kernel) rfl (c_53a σ0 hσ0 a8 ha8 p hp sg h_sg (by omega)) (by decide) (by decide) (fun v10 σ11 h9 => ?_)
      obtain ⟨h12, h13, rfl, h14⟩ := h9
      have h15 := Fr_trans hF0 h13 (by decide +kernel)
      refine En_Ps 1 (pc' := 26) (lv' := [(0, .ref 0), (1, .int a)]) (st' := [.ref 0]) rfl ?_
      refine En_getU (j := 8) (u := 71) (g' := 30) (q := 0) rfl rfl rfl (by decide +kernel : TG 0 = 0) (by decide +kernel) h12 (by decide +kernel) (by decide +kernel) (fun h16 => ?_)
      refine En_Ps 2 (pc' := 31) (lv' := [(0, .ref 0), (1, .int a)]) (st' := [.int ((Int32.ofInt 1)), .int a, .ref 71]) rfl ?_
      refine En_bast (l := 0) (u := 1) rfl rfl (by decide +kernel : TG 71 = 30) (by decide +kernel) (narZ (by decide : (Int32.ofInt 1).toInt = 1) (by omega) (by omega)) (by omega) (lnI (by decide +kernel : LN _ = 3) (by omega)) (FTsgl (by decide +kernel)) (rngI (by decide : (Int32.ofInt 1).toInt = 1) (by omega) (by omega)) h12 h15 (by decide +kernel) (fun σ18 h19 h20 h21 h22 => ?_)
      refine En_Ps 1 (pc' := 33) (lv' := [(0, .ref 0), (1, .int a)]) (st' := [.int ((Int32.ofInt 0))]) rfl ?_
      refine En_top (by decide : (Int32.ofInt 0).toInt = 0) (fun z23 h24 => ?_)
      exact En_ret (v := some (.int z23)) rfl rfl rfl ⟨h19, h20, z23, rfl, ⟨by omega, by omega, fun _ => by omega, fun _ => by omega, fun _ => by omega⟩⟩
    · refine En_Ps 1 (pc' := 11) (lv' := [(0, .ref 0), (1, .int a)]) (st' := [.int (((Int8.ofInt (-2)).toInt32))]) rfl ?_
      refine En_top (by decide : ((Int8.ofInt (-2)).toInt32).toInt = -2) (fun z25 h26 => ?_)
      exact En_ret (v := some (.int z25)) rfl rfl rfl ⟨hσ0, hF0, z25, rfl, ⟨by omega, by omega, fun _ => by omega, fun _ => by omega, fun _ => by omega⟩⟩
/-- DoorSchool.row(III)I -/
abbrev P_165x (σ0 : SG) (a : Int32) (b : Int32) (c : Int32) (p : Nat) (sg : Int32) : PO := fun v σ => WT σ ∧ Fr [(33, 1), (33, 2), (33, 3), (34, 0)] σ0 σ ∧ ∃ ret : Int32, v = some (.int ret) ∧ -ret.toInt - 3 ≤ 0 ∧ ret.toInt ≤ 0 ∧ Imp (-a.toInt ≤ 0 ∧ a.toInt - 3 ≤ 0 ∧ -b.toInt ≤ 0 ∧ b.toInt - 3 ≤ 0 ∧ c.toInt - 60 ≤ 0 ∧ -c.toInt ≤ 0) (ret.toInt ≤ 0 ∧ -ret.toInt ≤ 0) ∧ Imp (-a.toInt ≤ 0 ∧ a.toInt - 3 ≤ 0 ∧ -b.toInt ≤ 0 ∧ b.toInt - 3 ≤ 0 ∧ c.toInt - 60 ≤ 0 ∧ c.toInt + 1 ≤ 0) (ret.toInt + 3 ≤ 0 ∧ -ret.toInt - 3 ≤ 0) ∧ Imp (a.toInt + 1 ≤ 0) (ret.toInt + 2 ≤ 0 ∧ -ret.toInt - 2 ≤ 0) ∧ Imp (-a.toInt + 4 ≤ 0) (ret.toInt + 2 ≤ 0 ∧ -ret.toInt - 2 ≤ 0) ∧ Imp (b.toInt + 1 ≤ 0) (ret.toInt + 2 ≤ 0 ∧ -ret.toInt - 2 ≤ 0) ∧ Imp (-b.toInt + 4 ≤ 0) (ret.toInt + 2 ≤ 0 ∧ -ret.toInt - 2 ≤ 0) ∧ Imp (-c.toInt + 61 ≤ 0) (ret.toInt + 2 ≤ 0 ∧ -ret.toInt - 2 ≤ 0)
set_option maxRecDepth 10000 in
set_option maxHeartbeats 4000000 in
theorem c_165x (σ0 : SG) (hσ0 : WT σ0) (a : Int32) (b : Int32) (c : Int32) (p : Nat) (hp : TG p = 18) (h_p : (σ0 0)[9]? = some (.ref p)) (sg : Int32) (h_sg : (σ0 p)[1]? = some (.int sg)) (hp0 : -sg.toInt ≤ 0) : En 2 46 none mr_165 (P_165x σ0 a b c p sg) 0 [(0, .ref 0), (1, .int a), (2, .int b), (3, .int c)] [] σ0 := by
  obtain ⟨hl_sg, hu_sg⟩ := WT_int hσ0 (g := 18) hp (by decide +kernel) (l := (-1)) (u := 4) (by decide +kernel) h_sg
  have hF0 : Fr [(33, 1), (33, 2), (33, 3), (34, 0)] σ0 σ0 := Fr_rfl
  refine En_Ps 1 (pc' := 1) (lv' := [(0, .ref 0), (1, .int a), (2, .int b), (3, .int c)]) (st' := [.int a]) rfl ?_
  refine En_callS rfl rfl rfl rfl rfl rfl rfl rfl rfl (c_147 σ0 hσ0 a) (by decide) (by decide) (fun v2 σ3 h1 => ?_)
  obtain ⟨h4, h5, z7, rfl, h6⟩ := h1
  have h8 := Fr_trans hF0 h5 (by decide +kernel)
  refine En_iEq _ rfl rfl (fun h9 => ?_) (fun h9 => ?_)
  · refine En_Ps 1 (pc' := 24) (lv' := [(0, .ref 0), (1, .int a), (2, .int b), (3, .int c)]) (st' := [.int (((Int8.ofInt (-2)).toInt32))]) rfl ?_
    refine En_top (by decide : ((Int8.ofInt (-2)).toInt32).toInt = -2) (fun z10 h11 => ?_)
    exact En_ret (v := some (.int z10)) rfl rfl rfl ⟨h4, h8, z10, rfl, ⟨by omega, by omega, fun _ => by omega, fun _ => by omega, fun _ => by omega, fun _ => by omega, fun _ => by omega, fun _ => by omega, fun _ => by omega⟩⟩
  · refine En_Ps 1 (pc' := 8) (lv' := [(0, .ref 0), (1, .int a), (2, .int b), (3, .int c)]) (st' := [.int b]) rfl ?_
    refine En_iLt _ rfl rfl (fun h12 => ?_) (fun h12 => ?_)
    · refine En_Ps 1 (pc' := 24) (lv' := [(0, .ref 0), (1, .int a), (2, .int b), (3, .int c)]) (st' := [.int (((Int8.ofInt (-2)).toInt32))]) rfl ?_
      refine En_top (by decide : ((Int8.ofInt (-2)).toInt32).toInt = -2) (fun z13 h14 => ?_)
      exact En_ret (v := some (.int z13)) rfl rfl rfl ⟨h4, h8, z13, rfl, ⟨by omega, by omega, fun _ => by omega, fun _ => by omega, fun _ => by omega, fun _ => by omega, fun _ => by omega, fun _ => by omega, fun _ => by omega⟩⟩
    · refine En_Ps 2 (pc' := 13) (lv' := [(0, .ref 0), (1, .int a), (2, .int b), (3, .int c)]) (st' := [.int ((Int32.ofInt 4)), .int b]) rfl ?_
      refine En_icGe _ rfl (by decide : (Int32.ofInt 4).toInt = 4) rfl (fun h15 => ?_) (fun h15 => ?_)
      · refine En_Ps 1 (pc' := 24) (lv' := [(0, .ref 0), (1, .int a), (2, .int b), (3, .int c)]) (st' := [.int (((Int8.ofInt (-2)).toInt32))]) rfl ?_
        refine En_top (by decide : ((Int8.ofInt (-2)).toInt32).toInt = -2) (fun z16 h17 => ?_)
        exact En_ret (v := some (.int z16)) rfl rfl rfl ⟨h4, h8, z16, rfl, ⟨by omega, by omega, fun _ => by omega, fun _ => by omega, fun _ => by omega, fun _ => by omega, fun _ => by omega, fun _ => by omega, fun _ => by omega⟩⟩
      · refine En_Ps 2 (pc' := 19) (lv' := [(0, .ref 0), (1, .int a), (2, .int b), (3, .int c)]) (st' := [.int (((Int8.ofInt 60).toInt32)), .int c]) rfl ?_
        refine En_icLe _ rfl (by decide : ((Int8.ofInt 60).toInt32).toInt = 60) rfl (fun h18 => ?_) (fun h18 => ?_)
        · refine En_Ps 1 (pc' := 26) (lv' := [(0, .ref 0), (1, .int a), (2, .int b), (3, .int c)]) (st' := [.int c]) rfl ?_
          refine En_iGe _ rfl rfl (fun h19 => ?_) (fun h19 => ?_)
          · refine En_Ps 1 (pc' := 33) (lv' := [(0, .ref 0), (1, .int a), (2, .int b), (3, .int c)]) (st' := [.ref 0]) rfl ?_
            refine En_getU (j := 6) (u := 150) (g' := 32) (q := 0) rfl rfl rfl (by decide +kernel : TG 0 = 0) (by decide +kernel) h4 (by decide +kernel) (by decide +kernel) (fun h20 => ?_)
            refine En_Ps 1 (pc' := 37) (lv' := [(0, .ref 0), (1, .int a), (2, .int b), (3, .int c)]) (st' := [.int a, .ref 150]) rfl ?_
            refine En_aald (g' := 33) (u := 0) rfl rfl (by decide +kernel : TG 150 = 32) (by decide +kernel) h4 (by omega) (lnI (by decide +kernel : LN _ = 4) (by omega)) (FTsgl (by decide +kernel)) (fun a23 h22 ha23 => ?_)
            refine En_Ps 2 (pc' := 40) (lv' := [(0, .ref 0), (1, .int a), (2, .int b), (3, .int c)]) (st' := [.int c, .int b, .ref a23]) rfl ?_
            refine En_callV rfl rfl rfl rfl rfl rfl rfl rfl ha23 (by decide +kernel) rfl (c_84 σ3 h4 a23 ha23 b c (geI rfl (by omega)) (leI rfl (by omega)) (geI rfl (by omega)) (leI rfl (by omega))) (by decide) (by decide) (fun v25 σ26 h24 => ?_)
            obtain ⟨h27, h28, rfl, h29⟩ := h24
            have h30 := Fr_trans h8 h28 (by decide +kernel)
            refine En_Ps 1 (pc' := 44) (lv' := [(0, .ref 0), (1, .int a), (2, .int b), (3, .int c)]) (st' := [.int ((Int32.ofInt 0))]) rfl ?_
            refine En_top (by decide : (Int32.ofInt 0).toInt = 0) (fun z31 h32 => ?_)
            exact En_ret (v := some (.int z31)) rfl rfl rfl ⟨h27, h30, z31, rfl, ⟨by omega, by omega, fun _ => by omega, fun _ => by omega, fun _ => by omega, fun _ => by omega, fun _ => by omega, fun _ => by omega, fun _ => by omega⟩⟩
          · refine En_Ps 1 (pc' := 31) (lv' := [(0, .ref 0), (1, .int a), (2, .int b), (3, .int c)]) (st' := [.int (((Int8.ofInt (-3)).toInt32))]) rfl ?_
            refine En_top (by decide : ((Int8.ofInt (-3)).toInt32).toInt = -3) (fun z33 h34 => ?_)
            exact En_ret (v := some (.int z33)) rfl rfl rfl ⟨h4, h8, z33, rfl, ⟨by omega, by omega, fun _ => by omega, fun _ => by omega, fun _ => by omega, fun _ => by omega, fun _ => by omega, fun _ => by omega, fun _ => by omega⟩⟩
        · refine En_Ps 1 (pc' := 24) (lv' := [(0, .ref 0), (1, .int a), (2, .int b), (3, .int c)]) (st' := [.int (((Int8.ofInt (-2)).toInt32))]) rfl ?_
          refine En_top (by decide : ((Int8.ofInt (-2)).toInt32).toInt = -2) (fun z35 h36 => ?_)
          exact En_ret (v := some (.int z35)) rfl rfl rfl ⟨h4, h8, z35, rfl, ⟨by omega, by omega, fun _ => by omega, fun _ => by omega, fun _ => by omega, fun _ => by omega, fun _ => by omega, fun _ => by omega, fun _ => by omega⟩⟩
/-- DoorSchool.school()I -/
abbrev P_169x (σ0 : SG) (By : Int → Int) (Nb : Int) (p : Nat) (sg : Int32) (p2 : Nat) : PO := fun v σ => WT σ ∧ Fr [(0, 9), (0, 10), (1, 1), (3, 1), (3, 2), (3, 3), (3, 4), (3, 5), (3, 6), (4, 0), (4, 1), (5, 0), (6, 0), (7, 0), (18, 0), (18, 1), (18, 2), (18, 3), (18, 6), (18, 7), (18, 8), (18, 11), (18, 14), (20, 2), (21, 0), (22, 0), (23, 0), (24, 0), (25, 0), (26, 0), (28, 1), (28, 2), (28, 3)] σ0 σ ∧ ∃ m1 : Int32, (σ 1)[1]? = some (.int m1) ∧ ∃ ret : Int32, v = some (.int ret) ∧ -ret.toInt - 4 ≤ 0 ∧ ret.toInt - 1601 ≤ 0 ∧ -m1.toInt ≤ 0 ∧ m1.toInt ≤ 0 ∧ -m1.toInt + sg.toInt - 4 ≤ 0 ∧ m1.toInt - sg.toInt ≤ 0 ∧ m1.toInt ≤ 0 ∧ -m1.toInt ≤ 0 ∧ (INVc σ ∧ SCC By Nb σ ret.toInt)
set_option maxRecDepth 10000 in
set_option maxHeartbeats 4000000 in
theorem c_169x {By : Int → Int} {Nb : Int} (σ0 : SG) (hσ0 : WT σ0) (p : Nat) (hp : TG p = 18) (h_p : (σ0 0)[9]? = some (.ref p)) (sg : Int32) (h_sg : (σ0 p)[1]? = some (.int sg)) (p2 : Nat) (hp2 : TG p2 = 18) (h_p2 : (σ0 0)[10]? = some (.ref p2)) (hp0 : -sg.toInt ≤ 0) (hne : p ≠ p2) (hB : TPc By Nb σ0) (hP2 : PLA p2) (hX2 : FXP σ0 p2) : En 8 181 none mr_169 (P_169x σ0 By Nb p sg p2) 0 [(0, .ref 0)] [] σ0 := by
  obtain ⟨hl_sg, hu_sg⟩ := WT_int hσ0 (g := 18) hp (by decide +kernel) (l := (-1)) (u := 4) (by decide +kernel) h_sg
  have hF0 : Fr [(0, 9), (0, 10), (1, 1), (3, 1), (3, 2), (3, 3), (3, 4), (3, 5), (3, 6), (4, 0), (4, 1), (5, 0), (6, 0), (7, 0), (18, 0), (18, 1), (18, 2), (18, 3), (18, 6), (18, 7), (18, 8), (18, 11), (18, 14), (20, 2), (21, 0), (22, 0), (23, 0), (24, 0), (25, 0), (26, 0), (28, 1), (28, 2), (28, 3)] σ0 σ0 := Fr_rfl
  refine En_Ps 1 (pc' := 1) (lv' := [(0, .ref 0)]) (st' := [.ref 0]) rfl ?_
  refine En_getU (j := 1) (u := 3) (g' := 3) (q := 0) rfl rfl rfl (by decide +kernel : TG 0 = 0) (by decide +kernel) hσ0 (by decide +kernel) (by decide +kernel) (fun h1 => ?_)
  refine En_Ps 1 (pc' := 5) (lv' := [(0, .ref 0)]) (st' := [.ref 0, .ref 3]) rfl ?_
  refine En_getK (j := 10) h_p2 rfl rfl rfl (by decide +kernel : TG 0 = 0) (by decide +kernel) ?_
  refine En_callV rfl rfl rfl rfl rfl rfl rfl rfl (by decide +kernel : TG 3 = 3) (by decide +kernel) rfl (c_60x σ0 hσ0 p2 hp2 hB hP2 hX2) (by decide) (by decide) (fun v4 σ5 h3 => ?_)
  obtain ⟨h6, h7, z9, h10, z11, h12, rfl, h8⟩ := h3
  have h13 := h8.2.2.2.2.2
  have h14 := Fr_trans hF0 h7 (by decide +kernel)
  obtain ⟨z16, h15, h17, h18⟩ := WT_peekI h6 hp2 (by decide +kernel : FT 18 0 = (0, 0, 1601)) (by decide +kernel)
  obtain ⟨z20, h19, h21, h22⟩ := WT_peekI h6 (by decide +kernel : TG 3 = 3) (by decide +kernel : FT 3 6 = (0, (-1), 1600)) (by decide +kernel)
  have h23 := CT_k h13.2.1 h10
  have h24 : (fRead By Nb 1601 S00).1 = 0 → (fRead By Nb 1601 S00).2.2.2 7 = z16.toInt := fun zz => KN_v (h13.2.2 zz) (Or.inl (by decide)) (by decide) (by decide) (by rw [lcO_lt (by decide) (by decide), Nat.add_zero]) (by decide) h15
  have h25 : (fRead By Nb 1601 S00).2.1 = z20.toInt := h13.2.1.2.2.1.symm.trans (ci_at (j := 6) h19 rfl)
  refine En_Ps 1 (pc' := 12) (lv' := [(0, .ref 0)]) (st' := [.ref 0]) rfl ?_
  refine En_getU (j := 0) (u := 1) (g' := 1) (q := 0) rfl rfl rfl (by decide +kernel : TG 0 = 0) (by decide +kernel) h6 (by decide +kernel) (by decide +kernel) (fun h26 => ?_)
  refine En_Ps 1 (pc' := 16) (lv' := [(0, .ref 0)]) (st' := [.int ((Int32.ofInt 0)), .ref 1]) rfl ?_
  refine En_put (j := 1) rfl rfl rfl (by decide +kernel : TG 1 = 1) (by decide +kernel) rfl (vI (l := 0) (u := 1600) (by decide +kernel) (by decide : (Int32.ofInt 0).toInt = 0) (by omega) (by omega)) h6 h14 (by decide +kernel) (fun σ28 h29 h30 h31 h32 => ?_)
  refine En_Ps 1 (pc' := 20) (lv' := [(0, .ref 0)]) (st' := [.ref 0]) rfl ?_
  refine En_getK (j := 1) ((h32 _ _ (Or.inl (neTG (by decide +kernel : TG 0 = 0) (by decide +kernel : TG 1 = 1) (by decide)))).trans ((h7 _ _ (inW (by decide +kernel : TG 0 = 0) (by decide +kernel))).trans h1)) rfl rfl rfl (by decide +kernel : TG 0 = 0) (by decide +kernel) ?_
  refine En_getK (j := 5) ((h32 _ _ (Or.inr (by decide))).trans h10) rfl rfl rfl (by decide +kernel : TG 3 = 3) (by decide +kernel) ?_
  refine En_iEq _ rfl rfl (fun h33 => ?_) (fun h33 => ?_)
  · refine En_Ps 1 (pc' := 33) (lv' := [(0, .ref 0)]) (st' := [.ref 0]) rfl ?_
    refine En_getK (j := 9) ((h32 _ _ (Or.inr (by decide))).trans ((h7 _ _ (inW (by decide +kernel : TG 0 = 0) (by decide +kernel))).trans h_p)) rfl rfl rfl (by decide +kernel : TG 0 = 0) (by decide +kernel) ?_
    refine En_Ps 3 (pc' := 39) (lv' := [(1, .ref p), (0, .ref 0)]) (st' := [.ref 0, .ref 0]) rfl ?_
    refine En_getK (j := 10) ((h32 _ _ (Or.inr (by decide))).trans ((h7 _ _ (inW (by decide +kernel : TG 0 = 0) (by decide +kernel))).trans h_p2)) rfl rfl rfl (by decide +kernel : TG 0 = 0) (by decide +kernel) ?_
    refine En_put (j := 9) rfl rfl rfl (by decide +kernel : TG 0 = 0) (by decide +kernel) rfl (vR (g' := 18) (u := 0) (by decide +kernel) hp2) h29 h30 (by decide +kernel) (fun σ34 h35 h36 h37 h38 => ?_)
    refine En_Ps 2 (pc' := 47) (lv' := [(1, .ref p), (0, .ref 0)]) (st' := [.ref p, .ref 0]) rfl ?_
    refine En_put (j := 10) rfl rfl rfl (by decide +kernel : TG 0 = 0) (by decide +kernel) rfl (vR (g' := 18) (u := 0) (by decide +kernel) hp) h35 h36 (by decide +kernel) (fun σ39 h40 h41 h42 h43 => ?_)
    refine En_Ps 1 (pc' := 51) (lv' := [(1, .ref p), (0, .ref 0)]) (st' := [.ref 0]) rfl ?_
    refine En_getU (j := 2) (u := 4) (g' := 4) (q := 0) rfl rfl rfl (by decide +kernel : TG 0 = 0) (by decide +kernel) h40 (by decide +kernel) (by decide +kernel) (fun h44 => ?_)
    refine En_Ps 1 (pc' := 55) (lv' := [(1, .ref p), (0, .ref 0)]) (st' := [.ref 0, .ref 4]) rfl ?_
    refine En_getK (j := 9) ((h43 _ _ (Or.inr (by decide))).trans h37) rfl rfl rfl (by decide +kernel : TG 0 = 0) (by decide +kernel) ?_
    refine En_getK (j := 1) ((h43 _ _ (Or.inr (by decide))).trans ((h38 _ _ (Or.inr (by decide))).trans ((h32 _ _ (Or.inl (neTG hp2 (by decide +kernel : TG 1 = 1) (by decide)))).trans h12))) rfl rfl rfl hp2 (by decide +kernel) ?_
    refine En_callV rfl rfl rfl rfl rfl rfl rfl rfl (by decide +kernel : TG 4 = 4) (by decide +kernel) rfl (c_82 σ39 h40 z11 (geI rfl (by omega)) (leI rfl (by omega))) (by decide) (by decide) (fun v47 σ48 h46 => ?_)
    obtain ⟨h49, h50, rfl, h51⟩ := h46
    have h52 := Fr_trans h41 h50 (by decide +kernel)
    refine En_Ps 1 (pc' := 65) (lv' := [(1, .ref p), (0, .ref 0)]) (st' := [.ref 0]) rfl ?_
    refine En_getK (j := 9) ((h50 _ _ (inW (by decide +kernel : TG 0 = 0) (by decide +kernel))).trans ((h43 _ _ (Or.inr (by decide))).trans h37)) rfl rfl rfl (by decide +kernel : TG 0 = 0) (by decide +kernel) ?_
    refine En_getK (j := 0) ((h50 _ _ (inW hp2 (by decide +kernel))).trans ((h43 _ _ (Or.inr (by decide))).trans ((h38 _ _ (Or.inr (by decide))).trans ((h32 _ _ (Or.inr (by decide))).trans h15)))) rfl rfl rfl hp2 (by decide +kernel) ?_
    have := (by decide : (Int32.ofInt 0).toInt = 0)
    exact En_ret (v := some (.int z16)) rfl rfl rfl ⟨h49, h52, (Int32.ofInt 0), ((h50 _ _ (inW (by decide +kernel : TG 1 = 1) (by decide +kernel))).trans ((h43 _ _ (Or.inr (by decide))).trans ((h38 _ _ (Or.inr (by decide))).trans h31))), z16, rfl, ⟨by omega, by omega, by omega, by omega, by omega, by omega, by omega, by omega, ⟨⟨p2, p, z11, hp2, hp, ((h50 _ _ (inW (by decide +kernel : TG 0 = 0) (by decide +kernel))).trans ((h43 _ _ (Or.inr (by decide))).trans h37)), ((h50 _ _ (inW (by decide +kernel : TG 0 = 0) (by decide +kernel))).trans h42), (fun e => hne e.symm), ((h50 _ _ (inW hp2 (by decide +kernel))).trans ((h43 _ _ (Or.inr (by decide))).trans ((h38 _ _ (Or.inr (by decide))).trans ((h32 _ _ (Or.inl (neTG hp2 (by decide +kernel : TG 1 = 1) (by decide)))).trans h12)))), (by omega)⟩, ⟨(ci_at (j := 5) ((h50 _ _ (inW (by decide +kernel : TG 3 = 3) (by decide +kernel))).trans ((h43 _ _ (Or.inr (by decide))).trans ((h38 _ _ (Or.inr (by decide))).trans ((h32 _ _ (Or.inr (by decide))).trans h10)))) rfl).trans (by omega), (ci_at (j := 6) ((h50 _ _ (inW (by decide +kernel : TG 3 = 3) (by decide +kernel))).trans ((h43 _ _ (Or.inr (by decide))).trans ((h38 _ _ (Or.inr (by decide))).trans ((h32 _ _ (Or.inr (by decide))).trans h19)))) rfl).trans (by omega), fun zz => by omega, fun zz => by omega⟩⟩⟩⟩
  · refine En_Ps 1 (pc' := 31) (lv' := [(0, .ref 0)]) (st' := [.int (((Int8.ofInt (-4)).toInt32))]) rfl ?_
    have := (by decide : (Int32.ofInt 0).toInt = 0)
    refine En_top (by decide : ((Int8.ofInt (-4)).toInt32).toInt = -4) (fun z53 h54 => ?_)
    exact En_ret (v := some (.int z53)) rfl rfl rfl ⟨h29, h30, (Int32.ofInt 0), h31, z53, rfl, ⟨by omega, by omega, by omega, by omega, by omega, by omega, by omega, by omega, ⟨⟨p, p2, sg, hp, hp2, ((h32 _ _ (Or.inr (by decide))).trans ((h7 _ _ (inW (by decide +kernel : TG 0 = 0) (by decide +kernel))).trans h_p)), ((h32 _ _ (Or.inr (by decide))).trans ((h7 _ _ (inW (by decide +kernel : TG 0 = 0) (by decide +kernel))).trans h_p2)), hne, ((h32 _ _ (Or.inl (neTG hp (by decide +kernel : TG 1 = 1) (by decide)))).trans (((h13.1 p hp hne)).trans h_sg)), (by omega)⟩, ⟨(ci_at (j := 5) ((h32 _ _ (Or.inr (by decide))).trans h10) rfl).trans (by omega), (ci_at (j := 6) ((h32 _ _ (Or.inr (by decide))).trans h19) rfl).trans (by omega), fun zz => by omega, fun zz => by omega⟩⟩⟩⟩

