/-- DoorSchool$Reader.blame(I)V -/
abbrev P_54 (σ0 : SG) (a : Int32) (f : Int32) : PO := fun v σ => WT σ ∧ Fr [(3, 5), (3, 6)] σ0 σ ∧ ∃ f1 : Int32, (σ 3)[5]? = some (.int f1) ∧ v = none ∧ -f1.toInt + 1 ≤ 0 ∧ f1.toInt - 3 ≤ 0 ∧ -f1.toInt + f.toInt ≤ 0 ∧ f1.toInt - f.toInt - 3 ≤ 0 ∧ (f.toInt ≤ 0 → f1.toInt - a.toInt ≤ 0 ∧ -f1.toInt + a.toInt ≤ 0) ∧ (-f.toInt + 1 ≤ 0 → f1.toInt - f.toInt ≤ 0 ∧ -f1.toInt + f.toInt ≤ 0)
set_option maxRecDepth 10000 in
set_option maxHeartbeats 4000000 in
theorem c_54 (σ0 : SG) (hσ0 : WT σ0) (a : Int32) (hl_a : 1 ≤ a.toInt) (hu_a : a.toInt ≤ 3) (f : Int32) (h_f : (σ0 3)[5]? = some (.int f)) : En 0 0 none mr_54 (P_54 σ0 a f) 0 [(0, .ref 3), (1, .int a)] [] σ0 := by
  obtain ⟨hl_f, hu_f⟩ := WT_int hσ0 (g := 3) (by decide +kernel) (by decide +kernel) (l := 0) (u := 3) (by decide +kernel) h_f
  have hF0 : Fr [(3, 5), (3, 6)] σ0 σ0 := Fr_rfl
  refine En_Ps 1 (pc' := 1) (lv' := [(0, .ref 3), (1, .int a)]) (st' := [.ref 3]) rfl ?_
  refine En_getK (j := 5) h_f rfl rfl rfl (by decide +kernel : TG 3 = 3) (by decide +kernel) ?_
  refine En_iNe _ rfl rfl (fun h1 => ?_) (fun h1 => ?_)
  · exact En_ret (v := none) rfl rfl rfl ⟨hσ0, hF0, f, h_f, rfl, (by omega)⟩
  · refine En_Ps 2 (pc' := 9) (lv' := [(0, .ref 3), (1, .int a)]) (st' := [.int a, .ref 3]) rfl ?_
    refine En_put (j := 5) rfl rfl rfl (by decide +kernel : TG 3 = 3) (by decide +kernel) rfl (vI (l := 0) (u := 3) (by decide +kernel) rfl (by omega) (by omega)) hσ0 hF0 (by decide +kernel) (fun σ2 h3 h4 h5 h6 => ?_)
    refine En_Ps 2 (pc' := 14) (lv' := [(0, .ref 3), (1, .int a)]) (st' := [.ref 3, .ref 3]) rfl ?_
    refine En_getI (j := 2) (l := 0) (u := 1600) rfl rfl rfl (by decide +kernel : TG 3 = 3) (by decide +kernel) h3 (by decide +kernel) (fun z8 h7 h9 h10 => ?_)
    refine En_put (j := 6) rfl rfl rfl (by decide +kernel : TG 3 = 3) (by decide +kernel) rfl (vI (l := (-1)) (u := 1600) (by decide +kernel) rfl (by omega) (by omega)) h3 h4 (by decide +kernel) (fun σ11 h12 h13 h14 h15 => ?_)
    exact En_ret (v := none) rfl rfl rfl ⟨h12, h13, a, ((h15 _ _ (Or.inr (by decide))).trans h5), rfl, (by omega)⟩
/-- DoorSchool$Reader.isBlank(B)Z -/
abbrev P_56 (σ0 : SG) (a : Int32) : PO := fun v σ => WT σ ∧ Fr [] σ0 σ ∧ ∃ ret : Int32, v = some (.int ret) ∧ -ret.toInt ≤ 0 ∧ ret.toInt - 1 ≤ 0 ∧ (ret.toInt - 1 ≤ 0 ∧ -ret.toInt + 1 ≤ 0 → -a.toInt + 10 ≤ 0 ∧ a.toInt - 32 ≤ 0)
set_option maxRecDepth 10000 in
set_option maxHeartbeats 4000000 in
theorem c_56 (σ0 : SG) (hσ0 : WT σ0) (a : Int32) (hl_a : (-128) ≤ a.toInt) (hu_a : a.toInt ≤ 127) : En 0 0 none mr_56 (P_56 σ0 a) 0 [(0, .int a)] [] σ0 := by
  have hF0 : Fr [] σ0 σ0 := Fr_rfl
  refine En_Ps 2 (pc' := 3) (lv' := [(0, .int a)]) (st' := [.int (((Int8.ofInt 32).toInt32)), .int a]) rfl ?_
  refine En_icEq _ rfl (by decide : ((Int8.ofInt 32).toInt32).toInt = 32) rfl (fun h1 => ?_) (fun h1 => ?_)
  · refine En_Ps 2 (pc' := 17) (lv' := [(0, .int a)]) (st' := [.int ((Int32.ofInt 1))]) rfl ?_
    refine En_top (by decide : (Int32.ofInt 1).toInt = 1) (fun z2 h3 => ?_)
    exact En_ret (v := some (.int z2)) rfl rfl (retZ rfl rfl (by omega) (by omega)) ⟨hσ0, hF0, z2, rfl, (by omega)⟩
  · refine En_Ps 2 (pc' := 9) (lv' := [(0, .int a)]) (st' := [.int (((Int8.ofInt 10).toInt32)), .int a]) rfl ?_
    refine En_icNe _ rfl (by decide : ((Int8.ofInt 10).toInt32).toInt = 10) rfl (fun h4 => ?_) (fun h4 => ?_)
    · refine En_Ps 1 (pc' := 17) (lv' := [(0, .int a)]) (st' := [.int ((Int32.ofInt 0))]) rfl ?_
      refine En_top (by decide : (Int32.ofInt 0).toInt = 0) (fun z5 h6 => ?_)
      exact En_ret (v := some (.int z5)) rfl rfl (retZ rfl rfl (by omega) (by omega)) ⟨hσ0, hF0, z5, rfl, (by omega)⟩
    · refine En_Ps 2 (pc' := 17) (lv' := [(0, .int a)]) (st' := [.int ((Int32.ofInt 1))]) rfl ?_
      refine En_top (by decide : (Int32.ofInt 1).toInt = 1) (fun z7 h8 => ?_)
      exact En_ret (v := some (.int z7)) rfl rfl (retZ rfl rfl (by omega) (by omega)) ⟨hσ0, hF0, z7, rfl, (by omega)⟩
/-- DoorSchool$Reader.kindAt(I)I -/
abbrev P_57 (σ0 : SG) (a : Int32) (m : Int32) : PO := fun v σ => WT σ ∧ Fr [] σ0 σ ∧ ∃ ret : Int32, v = some (.int ret) ∧ -ret.toInt ≤ 0 ∧ ret.toInt - 4 ≤ 0 ∧ (-ret.toInt + 1 ≤ 0 → a.toInt - m.toInt + 1 ≤ 0)
set_option maxRecDepth 10000 in
set_option maxHeartbeats 4000000 in
theorem c_57 (σ0 : SG) (hσ0 : WT σ0) (a : Int32) (hl_a : 0 ≤ a.toInt) (hu_a : a.toInt ≤ 1600) (m : Int32) (h_m : (σ0 1)[1]? = some (.int m)) : En 0 0 none mr_57 (P_57 σ0 a m) 0 [(0, .ref 3), (1, .int a)] [] σ0 := by
  obtain ⟨hl_m, hu_m⟩ := WT_int hσ0 (g := 1) (by decide +kernel) (by decide +kernel) (l := 0) (u := 1600) (by decide +kernel) h_m
  have hF0 : Fr [] σ0 σ0 := Fr_rfl
  refine En_Ps 2 (pc' := 2) (lv' := [(0, .ref 3), (1, .int a)]) (st' := [.ref 3, .int a]) rfl ?_
  refine En_getU (j := 0) (u := 1) (g' := 1) (q := 0) rfl rfl rfl (by decide +kernel : TG 3 = 3) (by decide +kernel) hσ0 (by decide +kernel) (by decide +kernel) (fun h1 => ?_)
  refine En_getK (j := 1) h_m rfl rfl rfl (by decide +kernel : TG 1 = 1) (by decide +kernel) ?_
  refine En_icLt _ rfl rfl rfl (fun h3 => ?_) (fun h3 => ?_)
  · refine En_Ps 1 (pc' := 14) (lv' := [(0, .ref 3), (1, .int a)]) (st' := [.ref 3]) rfl ?_
    refine En_getK (j := 0) h1 rfl rfl rfl (by decide +kernel : TG 3 = 3) (by decide +kernel) ?_
    refine En_getU (j := 0) (u := 2) (g' := 2) (q := 0) rfl rfl rfl (by decide +kernel : TG 1 = 1) (by decide +kernel) hσ0 (by decide +kernel) (by decide +kernel) (fun h4 => ?_)
    refine En_Ps 1 (pc' := 21) (lv' := [(0, .ref 3), (1, .int a)]) (st' := [.int a, .ref 2]) rfl ?_
    refine En_bald (l := (-128)) (u := 127) rfl rfl (by decide +kernel : TG 2 = 2) (by decide +kernel) hσ0 (by omega) (lnI (by decide +kernel : LN _ = 1600) (by omega)) (FTsgl (by decide +kernel)) (fun z7 h6 h8 h9 => ?_)
    refine En_Ps 3 (pc' := 26) (lv' := [(2, .int z7), (0, .ref 3), (1, .int a)]) (st' := [.int (((Int8.ofInt 97).toInt32)), .int z7]) rfl ?_
    refine En_icLt _ rfl (by decide : ((Int8.ofInt 97).toInt32).toInt = 97) rfl (fun h10 => ?_) (fun h10 => ?_)
    · refine En_Ps 2 (pc' := 40) (lv' := [(2, .int z7), (0, .ref 3), (1, .int a)]) (st' := [.int (((Int8.ofInt 48).toInt32)), .int z7]) rfl ?_
      refine En_icLt _ rfl (by decide : ((Int8.ofInt 48).toInt32).toInt = 48) rfl (fun h11 => ?_) (fun h11 => ?_)
      · refine En_Ps 2 (pc' := 54) (lv' := [(2, .int z7), (0, .ref 3), (1, .int a)]) (st' := [.int (((Int8.ofInt 59).toInt32)), .int z7]) rfl ?_
        refine En_icNe _ rfl (by decide : ((Int8.ofInt 59).toInt32).toInt = 59) rfl (fun h12 => ?_) (fun hx => by exfalso; omega)
        refine En_Ps 1 (pc' := 62) (lv' := [(2, .int z7), (0, .ref 3), (1, .int a)]) (st' := [.int ((Int32.ofInt 4))]) rfl ?_
        refine En_top (by decide : (Int32.ofInt 4).toInt = 4) (fun z13 h14 => ?_)
        exact En_ret (v := some (.int z13)) rfl rfl rfl ⟨hσ0, hF0, z13, rfl, (by omega)⟩
      · refine En_Ps 2 (pc' := 46) (lv' := [(2, .int z7), (0, .ref 3), (1, .int a)]) (st' := [.int (((Int8.ofInt 57).toInt32)), .int z7]) rfl ?_
        refine En_icGt _ rfl (by decide : ((Int8.ofInt 57).toInt32).toInt = 57) rfl (fun h15 => ?_) (fun h15 => ?_)
        · refine En_Ps 2 (pc' := 54) (lv' := [(2, .int z7), (0, .ref 3), (1, .int a)]) (st' := [.int (((Int8.ofInt 59).toInt32)), .int z7]) rfl ?_
          refine En_icNe _ rfl (by decide : ((Int8.ofInt 59).toInt32).toInt = 59) rfl (fun h16 => ?_) (fun h16 => ?_)
          · refine En_Ps 1 (pc' := 62) (lv' := [(2, .int z7), (0, .ref 3), (1, .int a)]) (st' := [.int ((Int32.ofInt 4))]) rfl ?_
            refine En_top (by decide : (Int32.ofInt 4).toInt = 4) (fun z17 h18 => ?_)
            exact En_ret (v := some (.int z17)) rfl rfl rfl ⟨hσ0, hF0, z17, rfl, (by omega)⟩
          · refine En_Ps 2 (pc' := 62) (lv' := [(2, .int z7), (0, .ref 3), (1, .int a)]) (st' := [.int ((Int32.ofInt 3))]) rfl ?_
            refine En_top (by decide : (Int32.ofInt 3).toInt = 3) (fun z19 h20 => ?_)
            exact En_ret (v := some (.int z19)) rfl rfl rfl ⟨hσ0, hF0, z19, rfl, (by omega)⟩
        · refine En_Ps 1 (pc' := 50) (lv' := [(2, .int z7), (0, .ref 3), (1, .int a)]) (st' := [.int ((Int32.ofInt 2))]) rfl ?_
          refine En_top (by decide : (Int32.ofInt 2).toInt = 2) (fun z21 h22 => ?_)
          exact En_ret (v := some (.int z21)) rfl rfl rfl ⟨hσ0, hF0, z21, rfl, (by omega)⟩
    · refine En_Ps 2 (pc' := 32) (lv' := [(2, .int z7), (0, .ref 3), (1, .int a)]) (st' := [.int (((Int8.ofInt 122).toInt32)), .int z7]) rfl ?_
      refine En_icGt _ rfl (by decide : ((Int8.ofInt 122).toInt32).toInt = 122) rfl (fun h23 => ?_) (fun h23 => ?_)
      · refine En_Ps 2 (pc' := 40) (lv' := [(2, .int z7), (0, .ref 3), (1, .int a)]) (st' := [.int (((Int8.ofInt 48).toInt32)), .int z7]) rfl ?_
        refine En_icLt _ rfl (by decide : ((Int8.ofInt 48).toInt32).toInt = 48) rfl (fun hx => by exfalso; omega) (fun h24 => ?_)
        refine En_Ps 2 (pc' := 46) (lv' := [(2, .int z7), (0, .ref 3), (1, .int a)]) (st' := [.int (((Int8.ofInt 57).toInt32)), .int z7]) rfl ?_
        refine En_icGt _ rfl (by decide : ((Int8.ofInt 57).toInt32).toInt = 57) rfl (fun h25 => ?_) (fun hx => by exfalso; omega)
        refine En_Ps 2 (pc' := 54) (lv' := [(2, .int z7), (0, .ref 3), (1, .int a)]) (st' := [.int (((Int8.ofInt 59).toInt32)), .int z7]) rfl ?_
        refine En_icNe _ rfl (by decide : ((Int8.ofInt 59).toInt32).toInt = 59) rfl (fun h26 => ?_) (fun hx => by exfalso; omega)
        refine En_Ps 1 (pc' := 62) (lv' := [(2, .int z7), (0, .ref 3), (1, .int a)]) (st' := [.int ((Int32.ofInt 4))]) rfl ?_
        refine En_top (by decide : (Int32.ofInt 4).toInt = 4) (fun z27 h28 => ?_)
        exact En_ret (v := some (.int z27)) rfl rfl rfl ⟨hσ0, hF0, z27, rfl, (by omega)⟩
      · refine En_Ps 1 (pc' := 36) (lv' := [(2, .int z7), (0, .ref 3), (1, .int a)]) (st' := [.int ((Int32.ofInt 1))]) rfl ?_
        refine En_top (by decide : (Int32.ofInt 1).toInt = 1) (fun z29 h30 => ?_)
        exact En_ret (v := some (.int z29)) rfl rfl rfl ⟨hσ0, hF0, z29, rfl, (by omega)⟩
  · refine En_Ps 1 (pc' := 12) (lv' := [(0, .ref 3), (1, .int a)]) (st' := [.int ((Int32.ofInt 0))]) rfl ?_
    refine En_top (by decide : (Int32.ofInt 0).toInt = 0) (fun z31 h32 => ?_)
    exact En_ret (v := some (.int z31)) rfl rfl rfl ⟨hσ0, hF0, z31, rfl, (by omega)⟩
/-- DoorSchool$Reader.numberHere(II)I -/
abbrev P_58 (σ0 : SG) (a : Int32) (b : Int32) (f : Int32) : PO := fun v σ => WT σ ∧ Fr [(3, 5), (3, 6)] σ0 σ ∧ ∃ f1 : Int32, (σ 3)[5]? = some (.int f1) ∧ ∃ ret : Int32, v = some (.int ret) ∧ ret.toInt - 1000000 ≤ 0 ∧ -f1.toInt ≤ 0 ∧ f1.toInt - 3 ≤ 0 ∧ -f1.toInt + f.toInt ≤ 0 ∧ f1.toInt - f.toInt - 3 ≤ 0 ∧ f.toInt - f1.toInt ≤ 0 ∧ (f1.toInt ≤ 0 → a.toInt - ret.toInt ≤ 0 ∧ ret.toInt - b.toInt ≤ 0) ∧ (-f1.toInt + 1 ≤ 0 → ret.toInt + 1 ≤ 0 ∧ -ret.toInt - 1 ≤ 0) ∧ (-b.toInt - 1 ≤ 0 → ret.toInt - b.toInt ≤ 0) ∧ (-a.toInt - 1 ≤ 0 → -ret.toInt - 1 ≤ 0)
set_option maxRecDepth 10000 in
set_option maxHeartbeats 4000000 in
theorem c_58 (σ0 : SG) (hσ0 : WT σ0) (a : Int32) (b : Int32) (f : Int32) (h_f : (σ0 3)[5]? = some (.int f)) : En 1 21 none mr_58 (P_58 σ0 a b f) 0 [(0, .ref 3), (1, .int a), (2, .int b)] [] σ0 := by
  obtain ⟨hl_f, hu_f⟩ := WT_int hσ0 (g := 3) (by decide +kernel) (by decide +kernel) (l := 0) (u := 3) (by decide +kernel) h_f
  have hF0 : Fr [(3, 5), (3, 6)] σ0 σ0 := Fr_rfl
  refine En_Ps 1 (pc' := 1) (lv' := [(0, .ref 3), (1, .int a), (2, .int b)]) (st' := [.ref 3]) rfl ?_
  refine En_getI (j := 1) (l := 0) (u := 4) rfl rfl rfl (by decide +kernel : TG 3 = 3) (by decide +kernel) hσ0 (by decide +kernel) (fun z2 h1 h3 h4 => ?_)
  refine En_Ps 1 (pc' := 5) (lv' := [(0, .ref 3), (1, .int a), (2, .int b)]) (st' := [.int ((Int32.ofInt 2)), .int z2]) rfl ?_
  refine En_icEq _ rfl (by decide : (Int32.ofInt 2).toInt = 2) rfl (fun h5 => ?_) (fun h5 => ?_)
  · refine En_Ps 1 (pc' := 17) (lv' := [(0, .ref 3), (1, .int a), (2, .int b)]) (st' := [.ref 3]) rfl ?_
    refine En_getI (j := 4) (l := (-2147483648)) (u := 1000000) rfl rfl rfl (by decide +kernel : TG 3 = 3) (by decide +kernel) hσ0 (by decide +kernel) (fun z7 h6 h8 h9 => ?_)
    refine En_Ps 1 (pc' := 21) (lv' := [(0, .ref 3), (1, .int a), (2, .int b)]) (st' := [.int a, .int z7]) rfl ?_
    refine En_icLt _ rfl rfl rfl (fun h10 => ?_) (fun h10 => ?_)
    · refine En_Ps 2 (pc' := 34) (lv' := [(0, .ref 3), (1, .int a), (2, .int b)]) (st' := [.int ((Int32.ofInt 2)), .ref 3]) rfl ?_
      have := (by decide : ((Int32.ofInt 2)).toInt = 2)
      refine En_callV rfl rfl rfl rfl rfl rfl rfl rfl (by decide +kernel : TG 3 = 3) (by decide +kernel) rfl (c_54 σ0 hσ0 ((Int32.ofInt 2)) (geI (by decide : (Int32.ofInt 2).toInt = 2) (by omega)) (leI (by decide : (Int32.ofInt 2).toInt = 2) (by omega)) f h_f) (by decide) (by decide) (fun v12 σ13 h11 => ?_)
      obtain ⟨h14, h15, z17, h18, rfl, h16⟩ := h11
      have h19 := Fr_trans hF0 h15 (by decide +kernel)
      refine En_Ps 1 (pc' := 38) (lv' := [(0, .ref 3), (1, .int a), (2, .int b)]) (st' := [.ref 3]) rfl ?_
      refine En_getK (j := 5) h18 rfl rfl rfl (by decide +kernel : TG 3 = 3) (by decide +kernel) ?_
      refine En_iNe _ rfl rfl (fun h20 => ?_) (fun hx => by exfalso; omega)
      refine En_Ps 1 (pc' := 52) (lv' := [(0, .ref 3), (1, .int a), (2, .int b)]) (st' := [.int ((Int32.ofInt (-1)))]) rfl ?_
      refine En_top (by decide : (Int32.ofInt (-1)).toInt = -1) (fun z21 h22 => ?_)
      exact En_ret (v := some (.int z21)) rfl rfl rfl ⟨h14, h19, z17, h18, z21, rfl, (by omega)⟩
    · refine En_Ps 1 (pc' := 25) (lv' := [(0, .ref 3), (1, .int a), (2, .int b)]) (st' := [.ref 3]) rfl ?_
      refine En_getK (j := 4) h6 rfl rfl rfl (by decide +kernel : TG 3 = 3) (by decide +kernel) ?_
      refine En_Ps 1 (pc' := 29) (lv' := [(0, .ref 3), (1, .int a), (2, .int b)]) (st' := [.int b, .int z7]) rfl ?_
      refine En_icLe _ rfl rfl rfl (fun h23 => ?_) (fun h23 => ?_)
      · refine En_Ps 1 (pc' := 38) (lv' := [(0, .ref 3), (1, .int a), (2, .int b)]) (st' := [.ref 3]) rfl ?_
        refine En_getK (j := 5) h_f rfl rfl rfl (by decide +kernel : TG 3 = 3) (by decide +kernel) ?_
        refine En_iNe _ rfl rfl (fun h24 => ?_) (fun h24 => ?_)
        · refine En_Ps 1 (pc' := 52) (lv' := [(0, .ref 3), (1, .int a), (2, .int b)]) (st' := [.int ((Int32.ofInt (-1)))]) rfl ?_
          refine En_top (by decide : (Int32.ofInt (-1)).toInt = -1) (fun z25 h26 => ?_)
          exact En_ret (v := some (.int z25)) rfl rfl rfl ⟨hσ0, hF0, f, h_f, z25, rfl, (by omega)⟩
        · refine En_Ps 1 (pc' := 45) (lv' := [(0, .ref 3), (1, .int a), (2, .int b)]) (st' := [.ref 3]) rfl ?_
          refine En_getK (j := 4) h6 rfl rfl rfl (by decide +kernel : TG 3 = 3) (by decide +kernel) ?_
          refine En_Ps 1 (pc' := 52) (lv' := [(0, .ref 3), (1, .int a), (2, .int b)]) (st' := [.int z7]) rfl ?_
          exact En_ret (v := some (.int z7)) rfl rfl rfl ⟨hσ0, hF0, f, h_f, z7, rfl, (by omega)⟩
      · refine En_Ps 2 (pc' := 34) (lv' := [(0, .ref 3), (1, .int a), (2, .int b)]) (st' := [.int ((Int32.ofInt 2)), .ref 3]) rfl ?_
        have := (by decide : ((Int32.ofInt 2)).toInt = 2)
        refine En_callV rfl rfl rfl rfl rfl rfl rfl rfl (by decide +kernel : TG 3 = 3) (by decide +kernel) rfl (c_54 σ0 hσ0 ((Int32.ofInt 2)) (geI (by decide : (Int32.ofInt 2).toInt = 2) (by omega)) (leI (by decide : (Int32.ofInt 2).toInt = 2) (by omega)) f h_f) (by decide) (by decide) (fun v28 σ29 h27 => ?_)
        obtain ⟨h30, h31, z33, h34, rfl, h32⟩ := h27
        have h35 := Fr_trans hF0 h31 (by decide +kernel)
        refine En_Ps 1 (pc' := 38) (lv' := [(0, .ref 3), (1, .int a), (2, .int b)]) (st' := [.ref 3]) rfl ?_
        refine En_getK (j := 5) h34 rfl rfl rfl (by decide +kernel : TG 3 = 3) (by decide +kernel) ?_
        refine En_iNe _ rfl rfl (fun h36 => ?_) (fun hx => by exfalso; omega)
        refine En_Ps 1 (pc' := 52) (lv' := [(0, .ref 3), (1, .int a), (2, .int b)]) (st' := [.int ((Int32.ofInt (-1)))]) rfl ?_
        refine En_top (by decide : (Int32.ofInt (-1)).toInt = -1) (fun z37 h38 => ?_)
        exact En_ret (v := some (.int z37)) rfl rfl rfl ⟨h30, h35, z33, h34, z37, rfl, (by omega)⟩
  · refine En_Ps 2 (pc' := 10) (lv' := [(0, .ref 3), (1, .int a), (2, .int b)]) (st' := [.int ((Int32.ofInt 1)), .ref 3]) rfl ?_
    have := (by decide : ((Int32.ofInt 1)).toInt = 1)
    refine En_callV rfl rfl rfl rfl rfl rfl rfl rfl (by decide +kernel : TG 3 = 3) (by decide +kernel) rfl (c_54 σ0 hσ0 ((Int32.ofInt 1)) (geI (by decide : (Int32.ofInt 1).toInt = 1) (by omega)) (leI (by decide : (Int32.ofInt 1).toInt = 1) (by omega)) f h_f) (by decide) (by decide) (fun v40 σ41 h39 => ?_)
    obtain ⟨h42, h43, z45, h46, rfl, h44⟩ := h39
    have h47 := Fr_trans hF0 h43 (by decide +kernel)
    refine En_Ps 2 (pc' := 38) (lv' := [(0, .ref 3), (1, .int a), (2, .int b)]) (st' := [.ref 3]) rfl ?_
    refine En_getK (j := 5) h46 rfl rfl rfl (by decide +kernel : TG 3 = 3) (by decide +kernel) ?_
    refine En_iNe _ rfl rfl (fun h48 => ?_) (fun hx => by exfalso; omega)
    refine En_Ps 1 (pc' := 52) (lv' := [(0, .ref 3), (1, .int a), (2, .int b)]) (st' := [.int ((Int32.ofInt (-1)))]) rfl ?_
    refine En_top (by decide : (Int32.ofInt (-1)).toInt = -1) (fun z49 h50 => ?_)
    exact En_ret (v := some (.int z49)) rfl rfl rfl ⟨h42, h47, z45, h46, z49, rfl, (by omega)⟩
/-- DoorSchool$Reader.step()V -/
abbrev P_72 (σ0 : SG) : PO := fun v σ => WT σ ∧ Fr [(3, 1), (3, 2), (3, 3), (3, 4)] σ0 σ ∧ v = none ∧ True
set_option maxRecDepth 10000 in
set_option maxHeartbeats 4000000 in
theorem c_72 (σ0 : SG) (hσ0 : WT σ0) : En 1 22 none mr_72 (P_72 σ0) 0 [(0, .ref 3)] [] σ0 := by
  have hF0 : Fr [(3, 1), (3, 2), (3, 3), (3, 4)] σ0 σ0 := Fr_rfl
  refine En_Ps 2 (pc' := 2) (lv' := [(0, .ref 3)]) (st' := [.ref 3, .ref 3]) rfl ?_
  refine En_getI (j := 3) (l := 0) (u := 1600) rfl rfl rfl (by decide +kernel : TG 3 = 3) (by decide +kernel) hσ0 (by decide +kernel) (fun z2 h1 h3 h4 => ?_)
  refine En_put (j := 2) rfl rfl rfl (by decide +kernel : TG 3 = 3) (by decide +kernel) rfl (vI (l := 0) (u := 1600) (by decide +kernel) rfl (by omega) (by omega)) hσ0 hF0 (by decide +kernel) (fun σ5 h6 h7 h8 h9 => ?_)
  have key8 : ∀ (n8 : Nat) (σ11 : SG) (y10 : Int32), WT σ11 → Fr [(3, 1), (3, 2), (3, 3), (3, 4)] σ0 σ11 → (σ11 3)[3]? = some (.int z2) → (σ11 3)[2]? = some (.int y10) → 0 ≤ y10.toInt → y10.toInt ≤ 1600 → z2.toInt - y10.toInt ≤ 0 → -y10.toInt + 1600 < (n8 : Int) → En 1 22 none mr_72 (P_72 σ0) 8 [(0, .ref 3)] [] σ11 := by
    intro n8
    induction n8 with
    | zero =>
      intro σ11 y10 h12 h13 h14 h15 h16 h17 h18 h19
      exfalso; omega
    | succ n8 ih8 =>
      intro σ11 y10 h12 h13 h14 h15 h16 h17 h18 h19
      refine En_Ps 1 (pc' := 9) (lv' := [(0, .ref 3)]) (st' := [.ref 3]) rfl ?_
      refine En_getK (j := 2) h15 rfl rfl rfl (by decide +kernel : TG 3 = 3) (by decide +kernel) ?_
      refine En_Ps 1 (pc' := 13) (lv' := [(0, .ref 3)]) (st' := [.ref 3, .int y10]) rfl ?_
      refine En_getU (j := 0) (u := 1) (g' := 1) (q := 0) rfl rfl rfl (by decide +kernel : TG 3 = 3) (by decide +kernel) h12 (by decide +kernel) (by decide +kernel) (fun h20 => ?_)
      refine En_getI (j := 1) (l := 0) (u := 1600) rfl rfl rfl (by decide +kernel : TG 1 = 1) (by decide +kernel) h12 (by decide +kernel) (fun z23 h22 h24 h25 => ?_)
      refine En_icGe _ rfl rfl rfl (fun h26 => ?_) (fun h26 => ?_)
      · refine En_Ps 3 (pc' := 56) (lv' := [(0, .ref 3)]) (st' := [.ref 3, .ref 3, .ref 3]) rfl ?_
        refine En_getK (j := 2) h15 rfl rfl rfl (by decide +kernel : TG 3 = 3) (by decide +kernel) ?_
        refine En_callV rfl rfl rfl rfl rfl rfl rfl rfl (by decide +kernel : TG 3 = 3) (by decide +kernel) rfl (c_57 σ11 h12 y10 (geI rfl (by omega)) (leI rfl (by omega)) z23 h22) (by decide) (by decide) (fun v28 σ29 h27 => ?_)
        obtain ⟨h30, h31, z33, rfl, h32⟩ := h27
        have h34 := Fr_trans h13 h31 (by decide +kernel)
        refine En_put (j := 1) rfl rfl rfl (by decide +kernel : TG 3 = 3) (by decide +kernel) rfl (vI (l := 0) (u := 4) (by decide +kernel) rfl (by omega) (by omega)) h30 h34 (by decide +kernel) (fun σ35 h36 h37 h38 h39 => ?_)
        refine En_Ps 2 (pc' := 67) (lv' := [(0, .ref 3)]) (st' := [.int ((Int32.ofInt 0)), .ref 3]) rfl ?_
        have := fullI ((Int32.ofInt 0))
        refine En_put (j := 4) rfl rfl rfl (by decide +kernel : TG 3 = 3) (by decide +kernel) rfl (vI (l := (-2147483648)) (u := 1000000) (by decide +kernel) (by decide : (Int32.ofInt 0).toInt = 0) (by omega) (by omega)) h36 h37 (by decide +kernel) (fun σ40 h41 h42 h43 h44 => ?_)
        refine En_Ps 2 (pc' := 72) (lv' := [(0, .ref 3)]) (st' := [.ref 3, .ref 3]) rfl ?_
        refine En_getK (j := 2) ((h44 _ _ (Or.inr (by decide))).trans ((h39 _ _ (Or.inr (by decide))).trans ((h31 _ _ (inW (by decide +kernel : TG 3 = 3) (by decide +kernel))).trans h15))) rfl rfl rfl (by decide +kernel : TG 3 = 3) (by decide +kernel) ?_
        refine En_put (j := 3) rfl rfl rfl (by decide +kernel : TG 3 = 3) (by decide +kernel) rfl (vI (l := 0) (u := 1600) (by decide +kernel) rfl (by omega) (by omega)) h41 h42 (by decide +kernel) (fun σ45 h46 h47 h48 h49 => ?_)
        refine En_Ps 1 (pc' := 79) (lv' := [(0, .ref 3)]) (st' := [.ref 3]) rfl ?_
        refine En_getK (j := 1) ((h49 _ _ (Or.inr (by decide))).trans ((h44 _ _ (Or.inr (by decide))).trans h38)) rfl rfl rfl (by decide +kernel : TG 3 = 3) (by decide +kernel) ?_
        refine En_Ps 1 (pc' := 83) (lv' := [(0, .ref 3)]) (st' := [.int ((Int32.ofInt 3)), .int z33]) rfl ?_
        refine En_icEq _ rfl (by decide : (Int32.ofInt 3).toInt = 3) rfl (fun hx => by exfalso; omega) (fun h50 => ?_)
        refine En_Ps 1 (pc' := 87) (lv' := [(0, .ref 3)]) (st' := [.ref 3]) rfl ?_
        refine En_getK (j := 1) ((h49 _ _ (Or.inr (by decide))).trans ((h44 _ _ (Or.inr (by decide))).trans h38)) rfl rfl rfl (by decide +kernel : TG 3 = 3) (by decide +kernel) ?_
        refine En_Ps 1 (pc' := 91) (lv' := [(0, .ref 3)]) (st' := [.int ((Int32.ofInt 4)), .int z33]) rfl ?_
        refine En_icNe _ rfl (by decide : (Int32.ofInt 4).toInt = 4) rfl (fun h51 => ?_) (fun hx => by exfalso; omega)
        have key104 : ∀ (n104 : Nat) (σ54 : SG) (y52 : Int32) (y53 : Int32), WT σ54 → Fr [(3, 1), (3, 2), (3, 3), (3, 4)] σ0 σ54 → (σ54 3)[2]? = some (.int y10) → (σ54 3)[0]? = some (.ref 1) → (σ54 1)[1]? = some (.int z23) → (σ54 3)[1]? = some (.int z33) → (σ54 3)[4]? = some (.int y52) → (σ54 3)[3]? = some (.int y53) → 0 ≤ y52.toInt → y52.toInt ≤ 0 → 0 ≤ y53.toInt → y53.toInt ≤ 1600 → y53.toInt - y10.toInt ≤ 0 → y10.toInt - y53.toInt ≤ 0 → y10.toInt - y52.toInt < (n104 : Int) → En 1 22 none mr_72 (P_72 σ0) 104 [(0, .ref 3)] [] σ54 := by
          intro n104
          induction n104 with
          | zero =>
            intro σ54 y52 y53 h55 h56 h57 h58 h59 h60 h61 h62 h63 h64 h65 h66 h67 h68 h69
            exfalso; omega
          | succ n104 ih104 =>
            intro σ54 y52 y53 h55 h56 h57 h58 h59 h60 h61 h62 h63 h64 h65 h66 h67 h68 h69
            refine En_Ps 1 (pc' := 105) (lv' := [(0, .ref 3)]) (st' := [.ref 3]) rfl ?_
            refine En_getK (j := 1) h60 rfl rfl rfl (by decide +kernel : TG 3 = 3) (by decide +kernel) ?_
            refine En_Ps 1 (pc' := 109) (lv' := [(0, .ref 3)]) (st' := [.int ((Int32.ofInt 1)), .int z33]) rfl ?_
            refine En_icEq _ rfl (by decide : (Int32.ofInt 1).toInt = 1) rfl (fun hx => by exfalso; omega) (fun h70 => ?_)
            refine En_Ps 1 (pc' := 113) (lv' := [(0, .ref 3)]) (st' := [.ref 3]) rfl ?_
            refine En_getK (j := 1) h60 rfl rfl rfl (by decide +kernel : TG 3 = 3) (by decide +kernel) ?_
            refine En_Ps 1 (pc' := 117) (lv' := [(0, .ref 3)]) (st' := [.int ((Int32.ofInt 2)), .int z33]) rfl ?_
            refine En_icNe _ rfl (by decide : (Int32.ofInt 2).toInt = 2) rfl (fun h71 => ?_) (fun hx => by exfalso; omega)
            exact En_ret (v := none) rfl rfl rfl ⟨h55, h56, rfl, trivial⟩
        have := (by decide : (Int32.ofInt 0).toInt = 0)
        exact key104 (Int.toNat (y10.toInt) + 1) σ45 ((Int32.ofInt 0)) y10 h46 h47 ((h49 _ _ (Or.inr (by decide))).trans ((h44 _ _ (Or.inr (by decide))).trans ((h39 _ _ (Or.inr (by decide))).trans ((h31 _ _ (inW (by decide +kernel : TG 3 = 3) (by decide +kernel))).trans h15)))) ((h49 _ _ (Or.inr (by decide))).trans ((h44 _ _ (Or.inr (by decide))).trans ((h39 _ _ (Or.inr (by decide))).trans ((h31 _ _ (inW (by decide +kernel : TG 3 = 3) (by decide +kernel))).trans h20)))) ((h49 _ _ (Or.inr (by decide))).trans ((h44 _ _ (Or.inr (by decide))).trans ((h39 _ _ (Or.inl (neTG (by decide +kernel : TG 1 = 1) (by decide +kernel : TG 3 = 3) (by decide)))).trans ((h31 _ _ (inW (by decide +kernel : TG 1 = 1) (by decide +kernel))).trans h22)))) ((h49 _ _ (Or.inr (by decide))).trans ((h44 _ _ (Or.inr (by decide))).trans h38)) ((h49 _ _ (Or.inr (by decide))).trans h43) h48 (by omega) (by omega) (by omega) (by omega) (by omega) (by omega) (by omega)
      · refine En_Ps 1 (pc' := 23) (lv' := [(0, .ref 3)]) (st' := [.ref 3]) rfl ?_
        refine En_getK (j := 0) h20 rfl rfl rfl (by decide +kernel : TG 3 = 3) (by decide +kernel) ?_
        refine En_getU (j := 0) (u := 2) (g' := 2) (q := 0) rfl rfl rfl (by decide +kernel : TG 1 = 1) (by decide +kernel) h12 (by decide +kernel) (by decide +kernel) (fun h72 => ?_)
        refine En_Ps 1 (pc' := 30) (lv' := [(0, .ref 3)]) (st' := [.ref 3, .ref 2]) rfl ?_
        refine En_getK (j := 2) h15 rfl rfl rfl (by decide +kernel : TG 3 = 3) (by decide +kernel) ?_
        refine En_bald (l := (-128)) (u := 127) rfl rfl (by decide +kernel : TG 2 = 2) (by decide +kernel) h12 (by omega) (lnI (by decide +kernel : LN _ = 1600) (by omega)) (FTsgl (by decide +kernel)) (fun z75 h74 h76 h77 => ?_)
        refine En_callS rfl rfl rfl rfl rfl rfl rfl rfl rfl (c_56 σ11 h12 z75 (geI rfl (by omega)) (leI rfl (by omega))) (by decide) (by decide) (fun v79 σ80 h78 => ?_)
        obtain ⟨h81, h82, z84, rfl, h83⟩ := h78
        have h85 := Fr_trans h13 h82 (by decide +kernel)
        refine En_iEq _ rfl rfl (fun h86 => ?_) (fun h86 => ?_)
        · refine En_Ps 3 (pc' := 56) (lv' := [(0, .ref 3)]) (st' := [.ref 3, .ref 3, .ref 3]) rfl ?_
          refine En_getK (j := 2) ((h82 _ _ (inW (by decide +kernel : TG 3 = 3) (by decide +kernel))).trans h15) rfl rfl rfl (by decide +kernel : TG 3 = 3) (by decide +kernel) ?_
          refine En_callV rfl rfl rfl rfl rfl rfl rfl rfl (by decide +kernel : TG 3 = 3) (by decide +kernel) rfl (c_57 σ80 h81 y10 (geI rfl (by omega)) (leI rfl (by omega)) z23 ((h82 _ _ (inW (by decide +kernel : TG 1 = 1) (by decide +kernel))).trans h22)) (by decide) (by decide) (fun v88 σ89 h87 => ?_)
          obtain ⟨h90, h91, z93, rfl, h92⟩ := h87
          have h94 := Fr_trans h85 h91 (by decide +kernel)
          refine En_put (j := 1) rfl rfl rfl (by decide +kernel : TG 3 = 3) (by decide +kernel) rfl (vI (l := 0) (u := 4) (by decide +kernel) rfl (by omega) (by omega)) h90 h94 (by decide +kernel) (fun σ95 h96 h97 h98 h99 => ?_)
          refine En_Ps 2 (pc' := 67) (lv' := [(0, .ref 3)]) (st' := [.int ((Int32.ofInt 0)), .ref 3]) rfl ?_
          have := fullI ((Int32.ofInt 0))
          refine En_put (j := 4) rfl rfl rfl (by decide +kernel : TG 3 = 3) (by decide +kernel) rfl (vI (l := (-2147483648)) (u := 1000000) (by decide +kernel) (by decide : (Int32.ofInt 0).toInt = 0) (by omega) (by omega)) h96 h97 (by decide +kernel) (fun σ100 h101 h102 h103 h104 => ?_)
          refine En_Ps 2 (pc' := 72) (lv' := [(0, .ref 3)]) (st' := [.ref 3, .ref 3]) rfl ?_
          refine En_getK (j := 2) ((h104 _ _ (Or.inr (by decide))).trans ((h99 _ _ (Or.inr (by decide))).trans ((h91 _ _ (inW (by decide +kernel : TG 3 = 3) (by decide +kernel))).trans ((h82 _ _ (inW (by decide +kernel : TG 3 = 3) (by decide +kernel))).trans h15)))) rfl rfl rfl (by decide +kernel : TG 3 = 3) (by decide +kernel) ?_
          refine En_put (j := 3) rfl rfl rfl (by decide +kernel : TG 3 = 3) (by decide +kernel) rfl (vI (l := 0) (u := 1600) (by decide +kernel) rfl (by omega) (by omega)) h101 h102 (by decide +kernel) (fun σ105 h106 h107 h108 h109 => ?_)
          refine En_Ps 1 (pc' := 79) (lv' := [(0, .ref 3)]) (st' := [.ref 3]) rfl ?_
          refine En_getK (j := 1) ((h109 _ _ (Or.inr (by decide))).trans ((h104 _ _ (Or.inr (by decide))).trans h98)) rfl rfl rfl (by decide +kernel : TG 3 = 3) (by decide +kernel) ?_
          refine En_Ps 1 (pc' := 83) (lv' := [(0, .ref 3)]) (st' := [.int ((Int32.ofInt 3)), .int z93]) rfl ?_
          refine En_icEq _ rfl (by decide : (Int32.ofInt 3).toInt = 3) rfl (fun h110 => ?_) (fun h110 => ?_)
          · refine En_Ps 2 (pc' := 96) (lv' := [(0, .ref 3)]) (st' := [.ref 3, .ref 3]) rfl ?_
            refine En_getK (j := 3) h108 rfl rfl rfl (by decide +kernel : TG 3 = 3) (by decide +kernel) ?_
            refine En_Ps 2 (pc' := 101) (lv' := [(0, .ref 3)]) (st' := [.int ((y10 + ((Int32.ofInt 1)))), .ref 3]) rfl ?_
            refine En_top (addI rfl (by decide : (Int32.ofInt 1).toInt = 1) (by omega) (by omega)) (fun z111 h112 => ?_)
            refine En_put (j := 3) rfl rfl rfl (by decide +kernel : TG 3 = 3) (by decide +kernel) rfl (vI (l := 0) (u := 1600) (by decide +kernel) rfl (by omega) (by omega)) h106 h107 (by decide +kernel) (fun σ113 h114 h115 h116 h117 => ?_)
            have key104 : ∀ (n104 : Nat) (σ120 : SG) (y118 : Int32) (y119 : Int32), WT σ120 → Fr [(3, 1), (3, 2), (3, 3), (3, 4)] σ0 σ120 → (σ120 3)[2]? = some (.int y10) → (σ120 3)[0]? = some (.ref 1) → (σ120 1)[1]? = some (.int z23) → (σ120 1)[0]? = some (.ref 2) → (σ120 2)[(y10.toInt).toNat]? = some (.int z75) → (σ120 3)[1]? = some (.int z93) → (σ120 3)[4]? = some (.int y118) → (σ120 3)[3]? = some (.int y119) → 0 ≤ y118.toInt → y118.toInt ≤ 0 → 1 ≤ y119.toInt → y119.toInt ≤ 1600 → y10.toInt - y119.toInt + 1 ≤ 0 → y119.toInt - y10.toInt - 1 ≤ 0 → y10.toInt - y118.toInt < (n104 : Int) → En 1 22 none mr_72 (P_72 σ0) 104 [(0, .ref 3)] [] σ120 := by
              intro n104
              induction n104 with
              | zero =>
                intro σ120 y118 y119 h121 h122 h123 h124 h125 h126 h127 h128 h129 h130 h131 h132 h133 h134 h135 h136 h137
                exfalso; omega
              | succ n104 ih104 =>
                intro σ120 y118 y119 h121 h122 h123 h124 h125 h126 h127 h128 h129 h130 h131 h132 h133 h134 h135 h136 h137
                refine En_Ps 1 (pc' := 105) (lv' := [(0, .ref 3)]) (st' := [.ref 3]) rfl ?_
                refine En_getK (j := 1) h128 rfl rfl rfl (by decide +kernel : TG 3 = 3) (by decide +kernel) ?_
                refine En_Ps 1 (pc' := 109) (lv' := [(0, .ref 3)]) (st' := [.int ((Int32.ofInt 1)), .int z93]) rfl ?_
                refine En_icEq _ rfl (by decide : (Int32.ofInt 1).toInt = 1) rfl (fun hx => by exfalso; omega) (fun h138 => ?_)
                refine En_Ps 1 (pc' := 113) (lv' := [(0, .ref 3)]) (st' := [.ref 3]) rfl ?_
                refine En_getK (j := 1) h128 rfl rfl rfl (by decide +kernel : TG 3 = 3) (by decide +kernel) ?_
                refine En_Ps 1 (pc' := 117) (lv' := [(0, .ref 3)]) (st' := [.int ((Int32.ofInt 2)), .int z93]) rfl ?_
                refine En_icNe _ rfl (by decide : (Int32.ofInt 2).toInt = 2) rfl (fun h139 => ?_) (fun hx => by exfalso; omega)
                exact En_ret (v := none) rfl rfl rfl ⟨h121, h122, rfl, trivial⟩
            have := (by decide : (Int32.ofInt 0).toInt = 0)
            exact key104 (Int.toNat (y10.toInt) + 1) σ113 ((Int32.ofInt 0)) z111 h114 h115 ((h117 _ _ (Or.inr (by decide))).trans ((h109 _ _ (Or.inr (by decide))).trans ((h104 _ _ (Or.inr (by decide))).trans ((h99 _ _ (Or.inr (by decide))).trans ((h91 _ _ (inW (by decide +kernel : TG 3 = 3) (by decide +kernel))).trans ((h82 _ _ (inW (by decide +kernel : TG 3 = 3) (by decide +kernel))).trans h15)))))) ((h117 _ _ (Or.inr (by decide))).trans ((h109 _ _ (Or.inr (by decide))).trans ((h104 _ _ (Or.inr (by decide))).trans ((h99 _ _ (Or.inr (by decide))).trans ((h91 _ _ (inW (by decide +kernel : TG 3 = 3) (by decide +kernel))).trans ((h82 _ _ (inW (by decide +kernel : TG 3 = 3) (by decide +kernel))).trans h20)))))) ((h117 _ _ (Or.inr (by decide))).trans ((h109 _ _ (Or.inr (by decide))).trans ((h104 _ _ (Or.inr (by decide))).trans ((h99 _ _ (Or.inl (neTG (by decide +kernel : TG 1 = 1) (by decide +kernel : TG 3 = 3) (by decide)))).trans ((h91 _ _ (inW (by decide +kernel : TG 1 = 1) (by decide +kernel))).trans ((h82 _ _ (inW (by decide +kernel : TG 1 = 1) (by decide +kernel))).trans h22)))))) ((h117 _ _ (Or.inr (by decide))).trans ((h109 _ _ (Or.inr (by decide))).trans ((h104 _ _ (Or.inr (by decide))).trans ((h99 _ _ (Or.inr (by decide))).trans ((h91 _ _ (inW (by decide +kernel : TG 1 = 1) (by decide +kernel))).trans ((h82 _ _ (inW (by decide +kernel : TG 1 = 1) (by decide +kernel))).trans h72)))))) ((h117 _ _ (Or.inl (neTG (by decide +kernel : TG 2 = 2) (by decide +kernel : TG 3 = 3) (by decide)))).trans ((h109 _ _ (Or.inl (neTG (by decide +kernel : TG 2 = 2) (by decide +kernel : TG 3 = 3) (by decide)))).trans ((h104 _ _ (Or.inl (neTG (by decide +kernel : TG 2 = 2) (by decide +kernel : TG 3 = 3) (by decide)))).trans ((h99 _ _ (Or.inl (neTG (by decide +kernel : TG 2 = 2) (by decide +kernel : TG 3 = 3) (by decide)))).trans ((h91 _ _ (inWa (by decide +kernel : TG 2 = 2) (by decide +kernel))).trans ((h82 _ _ (inWa (by decide +kernel : TG 2 = 2) (by decide +kernel))).trans h74)))))) ((h117 _ _ (Or.inr (by decide))).trans ((h109 _ _ (Or.inr (by decide))).trans ((h104 _ _ (Or.inr (by decide))).trans h98))) ((h117 _ _ (Or.inr (by decide))).trans ((h109 _ _ (Or.inr (by decide))).trans h103)) h116 (by omega) (by omega) (by omega) (by omega) (by omega) (by omega) (by omega)
          · refine En_Ps 1 (pc' := 87) (lv' := [(0, .ref 3)]) (st' := [.ref 3]) rfl ?_
            refine En_getK (j := 1) ((h109 _ _ (Or.inr (by decide))).trans ((h104 _ _ (Or.inr (by decide))).trans h98)) rfl rfl rfl (by decide +kernel : TG 3 = 3) (by decide +kernel) ?_
            refine En_Ps 1 (pc' := 91) (lv' := [(0, .ref 3)]) (st' := [.int ((Int32.ofInt 4)), .int z93]) rfl ?_
            refine En_icNe _ rfl (by decide : (Int32.ofInt 4).toInt = 4) rfl (fun h140 => ?_) (fun h140 => ?_)
            · have key104 : ∀ (n104 : Nat) (σ143 : SG) (y141 : Int32) (y142 : Int32), WT σ143 → Fr [(3, 1), (3, 2), (3, 3), (3, 4)] σ0 σ143 → (σ143 3)[2]? = some (.int y10) → (σ143 3)[0]? = some (.ref 1) → (σ143 1)[1]? = some (.int z23) → (σ143 1)[0]? = some (.ref 2) → (σ143 2)[(y10.toInt).toNat]? = some (.int z75) → (σ143 3)[1]? = some (.int z93) → (σ143 3)[4]? = some (.int y141) → (σ143 3)[3]? = some (.int y142) → y141.toInt ≤ 1000000 → 0 ≤ y142.toInt → y142.toInt ≤ 1600 → y10.toInt - y142.toInt ≤ 0 → y142.toInt - z23.toInt ≤ 0 → z23.toInt - y142.toInt < (n104 : Int) → En 1 22 none mr_72 (P_72 σ0) 104 [(0, .ref 3)] [] σ143 := by
                intro n104
                induction n104 with
                | zero =>
                  intro σ143 y141 y142 h144 h145 h146 h147 h148 h149 h150 h151 h152 h153 h154 h155 h156 h157 h158 h159
                  exfalso; omega
                | succ n104 ih104 =>
                  intro σ143 y141 y142 h144 h145 h146 h147 h148 h149 h150 h151 h152 h153 h154 h155 h156 h157 h158 h159
                  refine En_Ps 1 (pc' := 105) (lv' := [(0, .ref 3)]) (st' := [.ref 3]) rfl ?_
                  refine En_getK (j := 1) h151 rfl rfl rfl (by decide +kernel : TG 3 = 3) (by decide +kernel) ?_
                  refine En_Ps 1 (pc' := 109) (lv' := [(0, .ref 3)]) (st' := [.int ((Int32.ofInt 1)), .int z93]) rfl ?_
                  refine En_icEq _ rfl (by decide : (Int32.ofInt 1).toInt = 1) rfl (fun h160 => ?_) (fun h160 => ?_)
                  · refine En_Ps 1 (pc' := 121) (lv' := [(0, .ref 3)]) (st' := [.ref 3]) rfl ?_
                    refine En_getK (j := 3) h153 rfl rfl rfl (by decide +kernel : TG 3 = 3) (by decide +kernel) ?_
                    refine En_Ps 1 (pc' := 125) (lv' := [(0, .ref 3)]) (st' := [.ref 3, .int y142]) rfl ?_
                    refine En_getK (j := 0) h147 rfl rfl rfl (by decide +kernel : TG 3 = 3) (by decide +kernel) ?_
                    refine En_getK (j := 1) h148 rfl rfl rfl (by decide +kernel : TG 1 = 1) (by decide +kernel) ?_
                    refine En_icGe _ rfl rfl rfl (fun h161 => ?_) (fun h161 => ?_)
                    · exact En_ret (v := none) rfl rfl rfl ⟨h144, h145, rfl, trivial⟩
                    · refine En_Ps 2 (pc' := 136) (lv' := [(0, .ref 3)]) (st' := [.ref 3, .ref 3]) rfl ?_
                      refine En_getK (j := 3) h153 rfl rfl rfl (by decide +kernel : TG 3 = 3) (by decide +kernel) ?_
                      refine En_callV rfl rfl rfl rfl rfl rfl rfl rfl (by decide +kernel : TG 3 = 3) (by decide +kernel) rfl (c_57 σ143 h144 y142 (geI rfl (by omega)) (leI rfl (by omega)) z23 h148) (by decide) (by decide) (fun v163 σ164 h162 => ?_)
                      obtain ⟨h165, h166, z168, rfl, h167⟩ := h162
                      have h169 := Fr_trans h145 h166 (by decide +kernel)
                      refine En_Ps 1 (pc' := 143) (lv' := [(0, .ref 3)]) (st' := [.ref 3, .int z168]) rfl ?_
                      refine En_getK (j := 1) ((h166 _ _ (inW (by decide +kernel : TG 3 = 3) (by decide +kernel))).trans h151) rfl rfl rfl (by decide +kernel : TG 3 = 3) (by decide +kernel) ?_
                      refine En_icNe _ rfl rfl rfl (fun h170 => ?_) (fun h170 => ?_)
                      · exact En_ret (v := none) rfl rfl rfl ⟨h165, h169, rfl, trivial⟩
                      · refine En_Ps 1 (pc' := 150) (lv' := [(0, .ref 3)]) (st' := [.ref 3]) rfl ?_
                        refine En_getK (j := 1) ((h166 _ _ (inW (by decide +kernel : TG 3 = 3) (by decide +kernel))).trans h151) rfl rfl rfl (by decide +kernel : TG 3 = 3) (by decide +kernel) ?_
                        refine En_Ps 1 (pc' := 154) (lv' := [(0, .ref 3)]) (st' := [.int ((Int32.ofInt 2)), .int z93]) rfl ?_
                        refine En_icNe _ rfl (by decide : (Int32.ofInt 2).toInt = 2) rfl (fun h171 => ?_) (fun hx => by exfalso; omega)
                        refine En_Ps 2 (pc' := 191) (lv' := [(0, .ref 3)]) (st' := [.ref 3, .ref 3]) rfl ?_
                        refine En_getK (j := 3) ((h166 _ _ (inW (by decide +kernel : TG 3 = 3) (by decide +kernel))).trans h153) rfl rfl rfl (by decide +kernel : TG 3 = 3) (by decide +kernel) ?_
                        refine En_Ps 2 (pc' := 196) (lv' := [(0, .ref 3)]) (st' := [.int ((y142 + ((Int32.ofInt 1)))), .ref 3]) rfl ?_
                        refine En_top (addI rfl (by decide : (Int32.ofInt 1).toInt = 1) (by omega) (by omega)) (fun z172 h173 => ?_)
                        refine En_put (j := 3) rfl rfl rfl (by decide +kernel : TG 3 = 3) (by decide +kernel) rfl (vI (l := 0) (u := 1600) (by decide +kernel) rfl (by omega) (by omega)) h165 h169 (by decide +kernel) (fun σ174 h175 h176 h177 h178 => ?_)
                        refine En_Ps 1 (pc' := 104) (lv' := [(0, .ref 3)]) (st' := []) rfl ?_
                        exact ih104 σ174 y141 z172 h175 h176 ((h178 _ _ (Or.inr (by decide))).trans ((h166 _ _ (inW (by decide +kernel : TG 3 = 3) (by decide +kernel))).trans h146)) ((h178 _ _ (Or.inr (by decide))).trans ((h166 _ _ (inW (by decide +kernel : TG 3 = 3) (by decide +kernel))).trans h147)) ((h178 _ _ (Or.inr (by decide))).trans ((h166 _ _ (inW (by decide +kernel : TG 1 = 1) (by decide +kernel))).trans h148)) ((h178 _ _ (Or.inr (by decide))).trans ((h166 _ _ (inW (by decide +kernel : TG 1 = 1) (by decide +kernel))).trans h149)) ((h178 _ _ (Or.inl (neTG (by decide +kernel : TG 2 = 2) (by decide +kernel : TG 3 = 3) (by decide)))).trans ((h166 _ _ (inWa (by decide +kernel : TG 2 = 2) (by decide +kernel))).trans h150)) ((h178 _ _ (Or.inr (by decide))).trans ((h166 _ _ (inW (by decide +kernel : TG 3 = 3) (by decide +kernel))).trans h151)) ((h178 _ _ (Or.inr (by decide))).trans ((h166 _ _ (inW (by decide +kernel : TG 3 = 3) (by decide +kernel))).trans h152)) h177 (by omega) (by omega) (by omega) (by omega) (by omega) (by omega)
                  · refine En_Ps 1 (pc' := 113) (lv' := [(0, .ref 3)]) (st' := [.ref 3]) rfl ?_
                    refine En_getK (j := 1) h151 rfl rfl rfl (by decide +kernel : TG 3 = 3) (by decide +kernel) ?_
                    refine En_Ps 1 (pc' := 117) (lv' := [(0, .ref 3)]) (st' := [.int ((Int32.ofInt 2)), .int z93]) rfl ?_
                    refine En_icNe _ rfl (by decide : (Int32.ofInt 2).toInt = 2) rfl (fun h179 => ?_) (fun h179 => ?_)
                    · exact En_ret (v := none) rfl rfl rfl ⟨h144, h145, rfl, trivial⟩
                    · refine En_Ps 1 (pc' := 121) (lv' := [(0, .ref 3)]) (st' := [.ref 3]) rfl ?_
                      refine En_getK (j := 3) h153 rfl rfl rfl (by decide +kernel : TG 3 = 3) (by decide +kernel) ?_
                      refine En_Ps 1 (pc' := 125) (lv' := [(0, .ref 3)]) (st' := [.ref 3, .int y142]) rfl ?_
                      refine En_getK (j := 0) h147 rfl rfl rfl (by decide +kernel : TG 3 = 3) (by decide +kernel) ?_
                      refine En_getK (j := 1) h148 rfl rfl rfl (by decide +kernel : TG 1 = 1) (by decide +kernel) ?_
                      refine En_icGe _ rfl rfl rfl (fun h180 => ?_) (fun h180 => ?_)
                      · exact En_ret (v := none) rfl rfl rfl ⟨h144, h145, rfl, trivial⟩
                      · refine En_Ps 2 (pc' := 136) (lv' := [(0, .ref 3)]) (st' := [.ref 3, .ref 3]) rfl ?_
                        refine En_getK (j := 3) h153 rfl rfl rfl (by decide +kernel : TG 3 = 3) (by decide +kernel) ?_
                        refine En_callV rfl rfl rfl rfl rfl rfl rfl rfl (by decide +kernel : TG 3 = 3) (by decide +kernel) rfl (c_57 σ143 h144 y142 (geI rfl (by omega)) (leI rfl (by omega)) z23 h148) (by decide) (by decide) (fun v182 σ183 h181 => ?_)
                        obtain ⟨h184, h185, z187, rfl, h186⟩ := h181
                        have h188 := Fr_trans h145 h185 (by decide +kernel)
                        refine En_Ps 1 (pc' := 143) (lv' := [(0, .ref 3)]) (st' := [.ref 3, .int z187]) rfl ?_
                        refine En_getK (j := 1) ((h185 _ _ (inW (by decide +kernel : TG 3 = 3) (by decide +kernel))).trans h151) rfl rfl rfl (by decide +kernel : TG 3 = 3) (by decide +kernel) ?_
                        refine En_icNe _ rfl rfl rfl (fun h189 => ?_) (fun h189 => ?_)
                        · exact En_ret (v := none) rfl rfl rfl ⟨h184, h188, rfl, trivial⟩
                        · refine En_Ps 1 (pc' := 150) (lv' := [(0, .ref 3)]) (st' := [.ref 3]) rfl ?_
                          refine En_getK (j := 1) ((h185 _ _ (inW (by decide +kernel : TG 3 = 3) (by decide +kernel))).trans h151) rfl rfl rfl (by decide +kernel : TG 3 = 3) (by decide +kernel) ?_
                          refine En_Ps 1 (pc' := 154) (lv' := [(0, .ref 3)]) (st' := [.int ((Int32.ofInt 2)), .int z93]) rfl ?_
                          refine En_icNe _ rfl (by decide : (Int32.ofInt 2).toInt = 2) rfl (fun hx => by exfalso; omega) (fun h190 => ?_)
                          refine En_Ps 3 (pc' := 161) (lv' := [(0, .ref 3)]) (st' := [.ref 3, .int (((Int8.ofInt 10).toInt32)), .ref 3]) rfl ?_
                          refine En_getK (j := 4) ((h185 _ _ (inW (by decide +kernel : TG 3 = 3) (by decide +kernel))).trans h152) rfl rfl rfl (by decide +kernel : TG 3 = 3) (by decide +kernel) ?_
                          refine En_Ps 1 (pc' := 165) (lv' := [(0, .ref 3)]) (st' := [.int (((((Int8.ofInt 10).toInt32)) * y141)), .ref 3]) rfl ?_
                          refine En_hav (fun z191 => ?_)
                          refine En_Ps 1 (pc' := 166) (lv' := [(0, .ref 3)]) (st' := [.ref 3, .int z191, .ref 3]) rfl ?_
                          refine En_getK (j := 0) ((h185 _ _ (inW (by decide +kernel : TG 3 = 3) (by decide +kernel))).trans h147) rfl rfl rfl (by decide +kernel : TG 3 = 3) (by decide +kernel) ?_
                          refine En_getK (j := 0) ((h185 _ _ (inW (by decide +kernel : TG 1 = 1) (by decide +kernel))).trans h149) rfl rfl rfl (by decide +kernel : TG 1 = 1) (by decide +kernel) ?_
                          refine En_Ps 1 (pc' := 173) (lv' := [(0, .ref 3)]) (st' := [.ref 3, .ref 2, .int z191, .ref 3]) rfl ?_
                          refine En_getK (j := 3) ((h185 _ _ (inW (by decide +kernel : TG 3 = 3) (by decide +kernel))).trans h153) rfl rfl rfl (by decide +kernel : TG 3 = 3) (by decide +kernel) ?_
                          refine En_bald (l := (-128)) (u := 127) rfl rfl (by decide +kernel : TG 2 = 2) (by decide +kernel) h184 (by omega) (lnI (by decide +kernel : LN _ = 1600) (by omega)) (FTsgl (by decide +kernel)) (fun z193 h192 h194 h195 => ?_)
                          refine En_Ps 1 (pc' := 178) (lv' := [(0, .ref 3)]) (st' := [.int ((z191 + z193)), .ref 3]) rfl ?_
                          refine En_hav (fun z196 => ?_)
                          refine En_Ps 2 (pc' := 181) (lv' := [(0, .ref 3)]) (st' := [.int ((z196 - (((Int8.ofInt 48).toInt32)))), .ref 3]) rfl ?_
                          refine En_hav (fun z197 => ?_)
                          refine En_Ps 1 (pc' := 183) (lv' := [(0, .ref 3)]) (st' := [.int ((1000000 : Int32)), .int z197, .ref 3]) rfl ?_
                          have := (by decide : ((1000000 : Int32)).toInt = 1000000)
                          refine En_callS rfl rfl rfl rfl rfl rfl rfl rfl rfl (c_11 σ183 h184 z197 ((1000000 : Int32))) (by decide) (by decide) (fun v199 σ200 h198 => ?_)
                          obtain ⟨h201, h202, z204, rfl, h203⟩ := h198
                          have h205 := Fr_trans h188 h202 (by decide +kernel)
                          have := fullI z204
                          refine En_put (j := 4) rfl rfl rfl (by decide +kernel : TG 3 = 3) (by decide +kernel) rfl (vI (l := (-2147483648)) (u := 1000000) (by decide +kernel) rfl (by omega) (by omega)) h201 h205 (by decide +kernel) (fun σ206 h207 h208 h209 h210 => ?_)
                          refine En_Ps 2 (pc' := 191) (lv' := [(0, .ref 3)]) (st' := [.ref 3, .ref 3]) rfl ?_
                          refine En_getK (j := 3) ((h210 _ _ (Or.inr (by decide))).trans ((h202 _ _ (inW (by decide +kernel : TG 3 = 3) (by decide +kernel))).trans ((h185 _ _ (inW (by decide +kernel : TG 3 = 3) (by decide +kernel))).trans h153))) rfl rfl rfl (by decide +kernel : TG 3 = 3) (by decide +kernel) ?_
                          refine En_Ps 2 (pc' := 196) (lv' := [(0, .ref 3)]) (st' := [.int ((y142 + ((Int32.ofInt 1)))), .ref 3]) rfl ?_
                          refine En_top (addI rfl (by decide : (Int32.ofInt 1).toInt = 1) (by omega) (by omega)) (fun z211 h212 => ?_)
                          refine En_put (j := 3) rfl rfl rfl (by decide +kernel : TG 3 = 3) (by decide +kernel) rfl (vI (l := 0) (u := 1600) (by decide +kernel) rfl (by omega) (by omega)) h207 h208 (by decide +kernel) (fun σ213 h214 h215 h216 h217 => ?_)
                          refine En_Ps 1 (pc' := 104) (lv' := [(0, .ref 3)]) (st' := []) rfl ?_
                          exact ih104 σ213 z204 z211 h214 h215 ((h217 _ _ (Or.inr (by decide))).trans ((h210 _ _ (Or.inr (by decide))).trans ((h202 _ _ (inW (by decide +kernel : TG 3 = 3) (by decide +kernel))).trans ((h185 _ _ (inW (by decide +kernel : TG 3 = 3) (by decide +kernel))).trans h146)))) ((h217 _ _ (Or.inr (by decide))).trans ((h210 _ _ (Or.inr (by decide))).trans ((h202 _ _ (inW (by decide +kernel : TG 3 = 3) (by decide +kernel))).trans ((h185 _ _ (inW (by decide +kernel : TG 3 = 3) (by decide +kernel))).trans h147)))) ((h217 _ _ (Or.inr (by decide))).trans ((h210 _ _ (Or.inr (by decide))).trans ((h202 _ _ (inW (by decide +kernel : TG 1 = 1) (by decide +kernel))).trans ((h185 _ _ (inW (by decide +kernel : TG 1 = 1) (by decide +kernel))).trans h148)))) ((h217 _ _ (Or.inr (by decide))).trans ((h210 _ _ (Or.inr (by decide))).trans ((h202 _ _ (inW (by decide +kernel : TG 1 = 1) (by decide +kernel))).trans ((h185 _ _ (inW (by decide +kernel : TG 1 = 1) (by decide +kernel))).trans h149)))) ((h217 _ _ (Or.inl (neTG (by decide +kernel : TG 2 = 2) (by decide +kernel : TG 3 = 3) (by decide)))).trans ((h210 _ _ (Or.inl (neTG (by decide +kernel : TG 2 = 2) (by decide +kernel : TG 3 = 3) (by decide)))).trans ((h202 _ _ (inWa (by decide +kernel : TG 2 = 2) (by decide +kernel))).trans ((h185 _ _ (inWa (by decide +kernel : TG 2 = 2) (by decide +kernel))).trans h150)))) ((h217 _ _ (Or.inr (by decide))).trans ((h210 _ _ (Or.inr (by decide))).trans ((h202 _ _ (inW (by decide +kernel : TG 3 = 3) (by decide +kernel))).trans ((h185 _ _ (inW (by decide +kernel : TG 3 = 3) (by decide +kernel))).trans h151)))) ((h217 _ _ (Or.inr (by decide))).trans h209) h216 (by omega) (by omega) (by omega) (by omega) (by omega) (by omega)
              have := (by decide : (Int32.ofInt 0).toInt = 0)
              exact key104 (Int.toNat (z23.toInt - y10.toInt) + 1) σ105 ((Int32.ofInt 0)) y10 h106 h107 ((h109 _ _ (Or.inr (by decide))).trans ((h104 _ _ (Or.inr (by decide))).trans ((h99 _ _ (Or.inr (by decide))).trans ((h91 _ _ (inW (by decide +kernel : TG 3 = 3) (by decide +kernel))).trans ((h82 _ _ (inW (by decide +kernel : TG 3 = 3) (by decide +kernel))).trans h15))))) ((h109 _ _ (Or.inr (by decide))).trans ((h104 _ _ (Or.inr (by decide))).trans ((h99 _ _ (Or.inr (by decide))).trans ((h91 _ _ (inW (by decide +kernel : TG 3 = 3) (by decide +kernel))).trans ((h82 _ _ (inW (by decide +kernel : TG 3 = 3) (by decide +kernel))).trans h20))))) ((h109 _ _ (Or.inr (by decide))).trans ((h104 _ _ (Or.inr (by decide))).trans ((h99 _ _ (Or.inl (neTG (by decide +kernel : TG 1 = 1) (by decide +kernel : TG 3 = 3) (by decide)))).trans ((h91 _ _ (inW (by decide +kernel : TG 1 = 1) (by decide +kernel))).trans ((h82 _ _ (inW (by decide +kernel : TG 1 = 1) (by decide +kernel))).trans h22))))) ((h109 _ _ (Or.inr (by decide))).trans ((h104 _ _ (Or.inr (by decide))).trans ((h99 _ _ (Or.inr (by decide))).trans ((h91 _ _ (inW (by decide +kernel : TG 1 = 1) (by decide +kernel))).trans ((h82 _ _ (inW (by decide +kernel : TG 1 = 1) (by decide +kernel))).trans h72))))) ((h109 _ _ (Or.inl (neTG (by decide +kernel : TG 2 = 2) (by decide +kernel : TG 3 = 3) (by decide)))).trans ((h104 _ _ (Or.inl (neTG (by decide +kernel : TG 2 = 2) (by decide +kernel : TG 3 = 3) (by decide)))).trans ((h99 _ _ (Or.inl (neTG (by decide +kernel : TG 2 = 2) (by decide +kernel : TG 3 = 3) (by decide)))).trans ((h91 _ _ (inWa (by decide +kernel : TG 2 = 2) (by decide +kernel))).trans ((h82 _ _ (inWa (by decide +kernel : TG 2 = 2) (by decide +kernel))).trans h74))))) ((h109 _ _ (Or.inr (by decide))).trans ((h104 _ _ (Or.inr (by decide))).trans h98)) ((h109 _ _ (Or.inr (by decide))).trans h103) h108 (by omega) (by omega) (by omega) (by omega) (by omega) (by omega)
            · refine En_Ps 2 (pc' := 96) (lv' := [(0, .ref 3)]) (st' := [.ref 3, .ref 3]) rfl ?_
              refine En_getK (j := 3) h108 rfl rfl rfl (by decide +kernel : TG 3 = 3) (by decide +kernel) ?_
              refine En_Ps 2 (pc' := 101) (lv' := [(0, .ref 3)]) (st' := [.int ((y10 + ((Int32.ofInt 1)))), .ref 3]) rfl ?_
              refine En_top (addI rfl (by decide : (Int32.ofInt 1).toInt = 1) (by omega) (by omega)) (fun z218 h219 => ?_)
              refine En_put (j := 3) rfl rfl rfl (by decide +kernel : TG 3 = 3) (by decide +kernel) rfl (vI (l := 0) (u := 1600) (by decide +kernel) rfl (by omega) (by omega)) h106 h107 (by decide +kernel) (fun σ220 h221 h222 h223 h224 => ?_)
              have key104 : ∀ (n104 : Nat) (σ227 : SG) (y225 : Int32) (y226 : Int32), WT σ227 → Fr [(3, 1), (3, 2), (3, 3), (3, 4)] σ0 σ227 → (σ227 3)[2]? = some (.int y10) → (σ227 3)[0]? = some (.ref 1) → (σ227 1)[1]? = some (.int z23) → (σ227 1)[0]? = some (.ref 2) → (σ227 2)[(y10.toInt).toNat]? = some (.int z75) → (σ227 3)[1]? = some (.int z93) → (σ227 3)[4]? = some (.int y225) → (σ227 3)[3]? = some (.int y226) → 0 ≤ y225.toInt → y225.toInt ≤ 0 → 1 ≤ y226.toInt → y226.toInt ≤ 1600 → y10.toInt - y226.toInt + 1 ≤ 0 → y226.toInt - y10.toInt - 1 ≤ 0 → y10.toInt - y225.toInt < (n104 : Int) → En 1 22 none mr_72 (P_72 σ0) 104 [(0, .ref 3)] [] σ227 := by
                intro n104
                induction n104 with
                | zero =>
                  intro σ227 y225 y226 h228 h229 h230 h231 h232 h233 h234 h235 h236 h237 h238 h239 h240 h241 h242 h243 h244
                  exfalso; omega
                | succ n104 ih104 =>
                  intro σ227 y225 y226 h228 h229 h230 h231 h232 h233 h234 h235 h236 h237 h238 h239 h240 h241 h242 h243 h244
                  refine En_Ps 1 (pc' := 105) (lv' := [(0, .ref 3)]) (st' := [.ref 3]) rfl ?_
                  refine En_getK (j := 1) h235 rfl rfl rfl (by decide +kernel : TG 3 = 3) (by decide +kernel) ?_
                  refine En_Ps 1 (pc' := 109) (lv' := [(0, .ref 3)]) (st' := [.int ((Int32.ofInt 1)), .int z93]) rfl ?_
                  refine En_icEq _ rfl (by decide : (Int32.ofInt 1).toInt = 1) rfl (fun hx => by exfalso; omega) (fun h245 => ?_)
                  refine En_Ps 1 (pc' := 113) (lv' := [(0, .ref 3)]) (st' := [.ref 3]) rfl ?_
                  refine En_getK (j := 1) h235 rfl rfl rfl (by decide +kernel : TG 3 = 3) (by decide +kernel) ?_
                  refine En_Ps 1 (pc' := 117) (lv' := [(0, .ref 3)]) (st' := [.int ((Int32.ofInt 2)), .int z93]) rfl ?_
                  refine En_icNe _ rfl (by decide : (Int32.ofInt 2).toInt = 2) rfl (fun h246 => ?_) (fun hx => by exfalso; omega)
                  exact En_ret (v := none) rfl rfl rfl ⟨h228, h229, rfl, trivial⟩
              have := (by decide : (Int32.ofInt 0).toInt = 0)
              exact key104 (Int.toNat (y10.toInt) + 1) σ220 ((Int32.ofInt 0)) z218 h221 h222 ((h224 _ _ (Or.inr (by decide))).trans ((h109 _ _ (Or.inr (by decide))).trans ((h104 _ _ (Or.inr (by decide))).trans ((h99 _ _ (Or.inr (by decide))).trans ((h91 _ _ (inW (by decide +kernel : TG 3 = 3) (by decide +kernel))).trans ((h82 _ _ (inW (by decide +kernel : TG 3 = 3) (by decide +kernel))).trans h15)))))) ((h224 _ _ (Or.inr (by decide))).trans ((h109 _ _ (Or.inr (by decide))).trans ((h104 _ _ (Or.inr (by decide))).trans ((h99 _ _ (Or.inr (by decide))).trans ((h91 _ _ (inW (by decide +kernel : TG 3 = 3) (by decide +kernel))).trans ((h82 _ _ (inW (by decide +kernel : TG 3 = 3) (by decide +kernel))).trans h20)))))) ((h224 _ _ (Or.inr (by decide))).trans ((h109 _ _ (Or.inr (by decide))).trans ((h104 _ _ (Or.inr (by decide))).trans ((h99 _ _ (Or.inl (neTG (by decide +kernel : TG 1 = 1) (by decide +kernel : TG 3 = 3) (by decide)))).trans ((h91 _ _ (inW (by decide +kernel : TG 1 = 1) (by decide +kernel))).trans ((h82 _ _ (inW (by decide +kernel : TG 1 = 1) (by decide +kernel))).trans h22)))))) ((h224 _ _ (Or.inr (by decide))).trans ((h109 _ _ (Or.inr (by decide))).trans ((h104 _ _ (Or.inr (by decide))).trans ((h99 _ _ (Or.inr (by decide))).trans ((h91 _ _ (inW (by decide +kernel : TG 1 = 1) (by decide +kernel))).trans ((h82 _ _ (inW (by decide +kernel : TG 1 = 1) (by decide +kernel))).trans h72)))))) ((h224 _ _ (Or.inl (neTG (by decide +kernel : TG 2 = 2) (by decide +kernel : TG 3 = 3) (by decide)))).trans ((h109 _ _ (Or.inl (neTG (by decide +kernel : TG 2 = 2) (by decide +kernel : TG 3 = 3) (by decide)))).trans ((h104 _ _ (Or.inl (neTG (by decide +kernel : TG 2 = 2) (by decide +kernel : TG 3 = 3) (by decide)))).trans ((h99 _ _ (Or.inl (neTG (by decide +kernel : TG 2 = 2) (by decide +kernel : TG 3 = 3) (by decide)))).trans ((h91 _ _ (inWa (by decide +kernel : TG 2 = 2) (by decide +kernel))).trans ((h82 _ _ (inWa (by decide +kernel : TG 2 = 2) (by decide +kernel))).trans h74)))))) ((h224 _ _ (Or.inr (by decide))).trans ((h109 _ _ (Or.inr (by decide))).trans ((h104 _ _ (Or.inr (by decide))).trans h98))) ((h224 _ _ (Or.inr (by decide))).trans ((h109 _ _ (Or.inr (by decide))).trans h103)) h223 (by omega) (by omega) (by omega) (by omega) (by omega) (by omega) (by omega)
        · refine En_Ps 2 (pc' := 42) (lv' := [(0, .ref 3)]) (st' := [.ref 3, .ref 3]) rfl ?_
          refine En_getK (j := 2) ((h82 _ _ (inW (by decide +kernel : TG 3 = 3) (by decide +kernel))).trans h15) rfl rfl rfl (by decide +kernel : TG 3 = 3) (by decide +kernel) ?_
          refine En_Ps 2 (pc' := 47) (lv' := [(0, .ref 3)]) (st' := [.int ((y10 + ((Int32.ofInt 1)))), .ref 3]) rfl ?_
          refine En_top (addI rfl (by decide : (Int32.ofInt 1).toInt = 1) (by omega) (by omega)) (fun z247 h248 => ?_)
          refine En_put (j := 2) rfl rfl rfl (by decide +kernel : TG 3 = 3) (by decide +kernel) rfl (vI (l := 0) (u := 1600) (by decide +kernel) rfl (by omega) (by omega)) h81 h85 (by decide +kernel) (fun σ249 h250 h251 h252 h253 => ?_)
          refine En_Ps 1 (pc' := 8) (lv' := [(0, .ref 3)]) (st' := []) rfl ?_
          exact ih8 σ249 z247 h250 h251 ((h253 _ _ (Or.inr (by decide))).trans ((h82 _ _ (inW (by decide +kernel : TG 3 = 3) (by decide +kernel))).trans h14)) h252 (by omega) (by omega) (by omega) (by omega)
  exact key8 (Int.toNat (-z2.toInt + 1600) + 1) σ5 z2 h6 h7 ((h9 _ _ (Or.inr (by decide))).trans h1) h8 (by omega) (by omega) (by omega) (by omega)
/-- DoorSchool$Reader.pass(Z)V -/
abbrev P_59 (σ0 : SG) (a : Int32) (f : Int32) : PO := fun v σ => WT σ ∧ Fr [(3, 1), (3, 2), (3, 3), (3, 4), (3, 5), (3, 6)] σ0 σ ∧ ∃ f1 : Int32, (σ 3)[5]? = some (.int f1) ∧ v = none ∧ -f1.toInt ≤ 0 ∧ f1.toInt - 3 ≤ 0 ∧ -f1.toInt + f.toInt ≤ 0 ∧ f1.toInt - f.toInt - 3 ≤ 0 ∧ (-a.toInt + 1 ≤ 0 → f1.toInt - f.toInt ≤ 0 ∧ -f1.toInt + f.toInt ≤ 0) ∧ f.toInt - f1.toInt ≤ 0 ∧ (a.toInt ≤ 0 → -f1.toInt + 1 ≤ 0)
set_option maxRecDepth 10000 in
set_option maxHeartbeats 4000000 in
theorem c_59 (σ0 : SG) (hσ0 : WT σ0) (a : Int32) (hl_a : 0 ≤ a.toInt) (hu_a : a.toInt ≤ 1) (f : Int32) (h_f : (σ0 3)[5]? = some (.int f)) : En 2 42 none mr_59 (P_59 σ0 a f) 0 [(0, .ref 3), (1, .int a)] [] σ0 := by
  obtain ⟨hl_f, hu_f⟩ := WT_int hσ0 (g := 3) (by decide +kernel) (by decide +kernel) (l := 0) (u := 3) (by decide +kernel) h_f
  have hF0 : Fr [(3, 1), (3, 2), (3, 3), (3, 4), (3, 5), (3, 6)] σ0 σ0 := Fr_rfl
  refine En_Ps 1 (pc' := 1) (lv' := [(0, .ref 3), (1, .int a)]) (st' := [.int a]) rfl ?_
  refine En_iNe _ rfl rfl (fun h1 => ?_) (fun h1 => ?_)
  · refine En_Ps 1 (pc' := 10) (lv' := [(0, .ref 3), (1, .int a)]) (st' := [.ref 3]) rfl ?_
    refine En_getK (j := 5) h_f rfl rfl rfl (by decide +kernel : TG 3 = 3) (by decide +kernel) ?_
    refine En_iNe _ rfl rfl (fun h2 => ?_) (fun h2 => ?_)
    · exact En_ret (v := none) rfl rfl rfl ⟨hσ0, hF0, f, h_f, rfl, (by omega)⟩
    · refine En_Ps 1 (pc' := 17) (lv' := [(0, .ref 3), (1, .int a)]) (st' := [.ref 3]) rfl ?_
      refine En_callV rfl rfl rfl rfl rfl rfl rfl rfl (by decide +kernel : TG 3 = 3) (by decide +kernel) rfl (c_72 σ0 hσ0) (by decide) (by decide) (fun v4 σ5 h3 => ?_)
      obtain ⟨h6, h7, rfl, h8⟩ := h3
      have h9 := Fr_trans hF0 h7 (by decide +kernel)
      exact En_ret (v := none) rfl rfl rfl ⟨h6, h9, f, ((h7 _ _ (inW (by decide +kernel : TG 3 = 3) (by decide +kernel))).trans h_f), rfl, (by omega)⟩
  · refine En_Ps 2 (pc' := 6) (lv' := [(0, .ref 3), (1, .int a)]) (st' := [.int ((Int32.ofInt 1)), .ref 3]) rfl ?_
    have := (by decide : ((Int32.ofInt 1)).toInt = 1)
    refine En_callV rfl rfl rfl rfl rfl rfl rfl rfl (by decide +kernel : TG 3 = 3) (by decide +kernel) rfl (c_54 σ0 hσ0 ((Int32.ofInt 1)) (geI (by decide : (Int32.ofInt 1).toInt = 1) (by omega)) (leI (by decide : (Int32.ofInt 1).toInt = 1) (by omega)) f h_f) (by decide) (by decide) (fun v11 σ12 h10 => ?_)
    obtain ⟨h13, h14, z16, h17, rfl, h15⟩ := h10
    have h18 := Fr_trans hF0 h14 (by decide +kernel)
    refine En_Ps 1 (pc' := 10) (lv' := [(0, .ref 3), (1, .int a)]) (st' := [.ref 3]) rfl ?_
    refine En_getK (j := 5) h17 rfl rfl rfl (by decide +kernel : TG 3 = 3) (by decide +kernel) ?_
    refine En_iNe _ rfl rfl (fun h19 => ?_) (fun hx => by exfalso; omega)
    exact En_ret (v := none) rfl rfl rfl ⟨h13, h18, z16, h17, rfl, (by omega)⟩
/-- DoorSchool$Reader.stands(Ljava/lang/String;)Z -/
abbrev P_71s0 (σ0 : SG) : PO := fun v σ => WT σ ∧ Fr [] σ0 σ ∧ ∃ ret : Int32, v = some (.int ret) ∧ -ret.toInt ≤ 0 ∧ ret.toInt - 1 ≤ 0
set_option maxRecDepth 10000 in
set_option maxHeartbeats 4000000 in
theorem c_71s0 (σ0 : SG) (hσ0 : WT σ0) : En 4 90 none mr_71 (P_71s0 σ0) 0 [(0, .ref 3), (1, .retAddr 1)] [] σ0 := by
  have hF0 : Fr [] σ0 σ0 := Fr_rfl
  refine En_Ps 1 (pc' := 1) (lv' := [(0, .ref 3), (1, .retAddr 1)]) (st' := [.ref 3]) rfl ?_
  refine En_getI (j := 1) (l := 0) (u := 4) rfl rfl rfl (by decide +kernel : TG 3 = 3) (by decide +kernel) hσ0 (by decide +kernel) (fun z2 h1 h3 h4 => ?_)
  refine En_Ps 1 (pc' := 5) (lv' := [(0, .ref 3), (1, .retAddr 1)]) (st' := [.int ((Int32.ofInt 1)), .int z2]) rfl ?_
  refine En_icNe _ rfl (by decide : (Int32.ofInt 1).toInt = 1) rfl (fun h5 => ?_) (fun h5 => ?_)
  · refine En_Ps 1 (pc' := 25) (lv' := [(0, .ref 3), (1, .retAddr 1)]) (st' := [.int ((Int32.ofInt 0))]) rfl ?_
    refine En_top (by decide : (Int32.ofInt 0).toInt = 0) (fun z6 h7 => ?_)
    exact En_ret (v := some (.int z6)) rfl rfl (retZ rfl rfl (by omega) (by omega)) ⟨hσ0, hF0, z6, rfl, (by omega)⟩
  · refine En_Ps 1 (pc' := 9) (lv' := [(0, .ref 3), (1, .retAddr 1)]) (st' := [.ref 3]) rfl ?_
    refine En_getI (j := 3) (l := 0) (u := 1600) rfl rfl rfl (by decide +kernel : TG 3 = 3) (by decide +kernel) hσ0 (by decide +kernel) (fun z9 h8 h10 h11 => ?_)
    refine En_Ps 1 (pc' := 13) (lv' := [(0, .ref 3), (1, .retAddr 1)]) (st' := [.ref 3, .int z9]) rfl ?_
    refine En_getI (j := 2) (l := 0) (u := 1600) rfl rfl rfl (by decide +kernel : TG 3 = 3) (by decide +kernel) hσ0 (by decide +kernel) (fun z13 h12 h14 h15 => ?_)
    refine En_Ps 1 (pc' := 17) (lv' := [(0, .ref 3), (1, .retAddr 1)]) (st' := [.int ((z9 - z13))]) rfl ?_
    refine En_top (subI rfl rfl (by omega) (by omega)) (fun z16 h17 => ?_)
    refine En_Ps 1 (pc' := 18) (lv' := [(0, .ref 3), (1, .retAddr 1)]) (st' := [.retAddr 1, .int z16]) rfl ?_
    refine En_slen 0 5 rfl rfl (by decide) rfl ?_
    refine En_icEq _ rfl (by decide : (Int32.ofNat 5).toInt = 5) rfl (fun h18 => ?_) (fun h18 => ?_)
    · refine En_Ps 2 (pc' := 28) (lv' := [(2, .int ((Int32.ofInt 0))), (0, .ref 3), (1, .retAddr 1)]) (st' := []) rfl ?_
      have key28 : ∀ (n28 : Nat) (σ20 : SG) (y19 : Int32), WT σ20 → Fr [] σ0 σ20 → (σ20 3)[1]? = some (.int z2) → (σ20 3)[3]? = some (.int z9) → (σ20 3)[2]? = some (.int z13) → 0 ≤ y19.toInt → y19.toInt ≤ 5 → z9.toInt - y19.toInt < (n28 : Int) → En 4 90 none mr_71 (P_71s0 σ0) 28 [(0, .ref 3), (1, .retAddr 1), (2, .int y19)] [] σ20 := by
        intro n28
        induction n28 with
        | zero =>
          intro σ20 y19 h21 h22 h23 h24 h25 h26 h27 h28
          exfalso; omega
        | succ n28 ih28 =>
          intro σ20 y19 h21 h22 h23 h24 h25 h26 h27 h28
          refine En_Ps 2 (pc' := 30) (lv' := [(0, .ref 3), (1, .retAddr 1), (2, .int y19)]) (st' := [.retAddr 1, .int y19]) rfl ?_
          refine En_slen 0 5 rfl rfl (by decide) rfl ?_
          refine En_icGe _ rfl (by decide : (Int32.ofNat 5).toInt = 5) rfl (fun h29 => ?_) (fun h29 => ?_)
          · refine En_Ps 1 (pc' := 67) (lv' := [(0, .ref 3), (1, .retAddr 1), (2, .int y19)]) (st' := [.int ((Int32.ofInt 1))]) rfl ?_
            refine En_top (by decide : (Int32.ofInt 1).toInt = 1) (fun z30 h31 => ?_)
            exact En_ret (v := some (.int z30)) rfl rfl (retZ rfl rfl (by omega) (by omega)) ⟨h21, h22, z30, rfl, (by omega)⟩
          · refine En_Ps 1 (pc' := 37) (lv' := [(0, .ref 3), (1, .retAddr 1), (2, .int y19)]) (st' := [.ref 3]) rfl ?_
            refine En_getU (j := 0) (u := 1) (g' := 1) (q := 0) rfl rfl rfl (by decide +kernel : TG 3 = 3) (by decide +kernel) h21 (by decide +kernel) (by decide +kernel) (fun h32 => ?_)
            refine En_getU (j := 0) (u := 2) (g' := 2) (q := 0) rfl rfl rfl (by decide +kernel : TG 1 = 1) (by decide +kernel) h21 (by decide +kernel) (by decide +kernel) (fun h34 => ?_)
            refine En_Ps 1 (pc' := 44) (lv' := [(0, .ref 3), (1, .retAddr 1), (2, .int y19)]) (st' := [.ref 3, .ref 2]) rfl ?_
            refine En_getK (j := 2) h25 rfl rfl rfl (by decide +kernel : TG 3 = 3) (by decide +kernel) ?_
            refine En_Ps 2 (pc' := 49) (lv' := [(0, .ref 3), (1, .retAddr 1), (2, .int y19)]) (st' := [.int ((z13 + y19)), .ref 2]) rfl ?_
            refine En_top (addI rfl rfl (by omega) (by omega)) (fun z36 h37 => ?_)
            refine En_bald (l := (-128)) (u := 127) rfl rfl (by decide +kernel : TG 2 = 2) (by decide +kernel) h21 (by omega) (lnI (by decide +kernel : LN _ = 1600) (by omega)) (FTsgl (by decide +kernel)) (fun z39 h38 h40 h41 => ?_)
            refine En_Ps 2 (pc' := 52) (lv' := [(0, .ref 3), (1, .retAddr 1), (2, .int y19)]) (st' := [.int y19, .retAddr 1, .int z39]) rfl ?_
            refine En_schar 0 5 rfl rfl rfl (by decide) (by omega) (by omega) rfl (fun z42 h43 h44 => ?_)
            refine En_icEq _ rfl rfl rfl (fun h45 => ?_) (fun h45 => ?_)
            · refine En_Ps 1 (pc' := 63) (lv' := [(2, .int ((y19 + Int32.ofInt 1))), (0, .ref 3), (1, .retAddr 1)]) (st' := []) rfl ?_
              refine En_lv1 (addI rfl (by decide : (Int32.ofInt 1).toInt = 1) (by omega) (by omega)) (fun z46 h47 => ?_)
              refine En_Ps 1 (pc' := 28) (lv' := [(2, .int z46), (0, .ref 3), (1, .retAddr 1)]) (st' := []) rfl ?_
              refine En_lv (lv := [(0, .ref 3), (1, .retAddr 1), (2, .int z46)]) ⟨rfl, rfl, rfl, trivial⟩ ?_
              exact ih28 σ20 z46 h21 h22 h23 h24 h25 (by omega) (by omega) (by omega)
            · refine En_Ps 1 (pc' := 59) (lv' := [(0, .ref 3), (1, .retAddr 1), (2, .int y19)]) (st' := [.int ((Int32.ofInt 0))]) rfl ?_
              refine En_top (by decide : (Int32.ofInt 0).toInt = 0) (fun z48 h49 => ?_)
              exact En_ret (v := some (.int z48)) rfl rfl (retZ rfl rfl (by omega) (by omega)) ⟨h21, h22, z48, rfl, (by omega)⟩
      have := (by decide : (Int32.ofInt 0).toInt = 0)
      refine En_lv (lv := [(0, .ref 3), (1, .retAddr 1), (2, .int ((Int32.ofInt 0)))]) ⟨rfl, rfl, rfl, trivial⟩ ?_
      exact key28 (Int.toNat (z9.toInt) + 1) σ0 ((Int32.ofInt 0)) hσ0 hF0 h1 h8 h12 (by omega) (by omega) (by omega)
    · refine En_Ps 1 (pc' := 25) (lv' := [(0, .ref 3), (1, .retAddr 1)]) (st' := [.int ((Int32.ofInt 0))]) rfl ?_
      refine En_top (by decide : (Int32.ofInt 0).toInt = 0) (fun z50 h51 => ?_)
      exact En_ret (v := some (.int z50)) rfl rfl (retZ rfl rfl (by omega) (by omega)) ⟨hσ0, hF0, z50, rfl, (by omega)⟩
/-- DoorSchool$Reader.stands(Ljava/lang/String;)Z -/
abbrev P_71s1 (σ0 : SG) : PO := fun v σ => WT σ ∧ Fr [] σ0 σ ∧ ∃ ret : Int32, v = some (.int ret) ∧ -ret.toInt ≤ 0 ∧ ret.toInt - 1 ≤ 0
set_option maxRecDepth 10000 in
set_option maxHeartbeats 4000000 in
theorem c_71s1 (σ0 : SG) (hσ0 : WT σ0) : En 4 90 none mr_71 (P_71s1 σ0) 0 [(0, .ref 3), (1, .retAddr 3)] [] σ0 := by
  have hF0 : Fr [] σ0 σ0 := Fr_rfl
  refine En_Ps 1 (pc' := 1) (lv' := [(0, .ref 3), (1, .retAddr 3)]) (st' := [.ref 3]) rfl ?_
  refine En_getI (j := 1) (l := 0) (u := 4) rfl rfl rfl (by decide +kernel : TG 3 = 3) (by decide +kernel) hσ0 (by decide +kernel) (fun z2 h1 h3 h4 => ?_)
  refine En_Ps 1 (pc' := 5) (lv' := [(0, .ref 3), (1, .retAddr 3)]) (st' := [.int ((Int32.ofInt 1)), .int z2]) rfl ?_
  refine En_icNe _ rfl (by decide : (Int32.ofInt 1).toInt = 1) rfl (fun h5 => ?_) (fun h5 => ?_)
  · refine En_Ps 1 (pc' := 25) (lv' := [(0, .ref 3), (1, .retAddr 3)]) (st' := [.int ((Int32.ofInt 0))]) rfl ?_
    refine En_top (by decide : (Int32.ofInt 0).toInt = 0) (fun z6 h7 => ?_)
    exact En_ret (v := some (.int z6)) rfl rfl (retZ rfl rfl (by omega) (by omega)) ⟨hσ0, hF0, z6, rfl, (by omega)⟩
  · refine En_Ps 1 (pc' := 9) (lv' := [(0, .ref 3), (1, .retAddr 3)]) (st' := [.ref 3]) rfl ?_
    refine En_getI (j := 3) (l := 0) (u := 1600) rfl rfl rfl (by decide +kernel : TG 3 = 3) (by decide +kernel) hσ0 (by decide +kernel) (fun z9 h8 h10 h11 => ?_)
    refine En_Ps 1 (pc' := 13) (lv' := [(0, .ref 3), (1, .retAddr 3)]) (st' := [.ref 3, .int z9]) rfl ?_
    refine En_getI (j := 2) (l := 0) (u := 1600) rfl rfl rfl (by decide +kernel : TG 3 = 3) (by decide +kernel) hσ0 (by decide +kernel) (fun z13 h12 h14 h15 => ?_)
    refine En_Ps 1 (pc' := 17) (lv' := [(0, .ref 3), (1, .retAddr 3)]) (st' := [.int ((z9 - z13))]) rfl ?_
    refine En_top (subI rfl rfl (by omega) (by omega)) (fun z16 h17 => ?_)
    refine En_Ps 1 (pc' := 18) (lv' := [(0, .ref 3), (1, .retAddr 3)]) (st' := [.retAddr 3, .int z16]) rfl ?_
    refine En_slen 1 6 rfl rfl (by decide) rfl ?_
    refine En_icEq _ rfl (by decide : (Int32.ofNat 6).toInt = 6) rfl (fun h18 => ?_) (fun h18 => ?_)
    · refine En_Ps 2 (pc' := 28) (lv' := [(2, .int ((Int32.ofInt 0))), (0, .ref 3), (1, .retAddr 3)]) (st' := []) rfl ?_
      have key28 : ∀ (n28 : Nat) (σ20 : SG) (y19 : Int32), WT σ20 → Fr [] σ0 σ20 → (σ20 3)[1]? = some (.int z2) → (σ20 3)[3]? = some (.int z9) → (σ20 3)[2]? = some (.int z13) → 0 ≤ y19.toInt → y19.toInt ≤ 6 → z9.toInt - y19.toInt < (n28 : Int) → En 4 90 none mr_71 (P_71s1 σ0) 28 [(0, .ref 3), (1, .retAddr 3), (2, .int y19)] [] σ20 := by
        intro n28
        induction n28 with
        | zero =>
          intro σ20 y19 h21 h22 h23 h24 h25 h26 h27 h28
          exfalso; omega
        | succ n28 ih28 =>
          intro σ20 y19 h21 h22 h23 h24 h25 h26 h27 h28
          refine En_Ps 2 (pc' := 30) (lv' := [(0, .ref 3), (1, .retAddr 3), (2, .int y19)]) (st' := [.retAddr 3, .int y19]) rfl ?_
          refine En_slen 1 6 rfl rfl (by decide) rfl ?_
          refine En_icGe _ rfl (by decide : (Int32.ofNat 6).toInt = 6) rfl (fun h29 => ?_) (fun h29 => ?_)
          · refine En_Ps 1 (pc' := 67) (lv' := [(0, .ref 3), (1, .retAddr 3), (2, .int y19)]) (st' := [.int ((Int32.ofInt 1))]) rfl ?_
            refine En_top (by decide : (Int32.ofInt 1).toInt = 1) (fun z30 h31 => ?_)
            exact En_ret (v := some (.int z30)) rfl rfl (retZ rfl rfl (by omega) (by omega)) ⟨h21, h22, z30, rfl, (by omega)⟩
          · refine En_Ps 1 (pc' := 37) (lv' := [(0, .ref 3), (1, .retAddr 3), (2, .int y19)]) (st' := [.ref 3]) rfl ?_
            refine En_getU (j := 0) (u := 1) (g' := 1) (q := 0) rfl rfl rfl (by decide +kernel : TG 3 = 3) (by decide +kernel) h21 (by decide +kernel) (by decide +kernel) (fun h32 => ?_)
            refine En_getU (j := 0) (u := 2) (g' := 2) (q := 0) rfl rfl rfl (by decide +kernel : TG 1 = 1) (by decide +kernel) h21 (by decide +kernel) (by decide +kernel) (fun h34 => ?_)
            refine En_Ps 1 (pc' := 44) (lv' := [(0, .ref 3), (1, .retAddr 3), (2, .int y19)]) (st' := [.ref 3, .ref 2]) rfl ?_
            refine En_getK (j := 2) h25 rfl rfl rfl (by decide +kernel : TG 3 = 3) (by decide +kernel) ?_
            refine En_Ps 2 (pc' := 49) (lv' := [(0, .ref 3), (1, .retAddr 3), (2, .int y19)]) (st' := [.int ((z13 + y19)), .ref 2]) rfl ?_
            refine En_top (addI rfl rfl (by omega) (by omega)) (fun z36 h37 => ?_)
            refine En_bald (l := (-128)) (u := 127) rfl rfl (by decide +kernel : TG 2 = 2) (by decide +kernel) h21 (by omega) (lnI (by decide +kernel : LN _ = 1600) (by omega)) (FTsgl (by decide +kernel)) (fun z39 h38 h40 h41 => ?_)
            refine En_Ps 2 (pc' := 52) (lv' := [(0, .ref 3), (1, .retAddr 3), (2, .int y19)]) (st' := [.int y19, .retAddr 3, .int z39]) rfl ?_
            refine En_schar 1 6 rfl rfl rfl (by decide) (by omega) (by omega) rfl (fun z42 h43 h44 => ?_)
            refine En_icEq _ rfl rfl rfl (fun h45 => ?_) (fun h45 => ?_)
            · refine En_Ps 1 (pc' := 63) (lv' := [(2, .int ((y19 + Int32.ofInt 1))), (0, .ref 3), (1, .retAddr 3)]) (st' := []) rfl ?_
              refine En_lv1 (addI rfl (by decide : (Int32.ofInt 1).toInt = 1) (by omega) (by omega)) (fun z46 h47 => ?_)
              refine En_Ps 1 (pc' := 28) (lv' := [(2, .int z46), (0, .ref 3), (1, .retAddr 3)]) (st' := []) rfl ?_
              refine En_lv (lv := [(0, .ref 3), (1, .retAddr 3), (2, .int z46)]) ⟨rfl, rfl, rfl, trivial⟩ ?_
              exact ih28 σ20 z46 h21 h22 h23 h24 h25 (by omega) (by omega) (by omega)
            · refine En_Ps 1 (pc' := 59) (lv' := [(0, .ref 3), (1, .retAddr 3), (2, .int y19)]) (st' := [.int ((Int32.ofInt 0))]) rfl ?_
              refine En_top (by decide : (Int32.ofInt 0).toInt = 0) (fun z48 h49 => ?_)
              exact En_ret (v := some (.int z48)) rfl rfl (retZ rfl rfl (by omega) (by omega)) ⟨h21, h22, z48, rfl, (by omega)⟩
      have := (by decide : (Int32.ofInt 0).toInt = 0)
      refine En_lv (lv := [(0, .ref 3), (1, .retAddr 3), (2, .int ((Int32.ofInt 0)))]) ⟨rfl, rfl, rfl, trivial⟩ ?_
      exact key28 (Int.toNat (z9.toInt) + 1) σ0 ((Int32.ofInt 0)) hσ0 hF0 h1 h8 h12 (by omega) (by omega) (by omega)
    · refine En_Ps 1 (pc' := 25) (lv' := [(0, .ref 3), (1, .retAddr 3)]) (st' := [.int ((Int32.ofInt 0))]) rfl ?_
      refine En_top (by decide : (Int32.ofInt 0).toInt = 0) (fun z50 h51 => ?_)
      exact En_ret (v := some (.int z50)) rfl rfl (retZ rfl rfl (by omega) (by omega)) ⟨hσ0, hF0, z50, rfl, (by omega)⟩
/-- DoorSchool$Reader.stands(Ljava/lang/String;)Z -/
abbrev P_71s2 (σ0 : SG) : PO := fun v σ => WT σ ∧ Fr [] σ0 σ ∧ ∃ ret : Int32, v = some (.int ret) ∧ -ret.toInt ≤ 0 ∧ ret.toInt - 1 ≤ 0
set_option maxRecDepth 10000 in
set_option maxHeartbeats 4000000 in
theorem c_71s2 (σ0 : SG) (hσ0 : WT σ0) : En 4 90 none mr_71 (P_71s2 σ0) 0 [(0, .ref 3), (1, .retAddr 5)] [] σ0 := by
  have hF0 : Fr [] σ0 σ0 := Fr_rfl
  refine En_Ps 1 (pc' := 1) (lv' := [(0, .ref 3), (1, .retAddr 5)]) (st' := [.ref 3]) rfl ?_
  refine En_getI (j := 1) (l := 0) (u := 4) rfl rfl rfl (by decide +kernel : TG 3 = 3) (by decide +kernel) hσ0 (by decide +kernel) (fun z2 h1 h3 h4 => ?_)
  refine En_Ps 1 (pc' := 5) (lv' := [(0, .ref 3), (1, .retAddr 5)]) (st' := [.int ((Int32.ofInt 1)), .int z2]) rfl ?_
  refine En_icNe _ rfl (by decide : (Int32.ofInt 1).toInt = 1) rfl (fun h5 => ?_) (fun h5 => ?_)
  · refine En_Ps 1 (pc' := 25) (lv' := [(0, .ref 3), (1, .retAddr 5)]) (st' := [.int ((Int32.ofInt 0))]) rfl ?_
    refine En_top (by decide : (Int32.ofInt 0).toInt = 0) (fun z6 h7 => ?_)
    exact En_ret (v := some (.int z6)) rfl rfl (retZ rfl rfl (by omega) (by omega)) ⟨hσ0, hF0, z6, rfl, (by omega)⟩
  · refine En_Ps 1 (pc' := 9) (lv' := [(0, .ref 3), (1, .retAddr 5)]) (st' := [.ref 3]) rfl ?_
    refine En_getI (j := 3) (l := 0) (u := 1600) rfl rfl rfl (by decide +kernel : TG 3 = 3) (by decide +kernel) hσ0 (by decide +kernel) (fun z9 h8 h10 h11 => ?_)
    refine En_Ps 1 (pc' := 13) (lv' := [(0, .ref 3), (1, .retAddr 5)]) (st' := [.ref 3, .int z9]) rfl ?_
    refine En_getI (j := 2) (l := 0) (u := 1600) rfl rfl rfl (by decide +kernel : TG 3 = 3) (by decide +kernel) hσ0 (by decide +kernel) (fun z13 h12 h14 h15 => ?_)
    refine En_Ps 1 (pc' := 17) (lv' := [(0, .ref 3), (1, .retAddr 5)]) (st' := [.int ((z9 - z13))]) rfl ?_
    refine En_top (subI rfl rfl (by omega) (by omega)) (fun z16 h17 => ?_)
    refine En_Ps 1 (pc' := 18) (lv' := [(0, .ref 3), (1, .retAddr 5)]) (st' := [.retAddr 5, .int z16]) rfl ?_
    refine En_slen 2 4 rfl rfl (by decide) rfl ?_
    refine En_icEq _ rfl (by decide : (Int32.ofNat 4).toInt = 4) rfl (fun h18 => ?_) (fun h18 => ?_)
    · refine En_Ps 2 (pc' := 28) (lv' := [(2, .int ((Int32.ofInt 0))), (0, .ref 3), (1, .retAddr 5)]) (st' := []) rfl ?_
      have key28 : ∀ (n28 : Nat) (σ20 : SG) (y19 : Int32), WT σ20 → Fr [] σ0 σ20 → (σ20 3)[1]? = some (.int z2) → (σ20 3)[3]? = some (.int z9) → (σ20 3)[2]? = some (.int z13) → 0 ≤ y19.toInt → y19.toInt ≤ 4 → z9.toInt - y19.toInt < (n28 : Int) → En 4 90 none mr_71 (P_71s2 σ0) 28 [(0, .ref 3), (1, .retAddr 5), (2, .int y19)] [] σ20 := by
        intro n28
        induction n28 with
        | zero =>
          intro σ20 y19 h21 h22 h23 h24 h25 h26 h27 h28
          exfalso; omega
        | succ n28 ih28 =>
          intro σ20 y19 h21 h22 h23 h24 h25 h26 h27 h28
          refine En_Ps 2 (pc' := 30) (lv' := [(0, .ref 3), (1, .retAddr 5), (2, .int y19)]) (st' := [.retAddr 5, .int y19]) rfl ?_
          refine En_slen 2 4 rfl rfl (by decide) rfl ?_
          refine En_icGe _ rfl (by decide : (Int32.ofNat 4).toInt = 4) rfl (fun h29 => ?_) (fun h29 => ?_)
          · refine En_Ps 1 (pc' := 67) (lv' := [(0, .ref 3), (1, .retAddr 5), (2, .int y19)]) (st' := [.int ((Int32.ofInt 1))]) rfl ?_
            refine En_top (by decide : (Int32.ofInt 1).toInt = 1) (fun z30 h31 => ?_)
            exact En_ret (v := some (.int z30)) rfl rfl (retZ rfl rfl (by omega) (by omega)) ⟨h21, h22, z30, rfl, (by omega)⟩
          · refine En_Ps 1 (pc' := 37) (lv' := [(0, .ref 3), (1, .retAddr 5), (2, .int y19)]) (st' := [.ref 3]) rfl ?_
            refine En_getU (j := 0) (u := 1) (g' := 1) (q := 0) rfl rfl rfl (by decide +kernel : TG 3 = 3) (by decide +kernel) h21 (by decide +kernel) (by decide +kernel) (fun h32 => ?_)
            refine En_getU (j := 0) (u := 2) (g' := 2) (q := 0) rfl rfl rfl (by decide +kernel : TG 1 = 1) (by decide +kernel) h21 (by decide +kernel) (by decide +kernel) (fun h34 => ?_)
            refine En_Ps 1 (pc' := 44) (lv' := [(0, .ref 3), (1, .retAddr 5), (2, .int y19)]) (st' := [.ref 3, .ref 2]) rfl ?_
            refine En_getK (j := 2) h25 rfl rfl rfl (by decide +kernel : TG 3 = 3) (by decide +kernel) ?_
            refine En_Ps 2 (pc' := 49) (lv' := [(0, .ref 3), (1, .retAddr 5), (2, .int y19)]) (st' := [.int ((z13 + y19)), .ref 2]) rfl ?_
            refine En_top (addI rfl rfl (by omega) (by omega)) (fun z36 h37 => ?_)
            refine En_bald (l := (-128)) (u := 127) rfl rfl (by decide +kernel : TG 2 = 2) (by decide +kernel) h21 (by omega) (lnI (by decide +kernel : LN _ = 1600) (by omega)) (FTsgl (by decide +kernel)) (fun z39 h38 h40 h41 => ?_)
            refine En_Ps 2 (pc' := 52) (lv' := [(0, .ref 3), (1, .retAddr 5), (2, .int y19)]) (st' := [.int y19, .retAddr 5, .int z39]) rfl ?_
            refine En_schar 2 4 rfl rfl rfl (by decide) (by omega) (by omega) rfl (fun z42 h43 h44 => ?_)
            refine En_icEq _ rfl rfl rfl (fun h45 => ?_) (fun h45 => ?_)
            · refine En_Ps 1 (pc' := 63) (lv' := [(2, .int ((y19 + Int32.ofInt 1))), (0, .ref 3), (1, .retAddr 5)]) (st' := []) rfl ?_
              refine En_lv1 (addI rfl (by decide : (Int32.ofInt 1).toInt = 1) (by omega) (by omega)) (fun z46 h47 => ?_)
              refine En_Ps 1 (pc' := 28) (lv' := [(2, .int z46), (0, .ref 3), (1, .retAddr 5)]) (st' := []) rfl ?_
              refine En_lv (lv := [(0, .ref 3), (1, .retAddr 5), (2, .int z46)]) ⟨rfl, rfl, rfl, trivial⟩ ?_
              exact ih28 σ20 z46 h21 h22 h23 h24 h25 (by omega) (by omega) (by omega)
            · refine En_Ps 1 (pc' := 59) (lv' := [(0, .ref 3), (1, .retAddr 5), (2, .int y19)]) (st' := [.int ((Int32.ofInt 0))]) rfl ?_
              refine En_top (by decide : (Int32.ofInt 0).toInt = 0) (fun z48 h49 => ?_)
              exact En_ret (v := some (.int z48)) rfl rfl (retZ rfl rfl (by omega) (by omega)) ⟨h21, h22, z48, rfl, (by omega)⟩
      have := (by decide : (Int32.ofInt 0).toInt = 0)
      refine En_lv (lv := [(0, .ref 3), (1, .retAddr 5), (2, .int ((Int32.ofInt 0)))]) ⟨rfl, rfl, rfl, trivial⟩ ?_
      exact key28 (Int.toNat (z9.toInt) + 1) σ0 ((Int32.ofInt 0)) hσ0 hF0 h1 h8 h12 (by omega) (by omega) (by omega)
    · refine En_Ps 1 (pc' := 25) (lv' := [(0, .ref 3), (1, .retAddr 5)]) (st' := [.int ((Int32.ofInt 0))]) rfl ?_
      refine En_top (by decide : (Int32.ofInt 0).toInt = 0) (fun z50 h51 => ?_)
      exact En_ret (v := some (.int z50)) rfl rfl (retZ rfl rfl (by omega) (by omega)) ⟨hσ0, hF0, z50, rfl, (by omega)⟩
/-- DoorSchool$Reader.stands(Ljava/lang/String;)Z -/
abbrev P_71s3 (σ0 : SG) : PO := fun v σ => WT σ ∧ Fr [] σ0 σ ∧ ∃ ret : Int32, v = some (.int ret) ∧ -ret.toInt ≤ 0 ∧ ret.toInt - 1 ≤ 0
set_option maxRecDepth 10000 in
set_option maxHeartbeats 4000000 in
theorem c_71s3 (σ0 : SG) (hσ0 : WT σ0) : En 4 90 none mr_71 (P_71s3 σ0) 0 [(0, .ref 3), (1, .retAddr 7)] [] σ0 := by
  have hF0 : Fr [] σ0 σ0 := Fr_rfl
  refine En_Ps 1 (pc' := 1) (lv' := [(0, .ref 3), (1, .retAddr 7)]) (st' := [.ref 3]) rfl ?_
  refine En_getI (j := 1) (l := 0) (u := 4) rfl rfl rfl (by decide +kernel : TG 3 = 3) (by decide +kernel) hσ0 (by decide +kernel) (fun z2 h1 h3 h4 => ?_)
  refine En_Ps 1 (pc' := 5) (lv' := [(0, .ref 3), (1, .retAddr 7)]) (st' := [.int ((Int32.ofInt 1)), .int z2]) rfl ?_
  refine En_icNe _ rfl (by decide : (Int32.ofInt 1).toInt = 1) rfl (fun h5 => ?_) (fun h5 => ?_)
  · refine En_Ps 1 (pc' := 25) (lv' := [(0, .ref 3), (1, .retAddr 7)]) (st' := [.int ((Int32.ofInt 0))]) rfl ?_
    refine En_top (by decide : (Int32.ofInt 0).toInt = 0) (fun z6 h7 => ?_)
    exact En_ret (v := some (.int z6)) rfl rfl (retZ rfl rfl (by omega) (by omega)) ⟨hσ0, hF0, z6, rfl, (by omega)⟩
  · refine En_Ps 1 (pc' := 9) (lv' := [(0, .ref 3), (1, .retAddr 7)]) (st' := [.ref 3]) rfl ?_
    refine En_getI (j := 3) (l := 0) (u := 1600) rfl rfl rfl (by decide +kernel : TG 3 = 3) (by decide +kernel) hσ0 (by decide +kernel) (fun z9 h8 h10 h11 => ?_)
    refine En_Ps 1 (pc' := 13) (lv' := [(0, .ref 3), (1, .retAddr 7)]) (st' := [.ref 3, .int z9]) rfl ?_
    refine En_getI (j := 2) (l := 0) (u := 1600) rfl rfl rfl (by decide +kernel : TG 3 = 3) (by decide +kernel) hσ0 (by decide +kernel) (fun z13 h12 h14 h15 => ?_)
    refine En_Ps 1 (pc' := 17) (lv' := [(0, .ref 3), (1, .retAddr 7)]) (st' := [.int ((z9 - z13))]) rfl ?_
    refine En_top (subI rfl rfl (by omega) (by omega)) (fun z16 h17 => ?_)
    refine En_Ps 1 (pc' := 18) (lv' := [(0, .ref 3), (1, .retAddr 7)]) (st' := [.retAddr 7, .int z16]) rfl ?_
    refine En_slen 3 4 rfl rfl (by decide) rfl ?_
    refine En_icEq _ rfl (by decide : (Int32.ofNat 4).toInt = 4) rfl (fun h18 => ?_) (fun h18 => ?_)
    · refine En_Ps 2 (pc' := 28) (lv' := [(2, .int ((Int32.ofInt 0))), (0, .ref 3), (1, .retAddr 7)]) (st' := []) rfl ?_
      have key28 : ∀ (n28 : Nat) (σ20 : SG) (y19 : Int32), WT σ20 → Fr [] σ0 σ20 → (σ20 3)[1]? = some (.int z2) → (σ20 3)[3]? = some (.int z9) → (σ20 3)[2]? = some (.int z13) → 0 ≤ y19.toInt → y19.toInt ≤ 4 → z9.toInt - y19.toInt < (n28 : Int) → En 4 90 none mr_71 (P_71s3 σ0) 28 [(0, .ref 3), (1, .retAddr 7), (2, .int y19)] [] σ20 := by
        intro n28
        induction n28 with
        | zero =>
          intro σ20 y19 h21 h22 h23 h24 h25 h26 h27 h28
          exfalso; omega
        | succ n28 ih28 =>
          intro σ20 y19 h21 h22 h23 h24 h25 h26 h27 h28
          refine En_Ps 2 (pc' := 30) (lv' := [(0, .ref 3), (1, .retAddr 7), (2, .int y19)]) (st' := [.retAddr 7, .int y19]) rfl ?_
          refine En_slen 3 4 rfl rfl (by decide) rfl ?_
          refine En_icGe _ rfl (by decide : (Int32.ofNat 4).toInt = 4) rfl (fun h29 => ?_) (fun h29 => ?_)
          · refine En_Ps 1 (pc' := 67) (lv' := [(0, .ref 3), (1, .retAddr 7), (2, .int y19)]) (st' := [.int ((Int32.ofInt 1))]) rfl ?_
            refine En_top (by decide : (Int32.ofInt 1).toInt = 1) (fun z30 h31 => ?_)
            exact En_ret (v := some (.int z30)) rfl rfl (retZ rfl rfl (by omega) (by omega)) ⟨h21, h22, z30, rfl, (by omega)⟩
          · refine En_Ps 1 (pc' := 37) (lv' := [(0, .ref 3), (1, .retAddr 7), (2, .int y19)]) (st' := [.ref 3]) rfl ?_
            refine En_getU (j := 0) (u := 1) (g' := 1) (q := 0) rfl rfl rfl (by decide +kernel : TG 3 = 3) (by decide +kernel) h21 (by decide +kernel) (by decide +kernel) (fun h32 => ?_)
            refine En_getU (j := 0) (u := 2) (g' := 2) (q := 0) rfl rfl rfl (by decide +kernel : TG 1 = 1) (by decide +kernel) h21 (by decide +kernel) (by decide +kernel) (fun h34 => ?_)
            refine En_Ps 1 (pc' := 44) (lv' := [(0, .ref 3), (1, .retAddr 7), (2, .int y19)]) (st' := [.ref 3, .ref 2]) rfl ?_
            refine En_getK (j := 2) h25 rfl rfl rfl (by decide +kernel : TG 3 = 3) (by decide +kernel) ?_
            refine En_Ps 2 (pc' := 49) (lv' := [(0, .ref 3), (1, .retAddr 7), (2, .int y19)]) (st' := [.int ((z13 + y19)), .ref 2]) rfl ?_
            refine En_top (addI rfl rfl (by omega) (by omega)) (fun z36 h37 => ?_)
            refine En_bald (l := (-128)) (u := 127) rfl rfl (by decide +kernel : TG 2 = 2) (by decide +kernel) h21 (by omega) (lnI (by decide +kernel : LN _ = 1600) (by omega)) (FTsgl (by decide +kernel)) (fun z39 h38 h40 h41 => ?_)
            refine En_Ps 2 (pc' := 52) (lv' := [(0, .ref 3), (1, .retAddr 7), (2, .int y19)]) (st' := [.int y19, .retAddr 7, .int z39]) rfl ?_
            refine En_schar 3 4 rfl rfl rfl (by decide) (by omega) (by omega) rfl (fun z42 h43 h44 => ?_)
            refine En_icEq _ rfl rfl rfl (fun h45 => ?_) (fun h45 => ?_)
            · refine En_Ps 1 (pc' := 63) (lv' := [(2, .int ((y19 + Int32.ofInt 1))), (0, .ref 3), (1, .retAddr 7)]) (st' := []) rfl ?_
              refine En_lv1 (addI rfl (by decide : (Int32.ofInt 1).toInt = 1) (by omega) (by omega)) (fun z46 h47 => ?_)
              refine En_Ps 1 (pc' := 28) (lv' := [(2, .int z46), (0, .ref 3), (1, .retAddr 7)]) (st' := []) rfl ?_
              refine En_lv (lv := [(0, .ref 3), (1, .retAddr 7), (2, .int z46)]) ⟨rfl, rfl, rfl, trivial⟩ ?_
              exact ih28 σ20 z46 h21 h22 h23 h24 h25 (by omega) (by omega) (by omega)
            · refine En_Ps 1 (pc' := 59) (lv' := [(0, .ref 3), (1, .retAddr 7), (2, .int y19)]) (st' := [.int ((Int32.ofInt 0))]) rfl ?_
              refine En_top (by decide : (Int32.ofInt 0).toInt = 0) (fun z48 h49 => ?_)
              exact En_ret (v := some (.int z48)) rfl rfl (retZ rfl rfl (by omega) (by omega)) ⟨h21, h22, z48, rfl, (by omega)⟩
      have := (by decide : (Int32.ofInt 0).toInt = 0)
      refine En_lv (lv := [(0, .ref 3), (1, .retAddr 7), (2, .int ((Int32.ofInt 0)))]) ⟨rfl, rfl, rfl, trivial⟩ ?_
      exact key28 (Int.toNat (z9.toInt) + 1) σ0 ((Int32.ofInt 0)) hσ0 hF0 h1 h8 h12 (by omega) (by omega) (by omega)
    · refine En_Ps 1 (pc' := 25) (lv' := [(0, .ref 3), (1, .retAddr 7)]) (st' := [.int ((Int32.ofInt 0))]) rfl ?_
      refine En_top (by decide : (Int32.ofInt 0).toInt = 0) (fun z50 h51 => ?_)
      exact En_ret (v := some (.int z50)) rfl rfl (retZ rfl rfl (by omega) (by omega)) ⟨hσ0, hF0, z50, rfl, (by omega)⟩
/-- DoorSchool$Reader.stands(Ljava/lang/String;)Z -/
abbrev P_71s4 (σ0 : SG) : PO := fun v σ => WT σ ∧ Fr [] σ0 σ ∧ ∃ ret : Int32, v = some (.int ret) ∧ -ret.toInt ≤ 0 ∧ ret.toInt - 1 ≤ 0
set_option maxRecDepth 10000 in
set_option maxHeartbeats 4000000 in
theorem c_71s4 (σ0 : SG) (hσ0 : WT σ0) : En 4 90 none mr_71 (P_71s4 σ0) 0 [(0, .ref 3), (1, .retAddr 9)] [] σ0 := by
  have hF0 : Fr [] σ0 σ0 := Fr_rfl
  refine En_Ps 1 (pc' := 1) (lv' := [(0, .ref 3), (1, .retAddr 9)]) (st' := [.ref 3]) rfl ?_
  refine En_getI (j := 1) (l := 0) (u := 4) rfl rfl rfl (by decide +kernel : TG 3 = 3) (by decide +kernel) hσ0 (by decide +kernel) (fun z2 h1 h3 h4 => ?_)
  refine En_Ps 1 (pc' := 5) (lv' := [(0, .ref 3), (1, .retAddr 9)]) (st' := [.int ((Int32.ofInt 1)), .int z2]) rfl ?_
  refine En_icNe _ rfl (by decide : (Int32.ofInt 1).toInt = 1) rfl (fun h5 => ?_) (fun h5 => ?_)
  · refine En_Ps 1 (pc' := 25) (lv' := [(0, .ref 3), (1, .retAddr 9)]) (st' := [.int ((Int32.ofInt 0))]) rfl ?_
    refine En_top (by decide : (Int32.ofInt 0).toInt = 0) (fun z6 h7 => ?_)
    exact En_ret (v := some (.int z6)) rfl rfl (retZ rfl rfl (by omega) (by omega)) ⟨hσ0, hF0, z6, rfl, (by omega)⟩
  · refine En_Ps 1 (pc' := 9) (lv' := [(0, .ref 3), (1, .retAddr 9)]) (st' := [.ref 3]) rfl ?_
    refine En_getI (j := 3) (l := 0) (u := 1600) rfl rfl rfl (by decide +kernel : TG 3 = 3) (by decide +kernel) hσ0 (by decide +kernel) (fun z9 h8 h10 h11 => ?_)
    refine En_Ps 1 (pc' := 13) (lv' := [(0, .ref 3), (1, .retAddr 9)]) (st' := [.ref 3, .int z9]) rfl ?_
    refine En_getI (j := 2) (l := 0) (u := 1600) rfl rfl rfl (by decide +kernel : TG 3 = 3) (by decide +kernel) hσ0 (by decide +kernel) (fun z13 h12 h14 h15 => ?_)
    refine En_Ps 1 (pc' := 17) (lv' := [(0, .ref 3), (1, .retAddr 9)]) (st' := [.int ((z9 - z13))]) rfl ?_
    refine En_top (subI rfl rfl (by omega) (by omega)) (fun z16 h17 => ?_)
    refine En_Ps 1 (pc' := 18) (lv' := [(0, .ref 3), (1, .retAddr 9)]) (st' := [.retAddr 9, .int z16]) rfl ?_
    refine En_slen 4 5 rfl rfl (by decide) rfl ?_
    refine En_icEq _ rfl (by decide : (Int32.ofNat 5).toInt = 5) rfl (fun h18 => ?_) (fun h18 => ?_)
    · refine En_Ps 2 (pc' := 28) (lv' := [(2, .int ((Int32.ofInt 0))), (0, .ref 3), (1, .retAddr 9)]) (st' := []) rfl ?_
      have key28 : ∀ (n28 : Nat) (σ20 : SG) (y19 : Int32), WT σ20 → Fr [] σ0 σ20 → (σ20 3)[1]? = some (.int z2) → (σ20 3)[3]? = some (.int z9) → (σ20 3)[2]? = some (.int z13) → 0 ≤ y19.toInt → y19.toInt ≤ 5 → z9.toInt - y19.toInt < (n28 : Int) → En 4 90 none mr_71 (P_71s4 σ0) 28 [(0, .ref 3), (1, .retAddr 9), (2, .int y19)] [] σ20 := by
        intro n28
        induction n28 with
        | zero =>
          intro σ20 y19 h21 h22 h23 h24 h25 h26 h27 h28
          exfalso; omega
        | succ n28 ih28 =>
          intro σ20 y19 h21 h22 h23 h24 h25 h26 h27 h28
          refine En_Ps 2 (pc' := 30) (lv' := [(0, .ref 3), (1, .retAddr 9), (2, .int y19)]) (st' := [.retAddr 9, .int y19]) rfl ?_
          refine En_slen 4 5 rfl rfl (by decide) rfl ?_
          refine En_icGe _ rfl (by decide : (Int32.ofNat 5).toInt = 5) rfl (fun h29 => ?_) (fun h29 => ?_)
          · refine En_Ps 1 (pc' := 67) (lv' := [(0, .ref 3), (1, .retAddr 9), (2, .int y19)]) (st' := [.int ((Int32.ofInt 1))]) rfl ?_
            refine En_top (by decide : (Int32.ofInt 1).toInt = 1) (fun z30 h31 => ?_)
            exact En_ret (v := some (.int z30)) rfl rfl (retZ rfl rfl (by omega) (by omega)) ⟨h21, h22, z30, rfl, (by omega)⟩
          · refine En_Ps 1 (pc' := 37) (lv' := [(0, .ref 3), (1, .retAddr 9), (2, .int y19)]) (st' := [.ref 3]) rfl ?_
            refine En_getU (j := 0) (u := 1) (g' := 1) (q := 0) rfl rfl rfl (by decide +kernel : TG 3 = 3) (by decide +kernel) h21 (by decide +kernel) (by decide +kernel) (fun h32 => ?_)
            refine En_getU (j := 0) (u := 2) (g' := 2) (q := 0) rfl rfl rfl (by decide +kernel : TG 1 = 1) (by decide +kernel) h21 (by decide +kernel) (by decide +kernel) (fun h34 => ?_)
            refine En_Ps 1 (pc' := 44) (lv' := [(0, .ref 3), (1, .retAddr 9), (2, .int y19)]) (st' := [.ref 3, .ref 2]) rfl ?_
            refine En_getK (j := 2) h25 rfl rfl rfl (by decide +kernel : TG 3 = 3) (by decide +kernel) ?_
            refine En_Ps 2 (pc' := 49) (lv' := [(0, .ref 3), (1, .retAddr 9), (2, .int y19)]) (st' := [.int ((z13 + y19)), .ref 2]) rfl ?_
            refine En_top (addI rfl rfl (by omega) (by omega)) (fun z36 h37 => ?_)
            refine En_bald (l := (-128)) (u := 127) rfl rfl (by decide +kernel : TG 2 = 2) (by decide +kernel) h21 (by omega) (lnI (by decide +kernel : LN _ = 1600) (by omega)) (FTsgl (by decide +kernel)) (fun z39 h38 h40 h41 => ?_)
            refine En_Ps 2 (pc' := 52) (lv' := [(0, .ref 3), (1, .retAddr 9), (2, .int y19)]) (st' := [.int y19, .retAddr 9, .int z39]) rfl ?_
            refine En_schar 4 5 rfl rfl rfl (by decide) (by omega) (by omega) rfl (fun z42 h43 h44 => ?_)
            refine En_icEq _ rfl rfl rfl (fun h45 => ?_) (fun h45 => ?_)
            · refine En_Ps 1 (pc' := 63) (lv' := [(2, .int ((y19 + Int32.ofInt 1))), (0, .ref 3), (1, .retAddr 9)]) (st' := []) rfl ?_
              refine En_lv1 (addI rfl (by decide : (Int32.ofInt 1).toInt = 1) (by omega) (by omega)) (fun z46 h47 => ?_)
              refine En_Ps 1 (pc' := 28) (lv' := [(2, .int z46), (0, .ref 3), (1, .retAddr 9)]) (st' := []) rfl ?_
              refine En_lv (lv := [(0, .ref 3), (1, .retAddr 9), (2, .int z46)]) ⟨rfl, rfl, rfl, trivial⟩ ?_
              exact ih28 σ20 z46 h21 h22 h23 h24 h25 (by omega) (by omega) (by omega)
            · refine En_Ps 1 (pc' := 59) (lv' := [(0, .ref 3), (1, .retAddr 9), (2, .int y19)]) (st' := [.int ((Int32.ofInt 0))]) rfl ?_
              refine En_top (by decide : (Int32.ofInt 0).toInt = 0) (fun z48 h49 => ?_)
              exact En_ret (v := some (.int z48)) rfl rfl (retZ rfl rfl (by omega) (by omega)) ⟨h21, h22, z48, rfl, (by omega)⟩
      have := (by decide : (Int32.ofInt 0).toInt = 0)
      refine En_lv (lv := [(0, .ref 3), (1, .retAddr 9), (2, .int ((Int32.ofInt 0)))]) ⟨rfl, rfl, rfl, trivial⟩ ?_
      exact key28 (Int.toNat (z9.toInt) + 1) σ0 ((Int32.ofInt 0)) hσ0 hF0 h1 h8 h12 (by omega) (by omega) (by omega)
    · refine En_Ps 1 (pc' := 25) (lv' := [(0, .ref 3), (1, .retAddr 9)]) (st' := [.int ((Int32.ofInt 0))]) rfl ?_
      refine En_top (by decide : (Int32.ofInt 0).toInt = 0) (fun z50 h51 => ?_)
      exact En_ret (v := some (.int z50)) rfl rfl (retZ rfl rfl (by omega) (by omega)) ⟨hσ0, hF0, z50, rfl, (by omega)⟩
