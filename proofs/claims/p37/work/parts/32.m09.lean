/-- DoorSchoolModel.door(II)I -/
abbrev P_219x (σ0 : SG) (a : Int32) (b : Int32) : PO := fun v σ => WT σ ∧ Fr [] σ0 σ ∧ ∃ ret : Int32, v = some (.int ret) ∧ -ret.toInt - 2 ≤ 0 ∧ ret.toInt - 50 ≤ 0 ∧ ret.toInt = doR (wf σ0) a.toInt b.toInt
set_option maxRecDepth 10000 in
set_option maxHeartbeats 4000000 in
theorem c_219x (σ0 : SG) (hσ0 : WT σ0) (a : Int32) (b : Int32) : En 2 46 none mr_219 (P_219x σ0 a b) 0 [(0, .ref 159), (1, .int a), (2, .int b)] [] σ0 := by
  have hF0 : Fr [] σ0 σ0 := Fr_rfl
  refine En_Ps 2 (pc' := 2) (lv' := [(0, .ref 159), (1, .int a), (2, .int b)]) (st' := [.int a, .ref 159]) rfl ?_
  obtain ⟨z2, h1, h3, h4⟩ := WT_peekI hσ0 (by decide +kernel : TG 160 = 36) (by decide +kernel : FT 36 (2 : Int).toNat = (0, 0, 4)) (by decide +kernel)
  refine En_callV rfl rfl rfl rfl rfl rfl rfl rfl (by decide +kernel : TG 159 = 35) (by decide +kernel) rfl (c_254 σ0 hσ0 a z2 h1) (by decide) (by decide) (fun v6 σ7 h5 => ?_)
  obtain ⟨h8, h9, z11, rfl, h10⟩ := h5
  obtain rfl : σ0 = σ7 := Fr_nil h9
  have w12 : wf σ0 (2) = z2.toInt := ci_at h1 (by omega)
  refine En_iEq _ rfl rfl (fun h13 => ?_) (fun h13 => ?_)
  · refine En_Ps 1 (pc' := 31) (lv' := [(0, .ref 159), (1, .int a), (2, .int b)]) (st' := [.int (((Int8.ofInt (-2)).toInt32))]) rfl ?_
    refine En_top (by decide : ((Int8.ofInt (-2)).toInt32).toInt = -2) (fun z14 h15 => ?_)
    exact En_ret (v := some (.int z14)) rfl rfl rfl ⟨hσ0, hF0, z14, rfl, ⟨by omega, by omega, (by have e := doR_n (w := wf σ0) (d := a.toInt) (q := b.toInt) (by omega); omega)⟩⟩
  · refine En_Ps 4 (pc' := 14) (lv' := [(0, .ref 159), (1, .int a), (2, .int b)]) (st' := [.long ((3 : Int64)), .long ((Int64.ofNat 0)), .long b.toInt64]) rfl ?_
    have : b.toInt64.toInt = b.toInt := (i2lI rfl)
    have := (by decide : ((Int64.ofNat 0)).toInt = 0)
    have := (by decide : ((3 : Int64)).toInt = 3)
    refine En_callS rfl rfl rfl rfl rfl rfl rfl rfl rfl (c_249 σ0 hσ0 b.toInt64 ((Int64.ofNat 0)) ((3 : Int64))) (by decide) (by decide) (fun v17 σ18 h16 => ?_)
    obtain ⟨h19, h20, z22, rfl, h21⟩ := h16
    obtain rfl : σ0 = σ18 := Fr_nil h20
    refine En_iEq _ rfl rfl (fun h23 => ?_) (fun h23 => ?_)
    · refine En_Ps 1 (pc' := 31) (lv' := [(0, .ref 159), (1, .int a), (2, .int b)]) (st' := [.int (((Int8.ofInt (-2)).toInt32))]) rfl ?_
      refine En_top (by decide : ((Int8.ofInt (-2)).toInt32).toInt = -2) (fun z24 h25 => ?_)
      exact En_ret (v := some (.int z24)) rfl rfl rfl ⟨hσ0, hF0, z24, rfl, ⟨by omega, by omega, (by have e := doR_n (w := wf σ0) (d := a.toInt) (q := b.toInt) (by omega); omega)⟩⟩
    · rcases (show b.toInt = 0 ∨ b.toInt = 1 ∨ b.toInt = 2 ∨ b.toInt = 3 by omega) with h26 | h26 | h26 | h26
      · refine En_Ps 3 (pc' := 23) (lv' := [(0, .ref 159), (1, .int a), (2, .int b)]) (st' := [.int b, .int a, .ref 159]) rfl ?_
        obtain ⟨z27, h28, h29, h30⟩ := WT_peekJ (J := (4 * a.toInt + b.toInt + 10)) (l := 0) (u := 2) hσ0 (by decide +kernel : TG 160 = 36) (by decide +kernel) (by omega) (lnI (by decide +kernel : LN _ = 226) (by omega)) (FTrow 36 10 4 4 (by decide +kernel) (by omega) (by omega) (by omega))
        refine En_callV rfl rfl rfl rfl rfl rfl rfl rfl (by decide +kernel : TG 159 = 35) (by decide +kernel) rfl (c_290a σ0 hσ0 a b (geI rfl (by omega)) (leI rfl (by omega)) (geI rfl (by omega)) (leI rfl (by omega)) z27 h28) (by decide) (by decide) (fun v32 σ33 h31 => ?_)
        obtain ⟨h34, h35, z37, rfl, h36⟩ := h31
        obtain rfl : σ0 = σ33 := Fr_nil h35
        refine En_Ps 1 (pc' := 31) (lv' := [(0, .ref 159), (1, .int a), (2, .int b)]) (st' := [.int z37]) rfl ?_
        have w38 : wf σ0 (10 + 4 * a.toInt + b.toInt) = z27.toInt := ci_at h28 (by omega)
        exact En_ret (v := some (.int z37)) rfl rfl rfl ⟨hσ0, hF0, z37, rfl, ⟨by omega, by omega, (by have e := doR_y (w := wf σ0) (d := a.toInt) (q := b.toInt) (by omega) (by omega) w38; omega)⟩⟩
      · refine En_Ps 3 (pc' := 23) (lv' := [(0, .ref 159), (1, .int a), (2, .int b)]) (st' := [.int b, .int a, .ref 159]) rfl ?_
        obtain ⟨z39, h40, h41, h42⟩ := WT_peekJ (J := (4 * a.toInt + b.toInt + 10)) (l := 0) (u := 50) hσ0 (by decide +kernel : TG 160 = 36) (by decide +kernel) (by omega) (lnI (by decide +kernel : LN _ = 226) (by omega)) (FTrow 36 11 4 4 (by decide +kernel) (by omega) (by omega) (by omega))
        refine En_callV rfl rfl rfl rfl rfl rfl rfl rfl (by decide +kernel : TG 159 = 35) (by decide +kernel) rfl (c_290b σ0 hσ0 a b (geI rfl (by omega)) (leI rfl (by omega)) (geI rfl (by omega)) (leI rfl (by omega)) z39 h40) (by decide) (by decide) (fun v44 σ45 h43 => ?_)
        obtain ⟨h46, h47, z49, rfl, h48⟩ := h43
        obtain rfl : σ0 = σ45 := Fr_nil h47
        refine En_Ps 1 (pc' := 31) (lv' := [(0, .ref 159), (1, .int a), (2, .int b)]) (st' := [.int z49]) rfl ?_
        have w50 : wf σ0 (10 + 4 * a.toInt + b.toInt) = z39.toInt := ci_at h40 (by omega)
        exact En_ret (v := some (.int z49)) rfl rfl rfl ⟨hσ0, hF0, z49, rfl, ⟨by omega, by omega, (by have e := doR_y (w := wf σ0) (d := a.toInt) (q := b.toInt) (by omega) (by omega) w50; omega)⟩⟩
      · refine En_Ps 3 (pc' := 23) (lv' := [(0, .ref 159), (1, .int a), (2, .int b)]) (st' := [.int b, .int a, .ref 159]) rfl ?_
        obtain ⟨z51, h52, h53, h54⟩ := WT_peekJ (J := (4 * a.toInt + b.toInt + 10)) (l := 0) (u := 12) hσ0 (by decide +kernel : TG 160 = 36) (by decide +kernel) (by omega) (lnI (by decide +kernel : LN _ = 226) (by omega)) (FTrow 36 12 4 4 (by decide +kernel) (by omega) (by omega) (by omega))
        refine En_callV rfl rfl rfl rfl rfl rfl rfl rfl (by decide +kernel : TG 159 = 35) (by decide +kernel) rfl (c_290c σ0 hσ0 a b (geI rfl (by omega)) (leI rfl (by omega)) (geI rfl (by omega)) (leI rfl (by omega)) z51 h52) (by decide) (by decide) (fun v56 σ57 h55 => ?_)
        obtain ⟨h58, h59, z61, rfl, h60⟩ := h55
        obtain rfl : σ0 = σ57 := Fr_nil h59
        refine En_Ps 1 (pc' := 31) (lv' := [(0, .ref 159), (1, .int a), (2, .int b)]) (st' := [.int z61]) rfl ?_
        have w62 : wf σ0 (10 + 4 * a.toInt + b.toInt) = z51.toInt := ci_at h52 (by omega)
        exact En_ret (v := some (.int z61)) rfl rfl rfl ⟨hσ0, hF0, z61, rfl, ⟨by omega, by omega, (by have e := doR_y (w := wf σ0) (d := a.toInt) (q := b.toInt) (by omega) (by omega) w62; omega)⟩⟩
      · refine En_Ps 3 (pc' := 23) (lv' := [(0, .ref 159), (1, .int a), (2, .int b)]) (st' := [.int b, .int a, .ref 159]) rfl ?_
        obtain ⟨z63, h64, h65, h66⟩ := WT_peekJ (J := (4 * a.toInt + b.toInt + 10)) (l := (-1)) (u := 3) hσ0 (by decide +kernel : TG 160 = 36) (by decide +kernel) (by omega) (lnI (by decide +kernel : LN _ = 226) (by omega)) (FTrow 36 13 4 4 (by decide +kernel) (by omega) (by omega) (by omega))
        refine En_callV rfl rfl rfl rfl rfl rfl rfl rfl (by decide +kernel : TG 159 = 35) (by decide +kernel) rfl (c_290d σ0 hσ0 a b (geI rfl (by omega)) (leI rfl (by omega)) (geI rfl (by omega)) (leI rfl (by omega)) z63 h64) (by decide) (by decide) (fun v68 σ69 h67 => ?_)
        obtain ⟨h70, h71, z73, rfl, h72⟩ := h67
        obtain rfl : σ0 = σ69 := Fr_nil h71
        refine En_Ps 1 (pc' := 31) (lv' := [(0, .ref 159), (1, .int a), (2, .int b)]) (st' := [.int z73]) rfl ?_
        have w74 : wf σ0 (10 + 4 * a.toInt + b.toInt) = z63.toInt := ci_at h64 (by omega)
        exact En_ret (v := some (.int z73)) rfl rfl rfl ⟨hσ0, hF0, z73, rfl, ⟨by omega, by omega, (by have e := doR_y (w := wf σ0) (d := a.toInt) (q := b.toInt) (by omega) (by omega) w74; omega)⟩⟩
/-- DoorSchoolModel.end(I)I -/
abbrev P_221x (σ0 : SG) (a : Int32) (m : Int32) : PO := fun v σ => WT σ ∧ Fr [(35, 5)] σ0 σ ∧ ∃ m1 : Int32, (σ 159)[5]? = some (.int m1) ∧ ∃ ret : Int32, v = some (.int ret) ∧ -ret.toInt - 1 ≤ 0 ∧ ret.toInt - 1600 ≤ 0 ∧ -m1.toInt ≤ 0 ∧ m1.toInt - 1600 ≤ 0 ∧ -m1.toInt + m.toInt - 1600 ≤ 0 ∧ m1.toInt - m.toInt ≤ 0 ∧ Imp (-a.toInt ≤ 0 ∧ a.toInt - m.toInt ≤ 0) (m1.toInt - a.toInt ≤ 0 ∧ -m1.toInt + a.toInt ≤ 0 ∧ ret.toInt - a.toInt ≤ 0 ∧ -ret.toInt + a.toInt ≤ 0) ∧ Imp (a.toInt + 1 ≤ 0) (m1.toInt - m.toInt ≤ 0 ∧ -m1.toInt + m.toInt ≤ 0 ∧ ret.toInt + 1 ≤ 0 ∧ -ret.toInt - 1 ≤ 0) ∧ Imp (m.toInt - a.toInt + 1 ≤ 0) (m1.toInt - m.toInt ≤ 0 ∧ -m1.toInt + m.toInt ≤ 0 ∧ ret.toInt + 1 ≤ 0 ∧ -ret.toInt - 1 ≤ 0)
set_option maxRecDepth 10000 in
set_option maxHeartbeats 4000000 in
theorem c_221x (σ0 : SG) (hσ0 : WT σ0) (a : Int32) (m : Int32) (h_m : (σ0 159)[5]? = some (.int m)) : En 1 25 none mr_221 (P_221x σ0 a m) 0 [(0, .ref 159), (1, .int a)] [] σ0 := by
  obtain ⟨hl_m, hu_m⟩ := WT_int hσ0 (g := 35) (by decide +kernel) (by decide +kernel) (l := 0) (u := 1600) (by decide +kernel) h_m
  have hF0 : Fr [(35, 5)] σ0 σ0 := Fr_rfl
  refine En_Ps 4 (pc' := 4) (lv' := [(0, .ref 159), (1, .int a)]) (st' := [.ref 159, .long ((Int64.ofNat 0)), .long a.toInt64]) rfl ?_
  refine En_getK (j := 5) h_m rfl rfl rfl (by decide +kernel : TG 159 = 35) (by decide +kernel) ?_
  refine En_Ps 1 (pc' := 8) (lv' := [(0, .ref 159), (1, .int a)]) (st' := [.long m.toInt64, .long ((Int64.ofNat 0)), .long a.toInt64]) rfl ?_
  have : a.toInt64.toInt = a.toInt := (i2lI rfl)
  have := (by decide : ((Int64.ofNat 0)).toInt = 0)
  have : m.toInt64.toInt = m.toInt := (i2lI rfl)
  refine En_callS rfl rfl rfl rfl rfl rfl rfl rfl rfl (c_249 σ0 hσ0 a.toInt64 ((Int64.ofNat 0)) m.toInt64) (by decide) (by decide) (fun v2 σ3 h1 => ?_)
  obtain ⟨h4, h5, z7, rfl, h6⟩ := h1
  have h8 := Fr_trans hF0 h5 (by decide +kernel)
  refine En_iNe _ rfl rfl (fun h9 => ?_) (fun h9 => ?_)
  · refine En_Ps 2 (pc' := 18) (lv' := [(0, .ref 159), (1, .int a)]) (st' := [.int a, .ref 159]) rfl ?_
    refine En_put (j := 5) rfl rfl rfl (by decide +kernel : TG 159 = 35) (by decide +kernel) rfl (vI (l := 0) (u := 1600) (by decide +kernel) rfl (by omega) (by omega)) h4 h8 (by decide +kernel) (fun σ10 h11 h12 h13 h14 => ?_)
    refine En_Ps 1 (pc' := 22) (lv' := [(0, .ref 159), (1, .int a)]) (st' := [.int a]) rfl ?_
    exact En_ret (v := some (.int a)) rfl rfl rfl ⟨h11, h12, a, h13, a, rfl, ⟨by omega, by omega, by omega, by omega, by omega, by omega, fun _ => by omega, fun _ => by omega, fun _ => by omega⟩⟩
  · refine En_Ps 1 (pc' := 15) (lv' := [(0, .ref 159), (1, .int a)]) (st' := [.int ((Int32.ofInt (-1)))]) rfl ?_
    refine En_top (by decide : (Int32.ofInt (-1)).toInt = -1) (fun z15 h16 => ?_)
    exact En_ret (v := some (.int z15)) rfl rfl rfl ⟨h4, h8, m, ((h5 _ _ (inW (by decide +kernel : TG 159 = 35) (by decide +kernel))).trans h_m), z15, rfl, ⟨by omega, by omega, by omega, by omega, by omega, by omega, fun _ => by omega, fun _ => by omega, fun _ => by omega⟩⟩
/-- DoorSchoolModel.isExam(I)Z -/
abbrev P_255x (σ0 : SG) (a : Int32) (ne : Int32) : PO := fun v σ => WT σ ∧ Fr [] σ0 σ ∧ ∃ ret : Int32, v = some (.int ret) ∧ -ret.toInt ≤ 0 ∧ ret.toInt - 1 ≤ 0 ∧ Imp (-ret.toInt + 1 ≤ 0) (-a.toInt ≤ 0 ∧ a.toInt - ne.toInt + 1 ≤ 0) ∧ Imp (-a.toInt ≤ 0 ∧ a.toInt - ne.toInt + 1 ≤ 0) (-ret.toInt + 1 ≤ 0) ∧ Imp (ret.toInt ≤ 0 ∧ -ret.toInt ≤ 0) (-a.toInt - 2147483648 ≤ 0 ∧ a.toInt - 2147483647 ≤ 0) ∧ Imp (ret.toInt - 1 ≤ 0 ∧ -ret.toInt + 1 ≤ 0) (-a.toInt ≤ 0 ∧ a.toInt - 11 ≤ 0)
set_option maxRecDepth 10000 in
set_option maxHeartbeats 4000000 in
theorem c_255x (σ0 : SG) (hσ0 : WT σ0) (a : Int32) (ne : Int32) (h_ne : (σ0 160)[(3 : Int).toNat]? = some (.int ne)) : En 1 25 none mr_255 (P_255x σ0 a ne) 0 [(0, .ref 159), (1, .int a)] [] σ0 := by
  obtain ⟨hl_ne, hu_ne⟩ := WT_int hσ0 (g := 36) (by decide +kernel) (by decide +kernel) (l := 0) (u := 12) (by decide +kernel) h_ne
  have := Int32.le_toInt a
  have := Int32.toInt_lt a
  have hF0 : Fr [] σ0 σ0 := Fr_rfl
  refine En_Ps 4 (pc' := 4) (lv' := [(0, .ref 159), (1, .int a)]) (st' := [.ref 159, .long ((Int64.ofNat 0)), .long a.toInt64]) rfl ?_
  refine En_getU (j := 1) (u := 160) (g' := 36) (q := 0) rfl rfl rfl (by decide +kernel : TG 159 = 35) (by decide +kernel) hσ0 (by decide +kernel) (by decide +kernel) (fun h1 => ?_)
  refine En_Ps 1 (pc' := 8) (lv' := [(0, .ref 159), (1, .int a)]) (st' := [.int ((Int32.ofInt 3)), .ref 160, .long ((Int64.ofNat 0)), .long a.toInt64]) rfl ?_
  refine En_ialdK h_ne rfl (by decide : (Int32.ofInt 3).toInt = 3) (by decide +kernel : TG 160 = 36) (by decide +kernel) hσ0 (by omega) (lnI (by decide +kernel : LN _ = 226) (by omega)) ?_
  refine En_Ps 2 (pc' := 11) (lv' := [(0, .ref 159), (1, .int a)]) (st' := [.int ((ne - ((Int32.ofInt 1)))), .long ((Int64.ofNat 0)), .long a.toInt64]) rfl ?_
  refine En_top (subI rfl (by decide : (Int32.ofInt 1).toInt = 1) (by omega) (by omega)) (fun z4 h5 => ?_)
  refine En_Ps 1 (pc' := 12) (lv' := [(0, .ref 159), (1, .int a)]) (st' := [.long z4.toInt64, .long ((Int64.ofNat 0)), .long a.toInt64]) rfl ?_
  have : a.toInt64.toInt = a.toInt := (i2lI rfl)
  have := (by decide : ((Int64.ofNat 0)).toInt = 0)
  have : z4.toInt64.toInt = z4.toInt := (i2lI rfl)
  refine En_callS rfl rfl rfl rfl rfl rfl rfl rfl rfl (c_249 σ0 hσ0 a.toInt64 ((Int64.ofNat 0)) z4.toInt64) (by decide) (by decide) (fun v7 σ8 h6 => ?_)
  obtain ⟨h9, h10, z12, rfl, h11⟩ := h6
  have h13 := Fr_trans hF0 h10 (by decide +kernel)
  exact En_ret (v := some (.int z12)) rfl rfl (retZ rfl rfl (by omega) (by omega)) ⟨h9, h13, z12, rfl, ⟨by omega, by omega, fun _ => by omega, fun _ => by omega, fun _ => by omega, fun _ => by omega⟩⟩
/-- DoorSchoolModel.exam(II)I -/
abbrev P_224x (σ0 : SG) (a : Int32) (b : Int32) : PO := fun v σ => WT σ ∧ Fr [] σ0 σ ∧ ∃ ret : Int32, v = some (.int ret) ∧ -ret.toInt - 2 ≤ 0 ∧ ret.toInt - 15 ≤ 0 ∧ ret.toInt = exR (wf σ0) a.toInt b.toInt
set_option maxRecDepth 10000 in
set_option maxHeartbeats 4000000 in
theorem c_224x (σ0 : SG) (hσ0 : WT σ0) (a : Int32) (b : Int32) : En 2 46 none mr_224 (P_224x σ0 a b) 0 [(0, .ref 159), (1, .int a), (2, .int b)] [] σ0 := by
  have hF0 : Fr [] σ0 σ0 := Fr_rfl
  refine En_Ps 2 (pc' := 2) (lv' := [(0, .ref 159), (1, .int a), (2, .int b)]) (st' := [.int a, .ref 159]) rfl ?_
  obtain ⟨z2, h1, h3, h4⟩ := WT_peekI hσ0 (by decide +kernel : TG 160 = 36) (by decide +kernel : FT 36 (3 : Int).toNat = (0, 0, 12)) (by decide +kernel)
  refine En_callV rfl rfl rfl rfl rfl rfl rfl rfl (by decide +kernel : TG 159 = 35) (by decide +kernel) rfl (c_255x σ0 hσ0 a z2 h1) (by decide) (by decide) (fun v6 σ7 h5 => ?_)
  obtain ⟨h8, h9, z11, rfl, h10⟩ := h5
  obtain rfl : σ0 = σ7 := Fr_nil h9
  have h12 := Imp_m h10.2.2.1
  have h13 := Imp_m h10.2.2.2.1
  have h14 := Imp_m h10.2.2.2.2.1
  have h15 := Imp_m h10.2.2.2.2.2
  have w16 : wf σ0 (3) = z2.toInt := ci_at h1 (by omega)
  refine En_iEq _ rfl rfl (fun h17 => ?_) (fun h17 => ?_)
  · have h18 := Imp_m h10.2.2.2.2.1 (by omega)
    refine En_Ps 1 (pc' := 36) (lv' := [(0, .ref 159), (1, .int a), (2, .int b)]) (st' := [.int (((Int8.ofInt (-2)).toInt32))]) rfl ?_
    refine En_top (by decide : ((Int8.ofInt (-2)).toInt32).toInt = -2) (fun z19 h20 => ?_)
    exact En_ret (v := some (.int z19)) rfl rfl rfl ⟨hσ0, hF0, z19, rfl, ⟨by omega, by omega, (by have e := exR_n (w := wf σ0) (d := a.toInt) (q := b.toInt) (by omega); omega)⟩⟩
  · have h21 := Imp_m h10.2.2.1 (by omega)
    have h22 := Imp_m h10.2.2.2.1 (by omega)
    have h23 := Imp_m h10.2.2.2.2.2 (by omega)
    refine En_Ps 4 (pc' := 12) (lv' := [(0, .ref 159), (1, .int a), (2, .int b)]) (st' := [.long ((Int64.ofNat 1)), .long ((Int64.ofNat 0)), .long b.toInt64]) rfl ?_
    have : b.toInt64.toInt = b.toInt := (i2lI rfl)
    have := (by decide : ((Int64.ofNat 0)).toInt = 0)
    have := (by decide : ((Int64.ofNat 1)).toInt = 1)
    refine En_callS rfl rfl rfl rfl rfl rfl rfl rfl rfl (c_249 σ0 hσ0 b.toInt64 ((Int64.ofNat 0)) ((Int64.ofNat 1))) (by decide) (by decide) (fun v25 σ26 h24 => ?_)
    obtain ⟨h27, h28, z30, rfl, h29⟩ := h24
    obtain rfl : σ0 = σ26 := Fr_nil h28
    refine En_iEq _ rfl rfl (fun h31 => ?_) (fun h31 => ?_)
    · refine En_Ps 1 (pc' := 36) (lv' := [(0, .ref 159), (1, .int a), (2, .int b)]) (st' := [.int (((Int8.ofInt (-2)).toInt32))]) rfl ?_
      refine En_top (by decide : ((Int8.ofInt (-2)).toInt32).toInt = -2) (fun z32 h33 => ?_)
      exact En_ret (v := some (.int z32)) rfl rfl rfl ⟨hσ0, hF0, z32, rfl, ⟨by omega, by omega, (by have e := exR_n (w := wf σ0) (d := a.toInt) (q := b.toInt) (by omega); omega)⟩⟩
    · refine En_Ps 1 (pc' := 19) (lv' := [(0, .ref 159), (1, .int a), (2, .int b)]) (st' := [.ref 159]) rfl ?_
      refine En_getU (j := 1) (u := 160) (g' := 36) (q := 0) rfl rfl rfl (by decide +kernel : TG 159 = 35) (by decide +kernel) hσ0 (by decide +kernel) (by decide +kernel) (fun h34 => ?_)
      refine En_Ps 4 (pc' := 27) (lv' := [(0, .ref 159), (1, .int a), (2, .int b)]) (st' := [.int ((((Int32.ofInt 2)) * a)), .int (((Int8.ofInt 122).toInt32)), .ref 160]) rfl ?_
      refine En_top (mulI (by decide : (Int32.ofInt 2).toInt = 2) rfl (Z := 2 * a.toInt) (by omega) (by omega) (by omega)) (fun z36 h37 => ?_)
      refine En_Ps 1 (pc' := 28) (lv' := [(0, .ref 159), (1, .int a), (2, .int b)]) (st' := [.int (((((Int8.ofInt 122).toInt32)) + z36)), .ref 160]) rfl ?_
      refine En_top (addI (by decide : ((Int8.ofInt 122).toInt32).toInt = 122) rfl (by omega) (by omega)) (fun z38 h39 => ?_)
      refine En_Ps 2 (pc' := 30) (lv' := [(0, .ref 159), (1, .int a), (2, .int b)]) (st' := [.int ((z38 + b)), .ref 160]) rfl ?_
      refine En_top (addI rfl rfl (by omega) (by omega)) (fun z40 h41 => ?_)
      rcases (show z40.toInt = 122 ∨ z40.toInt = 123 ∨ z40.toInt = 124 ∨ z40.toInt = 125 ∨ z40.toInt = 126 ∨ z40.toInt = 127 ∨ z40.toInt = 128 ∨ z40.toInt = 129 ∨ z40.toInt = 130 ∨ z40.toInt = 131 ∨ z40.toInt = 132 ∨ z40.toInt = 133 ∨ z40.toInt = 134 ∨ z40.toInt = 135 ∨ z40.toInt = 136 ∨ z40.toInt = 137 ∨ z40.toInt = 138 ∨ z40.toInt = 139 ∨ z40.toInt = 140 ∨ z40.toInt = 141 ∨ z40.toInt = 142 ∨ z40.toInt = 143 ∨ z40.toInt = 144 ∨ z40.toInt = 145 by omega) with h42 | h42 | h42 | h42 | h42 | h42 | h42 | h42 | h42 | h42 | h42 | h42 | h42 | h42 | h42 | h42 | h42 | h42 | h42 | h42 | h42 | h42 | h42 | h42
      · refine En_iald (l := 0) (u := 15) rfl h42 (by decide +kernel : TG 160 = 36) (by decide +kernel) hσ0 (by omega) (lnI (by decide +kernel : LN _ = 226) (by omega)) (by decide +kernel) (fun z44 h43 h45 h46 => ?_)
        refine En_Ps 1 (pc' := 36) (lv' := [(0, .ref 159), (1, .int a), (2, .int b)]) (st' := [.int z44]) rfl ?_
        have w47 : wf σ0 (122) = z44.toInt := ci_at h43 (by omega)
        exact En_ret (v := some (.int z44)) rfl rfl rfl ⟨hσ0, hF0, z44, rfl, ⟨by omega, by omega, (by have e := exR_y (w := wf σ0) (d := a.toInt) (q := b.toInt) (by omega) (by omega) w47; omega)⟩⟩
      · refine En_iald (l := 0) (u := 1) rfl h42 (by decide +kernel : TG 160 = 36) (by decide +kernel) hσ0 (by omega) (lnI (by decide +kernel : LN _ = 226) (by omega)) (by decide +kernel) (fun z49 h48 h50 h51 => ?_)
        refine En_Ps 1 (pc' := 36) (lv' := [(0, .ref 159), (1, .int a), (2, .int b)]) (st' := [.int z49]) rfl ?_
        have w52 : wf σ0 (123) = z49.toInt := ci_at h48 (by omega)
        exact En_ret (v := some (.int z49)) rfl rfl rfl ⟨hσ0, hF0, z49, rfl, ⟨by omega, by omega, (by have e := exR_y (w := wf σ0) (d := a.toInt) (q := b.toInt) (by omega) (by omega) w52; omega)⟩⟩
      · refine En_iald (l := 0) (u := 15) rfl h42 (by decide +kernel : TG 160 = 36) (by decide +kernel) hσ0 (by omega) (lnI (by decide +kernel : LN _ = 226) (by omega)) (by decide +kernel) (fun z54 h53 h55 h56 => ?_)
        refine En_Ps 1 (pc' := 36) (lv' := [(0, .ref 159), (1, .int a), (2, .int b)]) (st' := [.int z54]) rfl ?_
        have w57 : wf σ0 (124) = z54.toInt := ci_at h53 (by omega)
        exact En_ret (v := some (.int z54)) rfl rfl rfl ⟨hσ0, hF0, z54, rfl, ⟨by omega, by omega, (by have e := exR_y (w := wf σ0) (d := a.toInt) (q := b.toInt) (by omega) (by omega) w57; omega)⟩⟩
      · refine En_iald (l := 0) (u := 1) rfl h42 (by decide +kernel : TG 160 = 36) (by decide +kernel) hσ0 (by omega) (lnI (by decide +kernel : LN _ = 226) (by omega)) (by decide +kernel) (fun z59 h58 h60 h61 => ?_)
        refine En_Ps 1 (pc' := 36) (lv' := [(0, .ref 159), (1, .int a), (2, .int b)]) (st' := [.int z59]) rfl ?_
        have w62 : wf σ0 (125) = z59.toInt := ci_at h58 (by omega)
        exact En_ret (v := some (.int z59)) rfl rfl rfl ⟨hσ0, hF0, z59, rfl, ⟨by omega, by omega, (by have e := exR_y (w := wf σ0) (d := a.toInt) (q := b.toInt) (by omega) (by omega) w62; omega)⟩⟩
      · refine En_iald (l := 0) (u := 15) rfl h42 (by decide +kernel : TG 160 = 36) (by decide +kernel) hσ0 (by omega) (lnI (by decide +kernel : LN _ = 226) (by omega)) (by decide +kernel) (fun z64 h63 h65 h66 => ?_)
        refine En_Ps 1 (pc' := 36) (lv' := [(0, .ref 159), (1, .int a), (2, .int b)]) (st' := [.int z64]) rfl ?_
        have w67 : wf σ0 (126) = z64.toInt := ci_at h63 (by omega)
        exact En_ret (v := some (.int z64)) rfl rfl rfl ⟨hσ0, hF0, z64, rfl, ⟨by omega, by omega, (by have e := exR_y (w := wf σ0) (d := a.toInt) (q := b.toInt) (by omega) (by omega) w67; omega)⟩⟩
      · refine En_iald (l := 0) (u := 1) rfl h42 (by decide +kernel : TG 160 = 36) (by decide +kernel) hσ0 (by omega) (lnI (by decide +kernel : LN _ = 226) (by omega)) (by decide +kernel) (fun z69 h68 h70 h71 => ?_)
        refine En_Ps 1 (pc' := 36) (lv' := [(0, .ref 159), (1, .int a), (2, .int b)]) (st' := [.int z69]) rfl ?_
        have w72 : wf σ0 (127) = z69.toInt := ci_at h68 (by omega)
        exact En_ret (v := some (.int z69)) rfl rfl rfl ⟨hσ0, hF0, z69, rfl, ⟨by omega, by omega, (by have e := exR_y (w := wf σ0) (d := a.toInt) (q := b.toInt) (by omega) (by omega) w72; omega)⟩⟩
      · refine En_iald (l := 0) (u := 15) rfl h42 (by decide +kernel : TG 160 = 36) (by decide +kernel) hσ0 (by omega) (lnI (by decide +kernel : LN _ = 226) (by omega)) (by decide +kernel) (fun z74 h73 h75 h76 => ?_)
        refine En_Ps 1 (pc' := 36) (lv' := [(0, .ref 159), (1, .int a), (2, .int b)]) (st' := [.int z74]) rfl ?_
        have w77 : wf σ0 (128) = z74.toInt := ci_at h73 (by omega)
        exact En_ret (v := some (.int z74)) rfl rfl rfl ⟨hσ0, hF0, z74, rfl, ⟨by omega, by omega, (by have e := exR_y (w := wf σ0) (d := a.toInt) (q := b.toInt) (by omega) (by omega) w77; omega)⟩⟩
      · refine En_iald (l := 0) (u := 1) rfl h42 (by decide +kernel : TG 160 = 36) (by decide +kernel) hσ0 (by omega) (lnI (by decide +kernel : LN _ = 226) (by omega)) (by decide +kernel) (fun z79 h78 h80 h81 => ?_)
        refine En_Ps 1 (pc' := 36) (lv' := [(0, .ref 159), (1, .int a), (2, .int b)]) (st' := [.int z79]) rfl ?_
        have w82 : wf σ0 (129) = z79.toInt := ci_at h78 (by omega)
        exact En_ret (v := some (.int z79)) rfl rfl rfl ⟨hσ0, hF0, z79, rfl, ⟨by omega, by omega, (by have e := exR_y (w := wf σ0) (d := a.toInt) (q := b.toInt) (by omega) (by omega) w82; omega)⟩⟩
      · refine En_iald (l := 0) (u := 15) rfl h42 (by decide +kernel : TG 160 = 36) (by decide +kernel) hσ0 (by omega) (lnI (by decide +kernel : LN _ = 226) (by omega)) (by decide +kernel) (fun z84 h83 h85 h86 => ?_)
        refine En_Ps 1 (pc' := 36) (lv' := [(0, .ref 159), (1, .int a), (2, .int b)]) (st' := [.int z84]) rfl ?_
        have w87 : wf σ0 (130) = z84.toInt := ci_at h83 (by omega)
        exact En_ret (v := some (.int z84)) rfl rfl rfl ⟨hσ0, hF0, z84, rfl, ⟨by omega, by omega, (by have e := exR_y (w := wf σ0) (d := a.toInt) (q := b.toInt) (by omega) (by omega) w87; omega)⟩⟩
      · refine En_iald (l := 0) (u := 1) rfl h42 (by decide +kernel : TG 160 = 36) (by decide +kernel) hσ0 (by omega) (lnI (by decide +kernel : LN _ = 226) (by omega)) (by decide +kernel) (fun z89 h88 h90 h91 => ?_)
        refine En_Ps 1 (pc' := 36) (lv' := [(0, .ref 159), (1, .int a), (2, .int b)]) (st' := [.int z89]) rfl ?_
        have w92 : wf σ0 (131) = z89.toInt := ci_at h88 (by omega)
        exact En_ret (v := some (.int z89)) rfl rfl rfl ⟨hσ0, hF0, z89, rfl, ⟨by omega, by omega, (by have e := exR_y (w := wf σ0) (d := a.toInt) (q := b.toInt) (by omega) (by omega) w92; omega)⟩⟩
      · refine En_iald (l := 0) (u := 15) rfl h42 (by decide +kernel : TG 160 = 36) (by decide +kernel) hσ0 (by omega) (lnI (by decide +kernel : LN _ = 226) (by omega)) (by decide +kernel) (fun z94 h93 h95 h96 => ?_)
        refine En_Ps 1 (pc' := 36) (lv' := [(0, .ref 159), (1, .int a), (2, .int b)]) (st' := [.int z94]) rfl ?_
        have w97 : wf σ0 (132) = z94.toInt := ci_at h93 (by omega)
        exact En_ret (v := some (.int z94)) rfl rfl rfl ⟨hσ0, hF0, z94, rfl, ⟨by omega, by omega, (by have e := exR_y (w := wf σ0) (d := a.toInt) (q := b.toInt) (by omega) (by omega) w97; omega)⟩⟩
      · refine En_iald (l := 0) (u := 1) rfl h42 (by decide +kernel : TG 160 = 36) (by decide +kernel) hσ0 (by omega) (lnI (by decide +kernel : LN _ = 226) (by omega)) (by decide +kernel) (fun z99 h98 h100 h101 => ?_)
        refine En_Ps 1 (pc' := 36) (lv' := [(0, .ref 159), (1, .int a), (2, .int b)]) (st' := [.int z99]) rfl ?_
        have w102 : wf σ0 (133) = z99.toInt := ci_at h98 (by omega)
        exact En_ret (v := some (.int z99)) rfl rfl rfl ⟨hσ0, hF0, z99, rfl, ⟨by omega, by omega, (by have e := exR_y (w := wf σ0) (d := a.toInt) (q := b.toInt) (by omega) (by omega) w102; omega)⟩⟩
      · refine En_iald (l := 0) (u := 15) rfl h42 (by decide +kernel : TG 160 = 36) (by decide +kernel) hσ0 (by omega) (lnI (by decide +kernel : LN _ = 226) (by omega)) (by decide +kernel) (fun z104 h103 h105 h106 => ?_)
        refine En_Ps 1 (pc' := 36) (lv' := [(0, .ref 159), (1, .int a), (2, .int b)]) (st' := [.int z104]) rfl ?_
        have w107 : wf σ0 (134) = z104.toInt := ci_at h103 (by omega)
        exact En_ret (v := some (.int z104)) rfl rfl rfl ⟨hσ0, hF0, z104, rfl, ⟨by omega, by omega, (by have e := exR_y (w := wf σ0) (d := a.toInt) (q := b.toInt) (by omega) (by omega) w107; omega)⟩⟩
      · refine En_iald (l := 0) (u := 1) rfl h42 (by decide +kernel : TG 160 = 36) (by decide +kernel) hσ0 (by omega) (lnI (by decide +kernel : LN _ = 226) (by omega)) (by decide +kernel) (fun z109 h108 h110 h111 => ?_)
        refine En_Ps 1 (pc' := 36) (lv' := [(0, .ref 159), (1, .int a), (2, .int b)]) (st' := [.int z109]) rfl ?_
        have w112 : wf σ0 (135) = z109.toInt := ci_at h108 (by omega)
        exact En_ret (v := some (.int z109)) rfl rfl rfl ⟨hσ0, hF0, z109, rfl, ⟨by omega, by omega, (by have e := exR_y (w := wf σ0) (d := a.toInt) (q := b.toInt) (by omega) (by omega) w112; omega)⟩⟩
      · refine En_iald (l := 0) (u := 15) rfl h42 (by decide +kernel : TG 160 = 36) (by decide +kernel) hσ0 (by omega) (lnI (by decide +kernel : LN _ = 226) (by omega)) (by decide +kernel) (fun z114 h113 h115 h116 => ?_)
        refine En_Ps 1 (pc' := 36) (lv' := [(0, .ref 159), (1, .int a), (2, .int b)]) (st' := [.int z114]) rfl ?_
        have w117 : wf σ0 (136) = z114.toInt := ci_at h113 (by omega)
        exact En_ret (v := some (.int z114)) rfl rfl rfl ⟨hσ0, hF0, z114, rfl, ⟨by omega, by omega, (by have e := exR_y (w := wf σ0) (d := a.toInt) (q := b.toInt) (by omega) (by omega) w117; omega)⟩⟩
      · refine En_iald (l := 0) (u := 1) rfl h42 (by decide +kernel : TG 160 = 36) (by decide +kernel) hσ0 (by omega) (lnI (by decide +kernel : LN _ = 226) (by omega)) (by decide +kernel) (fun z119 h118 h120 h121 => ?_)
        refine En_Ps 1 (pc' := 36) (lv' := [(0, .ref 159), (1, .int a), (2, .int b)]) (st' := [.int z119]) rfl ?_
        have w122 : wf σ0 (137) = z119.toInt := ci_at h118 (by omega)
        exact En_ret (v := some (.int z119)) rfl rfl rfl ⟨hσ0, hF0, z119, rfl, ⟨by omega, by omega, (by have e := exR_y (w := wf σ0) (d := a.toInt) (q := b.toInt) (by omega) (by omega) w122; omega)⟩⟩
      · refine En_iald (l := 0) (u := 15) rfl h42 (by decide +kernel : TG 160 = 36) (by decide +kernel) hσ0 (by omega) (lnI (by decide +kernel : LN _ = 226) (by omega)) (by decide +kernel) (fun z124 h123 h125 h126 => ?_)
        refine En_Ps 1 (pc' := 36) (lv' := [(0, .ref 159), (1, .int a), (2, .int b)]) (st' := [.int z124]) rfl ?_
        have w127 : wf σ0 (138) = z124.toInt := ci_at h123 (by omega)
        exact En_ret (v := some (.int z124)) rfl rfl rfl ⟨hσ0, hF0, z124, rfl, ⟨by omega, by omega, (by have e := exR_y (w := wf σ0) (d := a.toInt) (q := b.toInt) (by omega) (by omega) w127; omega)⟩⟩
      · refine En_iald (l := 0) (u := 1) rfl h42 (by decide +kernel : TG 160 = 36) (by decide +kernel) hσ0 (by omega) (lnI (by decide +kernel : LN _ = 226) (by omega)) (by decide +kernel) (fun z129 h128 h130 h131 => ?_)
        refine En_Ps 1 (pc' := 36) (lv' := [(0, .ref 159), (1, .int a), (2, .int b)]) (st' := [.int z129]) rfl ?_
        have w132 : wf σ0 (139) = z129.toInt := ci_at h128 (by omega)
        exact En_ret (v := some (.int z129)) rfl rfl rfl ⟨hσ0, hF0, z129, rfl, ⟨by omega, by omega, (by have e := exR_y (w := wf σ0) (d := a.toInt) (q := b.toInt) (by omega) (by omega) w132; omega)⟩⟩
      · refine En_iald (l := 0) (u := 15) rfl h42 (by decide +kernel : TG 160 = 36) (by decide +kernel) hσ0 (by omega) (lnI (by decide +kernel : LN _ = 226) (by omega)) (by decide +kernel) (fun z134 h133 h135 h136 => ?_)
        refine En_Ps 1 (pc' := 36) (lv' := [(0, .ref 159), (1, .int a), (2, .int b)]) (st' := [.int z134]) rfl ?_
        have w137 : wf σ0 (140) = z134.toInt := ci_at h133 (by omega)
        exact En_ret (v := some (.int z134)) rfl rfl rfl ⟨hσ0, hF0, z134, rfl, ⟨by omega, by omega, (by have e := exR_y (w := wf σ0) (d := a.toInt) (q := b.toInt) (by omega) (by omega) w137; omega)⟩⟩
      · refine En_iald (l := 0) (u := 1) rfl h42 (by decide +kernel : TG 160 = 36) (by decide +kernel) hσ0 (by omega) (lnI (by decide +kernel : LN _ = 226) (by omega)) (by decide +kernel) (fun z139 h138 h140 h141 => ?_)
        refine En_Ps 1 (pc' := 36) (lv' := [(0, .ref 159), (1, .int a), (2, .int b)]) (st' := [.int z139]) rfl ?_
        have w142 : wf σ0 (141) = z139.toInt := ci_at h138 (by omega)
        exact En_ret (v := some (.int z139)) rfl rfl rfl ⟨hσ0, hF0, z139, rfl, ⟨by omega, by omega, (by have e := exR_y (w := wf σ0) (d := a.toInt) (q := b.toInt) (by omega) (by omega) w142; omega)⟩⟩
      · refine En_iald (l := 0) (u := 15) rfl h42 (by decide +kernel : TG 160 = 36) (by decide +kernel) hσ0 (by omega) (lnI (by decide +kernel : LN _ = 226) (by omega)) (by decide +kernel) (fun z144 h143 h145 h146 => ?_)
        refine En_Ps 1 (pc' := 36) (lv' := [(0, .ref 159), (1, .int a), (2, .int b)]) (st' := [.int z144]) rfl ?_
        have w147 : wf σ0 (142) = z144.toInt := ci_at h143 (by omega)
        exact En_ret (v := some (.int z144)) rfl rfl rfl ⟨hσ0, hF0, z144, rfl, ⟨by omega, by omega, (by have e := exR_y (w := wf σ0) (d := a.toInt) (q := b.toInt) (by omega) (by omega) w147; omega)⟩⟩
      · refine En_iald (l := 0) (u := 1) rfl h42 (by decide +kernel : TG 160 = 36) (by decide +kernel) hσ0 (by omega) (lnI (by decide +kernel : LN _ = 226) (by omega)) (by decide +kernel) (fun z149 h148 h150 h151 => ?_)
        refine En_Ps 1 (pc' := 36) (lv' := [(0, .ref 159), (1, .int a), (2, .int b)]) (st' := [.int z149]) rfl ?_
        have w152 : wf σ0 (143) = z149.toInt := ci_at h148 (by omega)
        exact En_ret (v := some (.int z149)) rfl rfl rfl ⟨hσ0, hF0, z149, rfl, ⟨by omega, by omega, (by have e := exR_y (w := wf σ0) (d := a.toInt) (q := b.toInt) (by omega) (by omega) w152; omega)⟩⟩
      · refine En_iald (l := 0) (u := 15) rfl h42 (by decide +kernel : TG 160 = 36) (by decide +kernel) hσ0 (by omega) (lnI (by decide +kernel : LN _ = 226) (by omega)) (by decide +kernel) (fun z154 h153 h155 h156 => ?_)
        refine En_Ps 1 (pc' := 36) (lv' := [(0, .ref 159), (1, .int a), (2, .int b)]) (st' := [.int z154]) rfl ?_
        have w157 : wf σ0 (144) = z154.toInt := ci_at h153 (by omega)
        exact En_ret (v := some (.int z154)) rfl rfl rfl ⟨hσ0, hF0, z154, rfl, ⟨by omega, by omega, (by have e := exR_y (w := wf σ0) (d := a.toInt) (q := b.toInt) (by omega) (by omega) w157; omega)⟩⟩
      · refine En_iald (l := 0) (u := 1) rfl h42 (by decide +kernel : TG 160 = 36) (by decide +kernel) hσ0 (by omega) (lnI (by decide +kernel : LN _ = 226) (by omega)) (by decide +kernel) (fun z159 h158 h160 h161 => ?_)
        refine En_Ps 1 (pc' := 36) (lv' := [(0, .ref 159), (1, .int a), (2, .int b)]) (st' := [.int z159]) rfl ?_
        have w162 : wf σ0 (145) = z159.toInt := ci_at h158 (by omega)
        exact En_ret (v := some (.int z159)) rfl rfl rfl ⟨hσ0, hF0, z159, rfl, ⟨by omega, by omega, (by have e := exR_y (w := wf σ0) (d := a.toInt) (q := b.toInt) (by omega) (by omega) w162; omega)⟩⟩
/-- DoorSchoolModel.fault(I)I -/
abbrev P_225x (σ0 : SG) (a : Int32) (fk : Int32) (fp : Int32) : PO := fun v σ => WT σ ∧ Fr [] σ0 σ ∧ ∃ ret : Int32, v = some (.int ret) ∧ -ret.toInt - 1 ≤ 0 ∧ ret.toInt - 1600 ≤ 0 ∧ Imp (a.toInt ≤ 0 ∧ -a.toInt ≤ 0) (ret.toInt - fk.toInt ≤ 0 ∧ -ret.toInt + fk.toInt ≤ 0) ∧ Imp (a.toInt - 1 ≤ 0 ∧ -a.toInt + 1 ≤ 0) (ret.toInt - fp.toInt ≤ 0 ∧ -ret.toInt + fp.toInt ≤ 0) ∧ Imp (a.toInt + 1 ≤ 0) (ret.toInt + 1 ≤ 0 ∧ -ret.toInt - 1 ≤ 0) ∧ Imp (-a.toInt + 2 ≤ 0) (ret.toInt + 1 ≤ 0 ∧ -ret.toInt - 1 ≤ 0)
set_option maxRecDepth 10000 in
set_option maxHeartbeats 4000000 in
theorem c_225x (σ0 : SG) (hσ0 : WT σ0) (a : Int32) (fk : Int32) (h_fk : (σ0 159)[12]? = some (.int fk)) (fp : Int32) (h_fp : (σ0 159)[13]? = some (.int fp)) : En 0 0 none mr_225 (P_225x σ0 a fk fp) 0 [(0, .ref 159), (1, .int a)] [] σ0 := by
  obtain ⟨hl_fk, hu_fk⟩ := WT_int hσ0 (g := 35) (by decide +kernel) (by decide +kernel) (l := 0) (u := 3) (by decide +kernel) h_fk
  obtain ⟨hl_fp, hu_fp⟩ := WT_int hσ0 (g := 35) (by decide +kernel) (by decide +kernel) (l := (-1)) (u := 1600) (by decide +kernel) h_fp
  have hF0 : Fr [] σ0 σ0 := Fr_rfl
  refine En_Ps 1 (pc' := 1) (lv' := [(0, .ref 159), (1, .int a)]) (st' := [.int a]) rfl ?_
  refine En_iNe _ rfl rfl (fun h1 => ?_) (fun h1 => ?_)
  · refine En_Ps 2 (pc' := 13) (lv' := [(0, .ref 159), (1, .int a)]) (st' := [.int ((Int32.ofInt 1)), .int a]) rfl ?_
    refine En_icNe _ rfl (by decide : (Int32.ofInt 1).toInt = 1) rfl (fun h2 => ?_) (fun h2 => ?_)
    · refine En_Ps 1 (pc' := 24) (lv' := [(0, .ref 159), (1, .int a)]) (st' := [.int ((Int32.ofInt (-1)))]) rfl ?_
      refine En_top (by decide : (Int32.ofInt (-1)).toInt = -1) (fun z3 h4 => ?_)
      exact En_ret (v := some (.int z3)) rfl rfl rfl ⟨hσ0, hF0, z3, rfl, ⟨by omega, by omega, fun _ => by omega, fun _ => by omega, fun _ => by omega, fun _ => by omega⟩⟩
    · refine En_Ps 1 (pc' := 17) (lv' := [(0, .ref 159), (1, .int a)]) (st' := [.ref 159]) rfl ?_
      refine En_getK (j := 13) h_fp rfl rfl rfl (by decide +kernel : TG 159 = 35) (by decide +kernel) ?_
      refine En_Ps 1 (pc' := 24) (lv' := [(0, .ref 159), (1, .int a)]) (st' := [.int fp]) rfl ?_
      exact En_ret (v := some (.int fp)) rfl rfl rfl ⟨hσ0, hF0, fp, rfl, ⟨by omega, by omega, fun _ => by omega, fun _ => by omega, fun _ => by omega, fun _ => by omega⟩⟩
  · refine En_Ps 1 (pc' := 5) (lv' := [(0, .ref 159), (1, .int a)]) (st' := [.ref 159]) rfl ?_
    refine En_getK (j := 12) h_fk rfl rfl rfl (by decide +kernel : TG 159 = 35) (by decide +kernel) ?_
    refine En_Ps 1 (pc' := 24) (lv' := [(0, .ref 159), (1, .int a)]) (st' := [.int fk]) rfl ?_
    exact En_ret (v := some (.int fk)) rfl rfl rfl ⟨hσ0, hF0, fk, rfl, ⟨by omega, by omega, fun _ => by omega, fun _ => by omega, fun _ => by omega, fun _ => by omega⟩⟩
/-- DoorSchoolModel.feed(IIIII)I -/
abbrev P_226x (σ0 : SG) (a : Int32) (b : Int32) (c : Int32) (d : Int32) (e : Int32) (m : Int32) : PO := fun v σ => WT σ ∧ Fr [(35, 5), (39, 0), (40, 0)] σ0 σ ∧ ∃ m1 : Int32, (σ 159)[5]? = some (.int m1) ∧ ∃ ret : Int32, v = some (.int ret) ∧ -ret.toInt - 1 ≤ 0 ∧ ret.toInt - 1600 ≤ 0 ∧ -m1.toInt + 20 ≤ 0 ∧ m1.toInt - 1600 ≤ 0 ∧ -m1.toInt + m.toInt ≤ 0 ∧ m1.toInt - m.toInt - 20 ≤ 0 ∧ Imp (m.toInt - 1580 ≤ 0) (m1.toInt - m.toInt - 20 ≤ 0 ∧ -m1.toInt + m.toInt + 20 ≤ 0 ∧ ret.toInt - m1.toInt ≤ 0 ∧ -ret.toInt + m1.toInt ≤ 0) ∧ Imp (-m.toInt + 1581 ≤ 0) (m1.toInt - m.toInt ≤ 0 ∧ -m1.toInt + m.toInt ≤ 0 ∧ ret.toInt + 1 ≤ 0 ∧ -ret.toInt - 1 ≤ 0) ∧ ((m.toInt ≤ 1580 → FDP σ0 σ 163 m.toInt 20 a b c d e) ∧ (1580 < m.toInt → ∀ i : Int, ci σ 163 i = ci σ0 163 i))
set_option maxRecDepth 10000 in
set_option maxHeartbeats 4000000 in
theorem c_226x (σ0 : SG) (hσ0 : WT σ0) (a : Int32) (b : Int32) (c : Int32) (d : Int32) (e : Int32) (m : Int32) (h_m : (σ0 159)[5]? = some (.int m)) : En 0 0 none mr_226 (P_226x σ0 a b c d e m) 0 [(0, .ref 159), (1, .int a), (2, .int b), (3, .int c), (4, .int d), (5, .int e)] [] σ0 := by
  obtain ⟨hl_m, hu_m⟩ := WT_int hσ0 (g := 35) (by decide +kernel) (by decide +kernel) (l := 0) (u := 1600) (by decide +kernel) h_m
  have hF0 : Fr [(35, 5), (39, 0), (40, 0)] σ0 σ0 := Fr_rfl
  refine En_Ps 1 (pc' := 1) (lv' := [(0, .ref 159), (1, .int a), (2, .int b), (3, .int c), (4, .int d), (5, .int e)]) (st' := [.ref 159]) rfl ?_
  refine En_getK (j := 5) h_m rfl rfl rfl (by decide +kernel : TG 159 = 35) (by decide +kernel) ?_
  refine En_Ps 2 (pc' := 7) (lv' := [(0, .ref 159), (1, .int a), (2, .int b), (3, .int c), (4, .int d), (5, .int e)]) (st' := [.int ((m + (((Int8.ofInt 20).toInt32))))]) rfl ?_
  refine En_top (addI rfl (by decide : ((Int8.ofInt 20).toInt32).toInt = 20) (by omega) (by omega)) (fun z1 h2 => ?_)
  refine En_Ps 1 (pc' := 10) (lv' := [(0, .ref 159), (1, .int a), (2, .int b), (3, .int c), (4, .int d), (5, .int e)]) (st' := [.int (((Int16.ofInt 1600).toInt32)), .int z1]) rfl ?_
  refine En_icLe _ rfl (by decide : ((Int16.ofInt 1600).toInt32).toInt = 1600) rfl (fun h3 => ?_) (fun h3 => ?_)
  · refine En_Ps 1 (pc' := 16) (lv' := [(0, .ref 159), (1, .int a), (2, .int b), (3, .int c), (4, .int d), (5, .int e)]) (st' := [.ref 159]) rfl ?_
    refine En_getU (j := 6) (u := 164) (g' := 40) (q := 0) rfl rfl rfl (by decide +kernel : TG 159 = 35) (by decide +kernel) hσ0 (by decide +kernel) (by decide +kernel) (fun h4 => ?_)
    refine En_Ps 2 (pc' := 21) (lv' := [(0, .ref 159), (1, .int a), (2, .int b), (3, .int c), (4, .int d), (5, .int e)]) (st' := [.int a, .int ((Int32.ofInt 0)), .ref 164]) rfl ?_
    refine En_iast (l := (-2147483648)) (u := 2147483647) rfl (by decide : (Int32.ofInt 0).toInt = 0) (by decide +kernel : TG 164 = 40) (by decide +kernel) (by omega) (lnI (by decide +kernel : LN _ = 5) (by omega)) (FTsgl (by decide +kernel)) (fullI _) hσ0 hF0 (by decide +kernel) (fun σ6 h7 h8 h9 h10 => ?_)
    have h11 : ∀ i : Int, ci σ6 163 i = ci σ0 163 i := fun i => (ci_ne h10 (by decide) i)
    refine En_Ps 1 (pc' := 23) (lv' := [(0, .ref 159), (1, .int a), (2, .int b), (3, .int c), (4, .int d), (5, .int e)]) (st' := [.ref 159]) rfl ?_
    refine En_getK (j := 6) ((h10 _ _ (Or.inl (neTG (by decide +kernel : TG 159 = 35) (by decide +kernel : TG 164 = 40) (by decide)))).trans h4) rfl rfl rfl (by decide +kernel : TG 159 = 35) (by decide +kernel) ?_
    refine En_Ps 2 (pc' := 28) (lv' := [(0, .ref 159), (1, .int a), (2, .int b), (3, .int c), (4, .int d), (5, .int e)]) (st' := [.int b, .int ((Int32.ofInt 1)), .ref 164]) rfl ?_
    refine En_iast (l := (-2147483648)) (u := 2147483647) rfl (by decide : (Int32.ofInt 1).toInt = 1) (by decide +kernel : TG 164 = 40) (by decide +kernel) (by omega) (lnI (by decide +kernel : LN _ = 5) (by omega)) (FTsgl (by decide +kernel)) (fullI _) h7 h8 (by decide +kernel) (fun σ12 h13 h14 h15 h16 => ?_)
    have h17 : ∀ i : Int, ci σ12 163 i = ci σ0 163 i := fun i => (ci_ne h16 (by decide) i).trans (h11 i)
    refine En_Ps 1 (pc' := 30) (lv' := [(0, .ref 159), (1, .int a), (2, .int b), (3, .int c), (4, .int d), (5, .int e)]) (st' := [.ref 159]) rfl ?_
    refine En_getK (j := 6) ((h16 _ _ (Or.inl (neTG (by decide +kernel : TG 159 = 35) (by decide +kernel : TG 164 = 40) (by decide)))).trans ((h10 _ _ (Or.inl (neTG (by decide +kernel : TG 159 = 35) (by decide +kernel : TG 164 = 40) (by decide)))).trans h4)) rfl rfl rfl (by decide +kernel : TG 159 = 35) (by decide +kernel) ?_
    refine En_Ps 2 (pc' := 35) (lv' := [(0, .ref 159), (1, .int a), (2, .int b), (3, .int c), (4, .int d), (5, .int e)]) (st' := [.int c, .int ((Int32.ofInt 2)), .ref 164]) rfl ?_
    refine En_iast (l := (-2147483648)) (u := 2147483647) rfl (by decide : (Int32.ofInt 2).toInt = 2) (by decide +kernel : TG 164 = 40) (by decide +kernel) (by omega) (lnI (by decide +kernel : LN _ = 5) (by omega)) (FTsgl (by decide +kernel)) (fullI _) h13 h14 (by decide +kernel) (fun σ18 h19 h20 h21 h22 => ?_)
    have h23 : ∀ i : Int, ci σ18 163 i = ci σ0 163 i := fun i => (ci_ne h22 (by decide) i).trans (h17 i)
    refine En_Ps 1 (pc' := 37) (lv' := [(0, .ref 159), (1, .int a), (2, .int b), (3, .int c), (4, .int d), (5, .int e)]) (st' := [.ref 159]) rfl ?_
    refine En_getK (j := 6) ((h22 _ _ (Or.inl (neTG (by decide +kernel : TG 159 = 35) (by decide +kernel : TG 164 = 40) (by decide)))).trans ((h16 _ _ (Or.inl (neTG (by decide +kernel : TG 159 = 35) (by decide +kernel : TG 164 = 40) (by decide)))).trans ((h10 _ _ (Or.inl (neTG (by decide +kernel : TG 159 = 35) (by decide +kernel : TG 164 = 40) (by decide)))).trans h4))) rfl rfl rfl (by decide +kernel : TG 159 = 35) (by decide +kernel) ?_
    refine En_Ps 2 (pc' := 43) (lv' := [(0, .ref 159), (1, .int a), (2, .int b), (3, .int c), (4, .int d), (5, .int e)]) (st' := [.int d, .int ((Int32.ofInt 3)), .ref 164]) rfl ?_
    refine En_iast (l := (-2147483648)) (u := 2147483647) rfl (by decide : (Int32.ofInt 3).toInt = 3) (by decide +kernel : TG 164 = 40) (by decide +kernel) (by omega) (lnI (by decide +kernel : LN _ = 5) (by omega)) (FTsgl (by decide +kernel)) (fullI _) h19 h20 (by decide +kernel) (fun σ24 h25 h26 h27 h28 => ?_)
    have h29 : ∀ i : Int, ci σ24 163 i = ci σ0 163 i := fun i => (ci_ne h28 (by decide) i).trans (h23 i)
    refine En_Ps 1 (pc' := 45) (lv' := [(0, .ref 159), (1, .int a), (2, .int b), (3, .int c), (4, .int d), (5, .int e)]) (st' := [.ref 159]) rfl ?_
    refine En_getK (j := 6) ((h28 _ _ (Or.inl (neTG (by decide +kernel : TG 159 = 35) (by decide +kernel : TG 164 = 40) (by decide)))).trans ((h22 _ _ (Or.inl (neTG (by decide +kernel : TG 159 = 35) (by decide +kernel : TG 164 = 40) (by decide)))).trans ((h16 _ _ (Or.inl (neTG (by decide +kernel : TG 159 = 35) (by decide +kernel : TG 164 = 40) (by decide)))).trans ((h10 _ _ (Or.inl (neTG (by decide +kernel : TG 159 = 35) (by decide +kernel : TG 164 = 40) (by decide)))).trans h4)))) rfl rfl rfl (by decide +kernel : TG 159 = 35) (by decide +kernel) ?_
    refine En_Ps 2 (pc' := 51) (lv' := [(0, .ref 159), (1, .int a), (2, .int b), (3, .int c), (4, .int d), (5, .int e)]) (st' := [.int e, .int ((Int32.ofInt 4)), .ref 164]) rfl ?_
    refine En_iast (l := (-2147483648)) (u := 2147483647) rfl (by decide : (Int32.ofInt 4).toInt = 4) (by decide +kernel : TG 164 = 40) (by decide +kernel) (by omega) (lnI (by decide +kernel : LN _ = 5) (by omega)) (FTsgl (by decide +kernel)) (fullI _) h25 h26 (by decide +kernel) (fun σ30 h31 h32 h33 h34 => ?_)
    have h35 : ∀ i : Int, ci σ30 163 i = ci σ0 163 i := fun i => (ci_ne h34 (by decide) i).trans (h29 i)
    refine En_Ps 2 (pc' := 55) (lv' := [(6, .int ((Int32.ofInt 0))), (0, .ref 159), (1, .int a), (2, .int b), (3, .int c), (4, .int d), (5, .int e)]) (st' := []) rfl ?_
    have key55 : ∀ (n55 : Nat) (σ37 : SG) (y36 : Int32), WT σ37 → Fr [(35, 5), (39, 0), (40, 0)] σ0 σ37 → (σ37 159)[5]? = some (.int m) → (σ37 159)[6]? = some (.ref 164) → (σ37 164)[(0 : Int).toNat]? = some (.int a) → (σ37 164)[(1 : Int).toNat]? = some (.int b) → (σ37 164)[(2 : Int).toNat]? = some (.int c) → (σ37 164)[(3 : Int).toNat]? = some (.int d) → (σ37 164)[(4 : Int).toNat]? = some (.int e) → 0 ≤ y36.toInt → y36.toInt ≤ 20 → -y36.toInt + 20 < (n55 : Int) → FDP σ0 σ37 163 m.toInt y36.toInt a b c d e → En 0 0 none mr_226 (P_226x σ0 a b c d e m) 55 [(0, .ref 159), (1, .int a), (2, .int b), (3, .int c), (4, .int d), (5, .int e), (6, .int y36)] [] σ37 := by
      intro n55
      induction n55 with
      | zero =>
        intro σ37 y36 h38 h39 h40 h41 h42 h43 h44 h45 h46 h47 h48 h49 h50
        exfalso; omega
      | succ n55 ih55 =>
        intro σ37 y36 h38 h39 h40 h41 h42 h43 h44 h45 h46 h47 h48 h49 h50
        refine En_Ps 2 (pc' := 59) (lv' := [(0, .ref 159), (1, .int a), (2, .int b), (3, .int c), (4, .int d), (5, .int e), (6, .int y36)]) (st' := [.int (((Int8.ofInt 20).toInt32)), .int y36]) rfl ?_
        refine En_icGe _ rfl (by decide : ((Int8.ofInt 20).toInt32).toInt = 20) rfl (fun h51 => ?_) (fun h51 => ?_)
        · refine En_Ps 2 (pc' := 103) (lv' := [(0, .ref 159), (1, .int a), (2, .int b), (3, .int c), (4, .int d), (5, .int e), (6, .int y36)]) (st' := [.ref 159, .ref 159]) rfl ?_
          refine En_getK (j := 5) h40 rfl rfl rfl (by decide +kernel : TG 159 = 35) (by decide +kernel) ?_
          refine En_Ps 2 (pc' := 109) (lv' := [(0, .ref 159), (1, .int a), (2, .int b), (3, .int c), (4, .int d), (5, .int e), (6, .int y36)]) (st' := [.int ((m + (((Int8.ofInt 20).toInt32)))), .ref 159]) rfl ?_
          refine En_top (addI rfl (by decide : ((Int8.ofInt 20).toInt32).toInt = 20) (by omega) (by omega)) (fun z52 h53 => ?_)
          refine En_put (j := 5) rfl rfl rfl (by decide +kernel : TG 159 = 35) (by decide +kernel) rfl (vI (l := 0) (u := 1600) (by decide +kernel) rfl (by omega) (by omega)) h38 h39 (by decide +kernel) (fun σ54 h55 h56 h57 h58 => ?_)
          have h59 := FDP_ne h50 h58 (by decide)
          refine En_Ps 1 (pc' := 113) (lv' := [(0, .ref 159), (1, .int a), (2, .int b), (3, .int c), (4, .int d), (5, .int e), (6, .int y36)]) (st' := [.ref 159]) rfl ?_
          refine En_getK (j := 5) h57 rfl rfl rfl (by decide +kernel : TG 159 = 35) (by decide +kernel) ?_
          exact En_ret (v := some (.int z52)) rfl rfl rfl ⟨h55, h56, z52, h57, z52, rfl, ⟨by omega, by omega, by omega, by omega, by omega, by omega, fun _ => by omega, fun _ => by omega, ⟨fun _ => FDP_c h59 (by omega), fun h => absurd h (by omega)⟩⟩⟩
        · refine En_Ps 1 (pc' := 63) (lv' := [(0, .ref 159), (1, .int a), (2, .int b), (3, .int c), (4, .int d), (5, .int e), (6, .int y36)]) (st' := [.ref 159]) rfl ?_
          refine En_getU (j := 4) (u := 163) (g' := 39) (q := 0) rfl rfl rfl (by decide +kernel : TG 159 = 35) (by decide +kernel) h38 (by decide +kernel) (by decide +kernel) (fun h60 => ?_)
          refine En_Ps 1 (pc' := 67) (lv' := [(0, .ref 159), (1, .int a), (2, .int b), (3, .int c), (4, .int d), (5, .int e), (6, .int y36)]) (st' := [.ref 159, .ref 163]) rfl ?_
          refine En_getK (j := 5) h40 rfl rfl rfl (by decide +kernel : TG 159 = 35) (by decide +kernel) ?_
          refine En_Ps 2 (pc' := 73) (lv' := [(0, .ref 159), (1, .int a), (2, .int b), (3, .int c), (4, .int d), (5, .int e), (6, .int y36)]) (st' := [.int ((m + y36)), .ref 163]) rfl ?_
          refine En_top (addI rfl rfl (by omega) (by omega)) (fun z62 h63 => ?_)
          refine En_Ps 1 (pc' := 74) (lv' := [(0, .ref 159), (1, .int a), (2, .int b), (3, .int c), (4, .int d), (5, .int e), (6, .int y36)]) (st' := [.ref 159, .int z62, .ref 163]) rfl ?_
          refine En_getK (j := 6) h41 rfl rfl rfl (by decide +kernel : TG 159 = 35) (by decide +kernel) ?_
          refine En_Ps 2 (pc' := 80) (lv' := [(0, .ref 159), (1, .int a), (2, .int b), (3, .int c), (4, .int d), (5, .int e), (6, .int y36)]) (st' := [.int ((Int32.ofInt 4)), .int y36, .ref 164, .int z62, .ref 163]) rfl ?_
          refine En_idiv (c := 4) rfl rfl (by decide : (Int32.ofInt 4).toInt = 4) (by omega) (by decide) (fun z64 h65 => ?_)
          refine En_iald (l := (-2147483648)) (u := 2147483647) rfl rfl (by decide +kernel : TG 164 = 40) (by decide +kernel) h38 (by omega) (lnI (by decide +kernel : LN _ = 5) (by omega)) (FTsgl (by decide +kernel)) (fun z67 h66 h68 h69 => ?_)
          have h70 := FV_sel h42 h43 h44 h45 h46 h66 (by omega) (by omega)
          refine En_Ps 4 (pc' := 89) (lv' := [(0, .ref 159), (1, .int a), (2, .int b), (3, .int c), (4, .int d), (5, .int e), (6, .int y36)]) (st' := [.int ((Int32.ofInt 4)), .int y36, .int (((Int8.ofInt 8).toInt32)), .int (((Int8.ofInt 24).toInt32)), .int z67, .int z62, .ref 163]) rfl ?_
          refine En_irem (c := 4) rfl rfl (by decide : (Int32.ofInt 4).toInt = 4) (by omega) (by decide) (fun z71 h72 => ?_)
          refine En_Ps 1 (pc' := 91) (lv' := [(0, .ref 159), (1, .int a), (2, .int b), (3, .int c), (4, .int d), (5, .int e), (6, .int y36)]) (st' := [.int (((((Int8.ofInt 8).toInt32)) * z71)), .int (((Int8.ofInt 24).toInt32)), .int z67, .int z62, .ref 163]) rfl ?_
          refine En_top (mulI (by decide : ((Int8.ofInt 8).toInt32).toInt = 8) rfl (Z := 8 * z71.toInt) (by omega) (by omega) (by omega)) (fun z73 h74 => ?_)
          refine En_Ps 1 (pc' := 92) (lv' := [(0, .ref 159), (1, .int a), (2, .int b), (3, .int c), (4, .int d), (5, .int e), (6, .int y36)]) (st' := [.int (((((Int8.ofInt 24).toInt32)) - z73)), .int z67, .int z62, .ref 163]) rfl ?_
          refine En_top (subI (by decide : ((Int8.ofInt 24).toInt32).toInt = 24) rfl (by omega) (by omega)) (fun z75 h76 => ?_)
          refine En_Ps 2 (pc' := 94) (lv' := [(0, .ref 159), (1, .int a), (2, .int b), (3, .int c), (4, .int d), (5, .int e), (6, .int y36)]) (st' := [.int (((z67 >>> (z75 &&& 31)).toInt8.toInt32)), .int z62, .ref 163]) rfl ?_
          refine En_nam (fun z77 h78 => ?_)
          have h79 := b4_s (j := y36.toInt % 4) h78 (by omega)
          have h80 := b4_rng z67 (y36.toInt % 4)
          refine En_bast (l := (-128)) (u := 127) rfl rfl (by decide +kernel : TG 163 = 39) (by decide +kernel) (narB rfl (by omega) (by omega)) (by omega) (lnI (by decide +kernel : LN _ = 1600) (by omega)) (FTsgl (by decide +kernel)) (rngI rfl (by omega) (by omega)) h38 h39 (by decide +kernel) (fun σ81 h82 h83 h84 h85 => ?_)
          have h86 := FDP_s (J := z62.toInt) (y := y36.toInt) (y' := y36.toInt + 1) h50 h84 h85 (by omega) (by omega) (by omega) h70 h79 (by omega) (by omega) rfl
          refine En_Ps 1 (pc' := 98) (lv' := [(6, .int ((y36 + Int32.ofInt 1))), (0, .ref 159), (1, .int a), (2, .int b), (3, .int c), (4, .int d), (5, .int e)]) (st' := []) rfl ?_
          refine En_lv1 (addI rfl (by decide : (Int32.ofInt 1).toInt = 1) (by omega) (by omega)) (fun z87 h88 => ?_)
          refine En_Ps 1 (pc' := 55) (lv' := [(6, .int z87), (0, .ref 159), (1, .int a), (2, .int b), (3, .int c), (4, .int d), (5, .int e)]) (st' := []) rfl ?_
          refine En_lv (lv := [(0, .ref 159), (1, .int a), (2, .int b), (3, .int c), (4, .int d), (5, .int e), (6, .int z87)]) ⟨rfl, rfl, rfl, rfl, rfl, rfl, rfl, trivial⟩ ?_
          exact ih55 σ81 z87 h82 h83 ((h85 _ _ (Or.inl (neTG (by decide +kernel : TG 159 = 35) (by decide +kernel : TG 163 = 39) (by decide)))).trans h40) ((h85 _ _ (Or.inl (neTG (by decide +kernel : TG 159 = 35) (by decide +kernel : TG 163 = 39) (by decide)))).trans h41) ((h85 _ _ (Or.inl (neTG (by decide +kernel : TG 164 = 40) (by decide +kernel : TG 163 = 39) (by decide)))).trans h42) ((h85 _ _ (Or.inl (neTG (by decide +kernel : TG 164 = 40) (by decide +kernel : TG 163 = 39) (by decide)))).trans h43) ((h85 _ _ (Or.inl (neTG (by decide +kernel : TG 164 = 40) (by decide +kernel : TG 163 = 39) (by decide)))).trans h44) ((h85 _ _ (Or.inl (neTG (by decide +kernel : TG 164 = 40) (by decide +kernel : TG 163 = 39) (by decide)))).trans h45) ((h85 _ _ (Or.inl (neTG (by decide +kernel : TG 164 = 40) (by decide +kernel : TG 163 = 39) (by decide)))).trans h46) (by omega) (by omega) (by omega) (FDP_c h86 (by omega))
    have := (by decide : (Int32.ofInt 0).toInt = 0)
    refine En_lv (lv := [(0, .ref 159), (1, .int a), (2, .int b), (3, .int c), (4, .int d), (5, .int e), (6, .int ((Int32.ofInt 0)))]) ⟨rfl, rfl, rfl, rfl, rfl, rfl, rfl, trivial⟩ ?_
    exact key55 (Int.toNat (20) + 1) σ30 ((Int32.ofInt 0)) h31 h32 ((h34 _ _ (Or.inl (neTG (by decide +kernel : TG 159 = 35) (by decide +kernel : TG 164 = 40) (by decide)))).trans ((h28 _ _ (Or.inl (neTG (by decide +kernel : TG 159 = 35) (by decide +kernel : TG 164 = 40) (by decide)))).trans ((h22 _ _ (Or.inl (neTG (by decide +kernel : TG 159 = 35) (by decide +kernel : TG 164 = 40) (by decide)))).trans ((h16 _ _ (Or.inl (neTG (by decide +kernel : TG 159 = 35) (by decide +kernel : TG 164 = 40) (by decide)))).trans ((h10 _ _ (Or.inl (neTG (by decide +kernel : TG 159 = 35) (by decide +kernel : TG 164 = 40) (by decide)))).trans h_m))))) ((h34 _ _ (Or.inl (neTG (by decide +kernel : TG 159 = 35) (by decide +kernel : TG 164 = 40) (by decide)))).trans ((h28 _ _ (Or.inl (neTG (by decide +kernel : TG 159 = 35) (by decide +kernel : TG 164 = 40) (by decide)))).trans ((h22 _ _ (Or.inl (neTG (by decide +kernel : TG 159 = 35) (by decide +kernel : TG 164 = 40) (by decide)))).trans ((h16 _ _ (Or.inl (neTG (by decide +kernel : TG 159 = 35) (by decide +kernel : TG 164 = 40) (by decide)))).trans ((h10 _ _ (Or.inl (neTG (by decide +kernel : TG 159 = 35) (by decide +kernel : TG 164 = 40) (by decide)))).trans h4))))) ((h34 _ _ (Or.inr (by omega))).trans ((h28 _ _ (Or.inr (by omega))).trans ((h22 _ _ (Or.inr (by omega))).trans ((h16 _ _ (Or.inr (by omega))).trans h9)))) ((h34 _ _ (Or.inr (by omega))).trans ((h28 _ _ (Or.inr (by omega))).trans ((h22 _ _ (Or.inr (by omega))).trans h15))) ((h34 _ _ (Or.inr (by omega))).trans ((h28 _ _ (Or.inr (by omega))).trans h21)) ((h34 _ _ (Or.inr (by omega))).trans h27) h33 (by omega) (by omega) (by omega) (FDP_0 (by decide) h35)
  · refine En_Ps 1 (pc' := 14) (lv' := [(0, .ref 159), (1, .int a), (2, .int b), (3, .int c), (4, .int d), (5, .int e)]) (st' := [.int ((Int32.ofInt (-1)))]) rfl ?_
    refine En_top (by decide : (Int32.ofInt (-1)).toInt = -1) (fun z89 h90 => ?_)
    exact En_ret (v := some (.int z89)) rfl rfl rfl ⟨hσ0, hF0, m, h_m, z89, rfl, ⟨by omega, by omega, by omega, by omega, by omega, by omega, fun _ => by omega, fun _ => by omega, ⟨fun h => absurd h (by omega), fun _ _ => rfl⟩⟩⟩
/-- DoorSchoolModel.ownDeeds()I -/
abbrev P_295x (σ0 : SG) (s : Int32) (sc : Int32) : PO := fun v σ => WT σ ∧ Fr [] σ0 σ ∧ ∃ ret : Int32, v = some (.int ret) ∧ -ret.toInt ≤ 0 ∧ ret.toInt - 65535 ≤ 0 ∧ ret.toInt = owD (wf σ0)
set_option maxRecDepth 10000 in
set_option maxHeartbeats 4000000 in
theorem c_295x (σ0 : SG) (hσ0 : WT σ0) (s : Int32) (h_s : (σ0 160)[(0 : Int).toNat]? = some (.int s)) (sc : Int32) (h_sc : (σ0 160)[(7 : Int).toNat]? = some (.int sc)) (hp0 : -sc.toInt + 1 ≤ 0) : En 3 64 none mr_295 (P_295x σ0 s sc) 0 [(0, .ref 159)] [] σ0 := by
  obtain ⟨hl_s, hu_s⟩ := WT_int hσ0 (g := 36) (by decide +kernel) (by decide +kernel) (l := 0) (u := 4) (by decide +kernel) h_s
  obtain ⟨hl_sc, hu_sc⟩ := WT_int hσ0 (g := 36) (by decide +kernel) (by decide +kernel) (l := 0) (u := 1600) (by decide +kernel) h_sc
  have hF0 : Fr [] σ0 σ0 := Fr_rfl
  have kv := (kI_val sc.toInt s.toInt).2 (by omega)
  refine En_Ps 2 (pc' := 2) (lv' := [(0, .ref 159)]) (st' := [.ref 159, .ref 159]) rfl ?_
  refine En_getU (j := 1) (u := 160) (g' := 36) (q := 0) rfl rfl rfl (by decide +kernel : TG 159 = 35) (by decide +kernel) hσ0 (by decide +kernel) (by decide +kernel) (fun h1 => ?_)
  refine En_Ps 1 (pc' := 7) (lv' := [(0, .ref 159)]) (st' := [.int (((Int8.ofInt 8).toInt32)), .ref 160, .ref 159]) rfl ?_
  refine En_iald (l := 0) (u := 15) rfl (by decide : ((Int8.ofInt 8).toInt32).toInt = 8) (by decide +kernel : TG 160 = 36) (by decide +kernel) hσ0 (by omega) (lnI (by decide +kernel : LN _ = 226) (by omega)) (by decide +kernel) (fun z4 h3 h5 h6 => ?_)
  refine En_Ps 1 (pc' := 9) (lv' := [(0, .ref 159)]) (st' := [.ref 159, .int z4, .ref 159]) rfl ?_
  refine En_getK (j := 1) h1 rfl rfl rfl (by decide +kernel : TG 159 = 35) (by decide +kernel) ?_
  refine En_Ps 1 (pc' := 14) (lv' := [(0, .ref 159)]) (st' := [.int (((Int8.ofInt 9).toInt32)), .ref 160, .int z4, .ref 159]) rfl ?_
  refine En_iald (l := 0) (u := 15) rfl (by decide : ((Int8.ofInt 9).toInt32).toInt = 9) (by decide +kernel : TG 160 = 36) (by decide +kernel) hσ0 (by omega) (lnI (by decide +kernel : LN _ = 226) (by omega)) (by decide +kernel) (fun z8 h7 h9 h10 => ?_)
  refine En_callV rfl rfl rfl rfl rfl rfl rfl rfl (by decide +kernel : TG 159 = 35) (by decide +kernel) rfl (c_212x σ0 hσ0 z4 z8 (geI rfl (by omega)) (leI rfl (by omega)) s h_s sc h_sc) (by decide) (by decide) (fun v12 σ13 h11 => ?_)
  obtain ⟨h14, h15, z17, rfl, h16⟩ := h11
  have h18 := h16.2.2
  obtain rfl : σ0 = σ13 := Fr_nil h15
  have w19 : wf σ0 (0) = s.toInt := ci_at h_s (by omega)
  have w20 : wf σ0 (7) = sc.toInt := ci_at h_sc (by omega)
  have w21 : wf σ0 (8) = z4.toInt := ci_at h3 (by omega)
  have w22 : wf σ0 (9) = z8.toInt := ci_at h7 (by omega)
  exact En_ret (v := some (.int z17)) rfl rfl rfl ⟨hσ0, hF0, z17, rfl, ⟨by omega, by omega, owD_of w21 w22 (by rw [w19]; exact kv) h18⟩⟩
/-- DoorSchoolModel.fooled(II)I -/
abbrev P_232x (σ0 : SG) (a : Int32) (b : Int32) : PO := fun v σ => WT σ ∧ Fr [(35, 18), (35, 21), (42, 0), (43, 0), (44, 0), (45, 0), (46, 0)] σ0 σ ∧ ∃ ret : Int32, v = some (.int ret) ∧ -ret.toInt - 2 ≤ 0 ∧ ret.toInt - 65535 ≤ 0 ∧ ret.toInt = fdR (wf σ0) a.toInt b.toInt
set_option maxRecDepth 10000 in
set_option maxHeartbeats 4000000 in
theorem c_232x (σ0 : SG) (hσ0 : WT σ0) (a : Int32) (b : Int32) (hq : QX (wf σ0)) : En 5 112 none mr_232 (P_232x σ0 a b) 0 [(0, .ref 159), (1, .int a), (2, .int b)] [] σ0 := by
  have hF0 : Fr [(35, 18), (35, 21), (42, 0), (43, 0), (44, 0), (45, 0), (46, 0)] σ0 σ0 := Fr_rfl
  refine En_Ps 2 (pc' := 2) (lv' := [(0, .ref 159), (1, .int a), (2, .int b)]) (st' := [.int a, .ref 159]) rfl ?_
  obtain ⟨z2, h1, h3, h4⟩ := WT_peekI hσ0 (by decide +kernel : TG 160 = 36) (by decide +kernel : FT 36 (2 : Int).toNat = (0, 0, 4)) (by decide +kernel)
  refine En_callV rfl rfl rfl rfl rfl rfl rfl rfl (by decide +kernel : TG 159 = 35) (by decide +kernel) rfl (c_254 σ0 hσ0 a z2 h1) (by decide) (by decide) (fun v6 σ7 h5 => ?_)
  obtain ⟨h8, h9, z11, rfl, h10⟩ := h5
  obtain rfl : σ0 = σ7 := Fr_nil h9
  have w12 : wf σ0 (2) = z2.toInt := ci_at h1 (by omega)
  refine En_iEq _ rfl rfl (fun h13 => ?_) (fun h13 => ?_)
  · refine En_Ps 1 (pc' := 20) (lv' := [(0, .ref 159), (1, .int a), (2, .int b)]) (st' := [.int (((Int8.ofInt (-2)).toInt32))]) rfl ?_
    refine En_top (by decide : ((Int8.ofInt (-2)).toInt32).toInt = -2) (fun z14 h15 => ?_)
    exact En_ret (v := some (.int z14)) rfl rfl rfl ⟨hσ0, hF0, z14, rfl, ⟨by omega, by omega, fdR_n (fun ⟨q1, q2, q3, q4⟩ => by omega) (by omega)⟩⟩
  · refine En_Ps 4 (pc' := 12) (lv' := [(0, .ref 159), (1, .int a), (2, .int b)]) (st' := [.long ((Int64.ofNat 1)), .long ((Int64.ofNat 0)), .long b.toInt64]) rfl ?_
    have : b.toInt64.toInt = b.toInt := (i2lI rfl)
    have := (by decide : ((Int64.ofNat 0)).toInt = 0)
    have := (by decide : ((Int64.ofNat 1)).toInt = 1)
    refine En_callS rfl rfl rfl rfl rfl rfl rfl rfl rfl (c_249 σ0 hσ0 b.toInt64 ((Int64.ofNat 0)) ((Int64.ofNat 1))) (by decide) (by decide) (fun v17 σ18 h16 => ?_)
    obtain ⟨h19, h20, z22, rfl, h21⟩ := h16
    obtain rfl : σ0 = σ18 := Fr_nil h20
    refine En_iNe _ rfl rfl (fun h23 => ?_) (fun h23 => ?_)
    · obtain ⟨z25, h24, h26, h27⟩ := WT_peekI hσ0 (by decide +kernel : TG 160 = 36) (by decide +kernel : FT 36 (0 : Int).toNat = (0, 0, 4)) (by decide +kernel)
      obtain ⟨z29, h28, h30, h31⟩ := WT_peekI hσ0 (by decide +kernel : TG 160 = 36) (by decide +kernel : FT 36 (7 : Int).toNat = (0, 0, 1600)) (by decide +kernel)
      have w32 : wf σ0 (0) = z25.toInt := ci_at h24 (by omega)
      have w33 : wf σ0 (7) = z29.toInt := ci_at h28 (by omega)
      have h34 : 1 ≤ z29.toInt := by have e9 := hq (by omega); omega
      have h35 := pI_rng (s := z25.toInt) (by omega) (by omega)
      have h36 := (kI_val z29.toInt z25.toInt).2 (by omega)
      have h37 : pI (wf σ0 0) = pI (z25.toInt) := by rw [w32]
      refine En_Ps 2 (pc' := 23) (lv' := [(0, .ref 159), (1, .int a), (2, .int b)]) (st' := [.int a, .ref 159]) rfl ?_
      refine En_callV rfl rfl rfl rfl rfl rfl rfl rfl (by decide +kernel : TG 159 = 35) (by decide +kernel) rfl (c_213x σ0 hσ0 a (geI rfl (by omega)) (leI rfl (by omega)) z25 h24 z29 h28 (by omega)) (by decide) (by decide) (fun v39 σ40 h38 => ?_)
      obtain ⟨h41, h42, z44, h45, z46, rfl, h43⟩ := h38
      have h47 := h43.2.2.2.2.2.2.2.2.1
      have h48 := Fr_trans hF0 h42 (by decide +kernel)
      have h49 : wf σ40 = wf σ0 := wf_fr h42 (by decide +kernel)
      refine En_Ps 2 (pc' := 28) (lv' := [(3, .int z46), (0, .ref 159), (1, .int a), (2, .int b)]) (st' := [.int b]) rfl ?_
      refine En_iNe _ rfl rfl (fun h50 => ?_) (fun h50 => ?_)
      · refine En_Ps 1 (pc' := 43) (lv' := [(3, .int z46), (0, .ref 159), (1, .int a), (2, .int b)]) (st' := [.ref 159]) rfl ?_
        refine En_callV rfl rfl rfl rfl rfl rfl rfl rfl (by decide +kernel : TG 159 = 35) (by decide +kernel) rfl (c_295x σ40 h41 z25 ((h42 _ _ (inWa (by decide +kernel : TG 160 = 36) (by decide +kernel))).trans h24) z29 ((h42 _ _ (inWa (by decide +kernel : TG 160 = 36) (by decide +kernel))).trans h28) (by omega)) (by decide) (by decide) (fun v52 σ53 h51 => ?_)
        obtain ⟨h54, h55, z57, rfl, h56⟩ := h51
        have h58 := h56.2.2
        obtain rfl : σ40 = σ53 := Fr_nil h55
        refine En_Ps 3 (pc' := 49) (lv' := [(3, .int z46), (0, .ref 159), (1, .int a), (2, .int b)]) (st' := [.int ((z46 ^^^ ((Int32.ofInt (-1))))), .int z57]) rfl ?_
        refine En_nam (fun z59 h60 => ?_)
        refine En_Ps 1 (pc' := 50) (lv' := [(3, .int z46), (0, .ref 159), (1, .int a), (2, .int b)]) (st' := [.int ((z57 &&& z59))]) rfl ?_
        refine En_nam (fun z62 h63 => ?_)
        have h64 : z62.toInt = z57.toInt - aN z57.toInt z46.toInt := andn_v h63 h60 rfl rfl (by omega) (by omega)
        have := aN_le (X := z57.toInt) (Y := z46.toInt) (by omega) (by omega)
        exact En_ret (v := some (.int z62)) rfl rfl rfl ⟨h41, h48, z62, rfl, ⟨by omega, by omega, fdR_1 ⟨by omega, by omega, by omega, by omega⟩ (by omega) h47 (h58.trans (owD_cg h49)) (by omega)⟩⟩
      · refine En_Ps 2 (pc' := 33) (lv' := [(3, .int z46), (0, .ref 159), (1, .int a), (2, .int b)]) (st' := [.ref 159, .int z46]) rfl ?_
        refine En_callV rfl rfl rfl rfl rfl rfl rfl rfl (by decide +kernel : TG 159 = 35) (by decide +kernel) rfl (c_295x σ40 h41 z25 ((h42 _ _ (inWa (by decide +kernel : TG 160 = 36) (by decide +kernel))).trans h24) z29 ((h42 _ _ (inWa (by decide +kernel : TG 160 = 36) (by decide +kernel))).trans h28) (by omega)) (by decide) (by decide) (fun v66 σ67 h65 => ?_)
        obtain ⟨h68, h69, z71, rfl, h70⟩ := h65
        have h72 := h70.2.2
        obtain rfl : σ40 = σ67 := Fr_nil h69
        refine En_Ps 2 (pc' := 38) (lv' := [(3, .int z46), (0, .ref 159), (1, .int a), (2, .int b)]) (st' := [.int ((z71 ^^^ ((Int32.ofInt (-1))))), .int z46]) rfl ?_
        refine En_nam (fun z73 h74 => ?_)
        refine En_Ps 1 (pc' := 39) (lv' := [(3, .int z46), (0, .ref 159), (1, .int a), (2, .int b)]) (st' := [.int ((z46 &&& z73))]) rfl ?_
        refine En_nam (fun z76 h77 => ?_)
        have h78 : z76.toInt = z46.toInt - aN z46.toInt z71.toInt := andn_v h77 h74 rfl rfl (by omega) (by omega)
        have := aN_le (X := z46.toInt) (Y := z71.toInt) (by omega) (by omega)
        refine En_Ps 1 (pc' := 50) (lv' := [(3, .int z46), (0, .ref 159), (1, .int a), (2, .int b)]) (st' := [.int z76]) rfl ?_
        exact En_ret (v := some (.int z76)) rfl rfl rfl ⟨h41, h48, z76, rfl, ⟨by omega, by omega, fdR_0 ⟨by omega, by omega, by omega, by omega⟩ (by omega) (foN_of h47 (h72.trans (owD_cg h49)) (by omega))⟩⟩
    · refine En_Ps 1 (pc' := 20) (lv' := [(0, .ref 159), (1, .int a), (2, .int b)]) (st' := [.int (((Int8.ofInt (-2)).toInt32))]) rfl ?_
      refine En_top (by decide : ((Int8.ofInt (-2)).toInt32).toInt = -2) (fun z79 h80 => ?_)
      exact En_ret (v := some (.int z79)) rfl rfl rfl ⟨hσ0, hF0, z79, rfl, ⟨by omega, by omega, fdR_n (fun ⟨q1, q2, q3, q4⟩ => by omega) (by omega)⟩⟩
/-- DoorSchoolModel.fooledBy(I)I -/
abbrev P_233x (σ0 : SG) (a : Int32) (s : Int32) (sc : Int32) : PO := fun v σ => WT σ ∧ Fr [] σ0 σ ∧ ∃ ret : Int32, v = some (.int ret) ∧ -ret.toInt ≤ 0 ∧ ret.toInt - 16 ≤ 0 ∧ ret.toInt = pcI (a.toInt - aN a.toInt (owD (wf σ0)))
set_option maxRecDepth 10000 in
set_option maxHeartbeats 4000000 in
theorem c_233x (σ0 : SG) (hσ0 : WT σ0) (a : Int32) (hl_a : 0 ≤ a.toInt) (hu_a : a.toInt ≤ 65535) (s : Int32) (h_s : (σ0 160)[(0 : Int).toNat]? = some (.int s)) (sc : Int32) (h_sc : (σ0 160)[(7 : Int).toNat]? = some (.int sc)) (hp0 : -sc.toInt + 1 ≤ 0) : En 4 84 none mr_233 (P_233x σ0 a s sc) 0 [(0, .ref 159), (1, .int a)] [] σ0 := by
  obtain ⟨hl_s, hu_s⟩ := WT_int hσ0 (g := 36) (by decide +kernel) (by decide +kernel) (l := 0) (u := 4) (by decide +kernel) h_s
  obtain ⟨hl_sc, hu_sc⟩ := WT_int hσ0 (g := 36) (by decide +kernel) (by decide +kernel) (l := 0) (u := 1600) (by decide +kernel) h_sc
  have hF0 : Fr [] σ0 σ0 := Fr_rfl
  refine En_Ps 2 (pc' := 2) (lv' := [(0, .ref 159), (1, .int a)]) (st' := [.ref 159, .int a]) rfl ?_
  refine En_callV rfl rfl rfl rfl rfl rfl rfl rfl (by decide +kernel : TG 159 = 35) (by decide +kernel) rfl (c_295x σ0 hσ0 s h_s sc h_sc (by omega)) (by decide) (by decide) (fun v2 σ3 h1 => ?_)
  obtain ⟨h4, h5, z7, rfl, h6⟩ := h1
  have h8 := h6.2.2
  obtain rfl : σ0 = σ3 := Fr_nil h5
  refine En_Ps 2 (pc' := 7) (lv' := [(0, .ref 159), (1, .int a)]) (st' := [.int ((z7 ^^^ ((Int32.ofInt (-1))))), .int a]) rfl ?_
  refine En_nam (fun z9 h10 => ?_)
  refine En_Ps 1 (pc' := 8) (lv' := [(0, .ref 159), (1, .int a)]) (st' := [.int ((a &&& z9))]) rfl ?_
  refine En_nam (fun z12 h13 => ?_)
  have h14 : z12.toInt = a.toInt - aN a.toInt z7.toInt := andn_v h13 h10 rfl rfl (by omega) (by omega)
  have := aN_le (X := a.toInt) (Y := z7.toInt) (by omega) (by omega)
  refine En_callS rfl rfl rfl rfl rfl rfl rfl rfl rfl (c_203bx σ0 hσ0 z12 (geI rfl (by omega)) (leI rfl (by omega))) (by decide) (by decide) (fun v16 σ17 h15 => ?_)
  obtain ⟨h18, h19, z21, rfl, h20⟩ := h15
  have h22 := h20.2.2
  obtain rfl : σ0 = σ17 := Fr_nil h19
  exact En_ret (v := some (.int z21)) rfl rfl rfl ⟨hσ0, hF0, z21, rfl, ⟨by omega, by omega, (by have e8 := h8; have e9 := h22; rw [e9, ← e8]; exact pcI_cg (by omega))⟩⟩
/-- DoorSchoolModel.number(II)I -/
abbrev P_288x (σ0 : SG) (By : Int → Int) (Nb : Int) (Sp : PS) (a : Int32) (b : Int32) (f : Int32) (k : Int32) (t : Int32) (u : Int32) : PO := fun v σ => WT σ ∧ Fr [(35, 8), (35, 9), (35, 10), (35, 11), (35, 12), (35, 13)] σ0 σ ∧ ∃ f1 : Int32, (σ 159)[8]? = some (.int f1) ∧ ∃ k1 : Int32, (σ 159)[12]? = some (.int k1) ∧ ∃ ret : Int32, v = some (.int ret) ∧ -ret.toInt ≤ 0 ∧ ret.toInt - 50 ≤ 0 ∧ -f1.toInt ≤ 0 ∧ f1.toInt - 1600 ≤ 0 ∧ -f1.toInt + f.toInt ≤ 0 ∧ f1.toInt - f.toInt - 1600 ≤ 0 ∧ -f1.toInt + k.toInt - 3 ≤ 0 ∧ f1.toInt - k.toInt - 1600 ≤ 0 ∧ -f1.toInt + t.toInt - 4 ≤ 0 ∧ f1.toInt - t.toInt - 1600 ≤ 0 ∧ -f1.toInt + u.toInt - 99999 ≤ 0 ∧ f1.toInt - u.toInt - 1600 ≤ 0 ∧ -k1.toInt ≤ 0 ∧ k1.toInt - 3 ≤ 0 ∧ -k1.toInt + f.toInt - 1600 ≤ 0 ∧ k1.toInt - f.toInt - 3 ≤ 0 ∧ -k1.toInt + k.toInt ≤ 0 ∧ k1.toInt - k.toInt - 3 ≤ 0 ∧ -k1.toInt + t.toInt - 3 ≤ 0 ∧ k1.toInt - t.toInt - 3 ≤ 0 ∧ -k1.toInt + u.toInt - 99998 ≤ 0 ∧ k1.toInt - u.toInt - 3 ≤ 0 ∧ f.toInt - f1.toInt ≤ 0 ∧ Imp (a.toInt ≤ 0) (a.toInt - ret.toInt ≤ 0) ∧ Imp (-a.toInt ≤ 0) (-ret.toInt ≤ 0) ∧ Imp (-b.toInt ≤ 0) (ret.toInt - b.toInt ≤ 0) ∧ Imp (b.toInt ≤ 0) (ret.toInt ≤ 0) ∧ Imp (k1.toInt ≤ 0) (k.toInt ≤ 0 ∧ t.toInt - 2 ≤ 0 ∧ -t.toInt + 2 ≤ 0 ∧ ret.toInt - u.toInt ≤ 0 ∧ -ret.toInt + u.toInt ≤ 0 ∧ a.toInt - u.toInt ≤ 0 ∧ u.toInt - b.toInt ≤ 0) ∧ (ML By Nb σ (tN By Nb a.toInt b.toInt Sp) ∧ ((tN By Nb a.toInt b.toInt Sp).1 = 0 → ret.toInt = tV By Nb Sp.2.2.1))
set_option maxRecDepth 10000 in
set_option maxHeartbeats 4000000 in
theorem c_288x {By : Int → Int} {Nb : Int} {Sp : PS} (σ0 : SG) (hσ0 : WT σ0) (a : Int32) (b : Int32) (hl_a : 0 ≤ a.toInt) (hu_a : a.toInt ≤ 100000) (hl_b : (-1) ≤ b.toInt) (hu_b : b.toInt ≤ 50) (f : Int32) (h_f : (σ0 159)[8]? = some (.int f)) (k : Int32) (h_k : (σ0 159)[12]? = some (.int k)) (t : Int32) (h_t : (σ0 159)[10]? = some (.int t)) (u : Int32) (h_u : (σ0 159)[11]? = some (.int u)) (hM : ML By Nb σ0 Sp) : En 2 46 none mr_288 (P_288x σ0 By Nb Sp a b f k t u) 0 [(0, .ref 159), (1, .int a), (2, .int b)] [] σ0 := by
  obtain ⟨hl_f, hu_f⟩ := WT_int hσ0 (g := 35) (by decide +kernel) (by decide +kernel) (l := 0) (u := 1600) (by decide +kernel) h_f
  obtain ⟨hl_k, hu_k⟩ := WT_int hσ0 (g := 35) (by decide +kernel) (by decide +kernel) (l := 0) (u := 3) (by decide +kernel) h_k
  obtain ⟨hl_t, hu_t⟩ := WT_int hσ0 (g := 35) (by decide +kernel) (by decide +kernel) (l := 0) (u := 4) (by decide +kernel) h_t
  obtain ⟨hl_u, hu_u⟩ := WT_int hσ0 (g := 35) (by decide +kernel) (by decide +kernel) (l := 0) (u := 99999) (by decide +kernel) h_u
  have hF0 : Fr [(35, 8), (35, 9), (35, 10), (35, 11), (35, 12), (35, 13)] σ0 σ0 := Fr_rfl
  have h1 := ML_k hM h_k
  have h2 : Imp (Sp.1 = 0) (tK By Nb Sp.2.2.1 = t.toInt) := ML_t hM h_t
  have h3 : Imp (Sp.1 = 0 ∧ tK By Nb Sp.2.2.1 = 2) (u.toInt = min 99999 (tV By Nb Sp.2.2.1) ∧ 0 ≤ tV By Nb Sp.2.2.1) := fun q => ML_u hM h_u q.1 q.2
  refine En_Ps 1 (pc' := 1) (lv' := [(0, .ref 159), (1, .int a), (2, .int b)]) (st' := [.ref 159]) rfl ?_
  refine En_callV rfl rfl rfl rfl rfl rfl rfl rfl (by decide +kernel : TG 159 = 35) (by decide +kernel) rfl (c_237 σ0 hσ0 k h_k) (by decide) (by decide) (fun v5 σ6 h4 => ?_)
  obtain ⟨h7, h8, z10, rfl, h9⟩ := h4
  obtain rfl : σ0 = σ6 := Fr_nil h8
  refine En_iEq _ rfl rfl (fun h11 => ?_) (fun h11 => ?_)
  · refine En_Ps 1 (pc' := 21) (lv' := [(0, .ref 159), (1, .int a), (2, .int b)]) (st' := [.ref 159]) rfl ?_
    refine En_callV rfl rfl rfl rfl rfl rfl rfl rfl (by decide +kernel : TG 159 = 35) (by decide +kernel) rfl (c_237 σ0 hσ0 k h_k) (by decide) (by decide) (fun v13 σ14 h12 => ?_)
    obtain ⟨h15, h16, z18, rfl, h17⟩ := h12
    obtain rfl : σ0 = σ14 := Fr_nil h16
    refine En_iEq _ rfl rfl (fun h19 => ?_) (fun hx => by exfalso; omega)
    refine En_Ps 1 (pc' := 48) (lv' := [(0, .ref 159), (1, .int a), (2, .int b)]) (st' := [.ref 159]) rfl ?_
    refine En_callV rfl rfl rfl rfl rfl rfl rfl rfl (by decide +kernel : TG 159 = 35) (by decide +kernel) rfl (c_237 σ0 hσ0 k h_k) (by decide) (by decide) (fun v21 σ22 h20 => ?_)
    obtain ⟨h23, h24, z26, rfl, h25⟩ := h20
    obtain rfl : σ0 = σ22 := Fr_nil h24
    refine En_iNe _ rfl rfl (fun hx => by exfalso; omega) (fun h27 => ?_)
    refine En_Ps 1 (pc' := 55) (lv' := [(0, .ref 159), (1, .int a), (2, .int b)]) (st' := [.int ((Int32.ofInt 0))]) rfl ?_
    refine En_top (by decide : (Int32.ofInt 0).toInt = 0) (fun z28 h29 => ?_)
    exact En_ret (v := some (.int z28)) rfl rfl rfl ⟨hσ0, hF0, f, h_f, k, h_k, z28, rfl, ⟨by omega, by omega, by omega, by omega, by omega, by omega, by omega, by omega, by omega, by omega, by omega, by omega, by omega, by omega, by omega, by omega, by omega, by omega, by omega, by omega, by omega, by omega, by omega, fun _ => by omega, fun _ => by omega, fun _ => by omega, fun _ => by omega, fun _ => by omega, (by (try have i0 := Imp_m h2 (by omega)); (try have i1 := Imp_m h3 (by omega)); first | (have q := tN_bad (B := By) (n := Nb) (lo := a.toInt) (hi := b.toInt) (S := Sp) (by omega); rw [q]; exact ⟨ML_eq hM (by rfl), fun zz => by have := err_ne (B := By) (n := Nb) (S := Sp) (k := 1) (by omega); have := err_ne (B := By) (n := Nb) (S := Sp) (k := 2) (by omega); exfalso; omega⟩) | (have q := tN_k (B := By) (n := Nb) (lo := a.toInt) (hi := b.toInt) (S := Sp) (by omega) (by omega); rw [q]; exact ⟨ML_eq hM (by rfl), fun zz => by have := err_ne (B := By) (n := Nb) (S := Sp) (k := 1) (by omega); have := err_ne (B := By) (n := Nb) (S := Sp) (k := 2) (by omega); exfalso; omega⟩) | (have q := tN_v (B := By) (n := Nb) (lo := a.toInt) (hi := b.toInt) (S := Sp) (by omega) (by omega) (by omega); rw [q]; exact ⟨ML_eq hM (by rfl), fun zz => by have := err_ne (B := By) (n := Nb) (S := Sp) (k := 1) (by omega); have := err_ne (B := By) (n := Nb) (S := Sp) (k := 2) (by omega); exfalso; omega⟩) | (have q := tN_ok (B := By) (n := Nb) (lo := a.toInt) (hi := b.toInt) (S := Sp) (by omega) (by omega) (by omega); rw [q]; exact ⟨ML_eq hM (by rfl), fun zz => by have := err_ne (B := By) (n := Nb) (S := Sp) (k := 1) (by omega); have := err_ne (B := By) (n := Nb) (S := Sp) (k := 2) (by omega); exfalso; omega⟩))⟩⟩
  · try have h30 := Imp_m h2 (by omega)
    try have h31 := Imp_m h3 (by omega)
    refine En_Ps 1 (pc' := 8) (lv' := [(0, .ref 159), (1, .int a), (2, .int b)]) (st' := [.ref 159]) rfl ?_
    refine En_getK (j := 10) h_t rfl rfl rfl (by decide +kernel : TG 159 = 35) (by decide +kernel) ?_
    refine En_Ps 1 (pc' := 12) (lv' := [(0, .ref 159), (1, .int a), (2, .int b)]) (st' := [.int ((Int32.ofInt 2)), .int t]) rfl ?_
    refine En_icEq _ rfl (by decide : (Int32.ofInt 2).toInt = 2) rfl (fun h32 => ?_) (fun h32 => ?_)
    · refine En_Ps 1 (pc' := 21) (lv' := [(0, .ref 159), (1, .int a), (2, .int b)]) (st' := [.ref 159]) rfl ?_
      refine En_callV rfl rfl rfl rfl rfl rfl rfl rfl (by decide +kernel : TG 159 = 35) (by decide +kernel) rfl (c_237 σ0 hσ0 k h_k) (by decide) (by decide) (fun v34 σ35 h33 => ?_)
      obtain ⟨h36, h37, z39, rfl, h38⟩ := h33
      obtain rfl : σ0 = σ35 := Fr_nil h37
      refine En_iEq _ rfl rfl (fun hx => by exfalso; omega) (fun h40 => ?_)
      try have h41 := Imp_m h2 (by omega)
      try have h42 := Imp_m h3 (by omega)
      refine En_Ps 1 (pc' := 28) (lv' := [(0, .ref 159), (1, .int a), (2, .int b)]) (st' := [.ref 159]) rfl ?_
      refine En_getK (j := 11) h_u rfl rfl rfl (by decide +kernel : TG 159 = 35) (by decide +kernel) ?_
      refine En_Ps 5 (pc' := 36) (lv' := [(0, .ref 159), (1, .int a), (2, .int b)]) (st' := [.long b.toInt64, .long a.toInt64, .long u.toInt64]) rfl ?_
      have : u.toInt64.toInt = u.toInt := (i2lI rfl)
      have : a.toInt64.toInt = a.toInt := (i2lI rfl)
      have : b.toInt64.toInt = b.toInt := (i2lI rfl)
      refine En_callS rfl rfl rfl rfl rfl rfl rfl rfl rfl (c_249 σ0 hσ0 u.toInt64 a.toInt64 b.toInt64) (by decide) (by decide) (fun v44 σ45 h43 => ?_)
      obtain ⟨h46, h47, z49, rfl, h48⟩ := h43
      obtain rfl : σ0 = σ45 := Fr_nil h47
      refine En_iNe _ rfl rfl (fun h50 => ?_) (fun h50 => ?_)
      · refine En_Ps 1 (pc' := 48) (lv' := [(0, .ref 159), (1, .int a), (2, .int b)]) (st' := [.ref 159]) rfl ?_
        refine En_callV rfl rfl rfl rfl rfl rfl rfl rfl (by decide +kernel : TG 159 = 35) (by decide +kernel) rfl (c_237 σ0 hσ0 k h_k) (by decide) (by decide) (fun v52 σ53 h51 => ?_)
        obtain ⟨h54, h55, z57, rfl, h56⟩ := h51
        obtain rfl : σ0 = σ53 := Fr_nil h55
        refine En_iNe _ rfl rfl (fun h58 => ?_) (fun hx => by exfalso; omega)
        try have h59 := Imp_m h2 (by omega)
        try have h60 := Imp_m h3 (by omega)
        refine En_Ps 1 (pc' := 57) (lv' := [(0, .ref 159), (1, .int a), (2, .int b)]) (st' := [.ref 159]) rfl ?_
        refine En_getK (j := 11) h_u rfl rfl rfl (by decide +kernel : TG 159 = 35) (by decide +kernel) ?_
        refine En_Ps 2 (pc' := 62) (lv' := [(3, .int u), (0, .ref 159), (1, .int a), (2, .int b)]) (st' := [.ref 159]) rfl ?_
        refine En_callV rfl rfl rfl rfl rfl rfl rfl rfl (by decide +kernel : TG 159 = 35) (by decide +kernel) rfl (c_189x σ0 hσ0 f h_f hM.1 (ML_at hM (by omega) h_f)) (by decide) (by decide) (fun v62 σ63 h61 => ?_)
        obtain ⟨h64, h65, z67, h68, z69, h70, rfl, h66⟩ := h61
        have h71 := h66.2.2.2.2.2.2.2.2.2.2
        have h72 := Fr_trans hF0 h65 (by decide +kernel)
        obtain ⟨S73, h74⟩ : ∃ q : PS, q = adv By Nb Sp := ⟨_, rfl⟩
        have h75 : ML By Nb σ63 S73 := by rw [h74]; exact (ML_adv hM (by omega) h_f h65 (by decide +kernel) h71.2)
        have h76 := ML_k h75 ((h65 _ _ (inW (by decide +kernel : TG 159 = 35) (by decide +kernel))).trans h_k)
        have h77 : Imp (S73.1 = 0) (tK By Nb S73.2.2.1 = z69.toInt) := ML_t h75 h70
        have h78 : S73.2.2.2 = Sp.2.2.2 := by rw [h74]; exact adv_w
        refine En_Ps 1 (pc' := 66) (lv' := [(3, .int u), (0, .ref 159), (1, .int a), (2, .int b)]) (st' := [.int u]) rfl ?_
        exact En_ret (v := some (.int u)) rfl rfl rfl ⟨h64, h72, z67, h68, k, ((h65 _ _ (inW (by decide +kernel : TG 159 = 35) (by decide +kernel))).trans h_k), u, rfl, ⟨by omega, by omega, by omega, by omega, by omega, by omega, by omega, by omega, by omega, by omega, by omega, by omega, by omega, by omega, by omega, by omega, by omega, by omega, by omega, by omega, by omega, by omega, by omega, fun _ => by omega, fun _ => by omega, fun _ => by omega, fun _ => by omega, fun _ => by omega, (by (try have i0 := Imp_m h77 (by omega)); (try have i1 := Imp_m h2 (by omega)); (try have i2 := Imp_m h3 (by omega)); (try have i3 := Imp_m h66.2.2.2.2.2.2.2.2.2.1 (by omega)); first | (have q := tN_bad (B := By) (n := Nb) (lo := a.toInt) (hi := b.toInt) (S := Sp) (by omega); rw [q]; exact ⟨ML_eq h75 (by subst h74; rfl), fun zz => by omega⟩) | (have q := tN_k (B := By) (n := Nb) (lo := a.toInt) (hi := b.toInt) (S := Sp) (by omega) (by omega); rw [q]; exact ⟨ML_eq h75 (by subst h74; rfl), fun zz => by omega⟩) | (have q := tN_v (B := By) (n := Nb) (lo := a.toInt) (hi := b.toInt) (S := Sp) (by omega) (by omega) (by omega); rw [q]; exact ⟨ML_eq h75 (by subst h74; rfl), fun zz => by omega⟩) | (have q := tN_ok (B := By) (n := Nb) (lo := a.toInt) (hi := b.toInt) (S := Sp) (by omega) (by omega) (by omega); rw [q]; exact ⟨ML_eq h75 (by subst h74; rfl), fun zz => by omega⟩))⟩⟩
      · refine En_Ps 2 (pc' := 44) (lv' := [(0, .ref 159), (1, .int a), (2, .int b)]) (st' := [.int ((Int32.ofInt 2)), .ref 159]) rfl ?_
        have := (by decide : ((Int32.ofInt 2)).toInt = 2)
        refine En_callV rfl rfl rfl rfl rfl rfl rfl rfl (by decide +kernel : TG 159 = 35) (by decide +kernel) rfl (c_223x σ0 hσ0 ((Int32.ofInt 2)) (geI (by decide : (Int32.ofInt 2).toInt = 2) (by omega)) (leI (by decide : (Int32.ofInt 2).toInt = 2) (by omega)) k h_k hM) (by decide) (by decide) (fun v80 σ81 h79 => ?_)
        obtain ⟨h82, h83, z85, h86, rfl, h84⟩ := h79
        have h87 := h84.2.2.2.2.2
        have h88 := Fr_trans hF0 h83 (by decide +kernel)
        obtain ⟨S89, h90⟩ : ∃ q : PS, q = err By Nb 2 Sp := ⟨_, rfl⟩
        have h91 : ML By Nb σ81 S89 := by rw [h90]; exact (ML_eq h87 (err_cg (by omega)))
        have h92 := ML_k h91 h86
        have h93 : Imp (S89.1 = 0) (tK By Nb S89.2.2.1 = t.toInt) := ML_t h91 ((h83 _ _ (inW (by decide +kernel : TG 159 = 35) (by decide +kernel))).trans h_t)
        have h94 : Imp (S89.1 = 0 ∧ tK By Nb S89.2.2.1 = 2) (u.toInt = min 99999 (tV By Nb S89.2.2.1) ∧ 0 ≤ tV By Nb S89.2.2.1) := fun q => ML_u h91 ((h83 _ _ (inW (by decide +kernel : TG 159 = 35) (by decide +kernel))).trans h_u) q.1 q.2
        have h95 : S89.2.2.2 = Sp.2.2.2 := by rw [h90]; exact err_w
        refine En_Ps 1 (pc' := 48) (lv' := [(0, .ref 159), (1, .int a), (2, .int b)]) (st' := [.ref 159]) rfl ?_
        refine En_callV rfl rfl rfl rfl rfl rfl rfl rfl (by decide +kernel : TG 159 = 35) (by decide +kernel) rfl (c_237 σ81 h82 z85 h86) (by decide) (by decide) (fun v97 σ98 h96 => ?_)
        obtain ⟨h99, h100, z102, rfl, h101⟩ := h96
        obtain rfl : σ81 = σ98 := Fr_nil h100
        refine En_iNe _ rfl rfl (fun hx => by exfalso; omega) (fun h103 => ?_)
        refine En_Ps 1 (pc' := 55) (lv' := [(0, .ref 159), (1, .int a), (2, .int b)]) (st' := [.int ((Int32.ofInt 0))]) rfl ?_
        refine En_top (by decide : (Int32.ofInt 0).toInt = 0) (fun z104 h105 => ?_)
        exact En_ret (v := some (.int z104)) rfl rfl rfl ⟨h82, h88, f, ((h83 _ _ (inW (by decide +kernel : TG 159 = 35) (by decide +kernel))).trans h_f), z85, h86, z104, rfl, ⟨by omega, by omega, by omega, by omega, by omega, by omega, by omega, by omega, by omega, by omega, by omega, by omega, by omega, by omega, by omega, by omega, by omega, by omega, by omega, by omega, by omega, by omega, by omega, fun _ => by omega, fun _ => by omega, fun _ => by omega, fun _ => by omega, fun _ => by omega, (by (try have i0 := Imp_m h93 (by omega)); (try have i1 := Imp_m h2 (by omega)); (try have i2 := Imp_m h3 (by omega)); (try have i3 := Imp_m h94 (by omega)); first | (have q := tN_bad (B := By) (n := Nb) (lo := a.toInt) (hi := b.toInt) (S := Sp) (by omega); rw [q]; exact ⟨ML_eq h91 (by subst h90; rfl), fun zz => by have := err_ne (B := By) (n := Nb) (S := Sp) (k := 1) (by omega); have := err_ne (B := By) (n := Nb) (S := Sp) (k := 2) (by omega); exfalso; omega⟩) | (have q := tN_k (B := By) (n := Nb) (lo := a.toInt) (hi := b.toInt) (S := Sp) (by omega) (by omega); rw [q]; exact ⟨ML_eq h91 (by subst h90; rfl), fun zz => by have := err_ne (B := By) (n := Nb) (S := Sp) (k := 1) (by omega); have := err_ne (B := By) (n := Nb) (S := Sp) (k := 2) (by omega); exfalso; omega⟩) | (have q := tN_v (B := By) (n := Nb) (lo := a.toInt) (hi := b.toInt) (S := Sp) (by omega) (by omega) (by omega); rw [q]; exact ⟨ML_eq h91 (by subst h90; rfl), fun zz => by have := err_ne (B := By) (n := Nb) (S := Sp) (k := 1) (by omega); have := err_ne (B := By) (n := Nb) (S := Sp) (k := 2) (by omega); exfalso; omega⟩) | (have q := tN_ok (B := By) (n := Nb) (lo := a.toInt) (hi := b.toInt) (S := Sp) (by omega) (by omega) (by omega); rw [q]; exact ⟨ML_eq h91 (by subst h90; rfl), fun zz => by have := err_ne (B := By) (n := Nb) (S := Sp) (k := 1) (by omega); have := err_ne (B := By) (n := Nb) (S := Sp) (k := 2) (by omega); exfalso; omega⟩))⟩⟩
    · refine En_Ps 2 (pc' := 17) (lv' := [(0, .ref 159), (1, .int a), (2, .int b)]) (st' := [.int ((Int32.ofInt 1)), .ref 159]) rfl ?_
      have := (by decide : ((Int32.ofInt 1)).toInt = 1)
      refine En_callV rfl rfl rfl rfl rfl rfl rfl rfl (by decide +kernel : TG 159 = 35) (by decide +kernel) rfl (c_223x σ0 hσ0 ((Int32.ofInt 1)) (geI (by decide : (Int32.ofInt 1).toInt = 1) (by omega)) (leI (by decide : (Int32.ofInt 1).toInt = 1) (by omega)) k h_k hM) (by decide) (by decide) (fun v107 σ108 h106 => ?_)
      obtain ⟨h109, h110, z112, h113, rfl, h111⟩ := h106
      have h114 := h111.2.2.2.2.2
      have h115 := Fr_trans hF0 h110 (by decide +kernel)
      obtain ⟨S116, h117⟩ : ∃ q : PS, q = err By Nb 1 Sp := ⟨_, rfl⟩
      have h118 : ML By Nb σ108 S116 := by rw [h117]; exact (ML_eq h114 (err_cg (by omega)))
      have h119 := ML_k h118 h113
      have h120 : Imp (S116.1 = 0) (tK By Nb S116.2.2.1 = t.toInt) := ML_t h118 ((h110 _ _ (inW (by decide +kernel : TG 159 = 35) (by decide +kernel))).trans h_t)
      have h121 : Imp (S116.1 = 0 ∧ tK By Nb S116.2.2.1 = 2) (u.toInt = min 99999 (tV By Nb S116.2.2.1) ∧ 0 ≤ tV By Nb S116.2.2.1) := fun q => ML_u h118 ((h110 _ _ (inW (by decide +kernel : TG 159 = 35) (by decide +kernel))).trans h_u) q.1 q.2
      have h122 : S116.2.2.2 = Sp.2.2.2 := by rw [h117]; exact err_w
      refine En_Ps 1 (pc' := 21) (lv' := [(0, .ref 159), (1, .int a), (2, .int b)]) (st' := [.ref 159]) rfl ?_
      refine En_callV rfl rfl rfl rfl rfl rfl rfl rfl (by decide +kernel : TG 159 = 35) (by decide +kernel) rfl (c_237 σ108 h109 z112 h113) (by decide) (by decide) (fun v124 σ125 h123 => ?_)
      obtain ⟨h126, h127, z129, rfl, h128⟩ := h123
      obtain rfl : σ108 = σ125 := Fr_nil h127
      refine En_iEq _ rfl rfl (fun h130 => ?_) (fun hx => by exfalso; omega)
      refine En_Ps 1 (pc' := 48) (lv' := [(0, .ref 159), (1, .int a), (2, .int b)]) (st' := [.ref 159]) rfl ?_
      refine En_callV rfl rfl rfl rfl rfl rfl rfl rfl (by decide +kernel : TG 159 = 35) (by decide +kernel) rfl (c_237 σ108 h109 z112 h113) (by decide) (by decide) (fun v132 σ133 h131 => ?_)
      obtain ⟨h134, h135, z137, rfl, h136⟩ := h131
      obtain rfl : σ108 = σ133 := Fr_nil h135
      refine En_iNe _ rfl rfl (fun hx => by exfalso; omega) (fun h138 => ?_)
      refine En_Ps 1 (pc' := 55) (lv' := [(0, .ref 159), (1, .int a), (2, .int b)]) (st' := [.int ((Int32.ofInt 0))]) rfl ?_
      refine En_top (by decide : (Int32.ofInt 0).toInt = 0) (fun z139 h140 => ?_)
      exact En_ret (v := some (.int z139)) rfl rfl rfl ⟨h109, h115, f, ((h110 _ _ (inW (by decide +kernel : TG 159 = 35) (by decide +kernel))).trans h_f), z112, h113, z139, rfl, ⟨by omega, by omega, by omega, by omega, by omega, by omega, by omega, by omega, by omega, by omega, by omega, by omega, by omega, by omega, by omega, by omega, by omega, by omega, by omega, by omega, by omega, by omega, by omega, fun _ => by omega, fun _ => by omega, fun _ => by omega, fun _ => by omega, fun _ => by omega, (by (try have i0 := Imp_m h120 (by omega)); (try have i1 := Imp_m h2 (by omega)); (try have i2 := Imp_m h3 (by omega)); (try have i3 := Imp_m h121 (by omega)); first | (have q := tN_bad (B := By) (n := Nb) (lo := a.toInt) (hi := b.toInt) (S := Sp) (by omega); rw [q]; exact ⟨ML_eq h118 (by subst h117; rfl), fun zz => by have := err_ne (B := By) (n := Nb) (S := Sp) (k := 1) (by omega); have := err_ne (B := By) (n := Nb) (S := Sp) (k := 2) (by omega); exfalso; omega⟩) | (have q := tN_k (B := By) (n := Nb) (lo := a.toInt) (hi := b.toInt) (S := Sp) (by omega) (by omega); rw [q]; exact ⟨ML_eq h118 (by subst h117; rfl), fun zz => by have := err_ne (B := By) (n := Nb) (S := Sp) (k := 1) (by omega); have := err_ne (B := By) (n := Nb) (S := Sp) (k := 2) (by omega); exfalso; omega⟩) | (have q := tN_v (B := By) (n := Nb) (lo := a.toInt) (hi := b.toInt) (S := Sp) (by omega) (by omega) (by omega); rw [q]; exact ⟨ML_eq h118 (by subst h117; rfl), fun zz => by have := err_ne (B := By) (n := Nb) (S := Sp) (k := 1) (by omega); have := err_ne (B := By) (n := Nb) (S := Sp) (k := 2) (by omega); exfalso; omega⟩) | (have q := tN_ok (B := By) (n := Nb) (lo := a.toInt) (hi := b.toInt) (S := Sp) (by omega) (by omega) (by omega); rw [q]; exact ⟨ML_eq h118 (by subst h117; rfl), fun zz => by have := err_ne (B := By) (n := Nb) (S := Sp) (k := 1) (by omega); have := err_ne (B := By) (n := Nb) (S := Sp) (k := 2) (by omega); exfalso; omega⟩))⟩⟩

