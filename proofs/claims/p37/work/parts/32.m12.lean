/-- DoorSchoolModel.marks(I)I -/
abbrev P_282x (σ0 : SG) (a : Int32) : PO := fun v σ => WT σ ∧ Fr [(35, 18), (35, 21), (42, 0), (43, 0), (44, 0), (45, 0), (46, 0)] σ0 σ ∧ ∃ ret : Int32, v = some (.int ret) ∧ -ret.toInt - 2 ≤ 0 ∧ ret.toInt - 13 ≤ 0 ∧ ret.toInt = mkR (wf σ0) a.toInt
set_option maxRecDepth 10000 in
set_option maxHeartbeats 4000000 in
theorem c_282x (σ0 : SG) (hσ0 : WT σ0) (a : Int32) (hq : QX (wf σ0)) : En 5 112 none mr_282 (P_282x σ0 a) 0 [(0, .ref 159), (1, .int a)] [] σ0 := by
  have hF0 : Fr [(35, 18), (35, 21), (42, 0), (43, 0), (44, 0), (45, 0), (46, 0)] σ0 σ0 := Fr_rfl
  refine En_Ps 2 (pc' := 2) (lv' := [(0, .ref 159), (1, .int a)]) (st' := [.int a, .ref 159]) rfl ?_
  obtain ⟨z2, h1, h3, h4⟩ := WT_peekI hσ0 (by decide +kernel : TG 160 = 36) (by decide +kernel : FT 36 (2 : Int).toNat = (0, 0, 4)) (by decide +kernel)
  refine En_callV rfl rfl rfl rfl rfl rfl rfl rfl (by decide +kernel : TG 159 = 35) (by decide +kernel) rfl (c_254 σ0 hσ0 a z2 h1) (by decide) (by decide) (fun v6 σ7 h5 => ?_)
  obtain ⟨h8, h9, z11, rfl, h10⟩ := h5
  obtain rfl : σ0 = σ7 := Fr_nil h9
  have w12 : wf σ0 (2) = z2.toInt := ci_at h1 (by omega)
  refine En_iEq _ rfl rfl (fun h13 => ?_) (fun h13 => ?_)
  · refine En_Ps 1 (pc' := 22) (lv' := [(0, .ref 159), (1, .int a)]) (st' := [.int (((Int8.ofInt (-2)).toInt32))]) rfl ?_
    refine En_top (by decide : ((Int8.ofInt (-2)).toInt32).toInt = -2) (fun z14 h15 => ?_)
    exact En_ret (v := some (.int z14)) rfl rfl rfl ⟨hσ0, hF0, z14, rfl, ⟨by omega, by omega, mkR_n (fun ⟨q1, q2⟩ => by omega) (by omega)⟩⟩
  · obtain ⟨z17, h16, h18, h19⟩ := WT_peekI hσ0 (by decide +kernel : TG 160 = 36) (by decide +kernel : FT 36 (0 : Int).toNat = (0, 0, 4)) (by decide +kernel)
    obtain ⟨z21, h20, h22, h23⟩ := WT_peekI hσ0 (by decide +kernel : TG 160 = 36) (by decide +kernel : FT 36 (7 : Int).toNat = (0, 0, 1600)) (by decide +kernel)
    have w24 : wf σ0 (0) = z17.toInt := ci_at h16 (by omega)
    have w25 : wf σ0 (7) = z21.toInt := ci_at h20 (by omega)
    have h26 : 1 ≤ z21.toInt := by have e9 := hq (by omega); omega
    refine En_Ps 3 (pc' := 11) (lv' := [(0, .ref 159), (1, .int a)]) (st' := [.int a, .ref 159, .ref 159]) rfl ?_
    refine En_callV rfl rfl rfl rfl rfl rfl rfl rfl (by decide +kernel : TG 159 = 35) (by decide +kernel) rfl (c_213x σ0 hσ0 a (geI rfl (by omega)) (leI rfl (by omega)) z17 h16 z21 h20 (by omega)) (by decide) (by decide) (fun v28 σ29 h27 => ?_)
    obtain ⟨h30, h31, z33, h34, z35, rfl, h32⟩ := h27
    have h36 := h32.2.2.2.2.2.2.2.2.1
    have h37 := Fr_trans hF0 h31 (by decide +kernel)
    have h38 : wf σ29 = wf σ0 := wf_fr h31 (by decide +kernel)
    refine En_callV rfl rfl rfl rfl rfl rfl rfl rfl (by decide +kernel : TG 159 = 35) (by decide +kernel) rfl (c_283x σ29 h30 z35 (geI rfl (by omega)) (leI rfl (by omega))) (by decide) (by decide) (fun v40 σ41 h39 => ?_)
    obtain ⟨h42, h43, z45, rfl, h44⟩ := h39
    have h46 := h44.2.2
    obtain rfl : σ29 = σ41 := Fr_nil h43
    refine En_Ps 1 (pc' := 22) (lv' := [(0, .ref 159), (1, .int a)]) (st' := [.int z45]) rfl ?_
    exact En_ret (v := some (.int z45)) rfl rfl rfl ⟨h30, h37, z45, rfl, ⟨by omega, by omega, mkR_y ⟨by omega, by omega⟩ h36 (by rw [← h38]; exact h46)⟩⟩
/-- DoorSchoolModel.often(I)I -/
abbrev P_291x (σ0 : SG) (a : Int32) : PO := fun v σ => WT σ ∧ Fr [(35, 18), (35, 21), (42, 0), (43, 0), (44, 0), (45, 0), (46, 0)] σ0 σ ∧ ∃ ret : Int32, v = some (.int ret) ∧ -ret.toInt - 2 ≤ 0 ∧ ret.toInt - 16 ≤ 0 ∧ ret.toInt = ofR (wf σ0) a.toInt
set_option maxRecDepth 10000 in
set_option maxHeartbeats 4000000 in
theorem c_291x (σ0 : SG) (hσ0 : WT σ0) (a : Int32) (hq : QX (wf σ0)) : En 5 112 none mr_291 (P_291x σ0 a) 0 [(0, .ref 159), (1, .int a)] [] σ0 := by
  have hF0 : Fr [(35, 18), (35, 21), (42, 0), (43, 0), (44, 0), (45, 0), (46, 0)] σ0 σ0 := Fr_rfl
  refine En_Ps 2 (pc' := 2) (lv' := [(0, .ref 159), (1, .int a)]) (st' := [.int a, .ref 159]) rfl ?_
  obtain ⟨z2, h1, h3, h4⟩ := WT_peekI hσ0 (by decide +kernel : TG 160 = 36) (by decide +kernel : FT 36 (2 : Int).toNat = (0, 0, 4)) (by decide +kernel)
  refine En_callV rfl rfl rfl rfl rfl rfl rfl rfl (by decide +kernel : TG 159 = 35) (by decide +kernel) rfl (c_254 σ0 hσ0 a z2 h1) (by decide) (by decide) (fun v6 σ7 h5 => ?_)
  obtain ⟨h8, h9, z11, rfl, h10⟩ := h5
  obtain rfl : σ0 = σ7 := Fr_nil h9
  have w12 : wf σ0 (2) = z2.toInt := ci_at h1 (by omega)
  refine En_iEq _ rfl rfl (fun h13 => ?_) (fun h13 => ?_)
  · refine En_Ps 1 (pc' := 21) (lv' := [(0, .ref 159), (1, .int a)]) (st' := [.int (((Int8.ofInt (-2)).toInt32))]) rfl ?_
    refine En_top (by decide : ((Int8.ofInt (-2)).toInt32).toInt = -2) (fun z14 h15 => ?_)
    exact En_ret (v := some (.int z14)) rfl rfl rfl ⟨hσ0, hF0, z14, rfl, ⟨by omega, by omega, ofR_n (fun ⟨q1, q2⟩ => by omega) (by omega)⟩⟩
  · obtain ⟨z17, h16, h18, h19⟩ := WT_peekI hσ0 (by decide +kernel : TG 160 = 36) (by decide +kernel : FT 36 (0 : Int).toNat = (0, 0, 4)) (by decide +kernel)
    obtain ⟨z21, h20, h22, h23⟩ := WT_peekI hσ0 (by decide +kernel : TG 160 = 36) (by decide +kernel : FT 36 (7 : Int).toNat = (0, 0, 1600)) (by decide +kernel)
    have w24 : wf σ0 (0) = z17.toInt := ci_at h16 (by omega)
    have w25 : wf σ0 (7) = z21.toInt := ci_at h20 (by omega)
    have h26 : 1 ≤ z21.toInt := by have e9 := hq (by omega); omega
    refine En_Ps 2 (pc' := 10) (lv' := [(0, .ref 159), (1, .int a)]) (st' := [.int a, .ref 159]) rfl ?_
    refine En_callV rfl rfl rfl rfl rfl rfl rfl rfl (by decide +kernel : TG 159 = 35) (by decide +kernel) rfl (c_213x σ0 hσ0 a (geI rfl (by omega)) (leI rfl (by omega)) z17 h16 z21 h20 (by omega)) (by decide) (by decide) (fun v28 σ29 h27 => ?_)
    obtain ⟨h30, h31, z33, h34, z35, rfl, h32⟩ := h27
    have h36 := h32.2.2.2.2.2.2.2.2.1
    have h37 := Fr_trans hF0 h31 (by decide +kernel)
    refine En_callS rfl rfl rfl rfl rfl rfl rfl rfl rfl (c_203bx σ29 h30 z35 (geI rfl (by omega)) (leI rfl (by omega))) (by decide) (by decide) (fun v39 σ40 h38 => ?_)
    obtain ⟨h41, h42, z44, rfl, h43⟩ := h38
    have h45 := h43.2.2
    obtain rfl : σ29 = σ40 := Fr_nil h42
    refine En_Ps 1 (pc' := 21) (lv' := [(0, .ref 159), (1, .int a)]) (st' := [.int z44]) rfl ?_
    exact En_ret (v := some (.int z44)) rfl rfl rfl ⟨h30, h37, z44, rfl, ⟨by omega, by omega, ofR_y ⟨by omega, by omega⟩ h36 h45⟩⟩
/-- DoorSchoolModel.opens(II)I -/
abbrev P_292x (σ0 : SG) (a : Int32) (b : Int32) : PO := fun v σ => WT σ ∧ Fr [(35, 18), (35, 21), (42, 0), (43, 0), (44, 0), (45, 0), (46, 0)] σ0 σ ∧ ∃ ret : Int32, v = some (.int ret) ∧ -ret.toInt - 2 ≤ 0 ∧ ret.toInt - 1 ≤ 0 ∧ ret.toInt = opR (wf σ0) a.toInt b.toInt
set_option maxRecDepth 10000 in
set_option maxHeartbeats 4000000 in
theorem c_292x (σ0 : SG) (hσ0 : WT σ0) (a : Int32) (b : Int32) : En 5 112 none mr_292 (P_292x σ0 a b) 0 [(0, .ref 159), (1, .int a), (2, .int b)] [] σ0 := by
  have hF0 : Fr [(35, 18), (35, 21), (42, 0), (43, 0), (44, 0), (45, 0), (46, 0)] σ0 σ0 := Fr_rfl
  refine En_Ps 2 (pc' := 2) (lv' := [(0, .ref 159), (1, .int a), (2, .int b)]) (st' := [.int a, .ref 159]) rfl ?_
  obtain ⟨z2, h1, h3, h4⟩ := WT_peekI hσ0 (by decide +kernel : TG 160 = 36) (by decide +kernel : FT 36 (2 : Int).toNat = (0, 0, 4)) (by decide +kernel)
  refine En_callV rfl rfl rfl rfl rfl rfl rfl rfl (by decide +kernel : TG 159 = 35) (by decide +kernel) rfl (c_254 σ0 hσ0 a z2 h1) (by decide) (by decide) (fun v6 σ7 h5 => ?_)
  obtain ⟨h8, h9, z11, rfl, h10⟩ := h5
  obtain rfl : σ0 = σ7 := Fr_nil h9
  have w12 : wf σ0 (2) = z2.toInt := ci_at h1 (by omega)
  refine En_iEq _ rfl rfl (fun h13 => ?_) (fun h13 => ?_)
  · refine En_Ps 1 (pc' := 31) (lv' := [(0, .ref 159), (1, .int a), (2, .int b)]) (st' := [.int (((Int8.ofInt (-2)).toInt32))]) rfl ?_
    refine En_top (by decide : ((Int8.ofInt (-2)).toInt32).toInt = -2) (fun z14 h15 => ?_)
    exact En_ret (v := some (.int z14)) rfl rfl rfl ⟨hσ0, hF0, z14, rfl, ⟨by omega, by omega, opR_n (fun ⟨q1, q2, q3, q4, q5⟩ => by omega) (by omega)⟩⟩
  · refine En_Ps 3 (pc' := 11) (lv' := [(0, .ref 159), (1, .int a), (2, .int b)]) (st' := [.long b.toInt64, .ref 159]) rfl ?_
    obtain ⟨z17, h16, h18, h19⟩ := WT_peekI hσ0 (by decide +kernel : TG 160 = 36) (by decide +kernel : FT 36 (0 : Int).toNat = (0, 0, 4)) (by decide +kernel)
    obtain ⟨z21, h20, h22, h23⟩ := WT_peekI hσ0 (by decide +kernel : TG 160 = 36) (by decide +kernel : FT 36 (7 : Int).toNat = (0, 0, 1600)) (by decide +kernel)
    have : b.toInt64.toInt = b.toInt := (i2lI rfl)
    refine En_callV rfl rfl rfl rfl rfl rfl rfl rfl (by decide +kernel : TG 159 = 35) (by decide +kernel) rfl (c_259x σ0 hσ0 b.toInt64 z17 h16 z21 h20) (by decide) (by decide) (fun v25 σ26 h24 => ?_)
    obtain ⟨h27, h28, z30, rfl, h29⟩ := h24
    have h31 := h29.2.2.2
    obtain rfl : σ0 = σ26 := Fr_nil h28
    have h32 := h31
    have w33 : wf σ0 (0) = z17.toInt := ci_at h16 (by omega)
    have w34 : wf σ0 (7) = z21.toInt := ci_at h20 (by omega)
    have h35 : pI (wf σ0 0) = pI (z17.toInt) := by rw [w33]
    refine En_iEq _ rfl rfl (fun h36 => ?_) (fun h36 => ?_)
    · refine En_Ps 1 (pc' := 31) (lv' := [(0, .ref 159), (1, .int a), (2, .int b)]) (st' := [.int (((Int8.ofInt (-2)).toInt32))]) rfl ?_
      refine En_top (by decide : ((Int8.ofInt (-2)).toInt32).toInt = -2) (fun z37 h38 => ?_)
      exact En_ret (v := some (.int z37)) rfl rfl rfl ⟨hσ0, hF0, z37, rfl, ⟨by omega, by omega, opR_n (fun ⟨q1, q2, q3, q4, q5⟩ => by omega) (by omega)⟩⟩
    · have h39 := Imp_m h29.2.2.1 (by omega)
      have h40 : 1 ≤ z21.toInt := by omega
      have h41 := pI_rng (s := z17.toInt) (by omega) (by omega)
      have h42 := kI_val z21.toInt z17.toInt
      have h43 : 0 ≤ b.toInt ∧ b.toInt ≤ 15 := by omega
      refine En_Ps 2 (pc' := 19) (lv' := [(0, .ref 159), (1, .int a), (2, .int b)]) (st' := [.int a, .ref 159]) rfl ?_
      refine En_callV rfl rfl rfl rfl rfl rfl rfl rfl (by decide +kernel : TG 159 = 35) (by decide +kernel) rfl (c_213x σ0 hσ0 a (geI rfl (by omega)) (leI rfl (by omega)) z17 h16 z21 h20 (by omega)) (by decide) (by decide) (fun v45 σ46 h44 => ?_)
      obtain ⟨h47, h48, z50, h51, z52, rfl, h49⟩ := h44
      have h53 := h49.2.2.2.2.2.2.2.2.1
      have h54 := Fr_trans hF0 h48 (by decide +kernel)
      refine En_Ps 1 (pc' := 23) (lv' := [(0, .ref 159), (1, .int a), (2, .int b)]) (st' := [.int b, .int z52]) rfl ?_
      refine En_callS rfl rfl rfl rfl rfl rfl rfl rfl rfl (c_202ax σ46 h47 z52 b (geI rfl (by omega)) (leI rfl (by omega)) (geI rfl (by omega)) (leI rfl (by omega))) (by decide) (by decide) (fun v56 σ57 h55 => ?_)
      obtain ⟨h58, h59, z61, rfl, h60⟩ := h55
      have h62 := h60.2.2
      obtain rfl : σ46 = σ57 := Fr_nil h59
      refine En_Ps 1 (pc' := 31) (lv' := [(0, .ref 159), (1, .int a), (2, .int b)]) (st' := [.int z61]) rfl ?_
      exact En_ret (v := some (.int z61)) rfl rfl rfl ⟨h47, h54, z61, rfl, ⟨by omega, by omega, opR_y ⟨by omega, by omega, by omega, by omega, by omega⟩ h62 h53⟩⟩
/-- DoorSchoolModel.owns(II)I -/
abbrev P_296x (σ0 : SG) (a : Int32) (b : Int32) : PO := fun v σ => WT σ ∧ Fr [(36, 0)] σ0 σ ∧ ∃ ret : Int32, v = some (.int ret) ∧ -ret.toInt - 2 ≤ 0 ∧ ret.toInt - 65535 ≤ 0 ∧ (ret.toInt = owR (wf σ0) a.toInt b.toInt ∧ (SAM (wf σ0) (wf σ) ∧ (∀ i : Int, 0 ≤ i → i < 226 → wf σ i = owW (wf σ0) a.toInt b.toInt i)))
set_option maxRecDepth 10000 in
set_option maxHeartbeats 4000000 in
theorem c_296x (σ0 : SG) (hσ0 : WT σ0) (a : Int32) (b : Int32) : En 4 84 none mr_296 (P_296x σ0 a b) 0 [(0, .ref 159), (1, .int a), (2, .int b)] [] σ0 := by
  have hF0 : Fr [(36, 0)] σ0 σ0 := Fr_rfl
  refine En_Ps 3 (pc' := 3) (lv' := [(0, .ref 159), (1, .int a), (2, .int b)]) (st' := [.int b, .int a, .ref 159]) rfl ?_
  obtain ⟨z2, h1, h3, h4⟩ := WT_peekI hσ0 (by decide +kernel : TG 160 = 36) (by decide +kernel : FT 36 (0 : Int).toNat = (0, 0, 4)) (by decide +kernel)
  obtain ⟨z6, h5, h7, h8⟩ := WT_peekI hσ0 (by decide +kernel : TG 160 = 36) (by decide +kernel : FT 36 (7 : Int).toNat = (0, 0, 1600)) (by decide +kernel)
  refine En_callV rfl rfl rfl rfl rfl rfl rfl rfl (by decide +kernel : TG 159 = 35) (by decide +kernel) rfl (c_263x σ0 hσ0 a b z2 h1 z6 h5) (by decide) (by decide) (fun v10 σ11 h9 => ?_)
  obtain ⟨h12, h13, z15, rfl, h14⟩ := h9
  have h16 := h14.2.2.2
  obtain rfl : σ0 = σ11 := Fr_nil h13
  have h17 := h16
  have w18 : wf σ0 (0) = z2.toInt := ci_at h1 (by omega)
  have w19 : wf σ0 (7) = z6.toInt := ci_at h5 (by omega)
  have h20 : pI (wf σ0 0) = pI (z2.toInt) := by rw [w18]
  refine En_iNe _ rfl rfl (fun h21 => ?_) (fun h21 => ?_)
  · have h22 := Imp_m h14.2.2.1 (by omega)
    obtain ⟨z24, h23, h25, h26⟩ := WT_peekI hσ0 (by decide +kernel : TG 160 = 36) (by decide +kernel : FT 36 (2 : Int).toNat = (0, 0, 4)) (by decide +kernel)
    have w27 : wf σ0 (2) = z24.toInt := ci_at h23 (by omega)
    have h28 : 1 ≤ z6.toInt := by omega
    have h29 := pI_rng (s := z2.toInt) (by omega) (by omega)
    have h30 := (kI_val z6.toInt z2.toInt).2 (by omega)
    have h31 : pI (wf σ0 0) = pI (z2.toInt) := by rw [w18]
    refine En_Ps 1 (pc' := 13) (lv' := [(0, .ref 159), (1, .int a), (2, .int b)]) (st' := [.ref 159]) rfl ?_
    refine En_callV rfl rfl rfl rfl rfl rfl rfl rfl (by decide +kernel : TG 159 = 35) (by decide +kernel) rfl (c_295x σ0 hσ0 z2 h1 z6 h5 (by omega)) (by decide) (by decide) (fun v33 σ34 h32 => ?_)
    obtain ⟨h35, h36, z38, rfl, h37⟩ := h32
    have h39 := h37.2.2
    obtain rfl : σ0 = σ34 := Fr_nil h36
    refine En_Ps 2 (pc' := 18) (lv' := [(3, .int z38), (0, .ref 159), (1, .int a), (2, .int b)]) (st' := [.ref 159]) rfl ?_
    refine En_getU (j := 1) (u := 160) (g' := 36) (q := 0) rfl rfl rfl (by decide +kernel : TG 159 = 35) (by decide +kernel) hσ0 (by decide +kernel) (by decide +kernel) (fun h40 => ?_)
    refine En_Ps 2 (pc' := 24) (lv' := [(3, .int z38), (0, .ref 159), (1, .int a), (2, .int b)]) (st' := [.int a, .int (((Int8.ofInt 8).toInt32)), .ref 160]) rfl ?_
    refine En_iast (l := 0) (u := 15) rfl (by decide : ((Int8.ofInt 8).toInt32).toInt = 8) (by decide +kernel : TG 160 = 36) (by decide +kernel) (by omega) (lnI (by decide +kernel : LN _ = 226) (by omega)) (by decide +kernel) (rngI rfl (by omega) (by omega)) hσ0 hF0 (by decide +kernel) (fun σ42 h43 h44 h45 h46 => ?_)
    refine En_Ps 1 (pc' := 26) (lv' := [(3, .int z38), (0, .ref 159), (1, .int a), (2, .int b)]) (st' := [.ref 159]) rfl ?_
    refine En_getK (j := 1) ((h46 _ _ (Or.inl (neTG (by decide +kernel : TG 159 = 35) (by decide +kernel : TG 160 = 36) (by decide)))).trans h40) rfl rfl rfl (by decide +kernel : TG 159 = 35) (by decide +kernel) ?_
    refine En_Ps 2 (pc' := 32) (lv' := [(3, .int z38), (0, .ref 159), (1, .int a), (2, .int b)]) (st' := [.int b, .int (((Int8.ofInt 9).toInt32)), .ref 160]) rfl ?_
    refine En_iast (l := 0) (u := 15) rfl (by decide : ((Int8.ofInt 9).toInt32).toInt = 9) (by decide +kernel : TG 160 = 36) (by decide +kernel) (by omega) (lnI (by decide +kernel : LN _ = 226) (by omega)) (by decide +kernel) (rngI rfl (by omega) (by omega)) h43 h44 (by decide +kernel) (fun σ47 h48 h49 h50 h51 => ?_)
    refine En_Ps 1 (pc' := 34) (lv' := [(3, .int z38), (0, .ref 159), (1, .int a), (2, .int b)]) (st' := [.int z38]) rfl ?_
    exact En_ret (v := some (.int z38)) rfl rfl rfl ⟨h48, h49, z38, rfl, ⟨by omega, by omega, ⟨owR_y ⟨by omega, by omega, by omega, by omega, by omega, by omega⟩ h39, ⟨fun i hi => (by rw [show wf _ i = ci _ 160 i from rfl, ci_st h50 h51 (by omega) i (by omega), if_neg (by omega), ci_st h45 h46 (by omega) i (by omega), if_neg (by omega)]; rfl), owM (fun i hi => (by rw [show wf _ i = ci _ 160 i from rfl, ci_st h50 h51 (by omega) i hi, ci_st h45 h46 (by omega) i hi]; rfl)) (by omega) (by omega) (by omega) rfl rfl⟩⟩⟩⟩
  · refine En_Ps 1 (pc' := 11) (lv' := [(0, .ref 159), (1, .int a), (2, .int b)]) (st' := [.int (((Int8.ofInt (-2)).toInt32))]) rfl ?_
    refine En_top (by decide : ((Int8.ofInt (-2)).toInt32).toInt = -2) (fun z52 h53 => ?_)
    exact En_ret (v := some (.int z52)) rfl rfl rfl ⟨hσ0, hF0, z52, rfl, ⟨by omega, by omega, ⟨owR_n (fun ⟨q1, q2, q3, q4, q5, q6⟩ => by omega) (by omega), ⟨fun _ _ => rfl, owMn (by omega)⟩⟩⟩⟩
/-- DoorSchoolModel.told(Ljava/lang/String;II)I -/
abbrev P_323s13x (σ0 : SG) (By : Int → Int) (Nb : Int) (Sp : PS) (b : Int32) (c : Int32) (f : Int32) (k : Int32) : PO := fun v σ => WT σ ∧ Fr [(35, 8), (35, 9), (35, 10), (35, 11), (35, 12), (35, 13)] σ0 σ ∧ ∃ f1 : Int32, (σ 159)[8]? = some (.int f1) ∧ ∃ k1 : Int32, (σ 159)[12]? = some (.int k1) ∧ ∃ ret : Int32, v = some (.int ret) ∧ -ret.toInt ≤ 0 ∧ ret.toInt - 50 ≤ 0 ∧ -f1.toInt ≤ 0 ∧ f1.toInt - 1600 ≤ 0 ∧ -f1.toInt + f.toInt ≤ 0 ∧ f1.toInt - f.toInt - 1600 ≤ 0 ∧ -f1.toInt + k.toInt - 3 ≤ 0 ∧ f1.toInt - k.toInt - 1600 ≤ 0 ∧ -k1.toInt ≤ 0 ∧ k1.toInt - 3 ≤ 0 ∧ -k1.toInt + f.toInt - 1600 ≤ 0 ∧ k1.toInt - f.toInt - 3 ≤ 0 ∧ -k1.toInt + k.toInt ≤ 0 ∧ k1.toInt - k.toInt - 3 ≤ 0 ∧ f.toInt - f1.toInt ≤ 0 ∧ Imp (b.toInt ≤ 0) (b.toInt - ret.toInt ≤ 0) ∧ Imp (-b.toInt ≤ 0) (-ret.toInt ≤ 0) ∧ Imp (-c.toInt ≤ 0) (ret.toInt - c.toInt ≤ 0) ∧ Imp (c.toInt ≤ 0) (ret.toInt ≤ 0) ∧ Imp (k1.toInt ≤ 0) (k.toInt ≤ 0 ∧ b.toInt - ret.toInt ≤ 0 ∧ ret.toInt - c.toInt ≤ 0) ∧ (ML By Nb σ (tN By Nb b.toInt c.toInt (pss By Nb (iW By Nb 13 Sp) Sp)) ∧ ((tN By Nb b.toInt c.toInt (pss By Nb (iW By Nb 13 Sp) Sp)).1 = 0 → ret.toInt = tV By Nb (pss By Nb (iW By Nb 13 Sp) Sp).2.2.1))
set_option maxRecDepth 10000 in
set_option maxHeartbeats 4000000 in
theorem c_323s13x {By : Int → Int} {Nb : Int} {Sp : PS} (σ0 : SG) (hσ0 : WT σ0) (b : Int32) (c : Int32) (hl_b : 0 ≤ b.toInt) (hu_b : b.toInt ≤ 100) (hl_c : (-1) ≤ c.toInt) (hu_c : c.toInt ≤ 50) (f : Int32) (h_f : (σ0 159)[8]? = some (.int f)) (k : Int32) (h_k : (σ0 159)[12]? = some (.int k)) (hM : ML By Nb σ0 Sp) : En 7 156 none mr_323 (P_323s13x σ0 By Nb Sp b c f k) 0 [(0, .ref 159), (1, .retAddr 27), (2, .int b), (3, .int c)] [] σ0 := by
  obtain ⟨hl_f, hu_f⟩ := WT_int hσ0 (g := 35) (by decide +kernel) (by decide +kernel) (l := 0) (u := 1600) (by decide +kernel) h_f
  obtain ⟨hl_k, hu_k⟩ := WT_int hσ0 (g := 35) (by decide +kernel) (by decide +kernel) (l := 0) (u := 3) (by decide +kernel) h_k
  have hF0 : Fr [(35, 8), (35, 9), (35, 10), (35, 11), (35, 12), (35, 13)] σ0 σ0 := Fr_rfl
  have h1 := ML_k hM h_k
  refine En_Ps 2 (pc' := 2) (lv' := [(0, .ref 159), (1, .retAddr 27), (2, .int b), (3, .int c)]) (st' := [.retAddr 27, .ref 159]) rfl ?_
  refine En_callV rfl rfl rfl rfl rfl rfl rfl rfl (by decide +kernel : TG 159 = 35) (by decide +kernel) rfl (c_286s13x σ0 hσ0 f h_f k h_k hM) (by decide) (by decide) (fun v3 σ4 h2 => ?_)
  obtain ⟨h5, h6, z8, h9, z10, h11, rfl, h7⟩ := h2
  have h12 := h7.2.2.2.2.2.2.2.2.2.2.2.2.2.2
  have h13 := Fr_trans hF0 h6 (by decide +kernel)
  obtain ⟨S14, h15⟩ : ∃ q : PS, q = pss By Nb (iW By Nb 13 Sp) Sp := ⟨_, rfl⟩
  have h16 : ML By Nb σ4 S14 := by rw [h15]; exact h12
  have h17 := ML_k h16 h11
  refine En_Ps 3 (pc' := 8) (lv' := [(0, .ref 159), (1, .retAddr 27), (2, .int b), (3, .int c)]) (st' := [.int c, .int b, .ref 159]) rfl ?_
  obtain ⟨z19, h18, h20, h21⟩ := WT_peekI h5 (by decide +kernel : TG 159 = 35) (by decide +kernel : FT 35 10 = (0, 0, 4)) (by decide +kernel)
  obtain ⟨z23, h22, h24, h25⟩ := WT_peekI h5 (by decide +kernel : TG 159 = 35) (by decide +kernel : FT 35 11 = (0, 0, 99999)) (by decide +kernel)
  refine En_callV rfl rfl rfl rfl rfl rfl rfl rfl (by decide +kernel : TG 159 = 35) (by decide +kernel) rfl (c_288x σ4 h5 b c (geI rfl (by omega)) (leI rfl (by omega)) (geI rfl (by omega)) (leI rfl (by omega)) z8 h9 z10 h11 z19 h18 z23 h22 h16) (by decide) (by decide) (fun v27 σ28 h26 => ?_)
  obtain ⟨h29, h30, z32, h33, z34, h35, z36, rfl, h31⟩ := h26
  have h37 := h31.2.2.2.2.2.2.2.2.2.2.2.2.2.2.2.2.2.2.2.2.2.2.2.2.2.2.2.2
  have h38 := Fr_trans h13 h30 (by decide +kernel)
  have h39 : tN By Nb b.toInt c.toInt S14 = tN By Nb (b.toInt) (c.toInt) S14 := tN_cg2 (fun zz => by omega) (fun zz => by omega)
  obtain ⟨S40, h41⟩ : ∃ q : PS, q = tN By Nb (b.toInt) (c.toInt) S14 := ⟨_, rfl⟩
  have h42 : ML By Nb σ28 S40 := by rw [h41]; exact (ML_eq h37.1 h39)
  have h43 := ML_k h42 h35
  have h44 : Imp (S40.1 = 0) (z36.toInt = tV By Nb S14.2.2.1) := fun z => h37.2 (by rw [h39, ← h41]; exact z)
  have h45 : Imp (S40.1 = 0) (S14.1 = 0 ∧ tK By Nb S14.2.2.1 = 2 ∧ b.toInt ≤ tV By Nb S14.2.2.1 ∧ tV By Nb S14.2.2.1 ≤ c.toInt) := fun z => tN_gg (by rw [← h41]; exact z)
  have h46 : S40.2.2.2 = S14.2.2.2 := by rw [h41]; exact tN_w
  have h47 := Imp_m h31.2.2.2.2.2.2.2.2.2.2.2.2.2.2.2.2.2.2.2.2.2.2.2.2.1 (by omega)
  exact En_ret (v := some (.int z36)) rfl rfl rfl ⟨h29, h38, z32, h33, z34, h35, z36, rfl, ⟨by omega, by omega, by omega, by omega, by omega, by omega, by omega, by omega, by omega, by omega, by omega, by omega, by omega, by omega, by omega, fun _ => by omega, fun _ => by omega, fun _ => by have := Imp_m h31.2.2.2.2.2.2.2.2.2.2.2.2.2.2.2.2.2.2.2.2.2.2.2.2.2.1 (by omega); omega, fun _ => by have := Imp_m h31.2.2.2.2.2.2.2.2.2.2.2.2.2.2.2.2.2.2.2.2.2.2.2.2.2.2.1 (by omega); omega, fun _ => by have := Imp_m h7.2.2.2.2.2.2.2.2.2.2.2.2.2.1 (by omega); have := Imp_m h31.2.2.2.2.2.2.2.2.2.2.2.2.2.2.2.2.2.2.2.2.2.2.2.2.2.2.2.1 (by omega); have := Imp_m h31.2.2.2.2.2.2.2.2.2.2.2.2.2.2.2.2.2.2.2.2.2.2.2.2.2.1 (by omega); omega, (by subst h41; subst h15; exact ⟨h42, fun zz => by (try have i0 := Imp_m h45 (by omega)); (try have i1 := Imp_m h44 (by omega)); (try have i2 := Imp_m h7.2.2.2.2.2.2.2.2.2.2.2.2.2.1 (by omega)); (try have i3 := Imp_m h31.2.2.2.2.2.2.2.2.2.2.2.2.2.2.2.2.2.2.2.2.2.2.2.1 (by omega)); (try have i4 := Imp_m h31.2.2.2.2.2.2.2.2.2.2.2.2.2.2.2.2.2.2.2.2.2.2.2.2.2.1 (by omega)); (try have i5 := Imp_m h31.2.2.2.2.2.2.2.2.2.2.2.2.2.2.2.2.2.2.2.2.2.2.2.2.2.2.1 (by omega)); (try have i6 := Imp_m h31.2.2.2.2.2.2.2.2.2.2.2.2.2.2.2.2.2.2.2.2.2.2.2.2.2.2.2.1 (by omega)); omega⟩)⟩⟩

